/-! CALLS OF METHODS THAT MAY THROW, AND HANDLERS -/
section TXD
variable {l : Launch} {p : Program} {e : Env} {R : Room} {s : State} {m : MethodId} {args : Array Value} {below : List Frame} {meth : Method} {c : Code} {H : Heap} {locs : List Loc} {cells slots : Nat} {Q : State → Prop}
def tx_Run (p : Program) (l : Launch) (e : Env) (R : Room) (s : State) (m : MethodId) (args : Array Value) (below : List Frame) (meth : Method) (c : Code) (H : Heap) (locs : List Loc) (cells slots mc ms : Nat) (g : JFrame) (rest : List Value) (Qa : State → Outcome → State → Prop) (free : Addr → Prop) : Prop :=
  ∀ T : State, T.heap = H → Stand p l e R s m args below meth c T locs cells slots → ∃ (o : Outcome) (st₀ t T' : State) (L : List Loc), st₀.heap = H ∧ s.vm.Alike st₀.vm ∧ Stand p l e R s m args below meth c T' (locs ++ L) (cells + mc) (slots + ms) ∧ (∀ q ∈ L, free q.base) ∧ T'.heap = t.heap ∧ T'.vm = t.vm ∧ Qa st₀ o t ∧
    ((∃ v, o = .returned v ∧ Goes p e below T g T' { g with pc := g.pc + 3, stack := v.toList ++ rest }) ∨
     (∃ x, o = .threw x ∧ ∀ tg, Steps p.tables e below ((T'.setTop { g with stack := rest }).pushFrame (.throwing x)) tg → Steps p.tables e below (T.setTop g) tg))
variable {y : MethodName} {bytes cc : ByteArray} {maxL nL mc ms n index : Nat} {ret : Option FieldType} {ws : List Cond} {rm : Room} {Pc : Array Value → State → Prop} {Qc : Array Value → State → Outcome → State → Prop} {free : Addr → Prop} {Ts : List Cond} {own C : String} {b : Addr} {As rest : List Value} {g : JFrame}
theorem tx_virt (S : CallFix p m c cc nL s args Ts own) (hM : tx_Met l y ws rm Pc Qc mc ms free) (cw : CallW R s args own C index y bytes maxL ret ws rm mc ms n) (hp : PreV s H C b Pc As)
    (hg : g.method = m) (hn : As.length = n) (hsize : g.locals.size = nL) (hstack : g.stack = As.reverse ++ .ref b :: rest) (hW : 2 * g.monitorRoom + (rest.map fun v => v.category).sum ≤ 8) (hdg : decode cc g.pc = .ok (.invokevirtual index, 3)) (hf : cells + mc ≤ R.cells ∧ slots + ms ≤ R.slots) :
    tx_Run p l e R s m args below meth c H locs cells slots mc ms g rest (Qc (Value.ref b :: As).toArray) free := by
  obtain ⟨⟨hrc, hrs, hfr, hlo, hws, hcw, hcode, hini, hy, hlen, hl⟩, hin, hse⟩ := cw
  obtain ⟨hx, hb, hml, ho, -⟩ := S
  obtain ⟨hbl, ⟨cellB, hcB, hoB, hclB⟩, hPc⟩ := hp
  intro T hT X
  obtain ⟨mk, methM, hnamed, hmethM, hstM, habM⟩ := Cond.instanceMethod_spec hin
  obtain ⟨methM', cM, hmethM', -, -, -, -, -, -, hsigM⟩ := Cond.code_spec hnamed hcode
  cases hmethM.symm.trans hmethM'
  obtain ⟨c2, r2, m2, q1, q2, q3, q4, kP, hkP, hkPi⟩ := Cond.selects_spec hse
  cases hclB.symm.trans q1
  cases (State.methodFound?_of_named hnamed hy).symm.trans q2
  cases hnamed.symm.trans q3
  have hselP : selectMethod e.platform s.vm cellB.cls mk = .method mk := by rw [Launch.admits_selectMethod X.admits]; exact q4
  have hdg' : decode c.code g.pc = .ok (.invokevirtual index, 3) := by rw [hb]; exact hdg
  obtain ⟨vm₁, X₁, hstep₁⟩ := X.invokevirtual hx ho hl hnamed hmethM hstM hkP hkPi hy (a := b) (cell := cellB) (by rw [hT]; exact hcB)
    (fun z h => by rw [h] at hoB; cases hoB) hselP hmethM habM hkP hkPi (g := g) hg (argsL := As) (rest := rest) (hn.trans (hlen _ hsigM)) hstack hdg'
  have hn1 := X₁.named hnamed
  have hw1 : ∀ w ∈ ws, w.before (Value.ref b :: As).toArray (T.setVm vm₁) = true := fun w hw => hws w hw _ _ X₁.warmed
  obtain ⟨methY, cY, hmY, hcY, -, hlY, -⟩ := Cond.code_spec hn1 (hw1 _ hcw)
  obtain ⟨kY, hkY, -⟩ := className_of_methodNamed hn1
  have hiY : kY.init = .initialized := Cond.initialized_spec (findClass_of_methodNamed hn1) hkY (word_at (a' := (Value.ref b :: As).toArray) X₁.warmed (Or.inl (by first | rfl | simp [Cond.onTables, Cond.keeps, Cond.steady])) hini)
  obtain ⟨o, t, T', L, X', e1, e2, hq, hL, hor⟩ := tx_call hM X₁ (g := { g with stack := rest }) hg (hsize.trans hml.symm) hdg' (Value.ref b :: As).toArray hn1 hmY hcY hkY hiY hfr
    (by rw [hlY]; show 2 * g.monitorRoom + (rest.map fun v => v.category).sum + (maxL + 11) + rm.locals ≤ R.locals; omega) (by rw [hrc]; exact hf.1) (by rw [hrs]; exact hf.2) hw1 (hbl _ _ _ _ (hPc (T.setVm vm₁) hT X₁.warmed))
  refine ⟨o, (T.setVm vm₁).calling { g with stack := rest } mk (Value.ref b :: As).toArray, t, T', L, hT, X₁.warmed.alike, X', hL, e1, e2, hq, ?_⟩
  rcases hor with ⟨v, rfl, hst⟩ | ⟨x, rfl, hst⟩
  · exact Or.inl ⟨v, rfl, fun tg h => hstep₁ _ fun acts => by rw [doInvoke_state]; exact hst.trans h⟩
  · exact Or.inr ⟨x, rfl, fun tg h => hstep₁ _ fun acts => by rw [doInvoke_state]; exact hst.trans h⟩
/-- a static method that has handlers of its own -/
theorem tx_statW {hh : List (Nat × Nat × Nat × Nat)} (S : CallFix p m c cc nL s args Ts own) (hM : tx_Met l y ws rm Pc Qc mc ms free)
    (hrc : rm.cells = mc) (hrs : rm.slots = ms) (hfr : rm.frames + 1 ≤ R.frames) (hlo : 8 + (maxL + 11) + rm.locals ≤ R.locals) (hws : ∀ w ∈ ws, ∀ (a' : Array Value) (U : State), s.WarmedH U.vm → w.before a' U = true) (hcw : Cond.codeWith y bytes maxL ret hh ∈ ws)
    (hini : (Cond.initialized y.cls).before args s = true) (hstat : (Cond.static y).before args s = true) (hl : (Cond.methodLink own index y).before args s = true) (hy : y.cls ≠ "java/lang/invoke/MethodHandle" ∧ y.cls ≠ "java/lang/invoke/VarHandle") (hlen : (parseMethodDescriptor y.desc).map (fun d => d.parameters.length) = some As.length) (hp : PreS s H Pc As)
    (hg : g.method = m) (hsize : g.locals.size = nL) (hstack : g.stack = As.reverse ++ rest) (hW : 2 * g.monitorRoom + (rest.map fun v => v.category).sum ≤ 8) (hdg : decode cc g.pc = .ok (.invokestatic index, 3)) (hf : cells + mc ≤ R.cells ∧ slots + ms ≤ R.slots) :
    tx_Run p l e R s m args below meth c H locs cells slots mc ms g rest (Qc As.toArray) free := by
  obtain ⟨hx, hb, hml, ho, -⟩ := S
  obtain ⟨hbl, hPc⟩ := hp
  intro T hT X
  have hs0 : s.WarmedH s.vm := State.WarmedH.refl s
  obtain ⟨mk, methM, cM, hnamed, hmethM, -, -, -, -, -, -, hsigM⟩ := Cond.codeWith_spec (hws _ hcw args s hs0)
  have hstatic : methM.isStatic = true := Cond.static_spec hnamed hmethM hstat
  obtain ⟨kP, hkP, -⟩ := className_of_methodNamed hnamed
  have hinitP : kP.init = .initialized := Cond.initialized_spec (findClass_of_methodNamed hnamed) hkP hini
  have hdg' : decode c.code g.pc = .ok (.invokestatic index, 3) := by rw [hb]; exact hdg
  have hl9 : As.length = methM.sig.parameters.length := by
    rw [hsigM] at hlen
    exact (Option.some.inj hlen).symm
  obtain ⟨vm₁, X₁, hstep₁⟩ := X.invokestatic hx ho hl hnamed hmethM hstatic hkP hinitP hy (g := g) hg (argsL := As) (rest := rest) hl9 hstack hdg'
  have hn1 := X₁.named hnamed
  have hw1 : ∀ w ∈ ws, w.before As.toArray (T.setVm vm₁) = true := fun w hw => hws w hw _ _ X₁.warmed
  obtain ⟨mk', methY, cY, hn9, hmY, hcY, -, hlY, -⟩ := Cond.codeWith_spec (hw1 _ hcw)
  cases hn1.symm.trans hn9
  obtain ⟨kY, hkY, -⟩ := className_of_methodNamed hn1
  have hiY : kY.init = .initialized := Cond.initialized_spec (findClass_of_methodNamed hn1) hkY (word_at (a' := As.toArray) X₁.warmed (Or.inl (by first | rfl | simp [Cond.onTables, Cond.keeps, Cond.steady])) hini)
  obtain ⟨o, t, T', L, X', e1, e2, hq, hL, hor⟩ := tx_call hM X₁ (g := { g with stack := rest }) hg (hsize.trans hml.symm) hdg' As.toArray hn1 hmY hcY hkY hiY hfr
    (by rw [hlY]; show 2 * g.monitorRoom + (rest.map fun v => v.category).sum + (maxL + 11) + rm.locals ≤ R.locals; omega) (by rw [hrc]; exact hf.1) (by rw [hrs]; exact hf.2) hw1 (hbl _ _ _ _ (hPc (T.setVm vm₁) hT X₁.warmed))
  refine ⟨o, (T.setVm vm₁).calling { g with stack := rest } mk As.toArray, t, T', L, hT, X₁.warmed.alike, X', hL, e1, e2, hq, ?_⟩
  rcases hor with ⟨v, rfl, hst⟩ | ⟨x, rfl, hst⟩
  · exact Or.inl ⟨v, rfl, fun tg h => hstep₁ _ fun acts => by rw [doInvoke_state]; exact hst.trans h⟩
  · exact Or.inr ⟨x, rfl, fun tg h => hstep₁ _ fun acts => by rw [doInvoke_state]; exact hst.trans h⟩
/-- an int comes back, or an exception of a known class -/
def tx_QI {S : Type} (post : Int32 → S → Prop) (B : S → State → Prop) (px : String → Prop) (A : Nat → Prop) : Array Value → State → Outcome → State → Prop := fun _ st oc t =>
  ((∃ (r : Int32) (u : S), oc = .returned (some (.int r)) ∧ post r u ∧ B u t) ∨ (∃ (q : Addr) (E : String) (ce : Cell), oc = .threw q ∧ px E ∧ t.heap[q]? = some ce ∧ ce.vm = .none ∧ st.vm.findClass E = some ce.cls)) ∧ va_F A st t
theorem tx_calli {S : Type} {post : Int32 → S → Prop} {B : S → State → Prop} {px : String → Prop} {A0 A1 : Nat → Prop} {H0 : Heap} {a : Array Value} {pc : Nat} {ls : Array Slot} {st0 : List Value}
    (hr : tx_Run p l e R s m args below meth c H locs cells slots mc ms (F0 m pc ls st0) rest (tx_QI post B px A1 a) free) (hS : va_S A0 H0 H locs) (hA : ∀ q, q < H.size → A1 q → A0 q) (hf : ∀ q, free q → A0 q)
    (kx : ∀ (q : Addr) (E : String) (ce : Cell) (H1 : Heap) (locs1 : List Loc), px E → H1[q]? = some ce → ce.vm = .none → s.vm.findClass E = some ce.cls → H.size ≤ H1.size → (∀ q : Nat, q < H.size → ¬ A1 q → H1[q]? = H[q]?) → va_S A0 H0 H1 locs1 → tx_W p l e R s m args below meth c H1 locs1 (cells + mc) (slots + ms) Q (F0 m pc ls rest) q)
    (kk : ∀ (r : Int32) (u : S) (t : State) (H1 : Heap) (locs1 : List Loc), t.heap = H1 → s.vm.Alike t.vm → post r u → B u t → H.size ≤ H1.size → (∀ q : Nat, q < H.size → ¬ A1 q → H1[q]? = H[q]?) → va_S A0 H0 H1 locs1 → W p l e R s m args below meth c H1 locs1 (cells + mc) (slots + ms) Q (F0 m (pc + 3) ls (.int r :: rest))) :
    W p l e R s m args below meth c H locs cells slots Q (F0 m pc ls st0) := by
  intro T hT X
  obtain ⟨o, st₀, t, T', L, h0, h0v, X', hL, e1, e2, ⟨hq, hz, hk⟩, hor⟩ := hr T hT X
  rw [h0] at hz hk
  have hS1 : va_S A0 H0 T'.heap (locs ++ L) := ⟨Nat.le_trans hS.1 (by rw [e1]; exact hz), fun q h1 h2 => by rw [e1, hk q (Nat.lt_of_lt_of_le h1 hS.1) (fun z => h2 (hA q (Nat.lt_of_lt_of_le h1 hS.1) z))]; exact hS.2.1 q h1 h2, fun q hq => by
      rcases List.mem_append.mp hq with h | h
      · exact hS.2.2 q h
      · exact hf _ (hL q h)⟩
  have hz1 : H.size ≤ T'.heap.size := by rw [e1]; exact hz
  have hk1 : ∀ q : Nat, q < H.size → ¬ A1 q → T'.heap[q]? = H[q]? := fun q h1 h2 => by rw [e1]; exact hk q h1 h2
  rcases hq with ⟨r, u, rfl, hp, hB⟩ | ⟨q, E, ce, rfl, hp, hce, hcv, hcl⟩
  · rcases hor with ⟨v, hv, st⟩ | ⟨x, hv, st⟩
    · cases hv
      obtain ⟨t2, a1, b1⟩ := kk r u t T'.heap (locs ++ L) e1.symm (by rw [← e2]; exact X'.warmed.alike) hp hB hz1 hk1 hS1 T' rfl X'
      exact ⟨t2, st t2 a1, b1⟩
    · cases hv
  · rcases hor with ⟨v, hv, st⟩ | ⟨x, hv, st⟩
    · cases hv
    · cases hv
      obtain ⟨t2, a1, b1⟩ := kx q E ce T'.heap (locs ++ L) hp (by rw [e1]; exact hce) hcv (by rw [← h0v.findClass]; exact hcl) hz1 hk1 hS1 T' rfl X'
      exact ⟨t2, st t2 a1, b1⟩
end TXD
section TXE
variable {e : Env} {s : State} {f : JFrame} {a : Addr}
theorem tx_goYes {Q : Handler → Jvm.Pre} {E : Jvm.CtlPost} {d : Bool} {acts : List Action} {S : State} {x : ExceptionTableEntry} {t : List ExceptionTableEntry} {k : ClassId} {cell : Cell} (hx : covers x f.pc = true) (h0 : x.catchType ≠ 0)
    (hl : S.vm.ClassLinks e.platform f.method.cls x.catchType k) (hcell : S.heap[a]? = some cell) (hobj : ∀ k, cell.vm ≠ .statics k)
    (hk : ∃ k, S.vm.classes[cell.cls]? = some k) (hc : ∃ z, S.vm.classes[k]? = some z) (hyes : S.vm.assignable cell.cls k = true) :
    Sem.wp (findHandler.go f a (x :: t)) Q E e d acts S ↔ Q (.found x.handlerPc) d acts (S.setVm (S.vm.noted f.method.cls x.catchType (.cls k))) := by
  simp only [covers] at hx
  obtain ⟨ha, ht⟩ := (resolveClass_links e.toSetting hl).op (op := VmOp.resolveClass f.method.cls x.catchType) rfl
  have hal : S.vm.Alike (S.vm.noted f.method.cls x.catchType (.cls k)) := (Vm.Alike.refl S.vm).noted _ _ _
  obtain ⟨k1, hk1⟩ := hk
  obtain ⟨k2, hk2⟩ := hc
  obtain ⟨k1', hk1', -⟩ := hal.2.2 _ _ hk1
  obtain ⟨k2', hk2', -⟩ := hal.2.2 _ _ hk2
  have hy : (S.vm.noted f.method.cls x.catchType (.cls k)).assignable cell.cls k = true := by rw [hal.assignable]; exact hyes
  simp [findHandler.go, hx, h0, ha, ht, hcell, hobj, hk1', hk2', hy, VmOp.dirties, VmOp.acts]
theorem tx_goNo {Q : Handler → Jvm.Pre} {E : Jvm.CtlPost} {d : Bool} {acts : List Action} {S : State} {x : ExceptionTableEntry} {t : List ExceptionTableEntry} {k : ClassId} {cell : Cell} (hx : covers x f.pc = true) (h0 : x.catchType ≠ 0)
    (hl : S.vm.ClassLinks e.platform f.method.cls x.catchType k) (hcell : S.heap[a]? = some cell) (hobj : ∀ k, cell.vm ≠ .statics k)
    (hk : ∃ k, S.vm.classes[cell.cls]? = some k) (hc : ∃ z, S.vm.classes[k]? = some z) (hno : S.vm.assignable cell.cls k = false) :
    Sem.wp (findHandler.go f a (x :: t)) Q E e d acts S ↔ Sem.wp (findHandler.go f a t) Q E e d acts (S.setVm (S.vm.noted f.method.cls x.catchType (.cls k))) := by
  simp only [covers] at hx
  obtain ⟨ha, ht⟩ := (resolveClass_links e.toSetting hl).op (op := VmOp.resolveClass f.method.cls x.catchType) rfl
  have hal : S.vm.Alike (S.vm.noted f.method.cls x.catchType (.cls k)) := (Vm.Alike.refl S.vm).noted _ _ _
  obtain ⟨k1, hk1⟩ := hk
  obtain ⟨k2, hk2⟩ := hc
  obtain ⟨k1', hk1', -⟩ := hal.2.2 _ _ hk1
  obtain ⟨k2', hk2', -⟩ := hal.2.2 _ _ hk2
  have hy : (S.vm.noted f.method.cls x.catchType (.cls k)).assignable cell.cls k = false := by rw [hal.assignable]; exact hno
  simp [findHandler.go, hx, h0, ha, ht, hcell, hobj, hk1', hk2', hy, VmOp.dirties, VmOp.acts]
/-- the search through the rows L comes to the handler h, whatever has been resolved on the way -/
def tx_FT (e : Env) (f : JFrame) (a : Addr) (L : List ExceptionTableEntry) (h : Nat) (s : State) (H : Heap) : Prop :=
  ∀ S : State, s.WarmedH S.vm → S.heap = H → ∃ vm', s.WarmedH vm' ∧ ∀ (Q : Handler → Jvm.Pre) (E : Jvm.CtlPost) (d : Bool) (acts : List Action), Sem.wp (findHandler.go f a L) Q E e d acts S ↔ Q (.found h) d acts (S.setVm vm')
theorem tx_hit {H : Heap} {args : Array Value} {x : ExceptionTableEntry} {L : List ExceptionTableEntry} (hpl : e.platform.magicAccessors = ({} : Platform).magicAccessors) (hx : covers x f.pc = true) (h0 : x.catchType ≠ 0) {own E : String} (hown : s.vm.findClass own = some f.method.cls) (hlink : (Cond.classLink own x.catchType E).before args s = true)
    {ce : Cell} (hcell : H[a]? = some ce) (hv : ce.vm = .none) (hcl : s.vm.findClass E = some ce.cls) : tx_FT e f a (x :: L) x.handlerPc s H := by
  intro S hW hS
  obtain ⟨c5, hc5, hl⟩ := Cond.classLink_spec hown hlink e.platform hpl
  cases hcl.symm.trans hc5
  obtain ⟨dk, _, _, kt, hd, _, _, _, _, hkt, _, hopen⟩ := hl.here
  obtain ⟨kt', hkt', -⟩ := hW.alike.2.2 _ _ hkt
  refine ⟨_, hW.noted hd hopen (State.rightAt_cls hl), fun Q E d acts => ?_⟩
  exact tx_goYes hx h0 (hW.classLinks hl) (by rw [hS]; exact hcell) (by rw [hv]; intro k h; cases h) ⟨kt', hkt'⟩ ⟨kt', hkt'⟩ (Vm.assignable_self _ _)
theorem tx_miss {H : Heap} {args : Array Value} {x : ExceptionTableEntry} {L : List ExceptionTableEntry} {h : Nat} (hpl : e.platform.magicAccessors = ({} : Platform).magicAccessors) (hx : covers x f.pc = true) (h0 : x.catchType ≠ 0) {own E N : String} (hown : s.vm.findClass own = some f.method.cls) (hlink : (Cond.classLink own x.catchType N).before args s = true)
    (hno : (Cond.not (.castable E N)).before args s = true) {ce : Cell} (hcell : H[a]? = some ce) (hv : ce.vm = .none) (hcl : s.vm.findClass E = some ce.cls) (hL : tx_FT e f a L h s H) : tx_FT e f a (x :: L) h s H := by
  intro S hW hS
  obtain ⟨c5, hc5, hl⟩ := Cond.classLink_spec hown hlink e.platform hpl
  have hv9 := Cond.holds_not_iff.mp hno
  simp only [Cond.value, hcl, hc5] at hv9
  have hno' : s.vm.assignable ce.cls c5 = false := Option.some.inj hv9
  obtain ⟨dk, _, _, kt, hd, _, _, _, _, hkt, _, hopen⟩ := hl.here
  obtain ⟨kt', hkt', -⟩ := hW.alike.2.2 _ _ hkt
  obtain ⟨k9, hk9, -⟩ := Vm.findClass_spec hcl
  obtain ⟨k9', hk9', -⟩ := hW.alike.2.2 _ _ hk9
  obtain ⟨vm', hW', hq⟩ := hL (S.setVm (S.vm.noted f.method.cls x.catchType (.cls c5))) (hW.noted hd hopen (State.rightAt_cls hl)) hS
  refine ⟨vm', hW', fun Q E d acts => ?_⟩
  rw [tx_goNo hx h0 (hW.classLinks hl) (by rw [hS]; exact hcell) (by rw [hv]; intro k h; cases h) ⟨k9', hk9'⟩ ⟨kt', hkt'⟩ (by rw [hW.alike.assignable]; exact hno')]
  exact hq Q E d acts
theorem tx_step {tb : Tables} {S target : State} {g : JFrame} {c : Code} {below : List Frame} {vm' : Vm} {h : Nat} (hat : At S g.method c below)
    (hfind : ∀ (Q : Handler → Jvm.Pre) (E : Jvm.CtlPost) (d : Bool) (acts : List Action), Sem.wp (findHandler g a) Q E e d acts ((S.setTop g).pushFrame (.throwing a)) ↔ Q (.found h) d acts (((S.setTop g).pushFrame (.throwing a)).setVm vm'))
    (hrest : Steps tb e below ((S.setVm vm').setTop { g with pc := h, stack := [.ref a] }) target) : Steps tb e below ((S.setTop g).pushFrame (.throwing a)) target := by
  obtain ⟨hgo, hw⟩ := hat.throwing a
  refine Steps.head hgo hw ?_
  have key : ∀ (U : State) (r : List Frame), (∀ (Q : Handler → Jvm.Pre) (E : Jvm.CtlPost) (d : Bool) (acts : List Action), Sem.wp (findHandler g a) Q E e d acts U ↔ Q (.found h) d acts (U.setVm vm')) → (stepThrowing e U a (.java g :: r)).1 = (U.setVm vm').setFrames (.java { g with pc := h, stack := [.ref a] } :: r) := by
    intro U r hU
    simp only [stepThrowing, searchFrame, vmDo]
    generalize hr : Sem.go _ e false [] U = res
    obtain ⟨as, rfl, ha⟩ := Sem.eq_ok_of hr (a := Handler.found h) (s' := U.setVm vm') (acts' := []) (by simp [hU _ _ _ _])
    rfl
  rw [stepThread_throwing (frames_entered hat.top _), key _ _ hfind]
  obtain ⟨g₀, hg⟩ := Option.isSome_iff_exists.mp hat.top
  obtain ⟨r, hr⟩ := State.topJava?_eq_some.mp hg
  have hr' : (S.setVm vm').frames = .java g₀ :: r := hr
  rw [State.setTop_of_frames _ hr'] at hrest
  rw [State.pushFrame, State.setTop_of_frames _ hr]
  rw [hr]
  have e9 : ∀ (U : State) (fs : List Frame), (U.setFrames fs).setVm vm' = (U.setVm vm').setFrames fs := fun _ _ => rfl
  rw [State.setFrames_setFrames, e9, State.setFrames_setFrames]
  exact hrest
end TXE
section TXF
variable {l : Launch} {p : Program} {e : Env} {R : Room} {s : State} {m : MethodId} {args : Array Value} {below : List Frame} {meth : Method} {c : Code} {H : Heap} {locs : List Loc} {cells slots : Nat} {Q : State → Prop}
theorem tx_catch {pc h : Nat} {ls : Array Slot} {rest : List Value} {q : Addr} (hFT : ∀ e : Env, l.admits e → tx_FT e (F0 m pc ls rest) q c.exceptionTable.toList h s H) (kk : W p l e R s m args below meth c H locs cells slots Q (F0 m h ls [.ref q])) :
    tx_W p l e R s m args below meth c H locs cells slots Q (F0 m pc ls rest) q := by
  intro T hT X
  obtain ⟨vm', hW', hf⟩ := hFT e X.admits ((T.setTop (F0 m pc ls rest)).pushFrame (.throwing q)) (by rw [Stand.throwing_vm]; exact X.warmed) (by rw [Stand.throwing_heap]; exact hT)
  obtain ⟨t, a1, b1⟩ := kk (T.setVm vm') hT (X.noted hW')
  refine ⟨t, ?_, b1⟩
  refine tx_step (h := h) (vm' := vm') (g := F0 m pc ls rest) X.here (fun Q E d acts => ?_) a1
  rw [W.findHandler_eq (meth := meth) (code := c) (by rw [Stand.throwing_vm]; exact X.method') X.code]
  exact hf Q E d acts
end TXF
