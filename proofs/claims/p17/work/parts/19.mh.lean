/-! THE LAW'S HELPERS: static methods with handlers; and their calls -/
section MHA
variable {p : Program} {l : Launch} {e : Env} {R : Room} {s : State} {m : MethodId} {args : Array Value} {below : List Frame} {meth : Method} {c : Code} {H : Heap} {locs : List Loc} {cells slots : Nat} {Q : State → Prop}
variable {D : va_G} {cl : List vw_C} {tys : List (ClassId × FieldType)} {cc : ByteArray} {pc nL mc ms : Nat} {ls : Array Slot} {rest : List Value} {own : String} {ret : Option FieldType}
/-- what the one handler that is passed by rests on -/
def no9 (U : State) : Prop := ∀ c1 c2 : ClassId, U.vm.findClass "java/lang/IllegalArgumentException" = some c1 → U.vm.findClass "java/util/NoSuchElementException" = some c2 → U.vm.assignable c1 c2 = false
theorem no9.moved {u U : State} (hvm : u.vm.Alike U.vm) (h : no9 u) : no9 U := fun c1 c2 h1 h2 => by
  rw [hvm.findClass] at h1 h2
  rw [hvm.assignable]
  exact h c1 c2 h1 h2
def mh_P (D : va_G) (cl : List vw_C) (tys : List (ClassId × FieldType)) (av : List Value) (ws : va_W) (sz : Nat) : Array Value → State → Prop := fun v U => mx_P D cl tys av ws sz v U ∧ no9 U
def MH (l : Launch) (D : va_G) (cl : List vw_C) (tys : List (ClassId × FieldType)) (y : MethodName) (cc : ByteArray) (nL : Nat) (hh : List (Nat × Nat × Nat × Nat)) (rm : Room) (av : List Value) (ws : va_W) (post : Option Value → va_W → Prop) (mc ms : Nat) : Prop :=
  ∀ sz : Nat, tx_Met l y (Cond.codeWith y cc nL (some .int) hh :: GT) rm (mh_P D cl tys av ws sz) (mw_Q D cl ws sz post) mc ms (va_A ws sz)
theorem mh_of {y : MethodName} {rm : Room} {av : List Value} {ws : va_W} {post : Option Value → va_W → Prop} {hh : List (Nat × Nat × Nat × Nat)} (hy : plainName y.cls = true) (hn : (lg_sl av).length ≤ nL)
    (body : ∀ (p : Program) (e : Env) (s : State) (m : MethodId) (below : List Frame) (meth : Method) (c : Code) (ls : Array Slot), mw_C p s m av.toArray meth c cc nL (some .int) y.cls D cl tys → c.exceptionTable.toList.map (fun h => (h.startPc, h.endPc, h.handlerPc, h.catchType)) = hh → no9 s → tx_Z (va_A ws s.heap.size) s s.heap → va_P D cl ws s.heap → va_D (va_A ws s.heap.size) ws → (∀ q : Nat, s.heap.size ≤ q → va_A ws s.heap.size q) → va_S (va_A ws s.heap.size) s.heap s.heap [] → lv_has ls nL (lv_args 0 av) →
      W p l e rm s m av.toArray below meth c s.heap [] 0 0 (tx_Q below (mw_Q D cl ws s.heap.size post) av.toArray s mc ms (va_A ws s.heap.size)) (F0 m 0 ls [])) :
    MH l D cl tys y cc nL hh rm av ws post mc ms := by
  intro sz
  refine MetFree.of_bodyS (code := cc) (maxLocals := nL) (ret := some .int) hy ?_ ?_
  · intro args s m h hn
    obtain ⟨m9, meth, c, hn9, h1, h2, h3, h4, -, h5, h6, -⟩ := Cond.codeWith_spec (atoms_spec (ws := Cond.codeWith y cc nL (some .int) hh :: GT) h _ List.mem_cons_self)
    cases hn.symm.trans hn9
    exact ⟨meth, c, h1, h2, h3, h4, h5, h6⟩
  · intro p e s m args below meth c s₁ B hml hv _
    have hh0 : s₁.heap = s.heap := by rw [B.state]; rfl
    have htab : c.exceptionTable.toList.map (fun h => (h.startPc, h.endPc, h.handlerPc, h.catchType)) = hh := by
      obtain ⟨m9, meth9, c9, hn9, h1, h2, h3, h4, h5, -⟩ := Cond.codeWith_spec (atoms_spec (ws := Cond.codeWith y cc nL (some .int) hh :: GT) B.pre _ List.mem_cons_self)
      cases B.named.symm.trans hn9
      cases B.method.symm.trans h1
      cases (Stand.of_body B).code.symm.trans h2
      exact h5
    obtain ⟨⟨rfl, hsz, hP, hK, hD0, hZ⟩, h9⟩ := hv
    subst hsz
    have K := body p e s m below meth c _ ⟨B.exec, B.bytes, hml, B.returns, B.notSynchronized, findClass_of_methodNamed B.named, fun w hw => atoms_spec (ws := Cond.codeWith y cc nL (some .int) hh :: GT) B.pre w (List.mem_cons_of_mem _ hw), hK⟩ htab h9 hZ hP hD0.self (fun q h => Or.inr h) va_S.rf (lv_entry av hn)
    rw [← lg_entry_eq] at K
    obtain ⟨t, a1, o, b1, b2, b3⟩ := K s₁ hh0 (Stand.of_body B)
    exact ⟨t, o, a1, b1, b2, b3⟩
/-- a call of a method that may throw, on a part of the world, before anything was written -/
theorem mh_cX {y : MethodName} {cy : ByteArray} {ny idx : Nat} {rm : Room} {As st0 : List Value} {ws w1 wr : va_W} {ry : Option FieldType} {b ci k : Nat} {q : vw_C} {fs : List Value} {post : Int32 → Prop} {px : String → Prop} (C0 : mw_C p s m args meth c cc nL ret own D cl tys) (hM : MX l D cl tys y cy ny ry rm (.ref b :: As) w1 post px mc ms) (hcw : Cond.code y cy ny ry ∈ GT) (hini : Cond.initialized y.cls ∈ GT) (hl : Cond.methodLink own idx y ∈ GT) (hin : Cond.instanceMethod y ∈ GT) (hse : Cond.selects q.1 y y ∈ GT)
    (hd : y.cls ≠ "java/lang/invoke/MethodHandle" ∧ y.cls ≠ "java/lang/invoke/VarHandle" ∧ (parseMethodDescriptor y.desc).map (fun d => d.parameters.length) = some As.length) (hR : rm.frames + 1 ≤ R.frames ∧ 8 + (ny + 11) + rm.locals ≤ R.locals) (hrc : rm.cells = mc) (hrs : rm.slots = ms)
    (hZ : tx_Z (va_A ws s.heap.size) s s.heap) (hP0 : va_P D cl ws s.heap) (hD0 : va_D (va_A ws s.heap.size) ws) (hS : va_S (va_A ws s.heap.size) s.heap s.heap []) (isC isR : List Nat) (hC : isC.map (fun i => ws[i]?) = w1.map some) (hR9 : isR.map (fun i => ws[i]?) = wr.map some) (hnC : va_nd isC = true) (hn : va_nd isR = true) (hdis : ∀ i ∈ isR, i ∉ isC)
    (hc : cl[ci]? = some q) (he : w1[k]? = some (b, .inr (ci, fs))) (hsz : ls.size = nL) (hW : (rest.map fun v => v.category).sum ≤ 8) (hst : st0 = As.reverse ++ .ref b :: rest) (hdg : decode cc pc = .ok (.invokevirtual idx, 3)) (hf : 0 + mc ≤ R.cells ∧ 0 + ms ≤ R.slots)
    (kx : ∀ (q9 : Addr) (E : String) (ce : Cell) (H1 : Heap) (locs1 : List Loc), px E → H1[q9]? = some ce → ce.vm = .none → s.vm.findClass E = some ce.cls → va_P D cl wr H1 → va_D (va_A ws s.heap.size) wr → va_S (va_A ws s.heap.size) s.heap H1 locs1 → tx_W p l e R s m args below meth c H1 locs1 (0 + mc) (0 + ms) Q (F0 m pc ls rest) q9)
    (kk : ∀ (r : Int32) (H1 : Heap) (locs1 : List Loc), post r → va_P D cl wr H1 → va_D (va_A ws s.heap.size) wr → va_S (va_A ws s.heap.size) s.heap H1 locs1 → W p l e R s m args below meth c H1 locs1 (0 + mc) (0 + ms) Q (F0 m (pc + 3) ls (.int r :: rest))) :
    W p l e R s m args below meth c s.heap [] 0 0 Q (F0 m pc ls st0) := by
  obtain ⟨hx, hb, hml, hr, hlocks, hown, hts, hK⟩ := C0
  have pay : ∀ w ∈ (Cond.code y cy ny ry :: GT), ∀ (a' : Array Value) (U : State), s.WarmedH U.vm → w.before a' U = true := fun w hw a' U hU => (List.mem_cons.mp hw).elim (fun e9 => by rw [e9]; exact gt_pay hcw (hts _ hcw) a' U hU) (fun h9 => gt_pay h9 (hts _ h9) a' U hU)
  have hlen : ∀ sig, parseMethodDescriptor y.desc = some sig → As.length = sig.parameters.length := fun sig h => by
    have h2 := hd.2.2
    rw [h] at h2
    exact (Option.some.inj h2).symm
  subst hst
  have hP : va_P D cl w1 s.heap := hP0.sub isC (by rw [fm_of hC])
  have hD : va_D (va_A ws s.heap.size) w1 := hD0.sub isC hnC hC
  have hA : ∀ q : Nat, s.heap.size ≤ q → va_A ws s.heap.size q := fun q h => Or.inr h
  have hF : ∀ q : Nat, va_A w1 s.heap.size q → va_A ws s.heap.size q := va_free (wc := w1) hD0 hS hA isC hC
  have hZ1 : tx_Z (va_A w1 s.heap.size) s s.heap := hZ.narrow (fun q _ h => hF q h)
  have hj : ∀ H1 : Heap, (∀ q : Nat, q < s.heap.size → ¬ va_A w1 s.heap.size q → H1[q]? = s.heap[q]?) → va_P D cl wr H1 ∧ va_D (va_A ws s.heap.size) wr := fun H1 h1 => by
    have h2 := va_join (wc := w1) (wr := wr) (w1 := []) (H1 := H1) hP0 hD0 isC isR hC hR9 hn hdis h1 hF (fun k q h => by simp at h) ⟨fun i j p q h => by simp at h, fun k q h => by simp at h⟩
    rw [List.append_nil] at h2
    exact h2
  refine tx_calli (A1 := va_A w1 s.heap.size) (tx_virt (Ts := GT) (own := own) (C := q.1) ⟨hx, hb, hml, hown, hts⟩ (hM s.heap.size) ⟨⟨hrc, hrs, hR.1, hR.2, pay, List.mem_cons_self, hts _ hcw, hts _ hini, ⟨hd.1, hd.2.1⟩, hlen, hts _ hl⟩, hts _ hin, hts _ hse⟩ ⟨mx_blind, va_recv hK hP hc he, fun U hU hW => ⟨rfl, by rw [hU], by rw [hU]; exact hP, va_K.moved hW.alike hK, hD.weaken (fun _ _ _ _ => trivial), by rw [hU]; exact hZ1.moved hW.alike⟩⟩ rfl rfl hsz rfl (lv_room hW) hdg hf) hS (fun q _ h => hF q h) hF ?_ ?_
  · intro q9 E ce H1 locs1 h1 h2 h3 h4 h5 h6 h7
    obtain ⟨j1, j2⟩ := hj H1 h6
    exact kx q9 E ce H1 locs1 h1 h2 h3 h4 j1 j2 h7
  · intro r u t H1 locs1 h1 h2 h3 h4 h5 h6 h7
    obtain ⟨j1, j2⟩ := hj H1 h6
    exact kk r H1 locs1 h3 j1 j2 h7
/-- rows of a table by their numbers -/
theorem mh_row {L : List ExceptionTableEntry} {a b h t : Nat} {hh : List (Nat × Nat × Nat × Nat)} (e9 : L.map (fun h => (h.startPc, h.endPc, h.handlerPc, h.catchType)) = (a, b, h, t) :: hh) : ∃ x L', L = x :: L' ∧ x.startPc = a ∧ x.endPc = b ∧ x.handlerPc = h ∧ x.catchType = t ∧ L'.map (fun h => (h.startPc, h.endPc, h.handlerPc, h.catchType)) = hh := by
  cases L with
  | nil => cases e9
  | cons x L' =>
    simp only [List.map_cons, List.cons.injEq, Prod.mk.injEq] at e9
    exact ⟨x, L', rfl, e9.1.1, e9.1.2.1, e9.1.2.2.1, e9.1.2.2.2, e9.2⟩
theorem mh_hit {H : Heap} {q9 : Addr} {a b h t : Nat} {L : List ExceptionTableEntry} {hh : List (Nat × Nat × Nat × Nat)} {E : String} {ce : Cell} (C0 : mw_C p s m args meth c cc nL ret own D cl tys) (e9 : L.map (fun h => (h.startPc, h.endPc, h.handlerPc, h.catchType)) = (a, b, h, t) :: hh) (h1 : a ≤ pc) (h2 : pc < b) (h0 : t ≠ 0) (hlink : Cond.classLink own t E ∈ GT)
    (hcell : H[q9]? = some ce) (hv : ce.vm = .none) (hcl : s.vm.findClass E = some ce.cls) (e : Env) (ha : l.admits e) : tx_FT e (F0 m pc ls rest) q9 L h s H := by
  obtain ⟨hx, hb, hml, hr, hlocks, hown, hts, hK⟩ := C0
  obtain ⟨x, L', rfl, rfl, rfl, rfl, rfl, -⟩ := mh_row e9
  exact tx_hit (args := args) (by rw [ha.platform]) (by simp [covers, h1, h2]) h0 hown (hts _ hlink) hcell hv hcl
theorem mh_miss {H : Heap} {q9 : Addr} {a b h t h5 : Nat} {L : List ExceptionTableEntry} {hh : List (Nat × Nat × Nat × Nat)} {ce : Cell} (C0 : mw_C p s m args meth c cc nL ret own D cl tys) (h9 : no9 s) (e9 : L.map (fun h => (h.startPc, h.endPc, h.handlerPc, h.catchType)) = (a, b, h, t) :: hh) (h1 : a ≤ pc) (h2 : pc < b) (h0 : t ≠ 0) (hlink : Cond.classLink own t "java/util/NoSuchElementException" ∈ GT)
    (hcell : H[q9]? = some ce) (hv : ce.vm = .none) (hcl : s.vm.findClass "java/lang/IllegalArgumentException" = some ce.cls) (e : Env) (ha : l.admits e) (hL : ∀ L' : List ExceptionTableEntry, L'.map (fun h => (h.startPc, h.endPc, h.handlerPc, h.catchType)) = hh → tx_FT e (F0 m pc ls rest) q9 L' h5 s H) : tx_FT e (F0 m pc ls rest) q9 L h5 s H := by
  obtain ⟨hx, hb, hml, hr, hlocks, hown, hts, hK⟩ := C0
  have hpl : e.platform.magicAccessors = ({} : Platform).magicAccessors := by rw [ha.platform]
  obtain ⟨c5, hc5, -⟩ := Cond.classLink_spec hown (hts _ hlink) e.platform hpl
  have hno : (Cond.not (.castable "java/lang/IllegalArgumentException" "java/util/NoSuchElementException")).before args s = true := Cond.holds_not_iff.mpr (by simp only [Cond.value, hcl, hc5]; rw [h9 _ _ hcl hc5])
  obtain ⟨x, L', rfl, rfl, rfl, rfl, rfl, e8⟩ := mh_row e9
  exact tx_miss (args := args) hpl (by simp [covers, h1, h2]) h0 hown (hts _ hlink) hno hcell hv hcl (hL L' e8)
theorem mh_cS {A0 : Nat → Prop} {y : MethodName} {cy : ByteArray} {ny idx : Nat} {hh : List (Nat × Nat × Nat × Nat)} {rm : Room} {As st0 : List Value} {ws w1 wr : va_W} {post : Option Value → va_W → Prop} (C0 : mw_C p s m args meth c cc nL ret own D cl tys) (hM : MH l D cl tys y cy ny hh rm As w1 post mc ms) (hcw : Cond.codeWith y cy ny (some .int) hh ∈ GT) (hini : Cond.initialized y.cls ∈ GT) (hl : Cond.methodLink own idx y ∈ GT) (hstt : Cond.static y ∈ GT)
    (hd : y.cls ≠ "java/lang/invoke/MethodHandle" ∧ y.cls ≠ "java/lang/invoke/VarHandle" ∧ (parseMethodDescriptor y.desc).map (fun d => d.parameters.length) = some As.length) (hR : rm.frames + 1 ≤ R.frames ∧ 8 + (ny + 11) + rm.locals ≤ R.locals) (hrc : rm.cells = mc) (hrs : rm.slots = ms)
    (hZ : tx_Z A0 s s.heap) (h9 : no9 s) (hP0 : va_P D cl ws H) (hD0 : va_D A0 ws) (hS : va_S A0 s.heap H locs) (hA : ∀ q : Nat, s.heap.size ≤ q → A0 q) (isC isR : List Nat) (hC : isC.map (fun i => ws[i]?) = w1.map some) (hR9 : isR.map (fun i => ws[i]?) = wr.map some) (hnC : va_nd isC = true) (hn : va_nd isR = true) (hdis : ∀ i ∈ isR, i ∉ isC)
    (hsz : ls.size = nL) (hW : (rest.map fun v => v.category).sum ≤ 8) (hst : st0 = As.reverse ++ rest) (hdg : decode cc pc = .ok (.invokestatic idx, 3)) (hf : cells + mc ≤ R.cells ∧ slots + ms ≤ R.slots)
    (kk : ∀ (v : Option Value) (w2 : va_W) (H1 : Heap) (locs1 : List Loc), post v w2 → va_P D cl (wr ++ w2) H1 → va_D A0 (wr ++ w2) → va_S A0 s.heap H1 locs1 → W p l e R s m args below meth c H1 locs1 (cells + mc) (slots + ms) Q (F0 m (pc + 3) ls (v.toList ++ rest))) :
    W p l e R s m args below meth c H locs cells slots Q (F0 m pc ls st0) := by
  obtain ⟨hx, hb, hml, hr, hlocks, hown, hts, hK⟩ := C0
  have pay : ∀ w ∈ (Cond.codeWith y cy ny (some .int) hh :: GT), ∀ (a' : Array Value) (U : State), s.WarmedH U.vm → w.before a' U = true := fun w hw a' U hU => (List.mem_cons.mp hw).elim (fun e9 => by rw [e9]; exact gt_pay hcw (hts _ hcw) a' U hU) (fun h9 => gt_pay h9 (hts _ h9) a' U hU)
  subst hst
  have hP : va_P D cl w1 H := hP0.sub isC (by rw [fm_of hC])
  have hD : va_D A0 w1 := hD0.sub isC hnC hC
  have hF : ∀ q : Nat, va_A w1 H.size q → A0 q := va_free (wc := w1) hD0 hS hA isC hC
  have hZ1 : tx_Z (va_A w1 H.size) s H := (hZ.kept hS.2.1).narrow (fun q _ h => hF q h)
  have hrun := tx_statW (p := p) (e := e) (below := below) (meth := meth) (H := H) (locs := locs) (cells := cells) (slots := slots) (Ts := GT) (own := own) (As := As) (rest := rest) (g := F0 m pc ls (As.reverse ++ rest)) ⟨hx, hb, hml, hown, hts⟩ (hM H.size) hrc hrs hR.1 hR.2 pay List.mem_cons_self (hts _ hini) (hts _ hstt) (hts _ hl) ⟨hd.1, hd.2.1⟩ hd.2.2
    ⟨fun a U g mk q => ⟨mx_blind a U g mk q.1, q.2.moved (u := U) (U := U.calling g mk a) (Vm.Alike.refl U.vm)⟩, fun U hU hW => ⟨⟨rfl, by rw [hU], by rw [hU]; exact hP, va_K.moved hW.alike hK, hD.weaken (fun _ _ _ _ => trivial), by rw [hU]; exact hZ1.moved hW.alike⟩, h9.moved hW.alike⟩⟩ rfl hsz rfl (lv_room hW) hdg hf
  intro T hT X
  obtain ⟨o, st₀, t, T', L, g0, g0v, X', hL, e1, e2, ⟨⟨v2, w2, hv, hp, hP2, hD2⟩, hz, hk⟩, hor⟩ := hrun T hT X
  subst hv
  rw [g0] at hz hk
  rcases hor with ⟨v, hv, st⟩ | ⟨x, hv, st⟩
  · cases hv
    obtain ⟨j1, j2⟩ := va_join (wc := w1) (wr := wr) (w1 := w2) (H1 := T'.heap) hP0 hD0 isC isR hC hR9 hn hdis (fun q h1 h2 => by rw [e1]; exact hk q h1 h2) hF (by rw [e1]; exact hP2) hD2
    obtain ⟨t2, a1, b1⟩ := kk v2 w2 T'.heap (locs ++ L) hp j1 j2
      ⟨Nat.le_trans hS.1 (by rw [e1]; exact hz), fun q h1 h2 => by rw [e1, hk q (Nat.lt_of_lt_of_le h1 hS.1) (fun z => h2 (hF q z))]; exact hS.2.1 q h1 h2, fun q hq => by
        rcases List.mem_append.mp hq with h | h
        · exact hS.2.2 q h
        · exact hF _ (hL q h)⟩ T' rfl X'
    exact ⟨t2, st t2 a1, b1⟩
  · cases hv
end MHA
