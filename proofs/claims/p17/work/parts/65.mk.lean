/-! THE LAW'S HELPERS over the one world: static methods with handlers; and their calls -/
section MKA
variable {p : Program} {l : Launch} {e : Env} {R : Room} {s : State} {m : MethodId} {args : Array Value} {below : List Frame} {meth : Method} {c : Code} {H : Heap} {locs : List Loc} {cells slots : Nat} {Q : State → Prop}
variable {D : va_G} {cl : List vw_C} {tys : List (ClassId × FieldType)} {cc : ByteArray} {pc nL mc ms : Nat} {ls : Array Slot} {rest : List Value} {own : String} {ret : Option FieldType}
def no8L : List (String × String) := [("java/lang/IllegalArgumentException", "java/util/NoSuchElementException"), ("java/lang/IllegalStateException", "java/lang/IllegalArgumentException"), ("java/lang/IllegalStateException", "java/util/NoSuchElementException"), ("java/lang/UnsupportedOperationException", "java/lang/IllegalArgumentException"), ("java/lang/IndexOutOfBoundsException", "java/util/NoSuchElementException")]
/-- what the handlers that are passed by rest on -/
def no8 (U : State) : Prop := ∀ r ∈ no8L, ∀ c1 c2 : ClassId, U.vm.findClass r.1 = some c1 → U.vm.findClass r.2 = some c2 → U.vm.assignable c1 c2 = false
theorem no8.moved {u U : State} (hvm : u.vm.Alike U.vm) (h : no8 u) : no8 U := fun r hr c1 c2 h1 h2 => by
  rw [hvm.findClass] at h1 h2
  rw [hvm.assignable]
  exact h r hr c1 c2 h1 h2
def mk_P (D : va_G) (cl : List vw_C) (tys : List (ClassId × FieldType)) (av : List Value) (ws : va_W) (sz : Nat) : Array Value → State → Prop := fun v U => mx_P D cl tys av ws sz v U ∧ no8 U
def MK (l : Launch) (D : va_G) (cl : List vw_C) (tys : List (ClassId × FieldType)) (y : MethodName) (cc : ByteArray) (nL : Nat) (hh : List (Nat × Nat × Nat × Nat)) (rm : Room) (av : List Value) (ws : va_W) (post : Option Value → va_W → Prop) (mc ms : Nat) : Prop :=
  ∀ sz : Nat, tx_Met l y (Cond.codeWith y cc nL (some .int) hh :: GT) rm (mk_P D cl tys av ws sz) (mw_Q D cl ws sz post) mc ms (va_A ws sz)
theorem mk_of {y : MethodName} {rm : Room} {av : List Value} {ws : va_W} {post : Option Value → va_W → Prop} {hh : List (Nat × Nat × Nat × Nat)} (hy : plainName y.cls = true) (hn : (lg_sl av).length ≤ nL)
    (body : ∀ (p : Program) (e : Env) (s : State) (m : MethodId) (below : List Frame) (meth : Method) (c : Code) (ls : Array Slot), mw_C p s m av.toArray meth c cc nL (some .int) y.cls D cl tys → c.exceptionTable.toList.map (fun h => (h.startPc, h.endPc, h.handlerPc, h.catchType)) = hh → no8 s → tx_Z (va_A ws s.heap.size) s s.heap → va_P D cl ws s.heap → va_D (va_A ws s.heap.size) ws → (∀ q : Nat, s.heap.size ≤ q → va_A ws s.heap.size q) → va_S (va_A ws s.heap.size) s.heap s.heap [] → lv_has ls nL (lv_args 0 av) →
      W p l e rm s m av.toArray below meth c s.heap [] 0 0 (tx_Q below (mw_Q D cl ws s.heap.size post) av.toArray s mc ms (va_A ws s.heap.size)) (F0 m 0 ls [])) :
    MK l D cl tys y cc nL hh rm av ws post mc ms := by
  intro sz
  refine MetFree.of_bodyS (code := cc) (maxLocals := nL) (ret := some .int) hy ?_ ?_
  · intro args s m h hn
    obtain ⟨m9, meth, c, hn9, h1, h2, h3, h4, -, h5, h6, -⟩ := Cond.codeWith_spec (atoms_spec (ws := Cond.codeWith y cc nL (some .int) hh :: GT) h _ List.mem_cons_self)
    cases hn.symm.trans hn9
    exact ⟨meth, c, h1, h2, h3, h4, h5, h6⟩
  · intro p e s m args below meth c s₁ B hml hv _
    have hh0 : s₁.heap = s.heap := by rw [B.state]; rfl
    have htab : c.exceptionTable.toList.map (fun h => (h.startPc, h.endPc, h.handlerPc, h.catchType)) = hh := by
      obtain ⟨m9, meth9, c9, hn9, h1, h2, h3, h4, h5, -⟩ := Cond.codeWith_spec (atoms_spec (ws := Cond.codeWith y cc nL (some .int) hh :: GT) B.pre _ List.mem_cons_self)
      cases B.named.symm.trans hn9
      cases B.method.symm.trans h1
      cases (Stand.of_body B).code.symm.trans h2
      exact h5
    obtain ⟨⟨rfl, hsz, hP, hK, hD0, hZ⟩, h9⟩ := hv
    subst hsz
    have K := body p e s m below meth c _ ⟨B.exec, B.bytes, hml, B.returns, B.notSynchronized, findClass_of_methodNamed B.named, fun w hw => atoms_spec (ws := Cond.codeWith y cc nL (some .int) hh :: GT) B.pre w (List.mem_cons_of_mem _ hw), hK⟩ htab h9 hZ hP hD0.self (fun q h => Or.inr h) va_S.rf (lv_entry av hn)
    rw [← lg_entry_eq] at K
    obtain ⟨t, a1, o, b1, b2, b3⟩ := K s₁ hh0 (Stand.of_body B)
    exact ⟨t, o, a1, b1, b2, b3⟩
theorem mk_miss {H : Heap} {q9 : Addr} {a b h t h5 : Nat} {L : List ExceptionTableEntry} {hh : List (Nat × Nat × Nat × Nat)} {ce : Cell} {A B : String} (C0 : mw_C p s m args meth c cc nL ret own D cl tys) (h9 : no8 s) (e9 : L.map (fun h => (h.startPc, h.endPc, h.handlerPc, h.catchType)) = (a, b, h, t) :: hh) (h1 : a ≤ pc) (h2 : pc < b) (h0 : t ≠ 0) (hlink : Cond.classLink own t B ∈ GT) (hm : (A, B) ∈ no8L)
    (hcell : H[q9]? = some ce) (hv : ce.vm = .none) (hcl : s.vm.findClass A = some ce.cls) (e : Env) (ha : l.admits e) (hL : ∀ L' : List ExceptionTableEntry, L'.map (fun h => (h.startPc, h.endPc, h.handlerPc, h.catchType)) = hh → tx_FT e (F0 m pc ls rest) q9 L' h5 s H) : tx_FT e (F0 m pc ls rest) q9 L h5 s H := by
  obtain ⟨hx, hb, hml, hr, hlocks, hown, hts, hK⟩ := C0
  have hpl : e.platform.magicAccessors = ({} : Platform).magicAccessors := by rw [ha.platform]
  obtain ⟨c5, hc5, -⟩ := Cond.classLink_spec hown (hts _ hlink) e.platform hpl
  have hno : (Cond.not (.castable A B)).before args s = true := Cond.holds_not_iff.mpr (by simp only [Cond.value, hcl, hc5]; rw [h9 _ hm _ _ hcl hc5])
  obtain ⟨x, L', rfl, rfl, rfl, rfl, rfl, e8⟩ := mh_row e9
  exact tx_miss (args := args) hpl (by simp [covers, h1, h2]) h0 hown (hts _ hlink) hno hcell hv hcl (hL L' e8)
/-- a call of such a helper, on the whole world -/
theorem mk_cS {A0 : Nat → Prop} {H0 : Heap} {y : MethodName} {cy : ByteArray} {ny idx : Nat} {hh : List (Nat × Nat × Nat × Nat)} {rm : Room} {As st0 : List Value} {w1 : va_W} {post : Option Value → va_W → Prop} (C0 : mw_C p s m args meth c cc nL ret own D cl tys) (hM : MK l D cl tys y cy ny hh rm As w1 post mc ms) (hcw : Cond.codeWith y cy ny (some .int) hh ∈ GT) (hini : Cond.initialized y.cls ∈ GT) (hl : Cond.methodLink own idx y ∈ GT) (hstt : Cond.static y ∈ GT)
    (hd : y.cls ≠ "java/lang/invoke/MethodHandle" ∧ y.cls ≠ "java/lang/invoke/VarHandle" ∧ (parseMethodDescriptor y.desc).map (fun d => d.parameters.length) = some As.length) (hR : rm.frames + 1 ≤ R.frames ∧ 8 + (ny + 11) + rm.locals ≤ R.locals) (hrc : rm.cells = mc) (hrs : rm.slots = ms)
    (hZ : tx_Z (va_A w1 H.size) s H) (h9 : no8 s) (hP : va_P D cl w1 H) (hD : va_D A0 w1) (hS : va_S A0 H0 H locs) (hA : ∀ q : Nat, H0.size ≤ q → A0 q)
    (hsz : ls.size = nL) (hW : (rest.map fun v => v.category).sum ≤ 8) (hst : st0 = As.reverse ++ rest) (hdg : decode cc pc = .ok (.invokestatic idx, 3)) (hf : cells + mc ≤ R.cells ∧ slots + ms ≤ R.slots)
    (kk : ∀ (v : Option Value) (w2 : va_W) (H1 : Heap) (locs1 : List Loc), post v w2 → va_P D cl w2 H1 → va_D A0 w2 → va_S A0 H0 H1 locs1 → W p l e R s m args below meth c H1 locs1 (cells + mc) (slots + ms) Q (F0 m (pc + 3) ls (v.toList ++ rest))) :
    W p l e R s m args below meth c H locs cells slots Q (F0 m pc ls st0) := by
  obtain ⟨hx, hb, hml, hr, hlocks, hown, hts, hK⟩ := C0
  have pay : ∀ w ∈ (Cond.codeWith y cy ny (some .int) hh :: GT), ∀ (a' : Array Value) (U : State), s.WarmedH U.vm → w.before a' U = true := fun w hw a' U hU => (List.mem_cons.mp hw).elim (fun e9 => by rw [e9]; exact gt_pay hcw (hts _ hcw) a' U hU) (fun h9 => gt_pay h9 (hts _ h9) a' U hU)
  subst hst
  have hF : ∀ q : Nat, va_A w1 H.size q → A0 q := by
    intro q h
    rcases h with ⟨k, e9, h⟩ | h
    · exact hD.2 k _ h
    · exact hA q (Nat.le_trans hS.1 h)
  have hrun := tx_statW (p := p) (e := e) (below := below) (meth := meth) (H := H) (locs := locs) (cells := cells) (slots := slots) (Ts := GT) (own := own) (As := As) (rest := rest) (g := F0 m pc ls (As.reverse ++ rest)) ⟨hx, hb, hml, hown, hts⟩ (hM H.size) hrc hrs hR.1 hR.2 pay List.mem_cons_self (hts _ hini) (hts _ hstt) (hts _ hl) ⟨hd.1, hd.2.1⟩ hd.2.2
    ⟨fun a U g mk q => ⟨mx_blind a U g mk q.1, q.2.moved (u := U) (U := U.calling g mk a) (Vm.Alike.refl U.vm)⟩, fun U hU hW => ⟨⟨rfl, by rw [hU], by rw [hU]; exact hP, va_K.moved hW.alike hK, hD.weaken (fun _ _ _ _ => trivial), by rw [hU]; exact hZ.moved hW.alike⟩, h9.moved hW.alike⟩⟩ rfl hsz rfl (lv_room hW) hdg hf
  intro T hT X
  obtain ⟨o, st₀, t, T', L, g0, g0v, X', hL, e1, e2, ⟨⟨v2, w2, hv, hp, hP2, hD2⟩, hz, hk⟩, hor⟩ := hrun T hT X
  subst hv
  rw [g0] at hz hk
  rcases hor with ⟨v, hv, st⟩ | ⟨x, hv, st⟩
  · cases hv
    obtain ⟨t2, a1, b1⟩ := kk v2 w2 T'.heap (locs ++ L) hp (by rw [e1]; exact hP2) (hD2.weaken (fun _ q _ h => hF q.1 h))
      ⟨Nat.le_trans hS.1 (by rw [e1]; exact hz), fun q h1 h2 => by rw [e1, hk q (Nat.lt_of_lt_of_le h1 hS.1) (fun z => h2 (hF q z))]; exact hS.2.1 q h1 h2, fun q hq => by
        rcases List.mem_append.mp hq with h | h
        · exact hS.2.2 q h
        · exact hF _ (hL q h)⟩ T' rfl X'
    exact ⟨t2, st t2 a1, b1⟩
  · cases hv
end MKA
/-- over the one world: what the helper answers, and the row 'out' behind it -/
def MKW (l : Launch) (D : va_G) (cB cI cJ cG : ClassId) (a : Nat → Nat) (O : Nat → Int64) (y : MethodName) (cc : ByteArray) (nL : Nat) (hh : List (Nat × Nat × Nat × Nat)) (av : List Value) (I : Nat → Int32) (F : Nat → Nat → Int32) (Q : Int32 → (Nat → Int32) → (Nat → Nat → Int32) → (Nat → Int64) → Prop) : Prop :=
  MK l D cls9 (ty9 cB cI cJ cG) y cc nL hh (rm9 8 1 6) av (WW a cB cI cJ cG I F O) (fun v w2 => ∃ (k : Int32) (I' : Nat → Int32) (F' : Nat → Nat → Int32) (O' : Nat → Int64), v = some (.int k) ∧ w2 = WW a cB cI cJ cG I' F' O' ∧ Q k I' F' O') 1 6
