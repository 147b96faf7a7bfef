/-! CONTRACTS THAT MAY THROW, in the same form; what the world is behind them isn't said -/
section MXA
variable {p : Program} {l : Launch} {e : Env} {R : Room} {s : State} {m : MethodId} {args : Array Value} {below : List Frame} {meth : Method} {c : Code} {H : Heap} {locs : List Loc} {cells slots : Nat} {Q : State → Prop}
variable {D : va_G} {cl : List vw_C} {tys : List (ClassId × FieldType)} {cc : ByteArray} {pc nL mc ms : Nat} {ls : Array Slot} {rest : List Value} {own : String} {ret : Option FieldType}
def mx_P (D : va_G) (cl : List vw_C) (tys : List (ClassId × FieldType)) (av : List Value) (ws : va_W) (sz : Nat) : Array Value → State → Prop :=
  va_Pc av (fun U => U.heap.size = sz ∧ va_P D cl ws U.heap ∧ va_K D cl tys U ∧ va_D (fun _ => True) ws ∧ tx_Z (va_A ws sz) U U.heap)
def MX (l : Launch) (D : va_G) (cl : List vw_C) (tys : List (ClassId × FieldType)) (y : MethodName) (cc : ByteArray) (nL : Nat) (ret : Option FieldType) (rm : Room) (av : List Value) (ws : va_W) (post : Int32 → Prop) (px : String → Prop) (mc ms : Nat) : Prop :=
  ∀ sz : Nat, tx_Met l y (Cond.code y cc nL ret :: GT) rm (mx_P D cl tys av ws sz) (tx_QI (fun r (_ : Unit) => post r) (fun _ _ => True) px (va_A ws sz)) mc ms (va_A ws sz)
theorem mx_of {y : MethodName} {rm : Room} {av : List Value} {ws : va_W} {post : Int32 → Prop} {px : String → Prop} (hy : plainName y.cls = true) (hn : (lg_sl av).length ≤ nL)
    (body : ∀ (p : Program) (e : Env) (s : State) (m : MethodId) (below : List Frame) (meth : Method) (c : Code) (ls : Array Slot), mw_C p s m av.toArray meth c cc nL ret y.cls D cl tys → c.exceptionTable.toList = [] → tx_Z (va_A ws s.heap.size) s s.heap → (∀ q : Nat, va_A ws s.heap.size q → ∀ cell, s.heap[q]? = some cell → cell.vm.isStatics = false) → va_P D cl ws s.heap → va_D (va_A ws s.heap.size) ws → (∀ q : Nat, s.heap.size ≤ q → va_A ws s.heap.size q) → va_S (va_A ws s.heap.size) s.heap s.heap [] → lv_has ls nL (lv_args 0 av) →
      W p l e rm s m av.toArray below meth c s.heap [] 0 0 (tx_Q below (tx_QI (fun r (_ : Unit) => post r) (fun _ _ => True) px (va_A ws s.heap.size)) av.toArray s mc ms (va_A ws s.heap.size)) (F0 m 0 ls [])) :
    MX l D cl tys y cc nL ret rm av ws post px mc ms := by
  intro sz
  refine tx_ofW (cc := cc) (maxL := nL) (ret := ret) hy rfl ?_
  intro p e s m args below meth c s₁ B hml he hv
  obtain ⟨rfl, hsz, hP, hK, hD0, hZ⟩ := hv
  subst hsz
  rw [lg_entry_eq]
  refine body p e s m below meth c _ ⟨B.exec, B.bytes, hml, B.returns, B.notSynchronized, findClass_of_methodNamed B.named, fun w hw => atoms_spec (ws := Cond.code y cc nL ret :: GT) B.pre w (List.mem_cons_of_mem _ hw), hK⟩ he hZ (fun q hq cell hc => ?_) hP hD0.self (fun q h => Or.inr h) va_S.rf (lv_entry av hn)
  rcases hq with ⟨k, e9, h⟩ | h
  · have h9 := hP k _ h
    cases e9 with
    | inl a =>
      have h8 : s.heap[q]? = some (vp_cell a.1 a.2) := h9
      cases hc.symm.trans h8
      obtain ⟨a1, a2, a3⟩ := a
      rcases a3 with f | f | f | f | f <;> rfl
    | inr o =>
      obtain ⟨r9, -, cell9, g1, -, g3, -⟩ := h9
      cases hc.symm.trans g1
      rw [g3]; rfl
  · have := (Array.getElem?_eq_some_iff.mp hc).1
    omega
theorem mx_ret {w0 : va_W} {post : Int32 → Prop} {px : String → Prop} {v : Int32} {ty : FieldType} (hexec : p.tables.exec = Jvm.exec) (hb : c.code = cc) (hr : meth.sig.returnType = some ty) (hlocks : meth.locks = false)
    (hS : va_S (va_A w0 s.heap.size) s.heap H locs) (hmc : cells ≤ mc) (hms : slots ≤ ms) (hdg : decode cc pc = .ok (.ireturn, 1)) (hn : narrow ty (.int v) = .int v) (hq : post v) :
    W p l e R s m args below meth c H locs cells slots (tx_Q below (tx_QI (fun r (_ : Unit) => post r) (fun _ _ => True) px (va_A w0 s.heap.size)) args s mc ms (va_A w0 s.heap.size)) (F0 m pc ls [.int v]) := by
  refine tx_ret (W.widen hmc hms ?_)
  exact W.zret hexec hb hr hn (fun t ht hW => ⟨Or.inl ⟨v, (), rfl, hq, trivial⟩, hS.F ht⟩) hS.2.2 hdg hlocks
theorem mx_throw {w0 : va_W} {post : Int32 → Prop} {px : String → Prop} {cls : String} {names : List String} {ik ic : Nat} (hfl : l.flags = pinnedFlags ++ [noTraceFlag]) (C0 : mw_C p s m args meth c cc nL ret own D cl tys) (hZ : tx_Z (va_A w0 s.heap.size) s s.heap) (hlc : ∀ q : Nat, va_A w0 s.heap.size q → ∀ cell, s.heap[q]? = some cell → cell.vm.isStatics = false) (hout : c.exceptionTable.toList = [])
    (hcls : Bundle.fit cls = true) (hnames : ∀ n ∈ names, Bundle.fit n = true) (hat : ∀ w ∈ (Bundle.ownAtoms0 own ic cls names).filter tx_tab, w ∈ GT) (hk : Cond.classLink own ik cls ∈ GT) (hini : Cond.initialized cls ∈ GT)
    (hS : va_S (va_A w0 s.heap.size) s.heap H locs) (hsz : ls.size = nL) (hRf : names.length + 3 < R.frames) (hRl : (rest.map fun v => v.category).sum + (13 * (names.length + 1) + 42) ≤ R.locals) (hRc : cells + 1 ≤ R.cells) (hRs : slots + 6 ≤ R.slots) (hmc : cells + 1 ≤ mc) (hms : slots + 6 ≤ ms)
    (d0 : decode cc pc = .ok (.new ik, 3)) (d3 : decode cc (pc + 3) = .ok (.dup, 1)) (d4 : decode cc (pc + 4) = .ok (.invokespecial ic, 3)) (d7 : decode cc (pc + 7) = .ok (.athrow, 1)) (hq : px cls) :
    W p l e R s m args below meth c H locs cells slots (tx_Q below (tx_QI (fun r (_ : Unit) => post r) (fun _ _ => True) px (va_A w0 s.heap.size)) args s mc ms (va_A w0 s.heap.size)) (F0 m pc ls rest) := by
  obtain ⟨hx, hb, hml, hr, hlocks, hown, hts, hK⟩ := C0
  exact tx_throw hx hb hfl hown hcls hnames hZ (fun w hw => hts w (hat w hw)) (hts _ hk) (hts _ hini) hS hlc (hsz.trans hml.symm) hout hlocks hRf hRl hRc hRs hmc hms d0 d3 d4 d7 hS.2.2
    (fun q ce t hW hz hce hcv hcl hF => ⟨Or.inr ⟨q, cls, ce, rfl, hq, hce, hcv, hcl⟩, hF⟩)
end MXA
