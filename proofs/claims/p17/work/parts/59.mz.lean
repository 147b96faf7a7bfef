/-! CONTRACTS THAT MAY THROW, the world behind them known either way -/
section MZA
variable {p : Program} {l : Launch} {e : Env} {R : Room} {s : State} {m : MethodId} {args : Array Value} {below : List Frame} {meth : Method} {c : Code} {H : Heap} {locs : List Loc} {cells slots : Nat} {Q : State → Prop}
variable {D : va_G} {cl : List vw_C} {tys : List (ClassId × FieldType)} {cc : ByteArray} {pc nL mc ms : Nat} {ls : Array Slot} {rest : List Value} {own : String} {ret : Option FieldType}
def mz_Q (D : va_G) (cl : List vw_C) (ws : va_W) (sz : Nat) (post : Option Value → va_W → Prop) (px : String → va_W → Prop) : Array Value → State → Outcome → State → Prop := fun _ st oc t =>
  ((∃ (v : Option Value) (w2 : va_W), oc = .returned v ∧ post v w2 ∧ va_P D cl w2 t.heap ∧ va_D (va_A ws sz) w2) ∨ (∃ (q : Addr) (E : String) (ce : Cell) (w2 : va_W), oc = .threw q ∧ px E w2 ∧ t.heap[q]? = some ce ∧ ce.vm = .none ∧ st.vm.findClass E = some ce.cls ∧ va_P D cl w2 t.heap ∧ va_D (va_A ws sz) w2)) ∧ va_F (va_A ws sz) st t
def MZ (l : Launch) (D : va_G) (cl : List vw_C) (tys : List (ClassId × FieldType)) (y : MethodName) (cc : ByteArray) (nL : Nat) (ret : Option FieldType) (rm : Room) (av : List Value) (ws : va_W) (post : Option Value → va_W → Prop) (px : String → va_W → Prop) (mc ms : Nat) : Prop :=
  ∀ sz : Nat, tx_Met l y (Cond.code y cc nL ret :: GT) rm (mx_P D cl tys av ws sz) (mz_Q D cl ws sz post px) mc ms (va_A ws sz)
theorem mz_of {y : MethodName} {rm : Room} {av : List Value} {ws : va_W} {post : Option Value → va_W → Prop} {px : String → va_W → Prop} (hy : plainName y.cls = true) (hn : (lg_sl av).length ≤ nL)
    (body : ∀ (p : Program) (e : Env) (s : State) (m : MethodId) (below : List Frame) (meth : Method) (c : Code) (ls : Array Slot), mw_C p s m av.toArray meth c cc nL ret y.cls D cl tys → c.exceptionTable.toList = [] → tx_Z (va_A ws s.heap.size) s s.heap → va_P D cl ws s.heap → va_D (va_A ws s.heap.size) ws → (∀ q : Nat, s.heap.size ≤ q → va_A ws s.heap.size q) → va_S (va_A ws s.heap.size) s.heap s.heap [] → lv_has ls nL (lv_args 0 av) →
      W p l e rm s m av.toArray below meth c s.heap [] 0 0 (tx_Q below (mz_Q D cl ws s.heap.size post px) av.toArray s mc ms (va_A ws s.heap.size)) (F0 m 0 ls [])) :
    MZ l D cl tys y cc nL ret rm av ws post px mc ms := by
  intro sz
  refine tx_ofW (cc := cc) (maxL := nL) (ret := ret) hy rfl ?_
  intro p e s m args below meth c s₁ B hml he hv
  obtain ⟨rfl, hsz, hP, hK, hD0, hZ⟩ := hv
  subst hsz
  rw [lg_entry_eq]
  exact body p e s m below meth c _ ⟨B.exec, B.bytes, hml, B.returns, B.notSynchronized, findClass_of_methodNamed B.named, fun w hw => atoms_spec (ws := Cond.code y cc nL ret :: GT) B.pre w (List.mem_cons_of_mem _ hw), hK⟩ he hZ hP hD0.self (fun q h => Or.inr h) va_S.rf (lv_entry av hn)
theorem mz_ret {w0 w2 : va_W} {post : Option Value → va_W → Prop} {px : String → va_W → Prop} {v : Int32} {ty : FieldType} (hexec : p.tables.exec = Jvm.exec) (hb : c.code = cc) (hr : meth.sig.returnType = some ty) (hlocks : meth.locks = false)
    (hS : va_S (va_A w0 s.heap.size) s.heap H locs) (hP : va_P D cl w2 H) (hD : va_D (va_A w0 s.heap.size) w2) (hmc : cells ≤ mc) (hms : slots ≤ ms) (hdg : decode cc pc = .ok (.ireturn, 1)) (hn : narrow ty (.int v) = .int v) (hq : post (some (.int v)) w2) :
    W p l e R s m args below meth c H locs cells slots (tx_Q below (mz_Q D cl w0 s.heap.size post px) args s mc ms (va_A w0 s.heap.size)) (F0 m pc ls [.int v]) := by
  refine tx_ret (W.widen hmc hms ?_)
  exact W.zret hexec hb hr hn (fun t ht hW => ⟨Or.inl ⟨some (.int v), w2, rfl, hq, by rw [ht]; exact hP, hD⟩, hS.F ht⟩) hS.2.2 hdg hlocks
theorem mz_throw {w0 w2 : va_W} {post : Option Value → va_W → Prop} {px : String → va_W → Prop} {cls : String} {names : List String} {ik ic : Nat} (hfl : l.flags = pinnedFlags ++ [noTraceFlag]) (C0 : mw_C p s m args meth c cc nL ret own D cl tys) (hZ : tx_Z (va_A w0 s.heap.size) s s.heap) (hout : c.exceptionTable.toList = [])
    (hcls : Bundle.fit cls = true) (hnames : ∀ n ∈ names, Bundle.fit n = true) (hat : ∀ w ∈ (Bundle.ownAtoms0 own ic cls names).filter tx_tab, w ∈ GT) (hk : Cond.classLink own ik cls ∈ GT) (hini : Cond.initialized cls ∈ GT)
    (hS : va_S (va_A w0 s.heap.size) s.heap H locs) (hP : va_P D cl w2 H) (hD : va_D (va_A w0 s.heap.size) w2) (hsz : ls.size = nL) (hRf : names.length + 3 < R.frames) (hRl : (rest.map fun v => v.category).sum + (13 * (names.length + 1) + 42) ≤ R.locals) (hRc : cells + 1 ≤ R.cells) (hRs : slots + 6 ≤ R.slots) (hmc : cells + 1 ≤ mc) (hms : slots + 6 ≤ ms)
    (d0 : decode cc pc = .ok (.new ik, 3)) (d3 : decode cc (pc + 3) = .ok (.dup, 1)) (d4 : decode cc (pc + 4) = .ok (.invokespecial ic, 3)) (d7 : decode cc (pc + 7) = .ok (.athrow, 1)) (hq : px cls w2) :
    W p l e R s m args below meth c H locs cells slots (tx_Q below (mz_Q D cl w0 s.heap.size post px) args s mc ms (va_A w0 s.heap.size)) (F0 m pc ls rest) := by
  obtain ⟨hx, hb, hml, hr, hlocks, hown, hts, hK⟩ := C0
  refine rb_throw hx hb hfl hown hcls hnames hZ (fun w hw U hU => gt_pay (hat w hw) (hts w (hat w hw)) args U hU) (fun U hU => gt_pay hk (hts _ hk) args U hU) (fun U hU => gt_pay hini (hts _ hini) args U hU) hS (hsz.trans hml.symm) hout hlocks hRf hRl hRc hRs hmc hms d0 d3 d4 d7 hS.2.2 ?_
  intro q ce t hW hz hce hcv hcl hold hF
  refine ⟨Or.inr ⟨q, cls, ce, w2, rfl, hq, hce, hcv, hcl, hP.kept (fun k r hk9 => hold r.1 ?_), hD⟩, hF⟩
  have h9 := hP k r hk9
  obtain ⟨r1, r2⟩ := r
  cases r2 with
  | inl a =>
    have h8 : H[r1]? = some (vp_cell a.1 a.2) := h9
    exact (Array.getElem?_eq_some_iff.mp h8).1
  | inr o =>
    obtain ⟨r9, -, cell9, g1, -⟩ := h9
    exact (Array.getElem?_eq_some_iff.mp g1).1
theorem mz_back {A0 : Nat → Prop} {H0 : Heap} {w1 : va_W} {post : Option Value → va_W → Prop} {px : String → va_W → Prop} {a : Array Value} {st0 : List Value} (hr : tx_Run p l e R s m args below meth c H locs cells slots mc ms (F0 m pc ls st0) rest (mz_Q D cl w1 H.size post px a) (va_A w1 H.size))
    (hS : va_S A0 H0 H locs) (hD : va_D A0 w1) (hA : ∀ q : Nat, H0.size ≤ q → A0 q)
    (kx : ∀ (q : Addr) (E : String) (ce : Cell) (w2 : va_W) (H1 : Heap) (locs1 : List Loc), px E w2 → H1[q]? = some ce → ce.vm = .none → s.vm.findClass E = some ce.cls → va_P D cl w2 H1 → va_D A0 w2 → va_S A0 H0 H1 locs1 → tx_W p l e R s m args below meth c H1 locs1 (cells + mc) (slots + ms) Q (F0 m pc ls rest) q)
    (kk : ∀ (v : Option Value) (w2 : va_W) (H1 : Heap) (locs1 : List Loc), post v w2 → va_P D cl w2 H1 → va_D A0 w2 → va_S A0 H0 H1 locs1 → W p l e R s m args below meth c H1 locs1 (cells + mc) (slots + ms) Q (F0 m (pc + 3) ls (v.toList ++ rest))) :
    W p l e R s m args below meth c H locs cells slots Q (F0 m pc ls st0) := by
  have hF : ∀ q : Nat, va_A w1 H.size q → A0 q := by
    intro q h
    rcases h with ⟨k, e9, h⟩ | h
    · exact hD.2 k _ h
    · exact hA q (Nat.le_trans hS.1 h)
  intro T hT X
  obtain ⟨o, st₀, t, T', L, h0, h0v, X', hL, e1, e2, ⟨hq, hz, hk⟩, hor⟩ := hr T hT X
  rw [h0] at hz hk
  have hS1 : va_S A0 H0 T'.heap (locs ++ L) := ⟨Nat.le_trans hS.1 (by rw [e1]; exact hz), fun q h1 h2 => by rw [e1, hk q (Nat.lt_of_lt_of_le h1 hS.1) (fun z => h2 (hF q z))]; exact hS.2.1 q h1 h2, fun q hq => by
      rcases List.mem_append.mp hq with h | h
      · exact hS.2.2 q h
      · exact hF _ (hL q h)⟩
  rcases hq with ⟨v, w2, rfl, hp, hP2, hD2⟩ | ⟨q, E, ce, w2, rfl, hp, hce, hcv, hcl, hP2, hD2⟩
  · rcases hor with ⟨v', hv, st⟩ | ⟨x, hv, st⟩
    · cases hv
      obtain ⟨t2, a1, b1⟩ := kk v w2 T'.heap (locs ++ L) hp (by rw [e1]; exact hP2) (hD2.weaken (fun _ q _ h => hF q.1 h)) hS1 T' rfl X'
      exact ⟨t2, st t2 a1, b1⟩
    · cases hv
  · rcases hor with ⟨v', hv, st⟩ | ⟨x, hv, st⟩
    · cases hv
    · cases hv
      obtain ⟨t2, a1, b1⟩ := kx q E ce w2 T'.heap (locs ++ L) hp (by rw [e1]; exact hce) hcv (by rw [← h0v.findClass]; exact hcl) (by rw [e1]; exact hP2) (hD2.weaken (fun _ q _ h => hF q.1 h)) hS1 T' rfl X'
      exact ⟨t2, st t2 a1, b1⟩
/-- a call of such a method -/
theorem mz_cV {A0 : Nat → Prop} {H0 : Heap} {y : MethodName} {cy : ByteArray} {ny idx : Nat} {rm : Room} {As st0 : List Value} {w1 : va_W} {post : Option Value → va_W → Prop} {px : String → va_W → Prop} {ry : Option FieldType} {b ci k : Nat} {q : vw_C} {fs : List Value} (C0 : mw_C p s m args meth c cc nL ret own D cl tys) (hM : MZ l D cl tys y cy ny ry rm (.ref b :: As) w1 post px mc ms) (hcw : Cond.code y cy ny ry ∈ GT) (hini : Cond.initialized y.cls ∈ GT) (hl : Cond.methodLink own idx y ∈ GT) (hin : Cond.instanceMethod y ∈ GT) (hse : Cond.selects q.1 y y ∈ GT)
    (hd : y.cls ≠ "java/lang/invoke/MethodHandle" ∧ y.cls ≠ "java/lang/invoke/VarHandle" ∧ (parseMethodDescriptor y.desc).map (fun d => d.parameters.length) = some As.length) (hR : rm.frames + 1 ≤ R.frames ∧ 8 + (ny + 11) + rm.locals ≤ R.locals) (hrc : rm.cells = mc) (hrs : rm.slots = ms) (hZ : tx_Z (va_A w1 H.size) s H) (hP : va_P D cl w1 H) (hD : va_D A0 w1) (hS : va_S A0 H0 H locs) (hA : ∀ q : Nat, H0.size ≤ q → A0 q) (hc : cl[ci]? = some q) (he : w1[k]? = some (b, .inr (ci, fs))) (hsz : ls.size = nL) (hW : (rest.map fun v => v.category).sum ≤ 8) (hst : st0 = As.reverse ++ .ref b :: rest) (hdg : decode cc pc = .ok (.invokevirtual idx, 3)) (hf : cells + mc ≤ R.cells ∧ slots + ms ≤ R.slots)
    (kx : ∀ (q : Addr) (E : String) (ce : Cell) (w2 : va_W) (H1 : Heap) (locs1 : List Loc), px E w2 → H1[q]? = some ce → ce.vm = .none → s.vm.findClass E = some ce.cls → va_P D cl w2 H1 → va_D A0 w2 → va_S A0 H0 H1 locs1 → tx_W p l e R s m args below meth c H1 locs1 (cells + mc) (slots + ms) Q (F0 m pc ls rest) q)
    (kk : ∀ (v : Option Value) (w2 : va_W) (H1 : Heap) (locs1 : List Loc), post v w2 → va_P D cl w2 H1 → va_D A0 w2 → va_S A0 H0 H1 locs1 → W p l e R s m args below meth c H1 locs1 (cells + mc) (slots + ms) Q (F0 m (pc + 3) ls (v.toList ++ rest))) : W p l e R s m args below meth c H locs cells slots Q (F0 m pc ls st0) := by
  obtain ⟨hx, hb, hml, hr, hlocks, hown, hts, hK⟩ := C0
  have pay : ∀ w ∈ (Cond.code y cy ny ry :: GT), ∀ (a' : Array Value) (U : State), s.WarmedH U.vm → w.before a' U = true := fun w hw a' U hU => (List.mem_cons.mp hw).elim (fun e9 => by rw [e9]; exact gt_pay hcw (hts _ hcw) a' U hU) (fun h9 => gt_pay h9 (hts _ h9) a' U hU)
  have hlen : ∀ sig, parseMethodDescriptor y.desc = some sig → As.length = sig.parameters.length := fun sig h => by
    have h2 := hd.2.2
    rw [h] at h2
    exact (Option.some.inj h2).symm
  subst hst
  exact mz_back (tx_virt (Ts := GT) (own := own) (C := q.1) ⟨hx, hb, hml, hown, hts⟩ (hM H.size) ⟨⟨hrc, hrs, hR.1, hR.2, pay, List.mem_cons_self, hts _ hcw, hts _ hini, ⟨hd.1, hd.2.1⟩, hlen, hts _ hl⟩, hts _ hin, hts _ hse⟩ ⟨mx_blind, va_recv hK hP hc he, fun U hU hW => ⟨rfl, by rw [hU], by rw [hU]; exact hP, va_K.moved hW.alike hK, hD.weaken (fun _ _ _ _ => trivial), by rw [hU]; exact hZ.moved hW.alike⟩⟩ rfl rfl hsz rfl (lv_room hW) hdg hf) hS hD hA kx kk
end MZA
/-- over the one world -/
def MZW (l : Launch) (D : va_G) (cB cI cJ cG : ClassId) (a : Nat → Nat) (O : Nat → Int64) (y : MethodName) (cc : ByteArray) (nL : Nat) (ret : Option FieldType) (lev : Nat) (av : List Value) (I : Nat → Int32) (F : Nat → Nat → Int32) (Q : Option Value → (Nat → Int32) → (Nat → Nat → Int32) → Prop) (X : String → (Nat → Int32) → (Nat → Nat → Int32) → Prop) : Prop :=
  MZ l D cls9 (ty9 cB cI cJ cG) y cc nL ret (rm9 lev 1 6) av (WW a cB cI cJ cG I F O) (fun v w2 => ∃ (I' : Nat → Int32) (F' : Nat → Nat → Int32), w2 = WW a cB cI cJ cG I' F' O ∧ Q v I' F') (fun E w2 => ∃ (I' : Nat → Int32) (F' : Nat → Nat → Int32), w2 = WW a cB cI cJ cG I' F' O ∧ X E I' F') 1 6
