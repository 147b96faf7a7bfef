/-! how a method over the one world that may throw goes on: it ends, it throws, it lets an exception pass -/
def rz_i (p : Program) (l : Launch) (e : Env) (R : Room) (s : State) (m : MethodId) (args : Array Value) (below : List Frame) (meth : Method) (c : Code) (cc : ByteArray) (ret : Option FieldType) (D : va_G) (cB cI cJ cG : ClassId) (a : Nat → Nat) (O : Nat → Int64) (A0 : Nat → Prop) (Q : State → Prop) (post : Option Value → (Nat → Int32) → (Nat → Nat → Int32) → Prop) : Prop :=
  ∀ (pc : Nat) (ls : Array Slot) (v : Int32) (I : Nat → Int32) (F : Nat → Nat → Int32) (H : Heap) (locs : List Loc), va_S A0 s.heap H locs → va_P D cls9 (WW a cB cI cJ cG I F O) H → va_D A0 (WW a cB cI cJ cG I F O) → decode cc pc = .ok (.ireturn, 1) → (∀ ty, ret = some ty → narrow ty (.int v) = .int v) → post (some (.int v)) I F → W p l e R s m args below meth c H locs 0 0 Q (F0 m pc ls [.int v])
def rz_x (p : Program) (l : Launch) (e : Env) (R : Room) (s : State) (m : MethodId) (args : Array Value) (below : List Frame) (meth : Method) (c : Code) (cc : ByteArray) (nL : Nat) (own : String) (D : va_G) (cB cI cJ cG : ClassId) (a : Nat → Nat) (O : Nat → Int64) (A0 : Nat → Prop) (Q : State → Prop) (X : String → (Nat → Int32) → (Nat → Nat → Int32) → Prop) : Prop :=
  ∀ (cls : String) (ik ic pc : Nat) (ls : Array Slot) (rest : List Value) (I : Nat → Int32) (F : Nat → Nat → Int32) (H : Heap) (locs : List Loc), Bundle.fit cls = true → (∀ w ∈ (Bundle.ownAtoms0 own ic cls ["java/lang/RuntimeException", "java/lang/Exception"]).filter tx_tab, w ∈ GT) → Cond.classLink own ik cls ∈ GT → Cond.initialized cls ∈ GT → va_S A0 s.heap H locs → va_P D cls9 (WW a cB cI cJ cG I F O) H → va_D A0 (WW a cB cI cJ cG I F O) → ls.size = nL → (rest.map fun v => v.category).sum + 81 ≤ R.locals →
    decode cc pc = .ok (.new ik, 3) → decode cc (pc + 3) = .ok (.dup, 1) → decode cc (pc + 4) = .ok (.invokespecial ic, 3) → decode cc (pc + 7) = .ok (.athrow, 1) → X cls I F → W p l e R s m args below meth c H locs 0 0 Q (F0 m pc ls rest)
def rz_l (p : Program) (l : Launch) (e : Env) (R : Room) (s : State) (m : MethodId) (args : Array Value) (below : List Frame) (meth : Method) (c : Code) (D : va_G) (cB cI cJ cG : ClassId) (a : Nat → Nat) (O : Nat → Int64) (A0 : Nat → Prop) (Q : State → Prop) (X : String → (Nat → Int32) → (Nat → Nat → Int32) → Prop) : Prop :=
  ∀ (q : Addr) (E : String) (ce : Cell) (pc : Nat) (ls : Array Slot) (rest : List Value) (I : Nat → Int32) (F : Nat → Nat → Int32) (H : Heap) (locs : List Loc), X E I F → H[q]? = some ce → ce.vm = .none → s.vm.findClass E = some ce.cls → va_P D cls9 (WW a cB cI cJ cG I F O) H → va_D A0 (WW a cB cI cJ cG I F O) → va_S A0 s.heap H locs → tx_W p l e R s m args below meth c H locs (0 + 1) (0 + 6) Q (F0 m pc ls rest) q
theorem mzw_of {l : Launch} {D : va_G} {cB cI cJ cG : ClassId} {a : Nat → Nat} {O : Nat → Int64} {y : MethodName} {cc : ByteArray} {nL : Nat} {ty : FieldType} {lev : Nat} {av : List Value} {I : Nat → Int32} {F : Nat → Nat → Int32} {post : Option Value → (Nat → Int32) → (Nat → Nat → Int32) → Prop} {X : String → (Nat → Int32) → (Nat → Nat → Int32) → Prop} (hfl : l.flags = pinnedFlags ++ [noTraceFlag]) (hy : plainName y.cls = true) (hn : (lg_sl av).length ≤ nL) (hlev : 5 < lev)
    (body : ∀ (p : Program) (e : Env) (s : State) (m : MethodId) (below : List Frame) (meth : Method) (c : Code) (ls : Array Slot) (A0 : Nat → Prop) (Q : State → Prop), mw_C p s m av.toArray meth c cc nL (some ty) y.cls D cls9 (ty9 cB cI cJ cG) → va_P D cls9 (WW a cB cI cJ cG I F O) s.heap → va_D A0 (WW a cB cI cJ cG I F O) → (∀ q : Nat, s.heap.size ≤ q → A0 q) → va_S A0 s.heap s.heap [] → tx_Z A0 s s.heap → lv_has ls nL (lv_args 0 av) →
      rz_i p l e (rm9 lev 1 6) s m av.toArray below meth c cc (some ty) D cB cI cJ cG a O A0 Q post → rz_x p l e (rm9 lev 1 6) s m av.toArray below meth c cc nL y.cls D cB cI cJ cG a O A0 Q X → rz_l p l e (rm9 lev 1 6) s m av.toArray below meth c D cB cI cJ cG a O A0 Q X →
      W p l e (rm9 lev 1 6) s m av.toArray below meth c s.heap [] 0 0 Q (F0 m 0 ls [])) :
    MZW l D cB cI cJ cG a O y cc nL (some ty) lev av I F post X := by
  refine mz_of hy hn ?_
  intro p e s m below meth c ls C0 hout hZ hP hD hA hS hl
  have C1 := C0
  obtain ⟨hx, hb, hml, hr, hlocks, hown, hts, hK⟩ := C1
  refine body p e s m below meth c ls _ _ C0 hP hD hA hS hZ hl ?_ ?_ ?_
  · intro pc ls v I' F' H locs hS hP hD hdg hn hq
    exact mz_ret hx hb hr hlocks hS hP hD (by decide) (by decide) hdg (hn ty rfl) ⟨I', F', rfl, hq⟩
  · intro cls ik ic pc ls rest I' F' H locs h1 h2 h3 h4 hS hP hD hsz hRl d0 d3 d4 d7 hq
    exact mz_throw (names := ["java/lang/RuntimeException", "java/lang/Exception"]) hfl C0 hZ hout h1 (by decide +kernel) h2 h3 h4 hS hP hD hsz hlev hRl (Nat.le_of_ble_eq_true rfl) (Nat.le_of_ble_eq_true rfl) (by decide) (by decide) d0 d3 d4 d7 ⟨I', F', rfl, hq⟩
  · intro q E ce pc ls rest I' F' H locs hq hce hcv hcl hP hD hS
    exact tx_leave hout hlocks hS.2.2 (fun t ht hW => ⟨Or.inr ⟨q, E, ce, WW a cB cI cJ cG I' F' O, rfl, ⟨I', F', rfl, hq⟩, by rw [ht]; exact hce, hcv, hcl, by rw [ht]; exact hP, hD⟩, hS.F ht⟩)
theorem rz_Z {A0 : Nat → Prop} {s : State} {H : Heap} {locs : List Loc} {w1 : va_W} (hZ : tx_Z A0 s s.heap) (hS : va_S A0 s.heap H locs) (hD : va_D A0 w1) : tx_Z (va_A w1 H.size) s H :=
  (hZ.kept (H1 := H) (fun a h1 h2 => hS.2.1 a h1 h2)).narrow (fun q hq h => by
    rcases h with ⟨k, e9, h⟩ | h
    · exact hD.2 k _ h
    · omega)
