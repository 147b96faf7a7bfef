theorem fm_of {α : Type} {is : List Nat} {ws w1 : List α} (h : is.map (fun i => ws[i]?) = w1.map some) : is.filterMap (fun i => ws[i]?) = w1 := by
  induction is generalizing w1 with
  | nil => cases w1 with
    | nil => rfl
    | cons a t => cases h
  | cons i is ih => cases w1 with
    | nil => cases h
    | cons a t =>
      simp only [List.map_cons, List.cons.injEq] at h
      rw [List.filterMap_cons, h.1]
      simp only
      rw [ih h.2]
section MWF
variable {p : Program} {l : Launch} {e : Env} {R : Room} {s : State} {m : MethodId} {args : Array Value} {below : List Frame} {meth : Method} {c : Code} {H : Heap} {locs : List Loc} {cells slots : Nat} {Q : State → Prop}
variable {D : va_G} {cl : List vw_C} {tys : List (ClassId × FieldType)} {cc : ByteArray} {pc nL mc ms : Nat} {ls : Array Slot} {rest : List Value} {own : String} {ret : Option FieldType}
/-- behind a call that sees a part of the world: the rest is as it was -/
theorem mw_backF {A0 : Nat → Prop} {H0 : Heap} {ws w1 wr : va_W} {post : Option Value → va_W → Prop} {a : Array Value} {st0 : List Value} (hr : va_Run p l e R s m args below meth c H locs cells slots mc ms (F0 m pc ls st0) rest (mw_Q D cl w1 H.size post a) (va_A w1 H.size))
    (hP : va_P D cl ws H) (hD : va_D A0 ws) (hS : va_S A0 H0 H locs) (hA : ∀ q : Nat, H0.size ≤ q → A0 q) (isC isR : List Nat) (hC : isC.map (fun i => ws[i]?) = w1.map some) (hR : isR.map (fun i => ws[i]?) = wr.map some) (hn : va_nd isR = true) (hdis : ∀ i ∈ isR, i ∉ isC)
    (kk : ∀ (v : Option Value) (w2 : va_W) (H1 : Heap) (locs1 : List Loc), post v w2 → va_P D cl (wr ++ w2) H1 → va_D A0 (wr ++ w2) → va_S A0 H0 H1 locs1 → W p l e R s m args below meth c H1 locs1 (cells + mc) (slots + ms) Q (F0 m (pc + 3) ls (v.toList ++ rest))) :
    W p l e R s m args below meth c H locs cells slots Q (F0 m pc ls st0) := by
  have hF : ∀ q : Nat, va_A w1 H.size q → A0 q := va_free (wc := w1) hD hS hA isC hC
  intro T hT X
  obtain ⟨v, st₀, t, T', L, h0, X', hL, e1, e2, ⟨⟨v2, w2, hv, hp, hP2, hD2⟩, hz, hk⟩, st⟩ := hr T hT X
  cases hv
  rw [h0] at hz hk
  obtain ⟨j1, j2⟩ := va_join (wc := w1) (wr := wr) (w1 := w2) (H1 := T'.heap) hP hD isC isR hC hR hn hdis (fun q h1 h2 => by rw [e1]; exact hk q h1 h2) hF (by rw [e1]; exact hP2) hD2
  obtain ⟨t2, a1, b1⟩ := kk v w2 T'.heap (locs ++ L) hp j1 j2
    ⟨Nat.le_trans hS.1 (by rw [e1]; exact hz), fun q h1 h2 => by rw [e1, hk q (Nat.lt_of_lt_of_le h1 hS.1) (fun z => h2 (hF q z))]; exact hS.2.1 q h1 h2, fun q hq => by
      rcases List.mem_append.mp hq with h | h
      · exact hS.2.2 q h
      · exact hF _ (hL q h)⟩ T' rfl X'
  exact ⟨t2, st t2 a1, b1⟩
theorem mf_cV {A0 : Nat → Prop} {H0 : Heap} {y : MethodName} {cy : ByteArray} {ny idx : Nat} {rm : Room} {As st0 : List Value} {ws w1 wr : va_W} {post : Option Value → va_W → Prop} {ry : Option FieldType} {b ci k : Nat} {q : vw_C} {fs : List Value} (C0 : mw_C p s m args meth c cc nL ret own D cl tys) (hM : MW l D cl tys y cy ny ry rm (.ref b :: As) w1 post mc ms) (hcw : Cond.code y cy ny ry ∈ GT) (hini : Cond.initialized y.cls ∈ GT) (hl : Cond.methodLink own idx y ∈ GT) (hin : Cond.instanceMethod y ∈ GT) (hse : Cond.selects q.1 y y ∈ GT)
    (hd : y.cls ≠ "java/lang/invoke/MethodHandle" ∧ y.cls ≠ "java/lang/invoke/VarHandle" ∧ (parseMethodDescriptor y.desc).map (fun d => d.parameters.length) = some As.length) (hR : rm.frames + 1 ≤ R.frames ∧ 8 + (ny + 11) + rm.locals ≤ R.locals) (hrc : rm.cells = mc) (hrs : rm.slots = ms) (hP0 : va_P D cl ws H) (hD0 : va_D A0 ws) (hS : va_S A0 H0 H locs) (hA : ∀ q : Nat, H0.size ≤ q → A0 q) (isC isR : List Nat) (hC : isC.map (fun i => ws[i]?) = w1.map some) (hR9 : isR.map (fun i => ws[i]?) = wr.map some) (hnC : va_nd isC = true) (hn : va_nd isR = true) (hdis : ∀ i ∈ isR, i ∉ isC) (hc : cl[ci]? = some q) (he : w1[k]? = some (b, .inr (ci, fs))) (hsz : ls.size = nL) (hW : (rest.map fun v => v.category).sum ≤ 8) (hst : st0 = As.reverse ++ .ref b :: rest) (hdg : decode cc pc = .ok (.invokevirtual idx, 3)) (hf : cells + mc ≤ R.cells ∧ slots + ms ≤ R.slots)
    (kk : ∀ (v : Option Value) (w2 : va_W) (H1 : Heap) (locs1 : List Loc), post v w2 → va_P D cl (wr ++ w2) H1 → va_D A0 (wr ++ w2) → va_S A0 H0 H1 locs1 → W p l e R s m args below meth c H1 locs1 (cells + mc) (slots + ms) Q (F0 m (pc + 3) ls (v.toList ++ rest))) : W p l e R s m args below meth c H locs cells slots Q (F0 m pc ls st0) := by
  obtain ⟨hx, hb, hml, hr, hlocks, hown, hts, hK⟩ := C0
  have pay : ∀ w ∈ (Cond.code y cy ny ry :: GT), ∀ (a' : Array Value) (U : State), s.WarmedH U.vm → w.before a' U = true := fun w hw a' U hU => (List.mem_cons.mp hw).elim (fun e9 => by rw [e9]; exact gt_pay hcw (hts _ hcw) a' U hU) (fun h9 => gt_pay h9 (hts _ h9) a' U hU)
  have hlen : ∀ sig, parseMethodDescriptor y.desc = some sig → As.length = sig.parameters.length := fun sig h => by
    have h2 := hd.2.2
    rw [h] at h2
    exact (Option.some.inj h2).symm
  subst hst
  have hP : va_P D cl w1 H := hP0.sub isC (by rw [fm_of hC])
  have hD : va_D A0 w1 := hD0.sub isC hnC hC
  exact mw_backF (va_runV (Ts := GT) (own := own) ⟨hx, hb, hml, hown, hts⟩ (hM H.size) ⟨⟨hrc, hrs, hR.1, hR.2, pay, List.mem_cons_self, hts _ hcw, hts _ hini, ⟨hd.1, hd.2.1⟩, hlen, hts _ hl⟩, hts _ hin, hts _ hse⟩ (mw_preV hK hP hD hc he) rfl rfl hsz rfl (lv_room hW) hdg hf) hP0 hD0 hS hA isC isR hC hR9 hn hdis kk
theorem mf_cVN {A0 : Nat → Prop} {H0 : Heap} {y : MethodName} {cy : ByteArray} {ny idx : Nat} {rm : Room} {As st0 : List Value} {ws w1 wr : va_W} {post : Option Value → va_W → Prop} {host : String} {ry : Option FieldType} {b ci k : Nat} {q : vw_C} {fs : List Value} (C0 : mw_C p s m args meth c cc nL ret own D cl tys) (hM : MW l D cl tys y cy ny ry rm (.ref b :: As) w1 post mc ms) (hcw : Cond.code y cy ny ry ∈ GT) (hini : Cond.initialized y.cls ∈ GT) (hl : Cond.methodLinkNest own idx y host ∈ GT) (hin : Cond.instanceMethod y ∈ GT) (hse : Cond.selects q.1 y y ∈ GT)
    (hd : y.cls ≠ "java/lang/invoke/MethodHandle" ∧ y.cls ≠ "java/lang/invoke/VarHandle" ∧ (parseMethodDescriptor y.desc).map (fun d => d.parameters.length) = some As.length) (hR : rm.frames + 1 ≤ R.frames ∧ 8 + (ny + 11) + rm.locals ≤ R.locals) (hrc : rm.cells = mc) (hrs : rm.slots = ms) (hP0 : va_P D cl ws H) (hD0 : va_D A0 ws) (hS : va_S A0 H0 H locs) (hA : ∀ q : Nat, H0.size ≤ q → A0 q) (isC isR : List Nat) (hC : isC.map (fun i => ws[i]?) = w1.map some) (hR9 : isR.map (fun i => ws[i]?) = wr.map some) (hnC : va_nd isC = true) (hn : va_nd isR = true) (hdis : ∀ i ∈ isR, i ∉ isC) (hc : cl[ci]? = some q) (he : w1[k]? = some (b, .inr (ci, fs))) (hsz : ls.size = nL) (hW : (rest.map fun v => v.category).sum ≤ 8) (hst : st0 = As.reverse ++ .ref b :: rest) (hdg : decode cc pc = .ok (.invokevirtual idx, 3)) (hf : cells + mc ≤ R.cells ∧ slots + ms ≤ R.slots)
    (kk : ∀ (v : Option Value) (w2 : va_W) (H1 : Heap) (locs1 : List Loc), post v w2 → va_P D cl (wr ++ w2) H1 → va_D A0 (wr ++ w2) → va_S A0 H0 H1 locs1 → W p l e R s m args below meth c H1 locs1 (cells + mc) (slots + ms) Q (F0 m (pc + 3) ls (v.toList ++ rest))) : W p l e R s m args below meth c H locs cells slots Q (F0 m pc ls st0) := by
  obtain ⟨hx, hb, hml, hr, hlocks, hown, hts, hK⟩ := C0
  have pay : ∀ w ∈ (Cond.code y cy ny ry :: GT), ∀ (a' : Array Value) (U : State), s.WarmedH U.vm → w.before a' U = true := fun w hw a' U hU => (List.mem_cons.mp hw).elim (fun e9 => by rw [e9]; exact gt_pay hcw (hts _ hcw) a' U hU) (fun h9 => gt_pay h9 (hts _ h9) a' U hU)
  have hlen : ∀ sig, parseMethodDescriptor y.desc = some sig → As.length = sig.parameters.length := fun sig h => by
    have h2 := hd.2.2
    rw [h] at h2
    exact (Option.some.inj h2).symm
  subst hst
  have hP : va_P D cl w1 H := hP0.sub isC (by rw [fm_of hC])
  have hD : va_D A0 w1 := hD0.sub isC hnC hC
  exact mw_backF (va_runVN (Ts := GT) (own := own) ⟨hx, hb, hml, hown, hts⟩ (hM H.size) ⟨⟨⟨hrc, hrs, hR.1, hR.2, pay, List.mem_cons_self⟩, hts _ hcw, hts _ hini, ⟨hd.1, hd.2.1⟩, hlen, hts _ hl⟩, hts _ hin, hts _ hse⟩ (mw_preV hK hP hD hc he) rfl rfl hsz rfl (lv_room hW) hdg hf) hP0 hD0 hS hA isC isR hC hR9 hn hdis kk
theorem mf_cS {A0 : Nat → Prop} {H0 : Heap} {y : MethodName} {cy : ByteArray} {ny idx : Nat} {rm : Room} {As st0 : List Value} {ws w1 wr : va_W} {post : Option Value → va_W → Prop} {ry : Option FieldType} (C0 : mw_C p s m args meth c cc nL ret own D cl tys) (hM : MW l D cl tys y cy ny ry rm As w1 post mc ms) (hcw : Cond.code y cy ny ry ∈ GT) (hini : Cond.initialized y.cls ∈ GT) (hl : Cond.methodLink own idx y ∈ GT) (hstt : Cond.static y ∈ GT)
    (hd : y.cls ≠ "java/lang/invoke/MethodHandle" ∧ y.cls ≠ "java/lang/invoke/VarHandle" ∧ (parseMethodDescriptor y.desc).map (fun d => d.parameters.length) = some As.length) (hR : rm.frames + 1 ≤ R.frames ∧ 8 + (ny + 11) + rm.locals ≤ R.locals) (hrc : rm.cells = mc) (hrs : rm.slots = ms) (hP0 : va_P D cl ws H) (hD0 : va_D A0 ws) (hS : va_S A0 H0 H locs) (hA : ∀ q : Nat, H0.size ≤ q → A0 q) (isC isR : List Nat) (hC : isC.map (fun i => ws[i]?) = w1.map some) (hR9 : isR.map (fun i => ws[i]?) = wr.map some) (hnC : va_nd isC = true) (hn : va_nd isR = true) (hdis : ∀ i ∈ isR, i ∉ isC) (hsz : ls.size = nL) (hW : (rest.map fun v => v.category).sum ≤ 8) (hst : st0 = As.reverse ++ rest) (hdg : decode cc pc = .ok (.invokestatic idx, 3)) (hf : cells + mc ≤ R.cells ∧ slots + ms ≤ R.slots)
    (kk : ∀ (v : Option Value) (w2 : va_W) (H1 : Heap) (locs1 : List Loc), post v w2 → va_P D cl (wr ++ w2) H1 → va_D A0 (wr ++ w2) → va_S A0 H0 H1 locs1 → W p l e R s m args below meth c H1 locs1 (cells + mc) (slots + ms) Q (F0 m (pc + 3) ls (v.toList ++ rest))) : W p l e R s m args below meth c H locs cells slots Q (F0 m pc ls st0) := by
  obtain ⟨hx, hb, hml, hr, hlocks, hown, hts, hK⟩ := C0
  have pay : ∀ w ∈ (Cond.code y cy ny ry :: GT), ∀ (a' : Array Value) (U : State), s.WarmedH U.vm → w.before a' U = true := fun w hw a' U hU => (List.mem_cons.mp hw).elim (fun e9 => by rw [e9]; exact gt_pay hcw (hts _ hcw) a' U hU) (fun h9 => gt_pay h9 (hts _ h9) a' U hU)
  have hlen : ∀ sig, parseMethodDescriptor y.desc = some sig → As.length = sig.parameters.length := fun sig h => by
    have h2 := hd.2.2
    rw [h] at h2
    exact (Option.some.inj h2).symm
  subst hst
  have hP : va_P D cl w1 H := hP0.sub isC (by rw [fm_of hC])
  have hD : va_D A0 w1 := hD0.sub isC hnC hC
  exact mw_backF (va_runS (Ts := GT) (own := own) ⟨hx, hb, hml, hown, hts⟩ (hM H.size) ⟨⟨hrc, hrs, hR.1, hR.2, pay, List.mem_cons_self, hts _ hcw, hts _ hini, ⟨hd.1, hd.2.1⟩, hlen, hts _ hl⟩, hts _ hstt⟩ (mw_preS hK hP hD) rfl rfl hsz rfl (lv_room hW) hdg hf) hP0 hD0 hS hA isC isR hC hR9 hn hdis kk
theorem mf_cSN {A0 : Nat → Prop} {H0 : Heap} {y : MethodName} {cy : ByteArray} {ny idx : Nat} {rm : Room} {As st0 : List Value} {ws w1 wr : va_W} {post : Option Value → va_W → Prop} {host : String} {ry : Option FieldType} (C0 : mw_C p s m args meth c cc nL ret own D cl tys) (hM : MW l D cl tys y cy ny ry rm As w1 post mc ms) (hcw : Cond.code y cy ny ry ∈ GT) (hini : Cond.initialized y.cls ∈ GT) (hl : Cond.methodLinkNest own idx y host ∈ GT) (hstt : Cond.static y ∈ GT)
    (hd : y.cls ≠ "java/lang/invoke/MethodHandle" ∧ y.cls ≠ "java/lang/invoke/VarHandle" ∧ (parseMethodDescriptor y.desc).map (fun d => d.parameters.length) = some As.length) (hR : rm.frames + 1 ≤ R.frames ∧ 8 + (ny + 11) + rm.locals ≤ R.locals) (hrc : rm.cells = mc) (hrs : rm.slots = ms) (hP0 : va_P D cl ws H) (hD0 : va_D A0 ws) (hS : va_S A0 H0 H locs) (hA : ∀ q : Nat, H0.size ≤ q → A0 q) (isC isR : List Nat) (hC : isC.map (fun i => ws[i]?) = w1.map some) (hR9 : isR.map (fun i => ws[i]?) = wr.map some) (hnC : va_nd isC = true) (hn : va_nd isR = true) (hdis : ∀ i ∈ isR, i ∉ isC) (hsz : ls.size = nL) (hW : (rest.map fun v => v.category).sum ≤ 8) (hst : st0 = As.reverse ++ rest) (hdg : decode cc pc = .ok (.invokestatic idx, 3)) (hf : cells + mc ≤ R.cells ∧ slots + ms ≤ R.slots)
    (kk : ∀ (v : Option Value) (w2 : va_W) (H1 : Heap) (locs1 : List Loc), post v w2 → va_P D cl (wr ++ w2) H1 → va_D A0 (wr ++ w2) → va_S A0 H0 H1 locs1 → W p l e R s m args below meth c H1 locs1 (cells + mc) (slots + ms) Q (F0 m (pc + 3) ls (v.toList ++ rest))) : W p l e R s m args below meth c H locs cells slots Q (F0 m pc ls st0) := by
  obtain ⟨hx, hb, hml, hr, hlocks, hown, hts, hK⟩ := C0
  have pay : ∀ w ∈ (Cond.code y cy ny ry :: GT), ∀ (a' : Array Value) (U : State), s.WarmedH U.vm → w.before a' U = true := fun w hw a' U hU => (List.mem_cons.mp hw).elim (fun e9 => by rw [e9]; exact gt_pay hcw (hts _ hcw) a' U hU) (fun h9 => gt_pay h9 (hts _ h9) a' U hU)
  have hlen : ∀ sig, parseMethodDescriptor y.desc = some sig → As.length = sig.parameters.length := fun sig h => by
    have h2 := hd.2.2
    rw [h] at h2
    exact (Option.some.inj h2).symm
  subst hst
  have hP : va_P D cl w1 H := hP0.sub isC (by rw [fm_of hC])
  have hD : va_D A0 w1 := hD0.sub isC hnC hC
  exact mw_backF (va_runSN (Ts := GT) (own := own) ⟨hx, hb, hml, hown, hts⟩ (hM H.size) ⟨⟨⟨hrc, hrs, hR.1, hR.2, pay, List.mem_cons_self⟩, hts _ hcw, hts _ hini, ⟨hd.1, hd.2.1⟩, hlen, hts _ hl⟩, hts _ hstt, trivial⟩ (mw_preS hK hP hD) rfl rfl hsz rfl (lv_room hW) hdg hf) hP0 hD0 hS hA isC isR hC hR9 hn hdis kk
theorem mf_cI {A0 : Nat → Prop} {H0 : Heap} {y : MethodName} {cy : ByteArray} {ny idx : Nat} {rm : Room} {As st0 : List Value} {ws w1 wr : va_W} {post : Option Value → va_W → Prop} {b : Nat} (C0 : mw_C p s m args meth c cc nL ret own D cl tys) (hM : MW l D cl tys y cy ny none rm (.ref b :: As) w1 post mc ms) (hcw : Cond.code y cy ny none ∈ GT) (hini : Cond.initialized y.cls ∈ GT) (hl : Cond.methodLink own idx y ∈ GT) (hin : Cond.instanceMethod y ∈ GT) (hnm : y.name = "<init>")
    (hd : y.cls ≠ "java/lang/invoke/MethodHandle" ∧ y.cls ≠ "java/lang/invoke/VarHandle" ∧ (parseMethodDescriptor y.desc).map (fun d => d.parameters.length) = some As.length) (hR : rm.frames + 1 ≤ R.frames ∧ 8 + (ny + 11) + rm.locals ≤ R.locals) (hrc : rm.cells = mc) (hrs : rm.slots = ms) (hP0 : va_P D cl ws H) (hD0 : va_D A0 ws) (hS : va_S A0 H0 H locs) (hA : ∀ q : Nat, H0.size ≤ q → A0 q) (isC isR : List Nat) (hC : isC.map (fun i => ws[i]?) = w1.map some) (hR9 : isR.map (fun i => ws[i]?) = wr.map some) (hnC : va_nd isC = true) (hn : va_nd isR = true) (hdis : ∀ i ∈ isR, i ∉ isC) (hsz : ls.size = nL) (hW : (rest.map fun v => v.category).sum ≤ 8) (hst : st0 = As.reverse ++ .ref b :: rest) (hdg : decode cc pc = .ok (.invokespecial idx, 3)) (hf : cells + mc ≤ R.cells ∧ slots + ms ≤ R.slots)
    (kk : ∀ (v : Option Value) (w2 : va_W) (H1 : Heap) (locs1 : List Loc), post v w2 → va_P D cl (wr ++ w2) H1 → va_D A0 (wr ++ w2) → va_S A0 H0 H1 locs1 → W p l e R s m args below meth c H1 locs1 (cells + mc) (slots + ms) Q (F0 m (pc + 3) ls (v.toList ++ rest))) : W p l e R s m args below meth c H locs cells slots Q (F0 m pc ls st0) := by
  obtain ⟨hx, hb, hml, hr, hlocks, hown, hts, hK⟩ := C0
  have pay : ∀ w ∈ (Cond.code y cy ny none :: GT), ∀ (a' : Array Value) (U : State), s.WarmedH U.vm → w.before a' U = true := fun w hw a' U hU => (List.mem_cons.mp hw).elim (fun e9 => by rw [e9]; exact gt_pay hcw (hts _ hcw) a' U hU) (fun h9 => gt_pay h9 (hts _ h9) a' U hU)
  have hlen : ∀ sig, parseMethodDescriptor y.desc = some sig → As.length = sig.parameters.length := fun sig h => by
    have h2 := hd.2.2
    rw [h] at h2
    exact (Option.some.inj h2).symm
  subst hst
  have hP : va_P D cl w1 H := hP0.sub isC (by rw [fm_of hC])
  have hD : va_D A0 w1 := hD0.sub isC hnC hC
  exact mw_backF (va_runI (Ts := GT) (own := own) ⟨hx, hb, hml, hown, hts⟩ (hM H.size) ⟨⟨hrc, hrs, hR.1, hR.2, pay, List.mem_cons_self, hts _ hcw, hts _ hini, ⟨hd.1, hd.2.1⟩, hlen, hts _ hl⟩, hnm, hts _ hin⟩ (mw_preS hK hP hD) rfl rfl hsz rfl (lv_room hW) hdg hf) hP0 hD0 hS hA isC isR hC hR9 hn hdis kk
theorem mf_cIN {A0 : Nat → Prop} {H0 : Heap} {y : MethodName} {cy : ByteArray} {ny idx : Nat} {rm : Room} {As st0 : List Value} {ws w1 wr : va_W} {post : Option Value → va_W → Prop} {host : String} {b : Nat} (C0 : mw_C p s m args meth c cc nL ret own D cl tys) (hM : MW l D cl tys y cy ny none rm (.ref b :: As) w1 post mc ms) (hcw : Cond.code y cy ny none ∈ GT) (hini : Cond.initialized y.cls ∈ GT) (hl : Cond.methodLinkNest own idx y host ∈ GT) (hin : Cond.instanceMethod y ∈ GT) (hnm : y.name = "<init>")
    (hd : y.cls ≠ "java/lang/invoke/MethodHandle" ∧ y.cls ≠ "java/lang/invoke/VarHandle" ∧ (parseMethodDescriptor y.desc).map (fun d => d.parameters.length) = some As.length) (hR : rm.frames + 1 ≤ R.frames ∧ 8 + (ny + 11) + rm.locals ≤ R.locals) (hrc : rm.cells = mc) (hrs : rm.slots = ms) (hP0 : va_P D cl ws H) (hD0 : va_D A0 ws) (hS : va_S A0 H0 H locs) (hA : ∀ q : Nat, H0.size ≤ q → A0 q) (isC isR : List Nat) (hC : isC.map (fun i => ws[i]?) = w1.map some) (hR9 : isR.map (fun i => ws[i]?) = wr.map some) (hnC : va_nd isC = true) (hn : va_nd isR = true) (hdis : ∀ i ∈ isR, i ∉ isC) (hsz : ls.size = nL) (hW : (rest.map fun v => v.category).sum ≤ 8) (hst : st0 = As.reverse ++ .ref b :: rest) (hdg : decode cc pc = .ok (.invokespecial idx, 3)) (hf : cells + mc ≤ R.cells ∧ slots + ms ≤ R.slots)
    (kk : ∀ (v : Option Value) (w2 : va_W) (H1 : Heap) (locs1 : List Loc), post v w2 → va_P D cl (wr ++ w2) H1 → va_D A0 (wr ++ w2) → va_S A0 H0 H1 locs1 → W p l e R s m args below meth c H1 locs1 (cells + mc) (slots + ms) Q (F0 m (pc + 3) ls (v.toList ++ rest))) : W p l e R s m args below meth c H locs cells slots Q (F0 m pc ls st0) := by
  obtain ⟨hx, hb, hml, hr, hlocks, hown, hts, hK⟩ := C0
  have pay : ∀ w ∈ (Cond.code y cy ny none :: GT), ∀ (a' : Array Value) (U : State), s.WarmedH U.vm → w.before a' U = true := fun w hw a' U hU => (List.mem_cons.mp hw).elim (fun e9 => by rw [e9]; exact gt_pay hcw (hts _ hcw) a' U hU) (fun h9 => gt_pay h9 (hts _ h9) a' U hU)
  have hlen : ∀ sig, parseMethodDescriptor y.desc = some sig → As.length = sig.parameters.length := fun sig h => by
    have h2 := hd.2.2
    rw [h] at h2
    exact (Option.some.inj h2).symm
  subst hst
  have hP : va_P D cl w1 H := hP0.sub isC (by rw [fm_of hC])
  have hD : va_D A0 w1 := hD0.sub isC hnC hC
  exact mw_backF (va_runIN (Ts := GT) (own := own) ⟨hx, hb, hml, hown, hts⟩ (hM H.size) ⟨⟨⟨hrc, hrs, hR.1, hR.2, pay, List.mem_cons_self⟩, hts _ hcw, hts _ hini, ⟨hd.1, hd.2.1⟩, hlen, hts _ hl⟩, hnm, hts _ hin⟩ (mw_preS hK hP hD) rfl rfl hsz rfl (lv_room hW) hdg hf) hP0 hD0 hS hA isC isR hC hR9 hn hdis kk
end MWF
