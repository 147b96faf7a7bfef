theorem sw_lo {x : Int32} (h : x < 0) : x.toInt < 0 := by
  have := Int32.lt_iff_toInt_lt.mp h
  simpa using this
theorem sw_hi {x : Int32} {N : Nat} (h : nI N ≤ x) (hN : N < 2 ^ 31) (h0 : 0 < N) : ((N - 1 : Nat) : Int) < x.toInt := by
  have h1 := Int32.le_iff_toInt_le.mp h
  rw [nI_toInt hN] at h1
  omega
theorem sw_in {x : Int32} {N : Nat} (h1 : ¬ x < 0) (h2 : ¬ nI N ≤ x) (hN : N < 2 ^ 31) : vp_in x N := by
  rcases pk_ix x (n := N) hN with h | h | ⟨j, hj, rfl⟩
  · exact absurd h h1
  · exact absurd h h2
  · exact vp_in_nI hj hN
section MXB
variable {p : Program} {l : Launch} {e : Env} {R : Room} {s : State} {m : MethodId} {args : Array Value} {below : List Frame} {meth : Method} {c : Code} {H : Heap} {locs : List Loc} {cells slots : Nat} {Q : State → Prop}
variable {D : va_G} {cl : List vw_C} {tys : List (ClassId × FieldType)} {cc : ByteArray} {pc nL mc ms : Nat} {ls : Array Slot} {rest : List Value} {own : String} {ret : Option FieldType}
theorem mx_blind {av : List Value} {w1 : va_W} {sz : Nat} : FrameBlind (mx_P D cl tys av w1 sz) := fun a U g mk q => by
  obtain ⟨q0, q1, qP, qK, qD, qZ⟩ := q
  exact ⟨q0, q1, qP, va_K.moved (u := U) (U := U.calling g mk a) (Vm.Alike.refl U.vm) qK, qD, qZ.moved (u := U) (U := U.calling g mk a) (Vm.Alike.refl U.vm)⟩
/-- a call at a method's start, of a method that always throws, in a method that doesn't catch it -/
theorem mx_pass {y : MethodName} {cy : ByteArray} {ny idx : Nat} {rm : Room} {As st0 : List Value} {ws : va_W} {ry : Option FieldType} {b ci k : Nat} {q : vw_C} {fs : List Value} {post : Int32 → Prop} {px1 px : String → Prop} (C0 : mw_C p s m args meth c cc nL ret own D cl tys) (hM : MX l D cl tys y cy ny ry rm (.ref b :: As) ws (fun _ => False) px1 mc ms) (hcw : Cond.code y cy ny ry ∈ GT) (hini : Cond.initialized y.cls ∈ GT) (hl : Cond.methodLink own idx y ∈ GT) (hin : Cond.instanceMethod y ∈ GT) (hse : Cond.selects q.1 y y ∈ GT)
    (hd : y.cls ≠ "java/lang/invoke/MethodHandle" ∧ y.cls ≠ "java/lang/invoke/VarHandle" ∧ (parseMethodDescriptor y.desc).map (fun d => d.parameters.length) = some As.length) (hR : rm.frames + 1 ≤ R.frames ∧ 8 + (ny + 11) + rm.locals ≤ R.locals) (hrc : rm.cells = mc) (hrs : rm.slots = ms)
    (hout : c.exceptionTable.toList = []) (hZ : tx_Z (va_A ws s.heap.size) s s.heap) (hP : va_P D cl ws s.heap) (hD : va_D (va_A ws s.heap.size) ws) (hS : va_S (va_A ws s.heap.size) s.heap s.heap []) (hc : cl[ci]? = some q) (he : ws[k]? = some (b, .inr (ci, fs))) (hsz : ls.size = nL) (hW : (rest.map fun v => v.category).sum ≤ 8) (hst : st0 = As.reverse ++ .ref b :: rest) (hdg : decode cc pc = .ok (.invokevirtual idx, 3)) (hf : 0 + mc ≤ R.cells ∧ 0 + ms ≤ R.slots)
    (hpx : ∀ E, px1 E → px E) :
    W p l e R s m args below meth c s.heap [] 0 0 (tx_Q below (tx_QI (fun r (_ : Unit) => post r) (fun _ _ => True) px (va_A ws s.heap.size)) args s (0 + mc) (0 + ms) (va_A ws s.heap.size)) (F0 m pc ls st0) := by
  obtain ⟨hx, hb, hml, hr, hlocks, hown, hts, hK⟩ := C0
  have pay : ∀ w ∈ (Cond.code y cy ny ry :: GT), ∀ (a' : Array Value) (U : State), s.WarmedH U.vm → w.before a' U = true := fun w hw a' U hU => (List.mem_cons.mp hw).elim (fun e9 => by rw [e9]; exact gt_pay hcw (hts _ hcw) a' U hU) (fun h9 => gt_pay h9 (hts _ h9) a' U hU)
  have hlen : ∀ sig, parseMethodDescriptor y.desc = some sig → As.length = sig.parameters.length := fun sig h => by
    have h2 := hd.2.2
    rw [h] at h2
    exact (Option.some.inj h2).symm
  subst hst
  refine tx_calli (A1 := va_A ws s.heap.size) (tx_virt (Ts := GT) (own := own) (C := q.1) ⟨hx, hb, hml, hown, hts⟩ (hM s.heap.size) ⟨⟨hrc, hrs, hR.1, hR.2, pay, List.mem_cons_self, hts _ hcw, hts _ hini, ⟨hd.1, hd.2.1⟩, hlen, hts _ hl⟩, hts _ hin, hts _ hse⟩ ⟨mx_blind, va_recv hK hP hc he, fun U hU hW => ⟨rfl, by rw [hU], by rw [hU]; exact hP, va_K.moved hW.alike hK, hD.weaken (fun _ _ _ _ => trivial), by rw [hU]; exact hZ.moved hW.alike⟩⟩ rfl rfl hsz rfl (lv_room hW) hdg hf) hS (fun _ _ h => h) (fun _ h => h) ?_ ?_
  · intro q9 E ce H1 locs1 h1 h2 h3 h4 h5 h6 h7
    exact tx_leave hout hlocks h7.2.2 (fun t ht hW => ⟨Or.inr ⟨q9, E, ce, rfl, hpx E h1, by rw [ht]; exact h2, h3, h4⟩, h7.F ht⟩)
  · intro r u t H1 locs1 h1 h2 h3
    exact absurd h3 id
end MXB
