section MWG
variable {p : Program} {l : Launch} {e : Env} {R : Room} {s : State} {m : MethodId} {args : Array Value} {below : List Frame} {meth : Method} {c : Code} {H : Heap} {locs : List Loc} {cells slots : Nat} {Q : State → Prop}
variable {cc : ByteArray} {pc : Nat} {ls : Array Slot} {rest : List Value} {D : va_G} {cl : List vw_C} {A : Nat → Prop} {tys : List (ClassId × FieldType)} {ws : va_W} {H0 : Heap}
/-- the cells that 'new int[4][k]' makes, from the address q on -/
def mw_grid (cG cI : ClassId) (q : Nat) : va_W := [(q, .inl (cG, 4, .inr (.inr (.inr (.inr (fun i => if i < 4 then some (q + 1 + i) else none)))))), (q + 1, .inl (cI, 1000, .inl (fun _ => 0))), (q + 2, .inl (cI, 1000, .inl (fun _ => 0))), (q + 3, .inl (cI, 1000, .inl (fun _ => 0))), (q + 4, .inl (cI, 1000, .inl (fun _ => 0)))]
theorem mw_outer (k : ClassId) (h0 : Nat) : Jvm.Free.Multi.outerC k 4 h0 4 = vp_cell k (4, .inr (.inr (.inr (.inr (fun i => if i < 4 then some (h0 + 1 + i) else none))))) := by
  have key : ∀ (a b : Cell), a.cls = b.cls → a.vm = b.vm → a.monitor = b.monitor → a.hash = b.hash → a.slots = b.slots → a = b := by
    intro a b h1 h2 h3 h4 h5
    cases a; cases b
    simp_all
  refine key _ _ rfl rfl rfl rfl ?_
  refine Array.ext_getElem? fun j => ?_
  rw [vp_cell_q]
  by_cases hj : j < 4
  · rw [Jvm.Free.Multi.outerC_slot k 4 h0 4 j hj, arrV_read _ _ hj]
    simp [hj, va_rf]
  · have h1 : (Jvm.Free.Multi.outerC k 4 h0 4).slots.size = 4 := (Jvm.Free.Multi.outerC_facts k 4 h0 4).2.2
    rw [Array.getElem?_eq_none (by omega), Array.getElem?_eq_none (by rw [arrV_size]; omega)]
theorem mw_mna (hexec : p.tables.exec = Jvm.exec) (hb : c.code = cc) {own : String} {index : Nat} {cG cI : ClassId} {tG tI : Nat} (hown : s.vm.findClass own = some m.cls) (hclink : (Cond.classLink own index "[[I").before args s = true) (hover : (Cond.arrayOver (.array .int)).before args s = true) (harr : (Cond.arrayClass .int).before args s = true)
    (hK : va_K D cl tys s) (htG : tys[tG]? = some (cG, .array .int)) (htI : tys[tI]? = some (cI, .int)) (hP : va_P D cl ws H) (hD : va_D A ws) (hS : va_S A H0 H locs) (hA : ∀ q, H0.size ≤ q → A q) (hcells : cells + (1 + 4) ≤ R.cells) (hslots : slots + (4 + 4 * 1000) ≤ R.slots) (hdg : decode cc pc = .ok (.multianewarray index 2, 4))
    (kk : ∀ (q : Nat) (H1 : Heap), va_P D cl (ws ++ mw_grid cG cI q) H1 → va_D A (ws ++ mw_grid cG cI q) → va_S A H0 H1 locs → W p l e R s m args below meth c H1 locs (cells + 1 + 4) (slots + 4 + 4 * 1000) Q (F0 m (pc + 4) ls (.ref q :: rest))) :
    W p l e R s m args below meth c H locs cells slots Q (F0 m pc ls (.int 1000 :: .int 4 :: rest)) := by
  intro T hT Xs
  obtain ⟨vm₁, cA, comp, -, fA, fC, hO, -, X', step⟩ := Xs.multianewarray2F hexec (ty := .int) hown hclink hover harr (g := F0 m pc ls (.int 1000 :: .int 4 :: rest)) rfl (by rw [hb]; exact hdg) rfl (by decide) (by decide) (by decide) (by decide) (by decide) (by decide) (by decide) hcells hslots
  have eG : cA = cG := Option.some.inj (fA.symm.trans (hK.2 tG _ htG).2)
  have eI : comp = cI := Option.some.inj (fC.symm.trans (hK.2 tI _ htI).2)
  subst eG; subst eI
  have n4 : (4 : Int32).toNatClampNeg = 4 := by decide
  have n1000 : (1000 : Int32).toNatClampNeg = 1000 := by decide
  rw [n4, n1000] at X' step
  generalize hF : Jvm.Free.Multi.fill (T.setVm vm₁) cA comp 4 1000 (defaultValue .int) 4 = F at X' step
  have hTh : (T.setVm vm₁).heap = H := hT
  obtain ⟨f1, f2, -, -⟩ := Jvm.Free.Multi.fill_facts (T.setVm vm₁) cA comp 4 1000 (defaultValue .int) 4
  rw [hF, hTh] at f1 f2
  have hold : ∀ x : Nat, x < H.size → F.heap[x]? = H[x]? := fun x hx => by
    have := Jvm.Free.Multi.fill_old (T.setVm vm₁) cA comp 4 1000 (defaultValue .int) (a := x) (by rw [hTh]; exact hx) 4
    rw [hF, hTh] at this
    exact this
  have hrow : ∀ j : Nat, j < 4 → F.heap[H.size + 1 + j]? = some (vp_cell comp (1000, .inl (fun _ => 0))) := fun j hj => by
    have := Jvm.Free.Multi.fill_inner (T.setVm vm₁) cA comp 4 1000 (defaultValue .int) 4 j hj
    rw [hF, hTh] at this
    rw [this, vp_cell_i, ← arrV_new]
    rfl
  rw [mw_outer] at f2
  have hP1 : va_P D cl (ws ++ mw_grid cA comp H.size) F.heap := (hP.kept (fun k9 x hx => hold x.1 ((hP k9 x hx).lt))).app (fun k x hx => by
    match k, hx with
    | 0, hx => cases hx; exact f2
    | 1, hx => cases hx; exact hrow 0 (by decide)
    | 2, hx => cases hx; exact hrow 1 (by decide)
    | 3, hx => cases hx; exact hrow 2 (by decide)
    | 4, hx => cases hx; exact hrow 3 (by decide)
    | k + 5, hx => simp [mw_grid] at hx)
  have hlt : ∀ (k : Nat) (x : Nat × va_E), ws[k]? = some x → x.1 < H.size := fun k x hx => (hP k x hx).lt
  have hg : ∀ (k : Nat) (x : Nat × va_E), (mw_grid cA comp H.size)[k]? = some x → x.1 = H.size + k := fun k x hx => by
    match k, hx with
    | 0, hx => cases hx; rfl
    | 1, hx => cases hx; rfl
    | 2, hx => cases hx; rfl
    | 3, hx => cases hx; rfl
    | 4, hx => cases hx; rfl
    | k + 5, hx => simp [mw_grid] at hx
  have hD1 : va_D A (ws ++ mw_grid cA comp H.size) := va_D.app hD ⟨fun i j x y hx hy hxy => by have := hg i x hx; have := hg j y hy; omega, fun k x hx => hA _ (by have := hg k x hx; have := hS.1; omega)⟩ (fun i j x y hx hy hxy => by have := hlt i x hx; have := hg j y hy; omega)
  obtain ⟨t, a1, b1⟩ := kk H.size F.heap hP1 hD1 ⟨by have := hS.1; omega, fun q h1 h2 => (hold q (Nat.lt_of_lt_of_le h1 hS.1)).trans (hS.2.1 q h1 h2), hS.2.2⟩ F rfl X'
  refine ⟨t, step t ?_, b1⟩
  rw [hT]
  exact a1
end MWG
