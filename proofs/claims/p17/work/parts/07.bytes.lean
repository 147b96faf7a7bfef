abbrev ty9 (cB cI cJ cG : ClassId) : List (ClassId × FieldType) := [(cB, .byte), (cI, .int), (cJ, .long), (cG, .array .int)]
abbrev rm9 (d c s : Nat) : Room := { frames := d, cells := c, slots := s, locals := 40 * d }
theorem ws_se {ws : va_W} {k : Nat} {x y : Nat × va_E} (h : ws[k]? = some y) : (ws.set k x)[k]? = some x := by
  rw [List.getElem?_set]; simp [(List.getElem?_eq_some_iff.mp h).1]
theorem ws_sn {ws : va_W} {k j : Nat} {x y : Nat × va_E} (n : k ≠ j) (h : ws[j]? = some y) : (ws.set k x)[j]? = some y := by
  rw [List.getElem?_set, if_neg n]; exact h
theorem ws_same {ws : va_W} {k : Nat} {x : Nat × va_E} (h : ws[k]? = some x) : ws.set k x = ws := by
  refine List.ext_getElem? fun j => ?_
  rw [List.getElem?_set]
  by_cases e : k = j
  · subst e; rw [if_pos rfl, if_pos (List.getElem?_eq_some_iff.mp h).1, h]
  · rw [if_neg e]
/-- a byte of a row of bytes: 0 outside -/
def bt (f : Nat → Int32) (i : Int32) : Int32 := if i < 0 then 0 else if nI 65536 ≤ i then 0 else f i.toNatClampNeg &&& 255
def bset (f : Nat → Int32) (i v : Int32) : Nat → Int32 := if i < 0 then f else if nI 65536 ≤ i then f else upd f i.toNatClampNeg (vp_nar .byte v.toInt8.toInt32)
theorem bt_in {i : Int32} (h1 : ¬ i < 0) (h2 : ¬ nI 65536 ≤ i) : vp_in i 65536 := by
  rcases pk_ix i (n := 65536) (by decide) with h | h | ⟨j, hj, rfl⟩
  · exact absurd h h1
  · exact absurd h h2
  · exact vp_in_nI hj (by decide)
/-- two bytes, four bytes -/
def bt2 (f : Nat → Int32) (i : Int32) : Int32 := bt f i <<< ((8 : Int32) &&& 31) ||| bt f (i + 1)
/-- the world, with other contents of one row of bytes -/
def wB (ws : va_W) (k0 k1 b r : Nat) (cB : ClassId) (n : Int32) (f : Nat → Int32) : va_W := (ws.set k1 (r, .inl (cB, 65536, .inl f))).set k0 (b, .inr (0, [.ref r, .int n]))
theorem wB_0 {ws : va_W} {k0 k1 b r : Nat} {cB : ClassId} {n n' : Int32} {f' : Nat → Int32} (e0 : ws[k0]? = some (b, .inr (0, [.ref r, .int n]))) (h : k1 ≠ k0) : (wB ws k0 k1 b r cB n' f')[k0]? = some (b, .inr (0, [.ref r, .int n'])) := ws_se (ws_sn h e0)
theorem wB_1 {ws : va_W} {k0 k1 b r : Nat} {cB : ClassId} {n' : Int32} {f f' : Nat → Int32} (e1 : ws[k1]? = some (r, .inl (cB, 65536, .inl f))) (h : k0 ≠ k1) : (wB ws k0 k1 b r cB n' f')[k1]? = some (r, .inl (cB, 65536, .inl f')) := ws_sn h (ws_se e1)
theorem wB_j {ws : va_W} {k0 k1 b r j : Nat} {cB : ClassId} {n' : Int32} {f' : Nat → Int32} {y : Nat × va_E} (e : ws[j]? = some y) (h0 : k0 ≠ j) (h1 : k1 ≠ j) : (wB ws k0 k1 b r cB n' f')[j]? = some y := ws_sn h0 (ws_sn h1 e)
theorem wB_wB {ws : va_W} {k0 k1 b r : Nat} {cB : ClassId} {n n' : Int32} {f f' : Nat → Int32} (h : k0 ≠ k1) : wB (wB ws k0 k1 b r cB n f) k0 k1 b r cB n' f' = wB ws k0 k1 b r cB n' f' := by
  unfold wB
  refine List.ext_getElem? fun j => ?_
  simp only [List.getElem?_set, List.length_set]
  by_cases e0 : k0 = j
  · simp [e0]
  · by_cases e1 : k1 = j
    · simp [e0, e1]
    · simp [e0, e1]
theorem wB_set1 {ws : va_W} {k0 k1 b r : Nat} {cB : ClassId} {n : Int32} {f' : Nat → Int32} (e0 : ws[k0]? = some (b, .inr (0, [.ref r, .int n]))) (h : k1 ≠ k0) : ws.set k1 (r, .inl (cB, 65536, .inl f')) = wB ws k0 k1 b r cB n f' := by
  unfold wB
  exact (ws_same (ws_sn h e0)).symm
section MWN
variable {p : Program} {l : Launch} {e : Env} {R : Room} {s : State} {m : MethodId} {args : Array Value} {below : List Frame} {meth : Method} {c : Code} {H : Heap} {locs : List Loc} {cells slots : Nat} {Q : State → Prop}
variable {cc : ByteArray} {pc : Nat} {ls : Array Slot} {rest : List Value} {D : va_G} {cl : List vw_C} {A : Nat → Prop} {tys : List (ClassId × FieldType)} {ws : va_W} {H0 : Heap}
/-- a new array of numbers, all 0: its class is the one that the tables know -/
theorem mw_newa (hexec : p.tables.exec = Jvm.exec) (hb : c.code = cc) {atype : ArrayType} (harr : (Cond.arrayClass (newarray.typeOf atype)).before args s = true) {ty : FieldType} (hty : newarray.typeOf atype = ty) (hra : ∀ q : ClassId, va_RA s q ty → s.vm.findClass ("[" ++ ty.toString) = some q) (hK : va_K D cl tys s) {t : Nat} {cA : ClassId} (ht : tys[t]? = some (cA, ty)) (hP : va_P D cl ws H) (hD : va_D A ws) (hS : va_S A H0 H locs) (hA : ∀ q, H0.size ≤ q → A q)
    {n : Int32} {N' : Nat} {a0 : vp_A} (ha : ∀ cA : ClassId, vp_cell cA a0 = arrV cA N' (fun _ => defaultValue ty)) (hn : ¬ n < 0) (hN : n.toNatClampNeg = N') (hbytes : N' * componentBytes ty ≤ 536870912) (hcells : cells + 1 ≤ R.cells) (hslots : slots + N' ≤ R.slots) (hdg : decode cc pc = .ok (.newarray atype, 2))
    (kk : ∀ (q : Nat) (H1 : Heap), va_P D cl (ws ++ [(q, .inl (cA, a0))]) H1 → va_D A (ws ++ [(q, .inl (cA, a0))]) → va_S A H0 H1 locs →
      W p l e R s m args below meth c H1 locs (cells + 1) (slots + N') Q (F0 m (pc + 2) ls (.ref q :: rest))) : W p l e R s m args below meth c H locs cells slots Q (F0 m pc ls (.int n :: rest)) := by
  refine va_newa hexec hb harr hty hK hP hD hS hA ha hn hN hbytes hcells hslots hdg (fun q cA' H1 hK' hP' hD' hS' => ?_)
  have h1 := hra _ (hK'.2 tys.length (cA', ty) (by simp)).2
  have h2 := hra _ (hK.2 t _ ht).2
  have e9 : cA' = cA := Option.some.inj (h1.symm.trans h2)
  subst e9
  exact kk q H1 hP' hD' hS'
end MWN
/-- what putTwo and putFour put -/
def bp2 (f : Nat → Int32) (n x : Int32) : Nat → Int32 := bset (bset f n (x >>> ((8 : Int32) &&& 31))) (n + 1) x
def bp4 (f : Nat → Int32) (n x : Int32) : Nat → Int32 := bp2 (bp2 f n (x >>> ((16 : Int32) &&& 31))) (n + 1 + 1) x
theorem g_2 : (Cond.initialized "WireMessages$Bytes") ∈ GT := gt_mem 2 (by decide +kernel) rfl
theorem g_35 : (Cond.fieldLink "WireMessages$Bytes" (10 : Nat) "WireMessages$Bytes" "room" "[B") ∈ GT := gt_mem 35 (by decide +kernel) rfl
theorem g_40 : (Cond.fieldLink "WireMessages$Bytes" (27 : Nat) "WireMessages$Bytes" "length" "I") ∈ GT := gt_mem 40 (by decide +kernel) rfl
theorem g_256 : (Cond.methodLink "WireMessages$Bytes" (16 : Nat) ({ cls := "WireMessages$Bytes", name := "at", desc := "(I)I" } : MethodName)) ∈ GT := gt_mem 256 (by decide +kernel) rfl
theorem g_258 : (Cond.instanceMethod ({ cls := "WireMessages$Bytes", name := "at", desc := "(I)I" } : MethodName)) ∈ GT := gt_mem 258 (by decide +kernel) rfl
theorem g_259 : (Cond.code ({ cls := "WireMessages$Bytes", name := "at", desc := "(I)I" } : MethodName) prog_2_method_2_code (2 : Nat) (Option.some FieldType.int)) ∈ GT := gt_mem 259 (by decide +kernel) rfl
theorem g_283 : (Cond.instanceMethod ({ cls := "WireMessages$Bytes", name := "put", desc := "(I)V" } : MethodName)) ∈ GT := gt_mem 283 (by decide +kernel) rfl
theorem g_284 : (Cond.code ({ cls := "WireMessages$Bytes", name := "put", desc := "(I)V" } : MethodName) prog_2_method_7_code (2 : Nat) (Option.none : Option FieldType)) ∈ GT := gt_mem 284 (by decide +kernel) rfl
theorem g_285 : (Cond.methodLink "WireMessages$Bytes" (23 : Nat) ({ cls := "WireMessages$Bytes", name := "set", desc := "(II)V" } : MethodName)) ∈ GT := gt_mem 285 (by decide +kernel) rfl
theorem g_287 : (Cond.instanceMethod ({ cls := "WireMessages$Bytes", name := "set", desc := "(II)V" } : MethodName)) ∈ GT := gt_mem 287 (by decide +kernel) rfl
theorem g_288 : (Cond.code ({ cls := "WireMessages$Bytes", name := "set", desc := "(II)V" } : MethodName) prog_2_method_5_code (3 : Nat) (Option.none : Option FieldType)) ∈ GT := gt_mem 288 (by decide +kernel) rfl
theorem g_453 : (Cond.methodLink "WireMessages$Bytes" (35 : Nat) ({ cls := "WireMessages$Bytes", name := "putTwo", desc := "(I)V" } : MethodName)) ∈ GT := gt_mem 453 (by decide +kernel) rfl
theorem g_455 : (Cond.instanceMethod ({ cls := "WireMessages$Bytes", name := "putTwo", desc := "(I)V" } : MethodName)) ∈ GT := gt_mem 455 (by decide +kernel) rfl
theorem g_456 : (Cond.code ({ cls := "WireMessages$Bytes", name := "putTwo", desc := "(I)V" } : MethodName) prog_2_method_8_code (2 : Nat) (Option.none : Option FieldType)) ∈ GT := gt_mem 456 (by decide +kernel) rfl
theorem g_457 : (Cond.methodLink "WireMessages$Bytes" (31 : Nat) ({ cls := "WireMessages$Bytes", name := "put", desc := "(I)V" } : MethodName)) ∈ GT := gt_mem 457 (by decide +kernel) rfl
theorem gs_By_at : Cond.selects R_By y_By_at y_By_at ∈ GT := gt_sel (q := (⟨"WireMessages$Bytes", "at", "(I)I"⟩, 2)) (by decide +kernel)
theorem gs_By_set : Cond.selects R_By y_By_set y_By_set ∈ GT := gt_sel (q := (⟨"WireMessages$Bytes", "set", "(II)V"⟩, 2)) (by decide +kernel)
theorem gs_By_put : Cond.selects R_By y_By_put y_By_put ∈ GT := gt_sel (q := (⟨"WireMessages$Bytes", "put", "(I)V"⟩, 2)) (by decide +kernel)
theorem gs_By_putTwo : Cond.selects R_By y_By_putTwo y_By_putTwo ∈ GT := gt_sel (q := (⟨"WireMessages$Bytes", "putTwo", "(I)V"⟩, 2)) (by decide +kernel)
theorem d_By_at_0 : decode b_By_at 0 = .ok (.iload_n 1, 1) := by decide +kernel
theorem d_By_at_1 : decode b_By_at 1 = .ok (.ifCond .lt 25, 3) := by decide +kernel
theorem d_By_at_4 : decode b_By_at 4 = .ok (.iload_n 1, 1) := by decide +kernel
theorem d_By_at_5 : decode b_By_at 5 = .ok (.aload_n 0, 1) := by decide +kernel
theorem d_By_at_6 : decode b_By_at 6 = .ok (.getfield 10, 3) := by decide +kernel
theorem d_By_at_9 : decode b_By_at 9 = .ok (.arraylength, 1) := by decide +kernel
theorem d_By_at_10 : decode b_By_at 10 = .ok (.if_icmp .ge 16, 3) := by decide +kernel
theorem d_By_at_13 : decode b_By_at 13 = .ok (.aload_n 0, 1) := by decide +kernel
theorem d_By_at_14 : decode b_By_at 14 = .ok (.getfield 10, 3) := by decide +kernel
theorem d_By_at_17 : decode b_By_at 17 = .ok (.iload_n 1, 1) := by decide +kernel
theorem d_By_at_18 : decode b_By_at 18 = .ok (.baload, 1) := by decide +kernel
theorem d_By_at_19 : decode b_By_at 19 = .ok (.sipush 255, 3) := by decide +kernel
theorem d_By_at_22 : decode b_By_at 22 = .ok (.iand, 1) := by decide +kernel
theorem d_By_at_23 : decode b_By_at 23 = .ok (.goto 4, 3) := by decide +kernel
theorem d_By_at_26 : decode b_By_at 26 = .ok (.iconst 0, 1) := by decide +kernel
theorem d_By_at_27 : decode b_By_at 27 = .ok (.ireturn, 1) := by decide +kernel
theorem d_By_set_0 : decode b_By_set 0 = .ok (.iload_n 1, 1) := by decide +kernel
theorem d_By_set_1 : decode b_By_set 1 = .ok (.ifCond .lt 20, 3) := by decide +kernel
theorem d_By_set_4 : decode b_By_set 4 = .ok (.iload_n 1, 1) := by decide +kernel
theorem d_By_set_5 : decode b_By_set 5 = .ok (.aload_n 0, 1) := by decide +kernel
theorem d_By_set_6 : decode b_By_set 6 = .ok (.getfield 10, 3) := by decide +kernel
theorem d_By_set_9 : decode b_By_set 9 = .ok (.arraylength, 1) := by decide +kernel
theorem d_By_set_10 : decode b_By_set 10 = .ok (.if_icmp .ge 11, 3) := by decide +kernel
theorem d_By_set_13 : decode b_By_set 13 = .ok (.aload_n 0, 1) := by decide +kernel
theorem d_By_set_14 : decode b_By_set 14 = .ok (.getfield 10, 3) := by decide +kernel
theorem d_By_set_17 : decode b_By_set 17 = .ok (.iload_n 1, 1) := by decide +kernel
theorem d_By_set_18 : decode b_By_set 18 = .ok (.iload_n 2, 1) := by decide +kernel
theorem d_By_set_19 : decode b_By_set 19 = .ok (.i2b, 1) := by decide +kernel
theorem d_By_set_20 : decode b_By_set 20 = .ok (.bastore, 1) := by decide +kernel
theorem d_By_set_21 : decode b_By_set 21 = .ok (.return_, 1) := by decide +kernel
theorem d_By_twoAt_0 : decode b_By_twoAt 0 = .ok (.aload_n 0, 1) := by decide +kernel
theorem d_By_twoAt_1 : decode b_By_twoAt 1 = .ok (.iload_n 1, 1) := by decide +kernel
theorem d_By_twoAt_2 : decode b_By_twoAt 2 = .ok (.invokevirtual 16, 3) := by decide +kernel
theorem d_By_twoAt_5 : decode b_By_twoAt 5 = .ok (.bipush 8, 2) := by decide +kernel
theorem d_By_twoAt_7 : decode b_By_twoAt 7 = .ok (.ishl, 1) := by decide +kernel
theorem d_By_twoAt_8 : decode b_By_twoAt 8 = .ok (.aload_n 0, 1) := by decide +kernel
theorem d_By_twoAt_9 : decode b_By_twoAt 9 = .ok (.iload_n 1, 1) := by decide +kernel
theorem d_By_twoAt_10 : decode b_By_twoAt 10 = .ok (.iconst 1, 1) := by decide +kernel
theorem d_By_twoAt_11 : decode b_By_twoAt 11 = .ok (.iadd, 1) := by decide +kernel
theorem d_By_twoAt_12 : decode b_By_twoAt 12 = .ok (.invokevirtual 16, 3) := by decide +kernel
theorem d_By_twoAt_15 : decode b_By_twoAt 15 = .ok (.ior, 1) := by decide +kernel
theorem d_By_twoAt_16 : decode b_By_twoAt 16 = .ok (.ireturn, 1) := by decide +kernel
theorem d_By_setTwo_0 : decode b_By_setTwo 0 = .ok (.aload_n 0, 1) := by decide +kernel
theorem d_By_setTwo_1 : decode b_By_setTwo 1 = .ok (.iload_n 1, 1) := by decide +kernel
theorem d_By_setTwo_2 : decode b_By_setTwo 2 = .ok (.iload_n 2, 1) := by decide +kernel
theorem d_By_setTwo_3 : decode b_By_setTwo 3 = .ok (.bipush 8, 2) := by decide +kernel
theorem d_By_setTwo_5 : decode b_By_setTwo 5 = .ok (.ishr, 1) := by decide +kernel
theorem d_By_setTwo_6 : decode b_By_setTwo 6 = .ok (.invokevirtual 23, 3) := by decide +kernel
theorem d_By_setTwo_9 : decode b_By_setTwo 9 = .ok (.aload_n 0, 1) := by decide +kernel
theorem d_By_setTwo_10 : decode b_By_setTwo 10 = .ok (.iload_n 1, 1) := by decide +kernel
theorem d_By_setTwo_11 : decode b_By_setTwo 11 = .ok (.iconst 1, 1) := by decide +kernel
theorem d_By_setTwo_12 : decode b_By_setTwo 12 = .ok (.iadd, 1) := by decide +kernel
theorem d_By_setTwo_13 : decode b_By_setTwo 13 = .ok (.iload_n 2, 1) := by decide +kernel
theorem d_By_setTwo_14 : decode b_By_setTwo 14 = .ok (.invokevirtual 23, 3) := by decide +kernel
theorem d_By_setTwo_17 : decode b_By_setTwo 17 = .ok (.return_, 1) := by decide +kernel
theorem d_By_put_0 : decode b_By_put 0 = .ok (.aload_n 0, 1) := by decide +kernel
theorem d_By_put_1 : decode b_By_put 1 = .ok (.aload_n 0, 1) := by decide +kernel
theorem d_By_put_2 : decode b_By_put 2 = .ok (.getfield 27, 3) := by decide +kernel
theorem d_By_put_5 : decode b_By_put 5 = .ok (.iload_n 1, 1) := by decide +kernel
theorem d_By_put_6 : decode b_By_put 6 = .ok (.invokevirtual 23, 3) := by decide +kernel
theorem d_By_put_9 : decode b_By_put 9 = .ok (.aload_n 0, 1) := by decide +kernel
theorem d_By_put_10 : decode b_By_put 10 = .ok (.dup, 1) := by decide +kernel
theorem d_By_put_11 : decode b_By_put 11 = .ok (.getfield 27, 3) := by decide +kernel
theorem d_By_put_14 : decode b_By_put 14 = .ok (.iconst 1, 1) := by decide +kernel
theorem d_By_put_15 : decode b_By_put 15 = .ok (.iadd, 1) := by decide +kernel
theorem d_By_put_16 : decode b_By_put 16 = .ok (.putfield 27, 3) := by decide +kernel
theorem d_By_put_19 : decode b_By_put 19 = .ok (.return_, 1) := by decide +kernel
theorem d_By_putTwo_0 : decode b_By_putTwo 0 = .ok (.aload_n 0, 1) := by decide +kernel
theorem d_By_putTwo_1 : decode b_By_putTwo 1 = .ok (.iload_n 1, 1) := by decide +kernel
theorem d_By_putTwo_2 : decode b_By_putTwo 2 = .ok (.bipush 8, 2) := by decide +kernel
theorem d_By_putTwo_4 : decode b_By_putTwo 4 = .ok (.ishr, 1) := by decide +kernel
theorem d_By_putTwo_5 : decode b_By_putTwo 5 = .ok (.invokevirtual 31, 3) := by decide +kernel
theorem d_By_putTwo_8 : decode b_By_putTwo 8 = .ok (.aload_n 0, 1) := by decide +kernel
theorem d_By_putTwo_9 : decode b_By_putTwo 9 = .ok (.iload_n 1, 1) := by decide +kernel
theorem d_By_putTwo_10 : decode b_By_putTwo 10 = .ok (.invokevirtual 31, 3) := by decide +kernel
theorem d_By_putTwo_13 : decode b_By_putTwo 13 = .ok (.return_, 1) := by decide +kernel
theorem d_By_putFour_0 : decode b_By_putFour 0 = .ok (.aload_n 0, 1) := by decide +kernel
theorem d_By_putFour_1 : decode b_By_putFour 1 = .ok (.iload_n 1, 1) := by decide +kernel
theorem d_By_putFour_2 : decode b_By_putFour 2 = .ok (.bipush 16, 2) := by decide +kernel
theorem d_By_putFour_4 : decode b_By_putFour 4 = .ok (.ishr, 1) := by decide +kernel
theorem d_By_putFour_5 : decode b_By_putFour 5 = .ok (.invokevirtual 35, 3) := by decide +kernel
theorem d_By_putFour_8 : decode b_By_putFour 8 = .ok (.aload_n 0, 1) := by decide +kernel
theorem d_By_putFour_9 : decode b_By_putFour 9 = .ok (.iload_n 1, 1) := by decide +kernel
theorem d_By_putFour_10 : decode b_By_putFour 10 = .ok (.invokevirtual 35, 3) := by decide +kernel
theorem d_By_putFour_13 : decode b_By_putFour 13 = .ok (.return_, 1) := by decide +kernel
set_option maxHeartbeats 4000000 in
set_option maxRecDepth 100000 in
/-- Bytes.at(i): the byte there, 0 outside -/
theorem c_By_at (l : Launch) (D9 : va_G) (cB cI cJ cG : ClassId) (ws : va_W) (k0 k1 b r : Nat) (n_k0_k1 : k0 ≠ k1) (n_k1_k0 : k1 ≠ k0) (len : Int32) (f : Nat → Int32) (e0 : ws[k0]? = some (b, .inr (0, [.ref r, .int len]))) (e1 : ws[k1]? = some (r, .inl (cB, 65536, .inl f))) (i : Int32) : MW l D9 cls9 (ty9 cB cI cJ cG) y_By_at b_By_at 2 (some .int) (rm9 0 0 0) [.ref b, .int i] ws (fun v w2 => v = some (.int (bt f i)) ∧ w2 = ws) 0 0 := by
  refine mw_of (by decide) (Nat.le_of_ble_eq_true rfl) ?_
  intro p e s m below meth c ls C0 hin hP hD hA hS hl
  obtain ⟨hx, hb, hml, hr, hlocks, hown, hts, hK⟩ := id C0
  have hl : lv_has ls 2 [(0, .ref b), (1, .int i)] := hl
  refine lv_iload_n hx hb d_By_at_0 rfl (lv_at hl 1 rfl) ?_
  refine lv_if_lt (tgt := 26) hx hb d_By_at_1 (by decide) (fun c1 => ?_) (fun c1 => ?_)
  · refine lv_iconst (v := 0) hx hb d_By_at_26 (by decide) ?_
    exact mw_iret hx hb hr hlocks hS hP hD (by decide) (by decide) d_By_at_27 (⟨by rw [bt, if_pos c1], rfl⟩)
  · refine lv_iload_n hx hb d_By_at_4 rfl (lv_at hl 1 rfl) ?_
    refine lv_aload_n hx hb d_By_at_5 rfl (lv_at hl 0 rfl) ?_
    refine va_get (D := D9) (ci := 0) (C := R_By) (T := F_By) (N := 2) hx hb hts i_By hown hK hP k0 e0 rfl 0 (by decide) (hts _ g_35) (fun _ h9 => h9) rfl d_By_at_6 ?_
    refine va_alen (D := D9) hx hb hK hP k1 0 e1 rfl rfl d_By_at_9 ?_
    refine lv_icmp_ge (tgt := 26) hx hb d_By_at_10 (by decide) (fun c2 => ?_) (fun c2 => ?_)
    · refine lv_iconst (v := 0) hx hb d_By_at_26 (by decide) ?_
      exact mw_iret hx hb hr hlocks hS hP hD (by decide) (by decide) d_By_at_27 (⟨by rw [bt, if_neg c1, if_pos (show nI 65536 ≤ i from c2)], rfl⟩)
    · refine lv_aload_n hx hb d_By_at_13 rfl (lv_at hl 0 rfl) ?_
      refine va_get (D := D9) (ci := 0) (C := R_By) (T := F_By) (N := 2) hx hb hts i_By hown hK hP k0 e0 rfl 0 (by decide) (hts _ g_35) (fun _ h9 => h9) rfl d_By_at_14 ?_
      refine lv_iload_n hx hb d_By_at_17 rfl (lv_at hl 1 rfl) ?_
      refine va_bald (D := D9) hx hb hK hP k1 0 e1 rfl (bt_in c1 c2) d_By_at_18 ?_
      refine lv_sipush (v := 255) hx hb d_By_at_19 (by decide) ?_
      refine lv_iand hx hb d_By_at_22 ?_
      refine lv_goto (tgt := 27) hx hb d_By_at_23 (by decide) ?_
      exact mw_iret hx hb hr hlocks hS hP hD (by decide) (by decide) d_By_at_27 (⟨by rw [bt, if_neg c1, if_neg (show ¬ nI 65536 ≤ i from c2)], rfl⟩)
set_option maxHeartbeats 4000000 in
set_option maxRecDepth 100000 in
/-- Bytes.set(i, x) -/
theorem c_By_set (l : Launch) (D9 : va_G) (cB cI cJ cG : ClassId) (ws : va_W) (k0 k1 b r : Nat) (n_k0_k1 : k0 ≠ k1) (n_k1_k0 : k1 ≠ k0) (len : Int32) (f : Nat → Int32) (e0 : ws[k0]? = some (b, .inr (0, [.ref r, .int len]))) (e1 : ws[k1]? = some (r, .inl (cB, 65536, .inl f))) (i x : Int32) : MW l D9 cls9 (ty9 cB cI cJ cG) y_By_set b_By_set 3 none (rm9 0 0 0) [.ref b, .int i, .int x] ws (fun v w2 => v = none ∧ w2 = ws.set k1 (r, .inl (cB, 65536, .inl (bset f i x)))) 0 0 := by
  refine mw_of (by decide) (Nat.le_of_ble_eq_true rfl) ?_
  intro p e s m below meth c ls C0 hin hP hD hA hS hl
  obtain ⟨hx, hb, hml, hr, hlocks, hown, hts, hK⟩ := id C0
  have hl : lv_has ls 3 [(0, .ref b), (1, .int i), (2, .int x)] := hl
  refine lv_iload_n hx hb d_By_set_0 rfl (lv_at hl 1 rfl) ?_
  refine lv_if_lt (tgt := 21) hx hb d_By_set_1 (by decide) (fun c1 => ?_) (fun c1 => ?_)
  · exact mw_vret hx hb hr hlocks hS hP hD (by decide) (by decide) d_By_set_21 (⟨rfl, by rw [bset, if_pos c1, ws_same e1]⟩)
  · refine lv_iload_n hx hb d_By_set_4 rfl (lv_at hl 1 rfl) ?_
    refine lv_aload_n hx hb d_By_set_5 rfl (lv_at hl 0 rfl) ?_
    refine va_get (D := D9) (ci := 0) (C := R_By) (T := F_By) (N := 2) hx hb hts i_By hown hK hP k0 e0 rfl 0 (by decide) (hts _ g_35) (fun _ h9 => h9) rfl d_By_set_6 ?_
    refine va_alen (D := D9) hx hb hK hP k1 0 e1 rfl rfl d_By_set_9 ?_
    refine lv_icmp_ge (tgt := 21) hx hb d_By_set_10 (by decide) (fun c2 => ?_) (fun c2 => ?_)
    · exact mw_vret hx hb hr hlocks hS hP hD (by decide) (by decide) d_By_set_21 (⟨rfl, by rw [bset, if_neg c1, if_pos (show nI 65536 ≤ i from c2), ws_same e1]⟩)
    · refine lv_aload_n hx hb d_By_set_13 rfl (lv_at hl 0 rfl) ?_
      refine va_get (D := D9) (ci := 0) (C := R_By) (T := F_By) (N := 2) hx hb hts i_By hown hK hP k0 e0 rfl 0 (by decide) (hts _ g_35) (fun _ h9 => h9) rfl d_By_set_14 ?_
      refine lv_iload_n hx hb d_By_set_17 rfl (lv_at hl 1 rfl) ?_
      refine lv_iload_n hx hb d_By_set_18 rfl (lv_at hl 2 rfl) ?_
      refine lv_i2b hx hb d_By_set_19 rfl ?_
      refine va_bast (D := D9) hx hb hK hP hD hS k1 0 e1 rfl (bt_in c1 c2) d_By_set_20 (fun H locs hP hD hS => ?_)
      exact mw_vret hx hb hr hlocks hS hP hD (by decide) (by decide) d_By_set_21 (⟨rfl, by rw [bset, if_neg c1, if_neg (show ¬ nI 65536 ≤ i from c2)]⟩)
set_option maxHeartbeats 4000000 in
set_option maxRecDepth 100000 in
/-- Bytes.twoAt(i) -/
theorem c_By_twoAt (l : Launch) (D9 : va_G) (cB cI cJ cG : ClassId) (ws : va_W) (k0 k1 b r : Nat) (n_k0_k1 : k0 ≠ k1) (n_k1_k0 : k1 ≠ k0) (len : Int32) (f : Nat → Int32) (e0 : ws[k0]? = some (b, .inr (0, [.ref r, .int len]))) (e1 : ws[k1]? = some (r, .inl (cB, 65536, .inl f))) (i : Int32) : MW l D9 cls9 (ty9 cB cI cJ cG) y_By_twoAt b_By_twoAt 2 (some .int) (rm9 1 0 0) [.ref b, .int i] ws (fun v w2 => v = some (.int (bt2 f i)) ∧ w2 = ws) 0 0 := by
  refine mw_of (by decide) (Nat.le_of_ble_eq_true rfl) ?_
  intro p e s m below meth c ls C0 hin hP hD hA hS hl
  obtain ⟨hx, hb, hml, hr, hlocks, hown, hts, hK⟩ := id C0
  have hl : lv_has ls 2 [(0, .ref b), (1, .int i)] := hl
  refine lv_aload_n hx hb d_By_twoAt_0 rfl (lv_at hl 0 rfl) ?_
  refine lv_iload_n hx hb d_By_twoAt_1 rfl (lv_at hl 1 rfl) ?_
  refine mw_cV (ci := 0) (k := k0) C0 (c_By_at l D9 cB cI cJ cG ws k0 k1 b r n_k0_k1 n_k1_k0 len f e0 e1 i) g_259 g_2 g_256 g_258 gs_By_at ⟨by decide +kernel, by decide +kernel, show Option.map (fun d => d.parameters.length) (parseMethodDescriptor y_By_at.desc) = some 1 by decide +kernel⟩ ⟨by decide, by decide⟩ rfl rfl hP hD hS hA rfl e0 hl.1 (Nat.le_of_ble_eq_true rfl) rfl d_By_twoAt_2 ⟨by decide, by decide⟩ (fun v9 w9 H locs hq hP hD hS => ?_)
  obtain ⟨rfl, hw9⟩ := hq
  rw [hw9] at hP hD
  refine lv_bipush (v := 8) hx hb d_By_twoAt_5 (by decide) ?_
  refine lv_ishl hx hb d_By_twoAt_7 ?_
  refine lv_aload_n hx hb d_By_twoAt_8 rfl (lv_at hl 0 rfl) ?_
  refine lv_iload_n hx hb d_By_twoAt_9 rfl (lv_at hl 1 rfl) ?_
  refine lv_iconst (v := 1) hx hb d_By_twoAt_10 (by decide) ?_
  refine lv_iadd hx hb d_By_twoAt_11 ?_
  refine mw_cV (ci := 0) (k := k0) C0 (c_By_at l D9 cB cI cJ cG ws k0 k1 b r n_k0_k1 n_k1_k0 len f e0 e1 (i + 1)) g_259 g_2 g_256 g_258 gs_By_at ⟨by decide +kernel, by decide +kernel, show Option.map (fun d => d.parameters.length) (parseMethodDescriptor y_By_at.desc) = some 1 by decide +kernel⟩ ⟨by decide, by decide⟩ rfl rfl hP hD hS hA rfl e0 hl.1 (Nat.le_of_ble_eq_true rfl) rfl d_By_twoAt_12 ⟨by decide, by decide⟩ (fun v9 w9 H locs hq hP hD hS => ?_)
  obtain ⟨rfl, hw9⟩ := hq
  rw [hw9] at hP hD
  refine lv_ior hx hb d_By_twoAt_15 ?_
  exact mw_iret hx hb hr hlocks hS hP hD (by decide) (by decide) d_By_twoAt_16 (⟨rfl, rfl⟩)
set_option maxHeartbeats 4000000 in
set_option maxRecDepth 100000 in
/-- Bytes.setTwo(i, x) -/
theorem c_By_setTwo (l : Launch) (D9 : va_G) (cB cI cJ cG : ClassId) (ws : va_W) (k0 k1 b r : Nat) (n_k0_k1 : k0 ≠ k1) (n_k1_k0 : k1 ≠ k0) (len : Int32) (f : Nat → Int32) (e0 : ws[k0]? = some (b, .inr (0, [.ref r, .int len]))) (e1 : ws[k1]? = some (r, .inl (cB, 65536, .inl f))) (i x : Int32) : MW l D9 cls9 (ty9 cB cI cJ cG) y_By_setTwo b_By_setTwo 3 none (rm9 1 0 0) [.ref b, .int i, .int x] ws (fun v w2 => v = none ∧ w2 = ws.set k1 (r, .inl (cB, 65536, .inl (bset (bset f i (x >>> ((8 : Int32) &&& 31))) (i + 1) x)))) 0 0 := by
  refine mw_of (by decide) (Nat.le_of_ble_eq_true rfl) ?_
  intro p e s m below meth c ls C0 hin hP hD hA hS hl
  obtain ⟨hx, hb, hml, hr, hlocks, hown, hts, hK⟩ := id C0
  have hl : lv_has ls 3 [(0, .ref b), (1, .int i), (2, .int x)] := hl
  refine lv_aload_n hx hb d_By_setTwo_0 rfl (lv_at hl 0 rfl) ?_
  refine lv_iload_n hx hb d_By_setTwo_1 rfl (lv_at hl 1 rfl) ?_
  refine lv_iload_n hx hb d_By_setTwo_2 rfl (lv_at hl 2 rfl) ?_
  refine lv_bipush (v := 8) hx hb d_By_setTwo_3 (by decide) ?_
  refine lv_ishr hx hb d_By_setTwo_5 ?_
  refine mw_cV (ci := 0) (k := k0) C0 (c_By_set l D9 cB cI cJ cG ws k0 k1 b r n_k0_k1 n_k1_k0 len f e0 e1 i (x >>> ((8 : Int32) &&& 31))) g_288 g_2 g_285 g_287 gs_By_set ⟨by decide +kernel, by decide +kernel, show Option.map (fun d => d.parameters.length) (parseMethodDescriptor y_By_set.desc) = some 2 by decide +kernel⟩ ⟨by decide, by decide⟩ rfl rfl hP hD hS hA rfl e0 hl.1 (Nat.le_of_ble_eq_true rfl) rfl d_By_setTwo_6 ⟨by decide, by decide⟩ (fun v9 w9 H locs hq hP hD hS => ?_)
  obtain ⟨rfl, hw9⟩ := hq
  rw [hw9] at hP hD
  refine lv_aload_n hx hb d_By_setTwo_9 rfl (lv_at hl 0 rfl) ?_
  refine lv_iload_n hx hb d_By_setTwo_10 rfl (lv_at hl 1 rfl) ?_
  refine lv_iconst (v := 1) hx hb d_By_setTwo_11 (by decide) ?_
  refine lv_iadd hx hb d_By_setTwo_12 ?_
  refine lv_iload_n hx hb d_By_setTwo_13 rfl (lv_at hl 2 rfl) ?_
  refine mw_cV (ci := 0) (k := k0) C0 (c_By_set l D9 cB cI cJ cG _ k0 k1 b r n_k0_k1 n_k1_k0 len _ (ws_sn n_k1_k0 e0) (ws_se e1) (i + 1) x) g_288 g_2 g_285 g_287 gs_By_set ⟨by decide +kernel, by decide +kernel, show Option.map (fun d => d.parameters.length) (parseMethodDescriptor y_By_set.desc) = some 2 by decide +kernel⟩ ⟨by decide, by decide⟩ rfl rfl hP hD hS hA rfl (ws_sn n_k1_k0 e0) hl.1 (Nat.le_of_ble_eq_true rfl) rfl d_By_setTwo_14 ⟨by decide, by decide⟩ (fun v9 w9 H locs hq hP hD hS => ?_)
  obtain ⟨rfl, hw9⟩ := hq
  rw [hw9] at hP hD
  exact mw_vret hx hb hr hlocks hS hP hD (by decide) (by decide) d_By_setTwo_17 (⟨rfl, List.set_set ..⟩)
set_option maxHeartbeats 4000000 in
set_option maxRecDepth 100000 in
/-- Bytes.put(x) -/
theorem c_By_put (l : Launch) (D9 : va_G) (cB cI cJ cG : ClassId) (ws : va_W) (k0 k1 b r : Nat) (n_k0_k1 : k0 ≠ k1) (n_k1_k0 : k1 ≠ k0) (len : Int32) (f : Nat → Int32) (e0 : ws[k0]? = some (b, .inr (0, [.ref r, .int len]))) (e1 : ws[k1]? = some (r, .inl (cB, 65536, .inl f))) (x : Int32) : MW l D9 cls9 (ty9 cB cI cJ cG) y_By_put b_By_put 2 none (rm9 1 0 0) [.ref b, .int x] ws (fun v w2 => v = none ∧ w2 = wB ws k0 k1 b r cB (len + 1) (bset f len x)) 0 0 := by
  refine mw_of (by decide) (Nat.le_of_ble_eq_true rfl) ?_
  intro p e s m below meth c ls C0 hin hP hD hA hS hl
  obtain ⟨hx, hb, hml, hr, hlocks, hown, hts, hK⟩ := id C0
  have hl : lv_has ls 2 [(0, .ref b), (1, .int x)] := hl
  refine lv_aload_n hx hb d_By_put_0 rfl (lv_at hl 0 rfl) ?_
  refine lv_aload_n hx hb d_By_put_1 rfl (lv_at hl 0 rfl) ?_
  refine va_get (D := D9) (ci := 0) (C := R_By) (T := F_By) (N := 2) hx hb hts i_By hown hK hP k0 e0 rfl 1 (by decide) (hts _ g_40) (fun _ h9 => h9) rfl d_By_put_2 ?_
  refine lv_iload_n hx hb d_By_put_5 rfl (lv_at hl 1 rfl) ?_
  refine mw_cV (ci := 0) (k := k0) C0 (c_By_set l D9 cB cI cJ cG ws k0 k1 b r n_k0_k1 n_k1_k0 len f e0 e1 len x) g_288 g_2 g_285 g_287 gs_By_set ⟨by decide +kernel, by decide +kernel, show Option.map (fun d => d.parameters.length) (parseMethodDescriptor y_By_set.desc) = some 2 by decide +kernel⟩ ⟨by decide, by decide⟩ rfl rfl hP hD hS hA rfl e0 hl.1 (Nat.le_of_ble_eq_true rfl) rfl d_By_put_6 ⟨by decide, by decide⟩ (fun v9 w9 H locs hq hP hD hS => ?_)
  obtain ⟨rfl, hw9⟩ := hq
  rw [hw9] at hP hD
  refine lv_aload_n hx hb d_By_put_9 rfl (lv_at hl 0 rfl) ?_
  refine lv_dup hx hb d_By_put_10 rfl ?_
  refine va_get (D := D9) (ci := 0) (C := R_By) (T := F_By) (N := 2) hx hb hts i_By hown hK hP k0 (ws_sn n_k1_k0 e0) rfl 1 (by decide) (hts _ g_40) (fun _ h9 => h9) rfl d_By_put_11 ?_
  refine lv_iconst (v := 1) hx hb d_By_put_14 (by decide) ?_
  refine lv_iadd hx hb d_By_put_15 ?_
  refine va_put (D := D9) (ty := .int) (ci := 0) (C := R_By) (T := F_By) (N := 2) hx hb hts i_By t_By t_By_ok n_By hown hK hP hD hS k0 (ws_sn n_k1_k0 e0) rfl 1 (by decide) (hts _ g_40) (fun _ h9 => h9) rfl (by decide +kernel) rfl rfl (Nat.le_of_ble_eq_true rfl) d_By_put_16 (fun H locs hP hD hS => ?_)
  exact mw_vret hx hb hr hlocks hS hP hD (by decide) (by decide) d_By_put_19 (⟨rfl, rfl⟩)
set_option maxHeartbeats 4000000 in
set_option maxRecDepth 100000 in
/-- Bytes.putTwo(x) -/
theorem c_By_putTwo (l : Launch) (D9 : va_G) (cB cI cJ cG : ClassId) (ws : va_W) (k0 k1 b r : Nat) (n_k0_k1 : k0 ≠ k1) (n_k1_k0 : k1 ≠ k0) (len : Int32) (f : Nat → Int32) (e0 : ws[k0]? = some (b, .inr (0, [.ref r, .int len]))) (e1 : ws[k1]? = some (r, .inl (cB, 65536, .inl f))) (x : Int32) : MW l D9 cls9 (ty9 cB cI cJ cG) y_By_putTwo b_By_putTwo 2 none (rm9 2 0 0) [.ref b, .int x] ws (fun v w2 => v = none ∧ w2 = wB ws k0 k1 b r cB (len + 1 + 1) (bp2 f len x)) 0 0 := by
  refine mw_of (by decide) (Nat.le_of_ble_eq_true rfl) ?_
  intro p e s m below meth c ls C0 hin hP hD hA hS hl
  obtain ⟨hx, hb, hml, hr, hlocks, hown, hts, hK⟩ := id C0
  have hl : lv_has ls 2 [(0, .ref b), (1, .int x)] := hl
  refine lv_aload_n hx hb d_By_putTwo_0 rfl (lv_at hl 0 rfl) ?_
  refine lv_iload_n hx hb d_By_putTwo_1 rfl (lv_at hl 1 rfl) ?_
  refine lv_bipush (v := 8) hx hb d_By_putTwo_2 (by decide) ?_
  refine lv_ishr hx hb d_By_putTwo_4 ?_
  refine mw_cV (ci := 0) (k := k0) C0 (c_By_put l D9 cB cI cJ cG ws k0 k1 b r n_k0_k1 n_k1_k0 len f e0 e1 (x >>> ((8 : Int32) &&& 31))) g_284 g_2 g_457 g_283 gs_By_put ⟨by decide +kernel, by decide +kernel, show Option.map (fun d => d.parameters.length) (parseMethodDescriptor y_By_put.desc) = some 1 by decide +kernel⟩ ⟨by decide, by decide⟩ rfl rfl hP hD hS hA rfl e0 hl.1 (Nat.le_of_ble_eq_true rfl) rfl d_By_putTwo_5 ⟨by decide, by decide⟩ (fun v9 w9 H locs hq hP hD hS => ?_)
  obtain ⟨rfl, hw9⟩ := hq
  rw [hw9] at hP hD
  refine lv_aload_n hx hb d_By_putTwo_8 rfl (lv_at hl 0 rfl) ?_
  refine lv_iload_n hx hb d_By_putTwo_9 rfl (lv_at hl 1 rfl) ?_
  refine mw_cV (ci := 0) (k := k0) C0 (c_By_put l D9 cB cI cJ cG _ k0 k1 b r n_k0_k1 n_k1_k0 _ _ (wB_0 e0 n_k1_k0) (wB_1 e1 n_k0_k1) x) g_284 g_2 g_457 g_283 gs_By_put ⟨by decide +kernel, by decide +kernel, show Option.map (fun d => d.parameters.length) (parseMethodDescriptor y_By_put.desc) = some 1 by decide +kernel⟩ ⟨by decide, by decide⟩ rfl rfl hP hD hS hA rfl (wB_0 e0 n_k1_k0) hl.1 (Nat.le_of_ble_eq_true rfl) rfl d_By_putTwo_10 ⟨by decide, by decide⟩ (fun v9 w9 H locs hq hP hD hS => ?_)
  obtain ⟨rfl, hw9⟩ := hq
  rw [hw9] at hP hD
  exact mw_vret hx hb hr hlocks hS hP hD (by decide) (by decide) d_By_putTwo_13 (⟨rfl, wB_wB n_k0_k1⟩)
set_option maxHeartbeats 4000000 in
set_option maxRecDepth 100000 in
/-- Bytes.putFour(x) -/
theorem c_By_putFour (l : Launch) (D9 : va_G) (cB cI cJ cG : ClassId) (ws : va_W) (k0 k1 b r : Nat) (n_k0_k1 : k0 ≠ k1) (n_k1_k0 : k1 ≠ k0) (len : Int32) (f : Nat → Int32) (e0 : ws[k0]? = some (b, .inr (0, [.ref r, .int len]))) (e1 : ws[k1]? = some (r, .inl (cB, 65536, .inl f))) (x : Int32) : MW l D9 cls9 (ty9 cB cI cJ cG) y_By_putFour b_By_putFour 2 none (rm9 3 0 0) [.ref b, .int x] ws (fun v w2 => v = none ∧ w2 = wB ws k0 k1 b r cB (len + 1 + 1 + 1 + 1) (bp4 f len x)) 0 0 := by
  refine mw_of (by decide) (Nat.le_of_ble_eq_true rfl) ?_
  intro p e s m below meth c ls C0 hin hP hD hA hS hl
  obtain ⟨hx, hb, hml, hr, hlocks, hown, hts, hK⟩ := id C0
  have hl : lv_has ls 2 [(0, .ref b), (1, .int x)] := hl
  refine lv_aload_n hx hb d_By_putFour_0 rfl (lv_at hl 0 rfl) ?_
  refine lv_iload_n hx hb d_By_putFour_1 rfl (lv_at hl 1 rfl) ?_
  refine lv_bipush (v := 16) hx hb d_By_putFour_2 (by decide) ?_
  refine lv_ishr hx hb d_By_putFour_4 ?_
  refine mw_cV (ci := 0) (k := k0) C0 (c_By_putTwo l D9 cB cI cJ cG ws k0 k1 b r n_k0_k1 n_k1_k0 len f e0 e1 (x >>> ((16 : Int32) &&& 31))) g_456 g_2 g_453 g_455 gs_By_putTwo ⟨by decide +kernel, by decide +kernel, show Option.map (fun d => d.parameters.length) (parseMethodDescriptor y_By_putTwo.desc) = some 1 by decide +kernel⟩ ⟨by decide, by decide⟩ rfl rfl hP hD hS hA rfl e0 hl.1 (Nat.le_of_ble_eq_true rfl) rfl d_By_putFour_5 ⟨by decide, by decide⟩ (fun v9 w9 H locs hq hP hD hS => ?_)
  obtain ⟨rfl, hw9⟩ := hq
  rw [hw9] at hP hD
  refine lv_aload_n hx hb d_By_putFour_8 rfl (lv_at hl 0 rfl) ?_
  refine lv_iload_n hx hb d_By_putFour_9 rfl (lv_at hl 1 rfl) ?_
  refine mw_cV (ci := 0) (k := k0) C0 (c_By_putTwo l D9 cB cI cJ cG _ k0 k1 b r n_k0_k1 n_k1_k0 _ _ (wB_0 e0 n_k1_k0) (wB_1 e1 n_k0_k1) x) g_456 g_2 g_453 g_455 gs_By_putTwo ⟨by decide +kernel, by decide +kernel, show Option.map (fun d => d.parameters.length) (parseMethodDescriptor y_By_putTwo.desc) = some 1 by decide +kernel⟩ ⟨by decide, by decide⟩ rfl rfl hP hD hS hA rfl (wB_0 e0 n_k1_k0) hl.1 (Nat.le_of_ble_eq_true rfl) rfl d_By_putFour_10 ⟨by decide, by decide⟩ (fun v9 w9 H locs hq hP hD hS => ?_)
  obtain ⟨rfl, hw9⟩ := hq
  rw [hw9] at hP hD
  exact mw_vret hx hb hr hlocks hS hP hD (by decide) (by decide) d_By_putFour_13 (⟨rfl, wB_wB n_k0_k1⟩)
