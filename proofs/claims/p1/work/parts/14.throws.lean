theorem sw_lo {x : Int32} (h : x < 0) : x.toInt < 0 := by
  have := Int32.lt_iff_toInt_lt.mp h
  simpa using this
theorem sw_hi {x : Int32} {N : Nat} (h : nI N ≤ x) (hN : N < 2 ^ 31) (h0 : 0 < N) : ((N - 1 : Nat) : Int) < x.toInt := by
  have h1 := Int32.le_iff_toInt_le.mp h
  rw [nI_toInt hN] at h1
  omega
theorem sw_in {x : Int32} {N : Nat} (h1 : ¬ x < 0) (h2 : ¬ nI N ≤ x) (hN : N < 2 ^ 31) : vp_in x N := by
  rcases pk_ix x (n := N) hN with h | h | ⟨j, hj, rfl⟩
  · exact absurd h h1
  · exact absurd h h2
  · exact vp_in_nI hj hN
section MXB
variable {p : Program} {l : Launch} {e : Env} {R : Room} {s : State} {m : MethodId} {args : Array Value} {below : List Frame} {meth : Method} {c : Code} {H : Heap} {locs : List Loc} {cells slots : Nat} {Q : State → Prop}
variable {D : va_G} {cl : List vw_C} {tys : List (ClassId × FieldType)} {cc : ByteArray} {pc nL mc ms : Nat} {ls : Array Slot} {rest : List Value} {own : String} {ret : Option FieldType}
theorem mx_blind {av : List Value} {w1 : va_W} {sz : Nat} : FrameBlind (mx_P D cl tys av w1 sz) := fun a U g mk q => by
  obtain ⟨q0, q1, qP, qK, qD, qZ⟩ := q
  exact ⟨q0, q1, qP, va_K.moved (u := U) (U := U.calling g mk a) (Vm.Alike.refl U.vm) qK, qD, qZ.moved (u := U) (U := U.calling g mk a) (Vm.Alike.refl U.vm)⟩
/-- a call at a method's start, of a method that always throws, in a method that doesn't catch it -/
theorem mx_pass {y : MethodName} {cy : ByteArray} {ny idx : Nat} {rm : Room} {As st0 : List Value} {ws : va_W} {ry : Option FieldType} {b ci k : Nat} {q : vw_C} {fs : List Value} {post : Int32 → Prop} {px1 px : String → Prop} (C0 : mw_C p s m args meth c cc nL ret own D cl tys) (hM : MX l D cl tys y cy ny ry rm (.ref b :: As) ws (fun _ => False) px1 mc ms) (hcw : Cond.code y cy ny ry ∈ GT) (hini : Cond.initialized y.cls ∈ GT) (hl : Cond.methodLink own idx y ∈ GT) (hin : Cond.instanceMethod y ∈ GT) (hse : Cond.selects q.1 y y ∈ GT)
    (hd : y.cls ≠ "java/lang/invoke/MethodHandle" ∧ y.cls ≠ "java/lang/invoke/VarHandle" ∧ (parseMethodDescriptor y.desc).map (fun d => d.parameters.length) = some As.length) (hR : rm.frames + 1 ≤ R.frames ∧ 8 + (ny + 11) + rm.locals ≤ R.locals) (hrc : rm.cells = mc) (hrs : rm.slots = ms)
    (hout : c.exceptionTable.toList = []) (hZ : tx_Z (va_A ws s.heap.size) s s.heap) (hP : va_P D cl ws s.heap) (hD : va_D (va_A ws s.heap.size) ws) (hS : va_S (va_A ws s.heap.size) s.heap s.heap []) (hc : cl[ci]? = some q) (he : ws[k]? = some (b, .inr (ci, fs))) (hsz : ls.size = nL) (hW : (rest.map fun v => v.category).sum ≤ 8) (hst : st0 = As.reverse ++ .ref b :: rest) (hdg : decode cc pc = .ok (.invokevirtual idx, 3)) (hf : 0 + mc ≤ R.cells ∧ 0 + ms ≤ R.slots)
    (hpx : ∀ E, px1 E → px E) :
    W p l e R s m args below meth c s.heap [] 0 0 (tx_Q below (tx_QI (fun r (_ : Unit) => post r) (fun _ _ => True) px (va_A ws s.heap.size)) args s (0 + mc) (0 + ms) (va_A ws s.heap.size)) (F0 m pc ls st0) := by
  obtain ⟨hx, hb, hml, hr, hlocks, hown, hts, hK⟩ := C0
  have pay : ∀ w ∈ (Cond.code y cy ny ry :: GT), ∀ (a' : Array Value) (U : State), s.WarmedH U.vm → w.before a' U = true := fun w hw a' U hU => (List.mem_cons.mp hw).elim (fun e9 => by rw [e9]; exact gt_pay hcw (hts _ hcw) a' U hU) (fun h9 => gt_pay h9 (hts _ h9) a' U hU)
  have hlen : ∀ sig, parseMethodDescriptor y.desc = some sig → As.length = sig.parameters.length := fun sig h => by
    have h2 := hd.2.2
    rw [h] at h2
    exact (Option.some.inj h2).symm
  subst hst
  refine tx_calli (A1 := va_A ws s.heap.size) (tx_virt (Ts := GT) (own := own) (C := q.1) ⟨hx, hb, hml, hown, hts⟩ (hM s.heap.size) ⟨⟨hrc, hrs, hR.1, hR.2, pay, List.mem_cons_self, hts _ hcw, hts _ hini, ⟨hd.1, hd.2.1⟩, hlen, hts _ hl⟩, hts _ hin, hts _ hse⟩ ⟨mx_blind, va_recv hK hP hc he, fun U hU hW => ⟨rfl, by rw [hU], by rw [hU]; exact hP, va_K.moved hW.alike hK, hD.weaken (fun _ _ _ _ => trivial), by rw [hU]; exact hZ.moved hW.alike⟩⟩ rfl rfl hsz rfl (lv_room hW) hdg hf) hS (fun _ _ h => h) (fun _ h => h) ?_ ?_
  · intro q9 E ce H1 locs1 h1 h2 h3 h4 h5 h6 h7
    exact tx_leave hout hlocks h7.2.2 (fun t ht hW => ⟨Or.inr ⟨q9, E, ce, rfl, hpx E h1, by rw [ht]; exact h2, h3, h4⟩, h7.F ht⟩)
  · intro r u t H1 locs1 h1 h2 h3
    exact absurd h3 id
end MXB
theorem g_13 : (Cond.initialized "java/lang/IllegalArgumentException") ∈ GT := gt_mem 13 (by decide +kernel) rfl
theorem g_19 : (Cond.initialized "java/lang/IndexOutOfBoundsException") ∈ GT := gt_mem 19 (by decide +kernel) rfl
theorem g_83 : (Cond.fieldLinkNest "WireMessages" (100 : Nat) "WireMessages$Gathered" "sizes" "[I" "WireMessages") ∈ GT := gt_mem 83 (by decide +kernel) rfl
theorem g_86 : (Cond.fieldLinkNest "WireMessages" (137 : Nat) "WireMessages$Gathered" "id" "I" "WireMessages") ∈ GT := gt_mem 86 (by decide +kernel) rfl
theorem g_89 : (Cond.fieldLinkNest "WireMessages" (140 : Nat) "WireMessages$Gathered" "flags" "I" "WireMessages") ∈ GT := gt_mem 89 (by decide +kernel) rfl
theorem g_187 : (Cond.fieldLinkNest "WireMessages" (120 : Nat) "WireMessages$Writer" "message" "LWireMessages$Bytes;" "WireMessages") ∈ GT := gt_mem 187 (by decide +kernel) rfl
theorem g_192 : (Cond.fieldLinkNest "WireMessages" (168 : Nat) "WireMessages$Writer" "pointers" "I" "WireMessages") ∈ GT := gt_mem 192 (by decide +kernel) rfl
theorem g_466 : (Cond.classLink "WireMessages" (71 : Nat) "java/lang/IllegalArgumentException") ∈ GT := gt_mem 466 (by decide +kernel) rfl
theorem g_628 : (Cond.classLink "WireMessages" (123 : Nat) "java/lang/IndexOutOfBoundsException") ∈ GT := gt_mem 628 (by decide +kernel) rfl
theorem at_Wm_73 : ∀ w ∈ (Bundle.ownAtoms0 R_Wm 73 "java/lang/IllegalArgumentException" ["java/lang/RuntimeException", "java/lang/Exception"]).filter tx_tab, w ∈ GT := gt_all _ (by decide +kernel) (by decide +kernel)
theorem at_Wm_125 : ∀ w ∈ (Bundle.ownAtoms0 R_Wm 125 "java/lang/IndexOutOfBoundsException" ["java/lang/RuntimeException", "java/lang/Exception"]).filter tx_tab, w ∈ GT := gt_all _ (by decide +kernel) (by decide +kernel)
theorem d_Wm_end_0 : decode b_Wm_end 0 = .ok (.iload_n 1, 1) := by decide +kernel
theorem d_Wm_end_1 : decode b_Wm_end 1 = .ok (.ifCond .lt 14, 3) := by decide +kernel
theorem d_Wm_end_4 : decode b_Wm_end 4 = .ok (.iload_n 1, 1) := by decide +kernel
theorem d_Wm_end_5 : decode b_Wm_end 5 = .ok (.aload_n 0, 1) := by decide +kernel
theorem d_Wm_end_6 : decode b_Wm_end 6 = .ok (.getfield 10, 3) := by decide +kernel
theorem d_Wm_end_9 : decode b_Wm_end 9 = .ok (.getfield 60, 3) := by decide +kernel
theorem d_Wm_end_12 : decode b_Wm_end 12 = .ok (.if_icmp .le 11, 3) := by decide +kernel
theorem d_Wm_end_15 : decode b_Wm_end 15 = .ok (.new 71, 3) := by decide +kernel
theorem d_Wm_end_18 : decode b_Wm_end 18 = .ok (.dup, 1) := by decide +kernel
theorem d_Wm_end_19 : decode b_Wm_end 19 = .ok (.invokespecial 73, 3) := by decide +kernel
theorem d_Wm_end_22 : decode b_Wm_end 22 = .ok (.athrow, 1) := by decide +kernel
theorem d_Wm_end_23 : decode b_Wm_end 23 = .ok (.aload_n 0, 1) := by decide +kernel
theorem d_Wm_end_24 : decode b_Wm_end 24 = .ok (.getfield 10, 3) := by decide +kernel
theorem d_Wm_end_27 : decode b_Wm_end 27 = .ok (.iload_n 1, 1) := by decide +kernel
theorem d_Wm_end_28 : decode b_Wm_end 28 = .ok (.putfield 60, 3) := by decide +kernel
theorem d_Wm_end_31 : decode b_Wm_end 31 = .ok (.iload_n 1, 1) := by decide +kernel
theorem d_Wm_end_32 : decode b_Wm_end 32 = .ok (.ireturn, 1) := by decide +kernel
theorem d_Wm_written_0 : decode b_Wm_written 0 = .ok (.iload_n 1, 1) := by decide +kernel
theorem d_Wm_written_1 : decode b_Wm_written 1 = .ok (.ifCond .lt 17, 3) := by decide +kernel
theorem d_Wm_written_4 : decode b_Wm_written 4 = .ok (.iload_n 1, 1) := by decide +kernel
theorem d_Wm_written_5 : decode b_Wm_written 5 = .ok (.aload_n 0, 1) := by decide +kernel
theorem d_Wm_written_6 : decode b_Wm_written 6 = .ok (.getfield 37, 3) := by decide +kernel
theorem d_Wm_written_9 : decode b_Wm_written 9 = .ok (.getfield 120, 3) := by decide +kernel
theorem d_Wm_written_12 : decode b_Wm_written 12 = .ok (.getfield 60, 3) := by decide +kernel
theorem d_Wm_written_15 : decode b_Wm_written 15 = .ok (.if_icmp .lt 11, 3) := by decide +kernel
theorem d_Wm_written_18 : decode b_Wm_written 18 = .ok (.new 123, 3) := by decide +kernel
theorem d_Wm_written_21 : decode b_Wm_written 21 = .ok (.dup, 1) := by decide +kernel
theorem d_Wm_written_22 : decode b_Wm_written 22 = .ok (.invokespecial 125, 3) := by decide +kernel
theorem d_Wm_written_25 : decode b_Wm_written 25 = .ok (.athrow, 1) := by decide +kernel
theorem d_Wm_written_26 : decode b_Wm_written 26 = .ok (.aload_n 0, 1) := by decide +kernel
theorem d_Wm_written_27 : decode b_Wm_written 27 = .ok (.getfield 37, 3) := by decide +kernel
theorem d_Wm_written_30 : decode b_Wm_written 30 = .ok (.getfield 120, 3) := by decide +kernel
theorem d_Wm_written_33 : decode b_Wm_written 33 = .ok (.iload_n 1, 1) := by decide +kernel
theorem d_Wm_written_34 : decode b_Wm_written 34 = .ok (.invokevirtual 130, 3) := by decide +kernel
theorem d_Wm_written_37 : decode b_Wm_written 37 = .ok (.ireturn, 1) := by decide +kernel
theorem d_Wm_header_0 : decode b_Wm_header 0 = .ok (.iload_n 1, 1) := by decide +kernel
theorem d_Wm_header_1 : decode b_Wm_header 1 = .ok (.tableswitch 67 0 5 #[39, 47, 55, 55, 55, 55], 39) := by decide +kernel
theorem d_Wm_header_40 : decode b_Wm_header 40 = .ok (.aload_n 0, 1) := by decide +kernel
theorem d_Wm_header_41 : decode b_Wm_header 41 = .ok (.getfield 19, 3) := by decide +kernel
theorem d_Wm_header_44 : decode b_Wm_header 44 = .ok (.getfield 137, 3) := by decide +kernel
theorem d_Wm_header_47 : decode b_Wm_header 47 = .ok (.ireturn, 1) := by decide +kernel
theorem d_Wm_header_48 : decode b_Wm_header 48 = .ok (.aload_n 0, 1) := by decide +kernel
theorem d_Wm_header_49 : decode b_Wm_header 49 = .ok (.getfield 19, 3) := by decide +kernel
theorem d_Wm_header_52 : decode b_Wm_header 52 = .ok (.getfield 140, 3) := by decide +kernel
theorem d_Wm_header_55 : decode b_Wm_header 55 = .ok (.ireturn, 1) := by decide +kernel
theorem d_Wm_header_56 : decode b_Wm_header 56 = .ok (.aload_n 0, 1) := by decide +kernel
theorem d_Wm_header_57 : decode b_Wm_header 57 = .ok (.getfield 19, 3) := by decide +kernel
theorem d_Wm_header_60 : decode b_Wm_header 60 = .ok (.getfield 100, 3) := by decide +kernel
theorem d_Wm_header_63 : decode b_Wm_header 63 = .ok (.iload_n 1, 1) := by decide +kernel
theorem d_Wm_header_64 : decode b_Wm_header 64 = .ok (.iconst 2, 1) := by decide +kernel
theorem d_Wm_header_65 : decode b_Wm_header 65 = .ok (.isub, 1) := by decide +kernel
theorem d_Wm_header_66 : decode b_Wm_header 66 = .ok (.iaload, 1) := by decide +kernel
theorem d_Wm_header_67 : decode b_Wm_header 67 = .ok (.ireturn, 1) := by decide +kernel
theorem d_Wm_header_68 : decode b_Wm_header 68 = .ok (.new 71, 3) := by decide +kernel
theorem d_Wm_header_71 : decode b_Wm_header 71 = .ok (.dup, 1) := by decide +kernel
theorem d_Wm_header_72 : decode b_Wm_header 72 = .ok (.invokespecial 73, 3) := by decide +kernel
theorem d_Wm_header_75 : decode b_Wm_header 75 = .ok (.athrow, 1) := by decide +kernel
theorem d_Wm_count_0 : decode b_Wm_count 0 = .ok (.iload_n 1, 1) := by decide +kernel
theorem d_Wm_count_1 : decode b_Wm_count 1 = .ok (.tableswitch 63 0 3 #[31, 39, 50, 58], 31) := by decide +kernel
theorem d_Wm_count_32 : decode b_Wm_count 32 = .ok (.aload_n 0, 1) := by decide +kernel
theorem d_Wm_count_33 : decode b_Wm_count 33 = .ok (.getfield 10, 3) := by decide +kernel
theorem d_Wm_count_36 : decode b_Wm_count 36 = .ok (.getfield 60, 3) := by decide +kernel
theorem d_Wm_count_39 : decode b_Wm_count 39 = .ok (.ireturn, 1) := by decide +kernel
theorem d_Wm_count_40 : decode b_Wm_count 40 = .ok (.aload_n 0, 1) := by decide +kernel
theorem d_Wm_count_41 : decode b_Wm_count 41 = .ok (.getfield 37, 3) := by decide +kernel
theorem d_Wm_count_44 : decode b_Wm_count 44 = .ok (.getfield 120, 3) := by decide +kernel
theorem d_Wm_count_47 : decode b_Wm_count 47 = .ok (.getfield 60, 3) := by decide +kernel
theorem d_Wm_count_50 : decode b_Wm_count 50 = .ok (.ireturn, 1) := by decide +kernel
theorem d_Wm_count_51 : decode b_Wm_count 51 = .ok (.aload_n 0, 1) := by decide +kernel
theorem d_Wm_count_52 : decode b_Wm_count 52 = .ok (.getfield 37, 3) := by decide +kernel
theorem d_Wm_count_55 : decode b_Wm_count 55 = .ok (.getfield 168, 3) := by decide +kernel
theorem d_Wm_count_58 : decode b_Wm_count 58 = .ok (.ireturn, 1) := by decide +kernel
theorem d_Wm_count_59 : decode b_Wm_count 59 = .ok (.aload_n 0, 1) := by decide +kernel
theorem d_Wm_count_60 : decode b_Wm_count 60 = .ok (.getfield 57, 3) := by decide +kernel
theorem d_Wm_count_63 : decode b_Wm_count 63 = .ok (.ireturn, 1) := by decide +kernel
theorem d_Wm_count_64 : decode b_Wm_count 64 = .ok (.iconst (-1), 1) := by decide +kernel
theorem d_Wm_count_65 : decode b_Wm_count 65 = .ok (.ireturn, 1) := by decide +kernel
theorem d_Ga_rowOf_0 : decode b_Ga_rowOf 0 = .ok (.iload_n 1, 1) := by decide +kernel
theorem d_Ga_rowOf_1 : decode b_Ga_rowOf 1 = .ok (.ifCond .lt 22, 3) := by decide +kernel
theorem d_Ga_rowOf_4 : decode b_Ga_rowOf 4 = .ok (.iload_n 1, 1) := by decide +kernel
theorem d_Ga_rowOf_5 : decode b_Ga_rowOf 5 = .ok (.iconst 4, 1) := by decide +kernel
theorem d_Ga_rowOf_6 : decode b_Ga_rowOf 6 = .ok (.if_icmp .ge 17, 3) := by decide +kernel
theorem d_Ga_rowOf_9 : decode b_Ga_rowOf 9 = .ok (.iload_n 2, 1) := by decide +kernel
theorem d_Ga_rowOf_10 : decode b_Ga_rowOf 10 = .ok (.ifCond .lt 13, 3) := by decide +kernel
theorem d_Ga_rowOf_13 : decode b_Ga_rowOf 13 = .ok (.iload_n 2, 1) := by decide +kernel
theorem d_Ga_rowOf_14 : decode b_Ga_rowOf 14 = .ok (.aload_n 0, 1) := by decide +kernel
theorem d_Ga_rowOf_15 : decode b_Ga_rowOf 15 = .ok (.getfield 42, 3) := by decide +kernel
theorem d_Ga_rowOf_18 : decode b_Ga_rowOf 18 = .ok (.iload_n 1, 1) := by decide +kernel
theorem d_Ga_rowOf_19 : decode b_Ga_rowOf 19 = .ok (.iaload, 1) := by decide +kernel
theorem d_Ga_rowOf_20 : decode b_Ga_rowOf 20 = .ok (.if_icmp .lt 5, 3) := by decide +kernel
theorem d_Ga_rowOf_23 : decode b_Ga_rowOf 23 = .ok (.iconst (-1), 1) := by decide +kernel
theorem d_Ga_rowOf_24 : decode b_Ga_rowOf 24 = .ok (.ireturn, 1) := by decide +kernel
theorem d_Ga_rowOf_25 : decode b_Ga_rowOf 25 = .ok (.aload_n 0, 1) := by decide +kernel
theorem d_Ga_rowOf_26 : decode b_Ga_rowOf 26 = .ok (.getfield 39, 3) := by decide +kernel
theorem d_Ga_rowOf_29 : decode b_Ga_rowOf 29 = .ok (.iload_n 1, 1) := by decide +kernel
theorem d_Ga_rowOf_30 : decode b_Ga_rowOf 30 = .ok (.aaload, 1) := by decide +kernel
theorem d_Ga_rowOf_31 : decode b_Ga_rowOf 31 = .ok (.iload_n 2, 1) := by decide +kernel
theorem d_Ga_rowOf_32 : decode b_Ga_rowOf 32 = .ok (.iaload, 1) := by decide +kernel
theorem d_Ga_rowOf_33 : decode b_Ga_rowOf 33 = .ok (.ireturn, 1) := by decide +kernel
set_option maxHeartbeats 4000000 in
set_option maxRecDepth 100000 in
theorem c_Wm_end (l : Launch) (D9 : va_G) (cB cI cJ cG : ClassId) (hfl : l.flags = pinnedFlags ++ [noTraceFlag]) (b tp ga re wr na tpr : Nat) (u1 : Int32) : MX l D9 cls9 (ty9 cB cI cJ cG) y_Wm_end b_Wm_end 2 (some .int) (rm9 6 1 6) [.ref b, .int u1] [(b, .inr (6, [.ref tp, .ref ga, .ref re, .ref wr, .ref na, .int (-1), .int 0])), (tp, .inr (0, [.ref tpr, .int 0]))] (fun v8 => v8 = u1 ∧ ¬ u1 < 0 ∧ u1 ≤ 0) (fun E => E = "java/lang/IllegalArgumentException" ∧ (u1 < 0 ∨ 0 < u1)) 1 6 := by
  refine mx_of (by decide) (Nat.le_of_ble_eq_true rfl) ?_
  intro p e s m below meth c ls C0 hout hZ hlc hP hD hA hS hl
  obtain ⟨hx, hb, hml, hr, hlocks, hown, hts, hK⟩ := id C0
  have hl : lv_has ls 2 [(0, .ref b), (1, .int u1)] := hl
  refine lv_iload_n hx hb d_Wm_end_0 rfl (lv_at hl 1 rfl) ?_
  refine lv_if_lt (tgt := 15) hx hb d_Wm_end_1 (by decide) (fun c1 => ?_) (fun c1 => ?_)
  · exact mx_throw (ic := 73) (names := ["java/lang/RuntimeException", "java/lang/Exception"]) hfl C0 hZ hlc hout (by decide +kernel) (by decide +kernel) at_Wm_73 g_466 g_13 hS hl.1 (by decide) (Nat.le_of_ble_eq_true rfl) (by decide) (by decide) (by decide) (by decide) d_Wm_end_15 d_Wm_end_18 d_Wm_end_19 d_Wm_end_22 (⟨rfl, Or.inl c1⟩)
  · refine lv_iload_n hx hb d_Wm_end_4 rfl (lv_at hl 1 rfl) ?_
    refine lv_aload_n hx hb d_Wm_end_5 rfl (lv_at hl 0 rfl) ?_
    refine va_get (D := D9) (ci := 6) (C := R_Wm) (T := F_Wm) (N := 7) hx hb hts i_Wm hown hK hP 0 rfl rfl 0 (by decide) (hts _ g_222) (fun _ h9 => h9) rfl d_Wm_end_6 ?_
    refine va_getN (D := D9) (ci := 0) (C := R_By) (T := F_By) (N := 2) hx hb hts i_By hown hK hP 1 rfl rfl 1 (by decide) (hts _ g_36) (fun _ h9 => h9) rfl d_Wm_end_9 ?_
    refine lv_icmp_le (tgt := 23) hx hb d_Wm_end_12 (by decide) (fun c2 => ?_) (fun c2 => ?_)
    · refine lv_aload_n hx hb d_Wm_end_23 rfl (lv_at hl 0 rfl) ?_
      refine va_get (D := D9) (ci := 6) (C := R_Wm) (T := F_Wm) (N := 7) hx hb hts i_Wm hown hK hP 0 rfl rfl 0 (by decide) (hts _ g_222) (fun _ h9 => h9) rfl d_Wm_end_24 ?_
      refine lv_iload_n hx hb d_Wm_end_27 rfl (lv_at hl 1 rfl) ?_
      refine va_putN (D := D9) (ty := .int) (ci := 0) (C := R_By) (T := F_By) (N := 2) hx hb hts i_By t_By t_By_ok n_By hown hK hP hD hS 1 rfl rfl 1 (by decide) (hts _ g_36) (fun _ h9 => h9) rfl (by decide +kernel) rfl rfl (Nat.le_of_ble_eq_true rfl) d_Wm_end_28 (fun H locs hP hD hS => ?_)
      have hP : va_P D9 cls9 [(b, .inr (6, [.ref tp, .ref ga, .ref re, .ref wr, .ref na, .int (-1), .int 0])), (tp, .inr (0, [.ref tpr, .int _]))] H := hP
      have hD : va_D _ [(b, .inr (6, [.ref tp, .ref ga, .ref re, .ref wr, .ref na, .int (-1), .int 0])), (tp, .inr (0, [.ref tpr, .int _]))] := hD
      refine lv_iload_n hx hb d_Wm_end_31 rfl (lv_at hl 1 rfl) ?_
      exact mx_ret hx hb hr hlocks hS (by decide) (by decide) d_Wm_end_32 (by first | rfl | decide +kernel) (⟨rfl, c1, c2⟩)
    · exact mx_throw (ic := 73) (names := ["java/lang/RuntimeException", "java/lang/Exception"]) hfl C0 hZ hlc hout (by decide +kernel) (by decide +kernel) at_Wm_73 g_466 g_13 hS hl.1 (by decide) (Nat.le_of_ble_eq_true rfl) (by decide) (by decide) (by decide) (by decide) d_Wm_end_15 d_Wm_end_18 d_Wm_end_19 d_Wm_end_22 (⟨rfl, Or.inr (Int32.not_le.mp c2)⟩)
set_option maxHeartbeats 4000000 in
set_option maxRecDepth 100000 in
theorem c_Wm_written (l : Launch) (D9 : va_G) (cB cI cJ cG : ClassId) (hfl : l.flags = pinnedFlags ++ [noTraceFlag]) (b tp ga re wr na ga2 ms en lsA lmA msr : Nat) (u1 : Int32) : MX l D9 cls9 (ty9 cB cI cJ cG) y_Wm_written b_Wm_written 2 (some .int) (rm9 6 1 6) [.ref b, .int u1] [(b, .inr (6, [.ref tp, .ref ga, .ref re, .ref wr, .ref na, .int (-1), .int 0])), (wr, .inr (5, [.ref ga, .ref ms, .ref en, .ref lsA, .ref lmA, .int 0])), (ms, .inr (0, [.ref msr, .int 0]))] (fun v8 => False) (fun E => E = "java/lang/IndexOutOfBoundsException") 1 6 := by
  refine mx_of (by decide) (Nat.le_of_ble_eq_true rfl) ?_
  intro p e s m below meth c ls C0 hout hZ hlc hP hD hA hS hl
  obtain ⟨hx, hb, hml, hr, hlocks, hown, hts, hK⟩ := id C0
  have hl : lv_has ls 2 [(0, .ref b), (1, .int u1)] := hl
  refine lv_iload_n hx hb d_Wm_written_0 rfl (lv_at hl 1 rfl) ?_
  refine lv_if_lt (tgt := 18) hx hb d_Wm_written_1 (by decide) (fun c1 => ?_) (fun c1 => ?_)
  · exact mx_throw (ic := 125) (names := ["java/lang/RuntimeException", "java/lang/Exception"]) hfl C0 hZ hlc hout (by decide +kernel) (by decide +kernel) at_Wm_125 g_628 g_19 hS hl.1 (by decide) (Nat.le_of_ble_eq_true rfl) (by decide) (by decide) (by decide) (by decide) d_Wm_written_18 d_Wm_written_21 d_Wm_written_22 d_Wm_written_25 (rfl)
  · refine lv_iload_n hx hb d_Wm_written_4 rfl (lv_at hl 1 rfl) ?_
    refine lv_aload_n hx hb d_Wm_written_5 rfl (lv_at hl 0 rfl) ?_
    refine va_get (D := D9) (ci := 6) (C := R_Wm) (T := F_Wm) (N := 7) hx hb hts i_Wm hown hK hP 0 rfl rfl 3 (by decide) (hts _ g_225) (fun _ h9 => h9) rfl d_Wm_written_6 ?_
    refine va_getN (D := D9) (ci := 5) (C := R_Wr) (T := F_Wr) (N := 6) hx hb hts i_Wr hown hK hP 1 rfl rfl 1 (by decide) (hts _ g_187) (fun _ h9 => h9) rfl d_Wm_written_9 ?_
    refine va_getN (D := D9) (ci := 0) (C := R_By) (T := F_By) (N := 2) hx hb hts i_By hown hK hP 2 rfl rfl 1 (by decide) (hts _ g_36) (fun _ h9 => h9) rfl d_Wm_written_12 ?_
    refine lv_icmp_lt (tgt := 26) hx hb d_Wm_written_15 (by decide) (fun c2 => ?_) (fun c2 => ?_)
    · exact absurd c2 c1
    · exact mx_throw (ic := 125) (names := ["java/lang/RuntimeException", "java/lang/Exception"]) hfl C0 hZ hlc hout (by decide +kernel) (by decide +kernel) at_Wm_125 g_628 g_19 hS hl.1 (by decide) (Nat.le_of_ble_eq_true rfl) (by decide) (by decide) (by decide) (by decide) d_Wm_written_18 d_Wm_written_21 d_Wm_written_22 d_Wm_written_25 (rfl)
set_option maxHeartbeats 4000000 in
set_option maxRecDepth 100000 in
theorem c_Wm_header (l : Launch) (D9 : va_G) (cB cI cJ cG : ClassId) (hfl : l.flags = pinnedFlags ++ [noTraceFlag]) (b tp ga re wr na gb st nl dl ty ki ti rw sz : Nat) (u1 : Int32) : MX l D9 cls9 (ty9 cB cI cJ cG) y_Wm_header b_Wm_header 2 (some .int) (rm9 6 1 6) [.ref b, .int u1] [(b, .inr (6, [.ref tp, .ref ga, .ref re, .ref wr, .ref na, .int (-1), .int 0])), (ga, .inr (2, [.ref gb, .ref st, .ref nl, .ref dl, .ref ty, .ref ki, .ref ti, .ref rw, .ref sz, .int 0, .int 0])), (sz, .inl (cI, 4, .inl (fun _ => 0)))] (fun v8 => v8 = 0 ∧ ¬ u1 < 0 ∧ ¬ nI 6 ≤ u1) (fun E => E = "java/lang/IllegalArgumentException" ∧ (u1 < 0 ∨ nI 6 ≤ u1)) 1 6 := by
  refine mx_of (by decide) (Nat.le_of_ble_eq_true rfl) ?_
  intro p e s m below meth c ls C0 hout hZ hlc hP hD hA hS hl
  obtain ⟨hx, hb, hml, hr, hlocks, hown, hts, hK⟩ := id C0
  have hl : lv_has ls 2 [(0, .ref b), (1, .int u1)] := hl
  refine lv_iload_n hx hb d_Wm_header_0 rfl (lv_at hl 1 rfl) ?_
  rcases pk_ix u1 (n := 6) (by decide) with h9 | h9 | ⟨j9, hj9, e9⟩
  · refine lv_tableOut (tgt := 68) hx hb d_Wm_header_1 (Or.inl (sw_lo h9)) (by decide) ?_
    exact mx_throw (ic := 73) (names := ["java/lang/RuntimeException", "java/lang/Exception"]) hfl C0 hZ hlc hout (by decide +kernel) (by decide +kernel) at_Wm_73 g_466 g_13 hS hl.1 (by decide) (Nat.le_of_ble_eq_true rfl) (by decide) (by decide) (by decide) (by decide) d_Wm_header_68 d_Wm_header_71 d_Wm_header_72 d_Wm_header_75 (⟨rfl, Or.inl h9⟩)
  · refine lv_tableOut (tgt := 68) hx hb d_Wm_header_1 (Or.inr (sw_hi h9 (by decide) (by decide))) (by decide) ?_
    exact mx_throw (ic := 73) (names := ["java/lang/RuntimeException", "java/lang/Exception"]) hfl C0 hZ hlc hout (by decide +kernel) (by decide +kernel) at_Wm_73 g_466 g_13 hS hl.1 (by decide) (Nat.le_of_ble_eq_true rfl) (by decide) (by decide) (by decide) (by decide) d_Wm_header_68 d_Wm_header_71 d_Wm_header_72 d_Wm_header_75 (⟨rfl, Or.inr h9⟩)
  · rcases (show j9 = 0 ∨ j9 = 1 ∨ j9 = 2 ∨ j9 = 3 ∨ j9 = 4 ∨ j9 = 5 by omega) with rfl | rfl | rfl | rfl | rfl | rfl
    · subst e9
      refine lv_tableIn (tgt := 40) hx hb d_Wm_header_1 (by decide) (by decide) rfl (by decide) ?_
      refine lv_aload_n hx hb d_Wm_header_40 rfl (lv_at hl 0 rfl) ?_
      refine va_get (D := D9) (ci := 6) (C := R_Wm) (T := F_Wm) (N := 7) hx hb hts i_Wm hown hK hP 0 rfl rfl 1 (by decide) (hts _ g_223) (fun _ h9 => h9) rfl d_Wm_header_41 ?_
      refine va_getN (D := D9) (ci := 2) (C := R_Ga) (T := F_Ga) (N := 11) hx hb hts i_Ga hown hK hP 1 rfl rfl 9 (by decide) (hts _ g_86) (fun _ h9 => h9) rfl d_Wm_header_44 ?_
      exact mx_ret hx hb hr hlocks hS (by decide) (by decide) d_Wm_header_47 (by first | rfl | decide +kernel) (⟨rfl, by decide, by decide⟩)
    · subst e9
      refine lv_tableIn (tgt := 48) hx hb d_Wm_header_1 (by decide) (by decide) rfl (by decide) ?_
      refine lv_aload_n hx hb d_Wm_header_48 rfl (lv_at hl 0 rfl) ?_
      refine va_get (D := D9) (ci := 6) (C := R_Wm) (T := F_Wm) (N := 7) hx hb hts i_Wm hown hK hP 0 rfl rfl 1 (by decide) (hts _ g_223) (fun _ h9 => h9) rfl d_Wm_header_49 ?_
      refine va_getN (D := D9) (ci := 2) (C := R_Ga) (T := F_Ga) (N := 11) hx hb hts i_Ga hown hK hP 1 rfl rfl 10 (by decide) (hts _ g_89) (fun _ h9 => h9) rfl d_Wm_header_52 ?_
      exact mx_ret hx hb hr hlocks hS (by decide) (by decide) d_Wm_header_55 (by first | rfl | decide +kernel) (⟨rfl, by decide, by decide⟩)
    · subst e9
      refine lv_tableIn (tgt := 56) hx hb d_Wm_header_1 (by decide) (by decide) rfl (by decide) ?_
      refine lv_aload_n hx hb d_Wm_header_56 rfl (lv_at hl 0 rfl) ?_
      refine va_get (D := D9) (ci := 6) (C := R_Wm) (T := F_Wm) (N := 7) hx hb hts i_Wm hown hK hP 0 rfl rfl 1 (by decide) (hts _ g_223) (fun _ h9 => h9) rfl d_Wm_header_57 ?_
      refine va_getN (D := D9) (ci := 2) (C := R_Ga) (T := F_Ga) (N := 11) hx hb hts i_Ga hown hK hP 1 rfl rfl 8 (by decide) (hts _ g_83) (fun _ h9 => h9) rfl d_Wm_header_60 ?_
      refine lv_iload_n hx hb d_Wm_header_63 rfl (lv_at hl 1 rfl) ?_
      refine lv_iconst (v := 2) hx hb d_Wm_header_64 (by decide) ?_
      refine lv_isub hx hb d_Wm_header_65 ?_
      refine va_iald (D := D9) hx hb hK hP 2 1 rfl rfl (by unfold vp_in; decide +kernel) d_Wm_header_66 ?_
      exact mx_ret hx hb hr hlocks hS (by decide) (by decide) d_Wm_header_67 (by first | rfl | decide +kernel) (⟨rfl, by decide, by decide⟩)
    · subst e9
      refine lv_tableIn (tgt := 56) hx hb d_Wm_header_1 (by decide) (by decide) rfl (by decide) ?_
      refine lv_aload_n hx hb d_Wm_header_56 rfl (lv_at hl 0 rfl) ?_
      refine va_get (D := D9) (ci := 6) (C := R_Wm) (T := F_Wm) (N := 7) hx hb hts i_Wm hown hK hP 0 rfl rfl 1 (by decide) (hts _ g_223) (fun _ h9 => h9) rfl d_Wm_header_57 ?_
      refine va_getN (D := D9) (ci := 2) (C := R_Ga) (T := F_Ga) (N := 11) hx hb hts i_Ga hown hK hP 1 rfl rfl 8 (by decide) (hts _ g_83) (fun _ h9 => h9) rfl d_Wm_header_60 ?_
      refine lv_iload_n hx hb d_Wm_header_63 rfl (lv_at hl 1 rfl) ?_
      refine lv_iconst (v := 2) hx hb d_Wm_header_64 (by decide) ?_
      refine lv_isub hx hb d_Wm_header_65 ?_
      refine va_iald (D := D9) hx hb hK hP 2 1 rfl rfl (by unfold vp_in; decide +kernel) d_Wm_header_66 ?_
      exact mx_ret hx hb hr hlocks hS (by decide) (by decide) d_Wm_header_67 (by first | rfl | decide +kernel) (⟨rfl, by decide, by decide⟩)
    · subst e9
      refine lv_tableIn (tgt := 56) hx hb d_Wm_header_1 (by decide) (by decide) rfl (by decide) ?_
      refine lv_aload_n hx hb d_Wm_header_56 rfl (lv_at hl 0 rfl) ?_
      refine va_get (D := D9) (ci := 6) (C := R_Wm) (T := F_Wm) (N := 7) hx hb hts i_Wm hown hK hP 0 rfl rfl 1 (by decide) (hts _ g_223) (fun _ h9 => h9) rfl d_Wm_header_57 ?_
      refine va_getN (D := D9) (ci := 2) (C := R_Ga) (T := F_Ga) (N := 11) hx hb hts i_Ga hown hK hP 1 rfl rfl 8 (by decide) (hts _ g_83) (fun _ h9 => h9) rfl d_Wm_header_60 ?_
      refine lv_iload_n hx hb d_Wm_header_63 rfl (lv_at hl 1 rfl) ?_
      refine lv_iconst (v := 2) hx hb d_Wm_header_64 (by decide) ?_
      refine lv_isub hx hb d_Wm_header_65 ?_
      refine va_iald (D := D9) hx hb hK hP 2 1 rfl rfl (by unfold vp_in; decide +kernel) d_Wm_header_66 ?_
      exact mx_ret hx hb hr hlocks hS (by decide) (by decide) d_Wm_header_67 (by first | rfl | decide +kernel) (⟨rfl, by decide, by decide⟩)
    · subst e9
      refine lv_tableIn (tgt := 56) hx hb d_Wm_header_1 (by decide) (by decide) rfl (by decide) ?_
      refine lv_aload_n hx hb d_Wm_header_56 rfl (lv_at hl 0 rfl) ?_
      refine va_get (D := D9) (ci := 6) (C := R_Wm) (T := F_Wm) (N := 7) hx hb hts i_Wm hown hK hP 0 rfl rfl 1 (by decide) (hts _ g_223) (fun _ h9 => h9) rfl d_Wm_header_57 ?_
      refine va_getN (D := D9) (ci := 2) (C := R_Ga) (T := F_Ga) (N := 11) hx hb hts i_Ga hown hK hP 1 rfl rfl 8 (by decide) (hts _ g_83) (fun _ h9 => h9) rfl d_Wm_header_60 ?_
      refine lv_iload_n hx hb d_Wm_header_63 rfl (lv_at hl 1 rfl) ?_
      refine lv_iconst (v := 2) hx hb d_Wm_header_64 (by decide) ?_
      refine lv_isub hx hb d_Wm_header_65 ?_
      refine va_iald (D := D9) hx hb hK hP 2 1 rfl rfl (by unfold vp_in; decide +kernel) d_Wm_header_66 ?_
      exact mx_ret hx hb hr hlocks hS (by decide) (by decide) d_Wm_header_67 (by first | rfl | decide +kernel) (⟨rfl, by decide, by decide⟩)
set_option maxHeartbeats 4000000 in
set_option maxRecDepth 100000 in
theorem c_Wm_count (l : Launch) (D9 : va_G) (cB cI cJ cG : ClassId) (b tp ga re wr na tpr ms en lsA lmA msr : Nat) (u1 : Int32) : MW l D9 cls9 (ty9 cB cI cJ cG) y_Wm_count b_Wm_count 2 (some .int) (rm9 0 0 0) [.ref b, .int u1] [(b, .inr (6, [.ref tp, .ref ga, .ref re, .ref wr, .ref na, .int (-1), .int 0])), (tp, .inr (0, [.ref tpr, .int 0])), (wr, .inr (5, [.ref ga, .ref ms, .ref en, .ref lsA, .ref lmA, .int 0])), (ms, .inr (0, [.ref msr, .int 0]))] (fun v8 _ => v8 = some (.int (if u1 < 0 ∨ nI 4 ≤ u1 then -1 else 0))) 0 0 := by
  refine mw_of (by decide) (Nat.le_of_ble_eq_true rfl) ?_
  intro p e s m below meth c ls C0 hin hP hD hA hS hl
  obtain ⟨hx, hb, hml, hr, hlocks, hown, hts, hK⟩ := id C0
  have hl : lv_has ls 2 [(0, .ref b), (1, .int u1)] := hl
  refine lv_iload_n hx hb d_Wm_count_0 rfl (lv_at hl 1 rfl) ?_
  rcases pk_ix u1 (n := 4) (by decide) with h9 | h9 | ⟨j9, hj9, e9⟩
  · refine lv_tableOut (tgt := 64) hx hb d_Wm_count_1 (Or.inl (sw_lo h9)) (by decide) ?_
    refine lv_iconst (v := -1) hx hb d_Wm_count_64 (by decide) ?_
    exact mw_zret hx hb hr hlocks hS hP hD (by decide) (by decide) d_Wm_count_65 (by first | rfl | decide +kernel) (by rw [if_pos (Or.inl h9)])
  · refine lv_tableOut (tgt := 64) hx hb d_Wm_count_1 (Or.inr (sw_hi h9 (by decide) (by decide))) (by decide) ?_
    refine lv_iconst (v := -1) hx hb d_Wm_count_64 (by decide) ?_
    exact mw_zret hx hb hr hlocks hS hP hD (by decide) (by decide) d_Wm_count_65 (by first | rfl | decide +kernel) (by rw [if_pos (Or.inr h9)])
  · rcases (show j9 = 0 ∨ j9 = 1 ∨ j9 = 2 ∨ j9 = 3 by omega) with rfl | rfl | rfl | rfl
    · subst e9
      refine lv_tableIn (tgt := 32) hx hb d_Wm_count_1 (by decide) (by decide) rfl (by decide) ?_
      refine lv_aload_n hx hb d_Wm_count_32 rfl (lv_at hl 0 rfl) ?_
      refine va_get (D := D9) (ci := 6) (C := R_Wm) (T := F_Wm) (N := 7) hx hb hts i_Wm hown hK hP 0 rfl rfl 0 (by decide) (hts _ g_222) (fun _ h9 => h9) rfl d_Wm_count_33 ?_
      refine va_getN (D := D9) (ci := 0) (C := R_By) (T := F_By) (N := 2) hx hb hts i_By hown hK hP 1 rfl rfl 1 (by decide) (hts _ g_36) (fun _ h9 => h9) rfl d_Wm_count_36 ?_
      exact mw_zret hx hb hr hlocks hS hP hD (by decide) (by decide) d_Wm_count_39 (by first | rfl | decide +kernel) (by decide)
    · subst e9
      refine lv_tableIn (tgt := 40) hx hb d_Wm_count_1 (by decide) (by decide) rfl (by decide) ?_
      refine lv_aload_n hx hb d_Wm_count_40 rfl (lv_at hl 0 rfl) ?_
      refine va_get (D := D9) (ci := 6) (C := R_Wm) (T := F_Wm) (N := 7) hx hb hts i_Wm hown hK hP 0 rfl rfl 3 (by decide) (hts _ g_225) (fun _ h9 => h9) rfl d_Wm_count_41 ?_
      refine va_getN (D := D9) (ci := 5) (C := R_Wr) (T := F_Wr) (N := 6) hx hb hts i_Wr hown hK hP 2 rfl rfl 1 (by decide) (hts _ g_187) (fun _ h9 => h9) rfl d_Wm_count_44 ?_
      refine va_getN (D := D9) (ci := 0) (C := R_By) (T := F_By) (N := 2) hx hb hts i_By hown hK hP 3 rfl rfl 1 (by decide) (hts _ g_36) (fun _ h9 => h9) rfl d_Wm_count_47 ?_
      exact mw_zret hx hb hr hlocks hS hP hD (by decide) (by decide) d_Wm_count_50 (by first | rfl | decide +kernel) (by decide)
    · subst e9
      refine lv_tableIn (tgt := 51) hx hb d_Wm_count_1 (by decide) (by decide) rfl (by decide) ?_
      refine lv_aload_n hx hb d_Wm_count_51 rfl (lv_at hl 0 rfl) ?_
      refine va_get (D := D9) (ci := 6) (C := R_Wm) (T := F_Wm) (N := 7) hx hb hts i_Wm hown hK hP 0 rfl rfl 3 (by decide) (hts _ g_225) (fun _ h9 => h9) rfl d_Wm_count_52 ?_
      refine va_getN (D := D9) (ci := 5) (C := R_Wr) (T := F_Wr) (N := 6) hx hb hts i_Wr hown hK hP 2 rfl rfl 5 (by decide) (hts _ g_192) (fun _ h9 => h9) rfl d_Wm_count_55 ?_
      exact mw_zret hx hb hr hlocks hS hP hD (by decide) (by decide) d_Wm_count_58 (by first | rfl | decide +kernel) (by decide)
    · subst e9
      refine lv_tableIn (tgt := 59) hx hb d_Wm_count_1 (by decide) (by decide) rfl (by decide) ?_
      refine lv_aload_n hx hb d_Wm_count_59 rfl (lv_at hl 0 rfl) ?_
      refine va_get (D := D9) (ci := 6) (C := R_Wm) (T := F_Wm) (N := 7) hx hb hts i_Wm hown hK hP 0 rfl rfl 6 (by decide) (hts _ g_228) (fun _ h9 => h9) rfl d_Wm_count_60 ?_
      exact mw_zret hx hb hr hlocks hS hP hD (by decide) (by decide) d_Wm_count_63 (by first | rfl | decide +kernel) (by decide)
set_option maxHeartbeats 4000000 in
set_option maxRecDepth 100000 in
theorem c_Ga_rowOf (l : Launch) (D9 : va_G) (cB cI cJ cG : ClassId) (ga gb st nl dl ty ki ti rw sz : Nat) (u1 u2 : Int32) : MW l D9 cls9 (ty9 cB cI cJ cG) y_Ga_rowOf b_Ga_rowOf 3 (some .int) (rm9 0 0 0) [.ref ga, .int u1, .int u2] [(ga, .inr (2, [.ref gb, .ref st, .ref nl, .ref dl, .ref ty, .ref ki, .ref ti, .ref rw, .ref sz, .int 0, .int 0])), (sz, .inl (cI, 4, .inl (fun _ => 0)))] (fun v8 w2 => v8 = some (.int (-1)) ∧ w2 = [(ga, .inr (2, [.ref gb, .ref st, .ref nl, .ref dl, .ref ty, .ref ki, .ref ti, .ref rw, .ref sz, .int 0, .int 0])), (sz, .inl (cI, 4, .inl (fun _ => 0)))]) 0 0 := by
  refine mw_of (by decide) (Nat.le_of_ble_eq_true rfl) ?_
  intro p e s m below meth c ls C0 hin hP hD hA hS hl
  obtain ⟨hx, hb, hml, hr, hlocks, hown, hts, hK⟩ := id C0
  have hl : lv_has ls 3 [(0, .ref ga), (1, .int u1), (2, .int u2)] := hl
  refine lv_iload_n hx hb d_Ga_rowOf_0 rfl (lv_at hl 1 rfl) ?_
  refine lv_if_lt (tgt := 23) hx hb d_Ga_rowOf_1 (by decide) (fun c1 => ?_) (fun c1 => ?_)
  · refine lv_iconst (v := -1) hx hb d_Ga_rowOf_23 (by decide) ?_
    exact mw_zret hx hb hr hlocks hS hP hD (by decide) (by decide) d_Ga_rowOf_24 (by first | rfl | decide +kernel) (⟨rfl, rfl⟩)
  · refine lv_iload_n hx hb d_Ga_rowOf_4 rfl (lv_at hl 1 rfl) ?_
    refine lv_iconst (v := 4) hx hb d_Ga_rowOf_5 (by decide) ?_
    refine lv_icmp_ge (tgt := 23) hx hb d_Ga_rowOf_6 (by decide) (fun c2 => ?_) (fun c2 => ?_)
    · refine lv_iconst (v := -1) hx hb d_Ga_rowOf_23 (by decide) ?_
      exact mw_zret hx hb hr hlocks hS hP hD (by decide) (by decide) d_Ga_rowOf_24 (by first | rfl | decide +kernel) (⟨rfl, rfl⟩)
    · refine lv_iload_n hx hb d_Ga_rowOf_9 rfl (lv_at hl 2 rfl) ?_
      refine lv_if_lt (tgt := 23) hx hb d_Ga_rowOf_10 (by decide) (fun c3 => ?_) (fun c3 => ?_)
      · refine lv_iconst (v := -1) hx hb d_Ga_rowOf_23 (by decide) ?_
        exact mw_zret hx hb hr hlocks hS hP hD (by decide) (by decide) d_Ga_rowOf_24 (by first | rfl | decide +kernel) (⟨rfl, rfl⟩)
      · refine lv_iload_n hx hb d_Ga_rowOf_13 rfl (lv_at hl 2 rfl) ?_
        refine lv_aload_n hx hb d_Ga_rowOf_14 rfl (lv_at hl 0 rfl) ?_
        refine va_get (D := D9) (ci := 2) (C := R_Ga) (T := F_Ga) (N := 11) hx hb hts i_Ga hown hK hP 0 rfl rfl 8 (by decide) (hts _ g_81) (fun _ h9 => h9) rfl d_Ga_rowOf_15 ?_
        refine lv_iload_n hx hb d_Ga_rowOf_18 rfl (lv_at hl 1 rfl) ?_
        refine va_iald (D := D9) hx hb hK hP 1 1 rfl rfl (sw_in c1 c2 (by decide)) d_Ga_rowOf_19 ?_
        refine lv_icmp_lt (tgt := 25) hx hb d_Ga_rowOf_20 (by decide) (fun c4 => ?_) (fun c4 => ?_)
        · exact absurd c4 c3
        · refine lv_iconst (v := -1) hx hb d_Ga_rowOf_23 (by decide) ?_
          exact mw_zret hx hb hr hlocks hS hP hD (by decide) (by decide) d_Ga_rowOf_24 (by first | rfl | decide +kernel) (⟨rfl, rfl⟩)
