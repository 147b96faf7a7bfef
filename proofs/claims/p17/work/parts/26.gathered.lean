/-! WHAT IS GATHERED -/
def hp (s : Nat) (es : List En9) : Bool := if s = 0 then decide (cn 0 es < 100) else decide (cn 1 es + cn 2 es + cn 3 es < 1000)
theorem hp_t {s : Nat} {es : List En9} (h : hp s es = true) : (s = 0 → cn 0 es < 100) ∧ (s ≠ 0 → cn 1 es + cn 2 es + cn 3 es < 1000) := by
  unfold hp at h; split at h <;> simp at h <;> omega
theorem hp_f {s : Nat} {es : List En9} (h : hp s es = false) : (s = 0 → 100 ≤ cn 0 es) ∧ (s ≠ 0 → 1000 ≤ cn 1 es + cn 2 es + cn 3 es) := by
  unfold hp at h; split at h <;> simp at h <;> omega
theorem fl_add (es : List En9) (x : En9) : fl (es ++ [x]) = fl es ++ (eN x ++ eD x) := by rw [fl_app, fl_one]
theorem okE_add {es : List En9} {x : En9} (h : okE es) (hs : eS x < 4) (ht : eT x < 65536) (hk : eK x < 65536) : okE (es ++ [x]) ↔ hp (eS x) es = true ∧ (fl es ++ (eN x ++ eD x)).length ≤ 65536 := by
  have h1 := h.1
  have h2 := h.2.1
  unfold okE
  rw [fl_add]
  simp only [cn_app, cn_one]
  constructor
  · intro q
    refine ⟨?_, q.2.2.1⟩
    have q1 := q.1
    have q2 := q.2.1
    cases hh : hp (eS x) es with
    | true => rfl
    | false =>
      have := hp_f hh
      rcases lt4 hs with e | e | e | e <;> simp [e] at q1 q2 this <;> omega
  · intro q
    have := hp_t q.1
    refine ⟨?_, ?_, q.2, ?_⟩
    · rcases lt4 hs with e | e | e | e <;> simp [e] at this ⊢ <;> omega
    · rcases lt4 hs with e | e | e | e <;> simp [e] at this ⊢ <;> omega
    · intro e he
      rcases List.mem_append.mp he with he | he
      · exact h.2.2.2 e he
      · rw [List.mem_singleton] at he; subst he; exact ⟨hs, ht, hk⟩
/-- one entry more, in the class's rows -/
theorem GaR_add {F F' : Nat → Nat → Int32} {es : List En9} {x : En9} (h : GaR F es) (hB : BR 0 65536 (F 4) (fl es ++ (eN x ++ eD x))) (hs : eS x < 4)
    (e4 : F' 4 = F 4) (e5 : F' 5 = upd (F 5) es.length (nI (fl es).length)) (e6 : F' 6 = upd (F 6) es.length (nI (eN x).length)) (e7 : F' 7 = upd (F 7) es.length (nI (eD x).length)) (e8 : F' 8 = upd (F 8) es.length (nI (eT x))) (e9 : F' 9 = upd (F 9) es.length (nI (eK x))) (e10 : F' 10 = upd (F 10) es.length (eL x)) (e16 : F' 16 = upd (F 16) (eS x) (nI (cn (eS x) es + 1)))
    (er : F' (12 + eS x) = upd (F (12 + eS x)) (cn (eS x) es) (nI es.length)) (ez : ∀ s, s < 4 → s ≠ eS x → F' (12 + s) = F (12 + s)) (hS : ∀ e ∈ es, eS e < 4) : GaR F' (es ++ [x]) := by
  refine ⟨?_, ?_, ?_⟩
  · intro r e hr
    by_cases hi : r < es.length
    · rw [List.getElem?_append_left hi] at hr
      obtain ⟨a1, a2, a3, a4, a5, a6, a7⟩ := h.1 r e hr
      have hes := hS e (List.mem_of_getElem? hr)
      rw [e5, e6, e7, e8, e9, e10, pk_un (by omega), pk_un (by omega), pk_un (by omega), pk_un (by omega), pk_un (by omega), pk_un (by omega), of9_app (by omega), take_app_le (by omega)]
      refine ⟨a1, a2, a3, a4, a5, a6, ?_⟩
      by_cases hq : eS e = eS x
      · rw [hq, er, pk_un, ← hq]
        · exact a7
        · have h1 := ix_of hr hq rfl
          have h2 := (ix_lt h1).2
          omega
      · rw [ez _ hes hq]; exact a7
    · have h2 := (List.getElem?_eq_some_iff.mp hr).1
      rw [List.length_append, List.length_singleton] at h2
      have h3 : r = es.length := by omega
      subst h3
      rw [List.getElem?_append_right (Nat.le_refl _), Nat.sub_self] at hr
      simp only [List.getElem?_cons_zero, Option.some.injEq] at hr
      subst hr
      rw [e5, e6, e7, e8, e9, e10, er, pk_us, pk_us, pk_us, pk_us, pk_us, pk_us, of9_app (Nat.le_refl _), of9_end, take_app_le (Nat.le_refl _), List.take_length, pk_us]
      exact ⟨rfl, rfl, rfl, rfl, rfl, rfl, rfl⟩
  · intro s hs4
    rw [e16, cn_app, cn_one]
    by_cases hq : s = eS x
    · subst hq; rw [pk_us, if_pos rfl]
    · rw [pk_un hq, h.2.1 s hs4, if_neg (fun z => hq z.symm), Nat.add_zero]
  · rw [fl_add, e4]; exact hB
/-- the entries of a section -/
def fil (s : Nat) (es : List En9) : List En9 := es.filter (fun e => eS e == s)
theorem fil_len (s : Nat) (es : List En9) : (fil s es).length = cn s es := by
  unfold fil
  induction es with
  | nil => rfl
  | cons e es ih =>
    rw [List.filter_cons, cn]
    by_cases h : eS e = s
    · simp [h, ih]; omega
    · simp [h, ih]
theorem ix_fil {s : Nat} : ∀ {es : List En9} {k r : Nat} {e : En9}, ix s k es = some r → es[r]? = some e → (fil s es)[k]? = some e
  | [], k, r, e, h, _ => by simp [ix] at h
  | e0 :: es, k, r, e, h, h2 => by
    unfold ix at h
    unfold fil
    rw [List.filter_cons]
    split at h
    · rename_i h1
      rw [if_pos (by simp [h1])]
      cases k with
      | zero => simp only [Option.some.injEq] at h; subst h; simpa using h2
      | succ k =>
        obtain ⟨r', h3, rfl⟩ := Option.map_eq_some_iff.mp h
        rw [List.getElem?_cons_succ] at h2 ⊢
        exact ix_fil h3 h2
    · rename_i h1
      rw [if_neg (by simp [h1])]
      obtain ⟨r', h3, rfl⟩ := Option.map_eq_some_iff.mp h
      rw [List.getElem?_cons_succ] at h2
      exact ix_fil h3 h2
theorem GaR_row {F : Nat → Nat → Int32} {es : List En9} (h : GaR F es) {s k : Nat} (hk : k < cn s es) : ∃ r e, ix s k es = some r ∧ es[r]? = some e ∧ eS e = s ∧ (fil s es)[k]? = some e ∧ F (12 + s) k = nI r ∧ r < es.length := by
  obtain ⟨r, hr⟩ := ix_ex hk
  obtain ⟨e, a1, a2, a3⟩ := ix_some hr
  refine ⟨r, e, hr, a1, a2, ix_fil hr a1, ?_, (ix_lt hr).1⟩
  have := (h.1 r e a1).2.2.2.2.2.2
  rw [a2, a3] at this
  exact this
/-- a row by two numbers as they come -/
def rI (x y : Int32) (es : List En9) : Option Nat := if x < 0 ∨ 4 ≤ x ∨ y < 0 then none else ix x.toNatClampNeg y.toNatClampNeg es
def oI (o : Option Nat) : Int32 := match o with
  | some r => nI r
  | none => -1
theorem rI_n {s k : Nat} {es : List En9} (hs : s < 4) (hk : k < 2 ^ 31) : rI (nI s) (nI k) es = ix s k es := by
  unfold rI
  rw [if_neg, nI_clamp (by omega), nI_clamp hk]
  rintro (h | h | h)
  · exact nI_pos (by omega) h
  · exact nI_ge (b := 4) hs (by decide) h
  · exact nI_pos hk h
/-- what is never left out takes so much -/
def mu3 : List En9 → Nat
  | [] => 0
  | e :: es => (if eT e = 41 then 11 + (eD e).length else 0) + mu3 es
theorem mu3_app (xs ys : List En9) : mu3 (xs ++ ys) = mu3 xs + mu3 ys := by
  induction xs with
  | nil => simp [mu3]
  | cons e es ih => simp only [List.cons_append, mu3, ih]; omega
theorem mu3_next {es : List En9} {k : Nat} {e : En9} (h : es[k]? = some e) : mu3 (es.take (k + 1)) = mu3 (es.take k) + (if eT e = 41 then 11 + (eD e).length else 0) := by
  rw [take_get h, mu3_app]; simp [mu3]
theorem mu3_le (es : List En9) : mu3 es ≤ 11 * es.length + (fl es).length := by
  induction es with
  | nil => simp [mu3]
  | cons e es ih =>
    simp only [mu3, List.length_cons, fl, List.length_append]
    split <;> omega
theorem fl_fil (s : Nat) (es : List En9) : (fl (fil s es)).length ≤ (fl es).length := by
  unfold fil
  induction es with
  | nil => simp
  | cons e es ih =>
    rw [List.filter_cons]
    split
    · simp only [fl, List.length_append]; omega
    · simp only [fl, List.length_append]; omega
theorem mu3_bd {es : List En9} (h : okE es) : mu3 (fil 3 es) ≤ 76536 := by
  have h1 := mu3_le (fil 3 es)
  have h2 := fl_fil 3 es
  have h3 := h.2.1
  have h4 := h.2.2.1
  rw [fil_len] at h1
  omega
theorem GaR_nil {F : Nat → Nat → Int32} (h : BR 0 65536 (F 4) []) (h2 : ∀ s, s < 4 → F 16 s = nI 0) : GaR F [] := ⟨fun r e hr => by simp at hr, h2, h⟩
theorem sz0 {f : Nat → Int32} {s : Nat} (h : s < 4) : upd (upd (upd (upd f 0 (nI 0)) 1 (nI 0)) 2 (nI 0)) 3 (nI 0) s = nI 0 := by
  rcases lt4 h with rfl | rfl | rfl | rfl <;> rfl
theorem g_37 : (Cond.fieldLinkNest "WireMessages$Gathered" (52 : Nat) "WireMessages$Bytes" "length" "I" "WireMessages") ∈ GT := gt_mem 37 (by decide +kernel) rfl
theorem g_84 : (Cond.fieldLink "WireMessages$Gathered" (45 : Nat) "WireMessages$Gathered" "id" "I") ∈ GT := gt_mem 84 (by decide +kernel) rfl
theorem g_87 : (Cond.fieldLink "WireMessages$Gathered" (49 : Nat) "WireMessages$Gathered" "flags" "I") ∈ GT := gt_mem 87 (by decide +kernel) rfl
theorem g_311 : (Cond.constant "WireMessages$Gathered" (59 : Nat) (65536 : Int32)) ∈ GT := gt_mem 311 (by decide +kernel) rfl
theorem g_312 : (Cond.methodLink "WireMessages$Gathered" (60 : Nat) ({ cls := "WireMessages$Gathered", name := "hasPlaceIn", desc := "(I)Z" } : MethodName)) ∈ GT := gt_mem 312 (by decide +kernel) rfl
theorem g_314 : (Cond.instanceMethod ({ cls := "WireMessages$Gathered", name := "hasPlaceIn", desc := "(I)Z" } : MethodName)) ∈ GT := gt_mem 314 (by decide +kernel) rfl
theorem g_315 : (Cond.code ({ cls := "WireMessages$Gathered", name := "hasPlaceIn", desc := "(I)Z" } : MethodName) prog_4_method_4_code (2 : Nat) (Option.some FieldType.boolean)) ∈ GT := gt_mem 315 (by decide +kernel) rfl
theorem g_316 : (Cond.methodLink "WireMessages$Gathered" (55 : Nat) ({ cls := "WireMessages$Gathered", name := "records", desc := "()I" } : MethodName)) ∈ GT := gt_mem 316 (by decide +kernel) rfl
theorem g_318 : (Cond.instanceMethod ({ cls := "WireMessages$Gathered", name := "records", desc := "()I" } : MethodName)) ∈ GT := gt_mem 318 (by decide +kernel) rfl
theorem g_319 : (Cond.code ({ cls := "WireMessages$Gathered", name := "records", desc := "()I" } : MethodName) prog_4_method_3_code (1 : Nat) (Option.some FieldType.int)) ∈ GT := gt_mem 319 (by decide +kernel) rfl
theorem g_536 : (Cond.methodLink "WireMessages$Gathered" (66 : Nat) ({ cls := "WireMessages$Gathered", name := "isNeverLeftOut", desc := "(II)Z" } : MethodName)) ∈ GT := gt_mem 536 (by decide +kernel) rfl
theorem g_538 : (Cond.instanceMethod ({ cls := "WireMessages$Gathered", name := "isNeverLeftOut", desc := "(II)Z" } : MethodName)) ∈ GT := gt_mem 538 (by decide +kernel) rfl
theorem g_539 : (Cond.code ({ cls := "WireMessages$Gathered", name := "isNeverLeftOut", desc := "(II)Z" } : MethodName) prog_4_method_7_code (3 : Nat) (Option.some FieldType.boolean)) ∈ GT := gt_mem 539 (by decide +kernel) rfl
theorem g_540 : (Cond.methodLink "WireMessages$Gathered" (70 : Nat) ({ cls := "WireMessages$Gathered", name := "lengthUnderRoot", desc := "(I)I" } : MethodName)) ∈ GT := gt_mem 540 (by decide +kernel) rfl
theorem g_542 : (Cond.instanceMethod ({ cls := "WireMessages$Gathered", name := "lengthUnderRoot", desc := "(I)I" } : MethodName)) ∈ GT := gt_mem 542 (by decide +kernel) rfl
theorem g_543 : (Cond.code ({ cls := "WireMessages$Gathered", name := "lengthUnderRoot", desc := "(I)I" } : MethodName) prog_4_method_8_code (2 : Nat) (Option.some FieldType.int)) ∈ GT := gt_mem 543 (by decide +kernel) rfl
theorem gs_Ga_records : Cond.selects R_Ga y_Ga_records y_Ga_records ∈ GT := gt_sel (q := (⟨"WireMessages$Gathered", "records", "()I"⟩, 11)) (by decide +kernel)
theorem gs_Ga_hasPlaceIn : Cond.selects R_Ga y_Ga_hasPlaceIn y_Ga_hasPlaceIn ∈ GT := gt_sel (q := (⟨"WireMessages$Gathered", "hasPlaceIn", "(I)Z"⟩, 11)) (by decide +kernel)
theorem gs_Ga_isNeverLeftOut : Cond.selects R_Ga y_Ga_isNeverLeftOut y_Ga_isNeverLeftOut ∈ GT := gt_sel (q := (⟨"WireMessages$Gathered", "isNeverLeftOut", "(II)Z"⟩, 11)) (by decide +kernel)
theorem gs_Ga_lengthUnderRoot : Cond.selects R_Ga y_Ga_lengthUnderRoot y_Ga_lengthUnderRoot ∈ GT := gt_sel (q := (⟨"WireMessages$Gathered", "lengthUnderRoot", "(I)I"⟩, 11)) (by decide +kernel)
theorem d_Ga_bytesNeverLeftOut_0 : decode b_Ga_bytesNeverLeftOut 0 = .ok (.iconst 0, 1) := by decide +kernel
theorem d_Ga_bytesNeverLeftOut_1 : decode b_Ga_bytesNeverLeftOut 1 = .ok (.istore_n 1, 1) := by decide +kernel
theorem d_Ga_bytesNeverLeftOut_2 : decode b_Ga_bytesNeverLeftOut 2 = .ok (.iconst 0, 1) := by decide +kernel
theorem d_Ga_bytesNeverLeftOut_3 : decode b_Ga_bytesNeverLeftOut 3 = .ok (.istore_n 2, 1) := by decide +kernel
theorem d_Ga_bytesNeverLeftOut_4 : decode b_Ga_bytesNeverLeftOut 4 = .ok (.iload_n 2, 1) := by decide +kernel
theorem d_Ga_bytesNeverLeftOut_5 : decode b_Ga_bytesNeverLeftOut 5 = .ok (.aload_n 0, 1) := by decide +kernel
theorem d_Ga_bytesNeverLeftOut_6 : decode b_Ga_bytesNeverLeftOut 6 = .ok (.getfield 42, 3) := by decide +kernel
theorem d_Ga_bytesNeverLeftOut_9 : decode b_Ga_bytesNeverLeftOut 9 = .ok (.iconst 3, 1) := by decide +kernel
theorem d_Ga_bytesNeverLeftOut_10 : decode b_Ga_bytesNeverLeftOut 10 = .ok (.iaload, 1) := by decide +kernel
theorem d_Ga_bytesNeverLeftOut_11 : decode b_Ga_bytesNeverLeftOut 11 = .ok (.if_icmp .ge 35, 3) := by decide +kernel
theorem d_Ga_bytesNeverLeftOut_14 : decode b_Ga_bytesNeverLeftOut 14 = .ok (.aload_n 0, 1) := by decide +kernel
theorem d_Ga_bytesNeverLeftOut_15 : decode b_Ga_bytesNeverLeftOut 15 = .ok (.getfield 39, 3) := by decide +kernel
theorem d_Ga_bytesNeverLeftOut_18 : decode b_Ga_bytesNeverLeftOut 18 = .ok (.iconst 3, 1) := by decide +kernel
theorem d_Ga_bytesNeverLeftOut_19 : decode b_Ga_bytesNeverLeftOut 19 = .ok (.aaload, 1) := by decide +kernel
theorem d_Ga_bytesNeverLeftOut_20 : decode b_Ga_bytesNeverLeftOut 20 = .ok (.iload_n 2, 1) := by decide +kernel
theorem d_Ga_bytesNeverLeftOut_21 : decode b_Ga_bytesNeverLeftOut 21 = .ok (.iaload, 1) := by decide +kernel
theorem d_Ga_bytesNeverLeftOut_22 : decode b_Ga_bytesNeverLeftOut 22 = .ok (.istore_n 3, 1) := by decide +kernel
theorem d_Ga_bytesNeverLeftOut_23 : decode b_Ga_bytesNeverLeftOut 23 = .ok (.aload_n 0, 1) := by decide +kernel
theorem d_Ga_bytesNeverLeftOut_24 : decode b_Ga_bytesNeverLeftOut 24 = .ok (.iconst 3, 1) := by decide +kernel
theorem d_Ga_bytesNeverLeftOut_25 : decode b_Ga_bytesNeverLeftOut 25 = .ok (.iload_n 3, 1) := by decide +kernel
theorem d_Ga_bytesNeverLeftOut_26 : decode b_Ga_bytesNeverLeftOut 26 = .ok (.invokevirtual 66, 3) := by decide +kernel
theorem d_Ga_bytesNeverLeftOut_29 : decode b_Ga_bytesNeverLeftOut 29 = .ok (.ifCond .eq 11, 3) := by decide +kernel
theorem d_Ga_bytesNeverLeftOut_32 : decode b_Ga_bytesNeverLeftOut 32 = .ok (.iload_n 1, 1) := by decide +kernel
theorem d_Ga_bytesNeverLeftOut_33 : decode b_Ga_bytesNeverLeftOut 33 = .ok (.aload_n 0, 1) := by decide +kernel
theorem d_Ga_bytesNeverLeftOut_34 : decode b_Ga_bytesNeverLeftOut 34 = .ok (.iload_n 3, 1) := by decide +kernel
theorem d_Ga_bytesNeverLeftOut_35 : decode b_Ga_bytesNeverLeftOut 35 = .ok (.invokevirtual 70, 3) := by decide +kernel
theorem d_Ga_bytesNeverLeftOut_38 : decode b_Ga_bytesNeverLeftOut 38 = .ok (.iadd, 1) := by decide +kernel
theorem d_Ga_bytesNeverLeftOut_39 : decode b_Ga_bytesNeverLeftOut 39 = .ok (.istore_n 1, 1) := by decide +kernel
theorem d_Ga_bytesNeverLeftOut_40 : decode b_Ga_bytesNeverLeftOut 40 = .ok (.iinc 2 1, 3) := by decide +kernel
theorem d_Ga_bytesNeverLeftOut_43 : decode b_Ga_bytesNeverLeftOut 43 = .ok (.goto (-39), 3) := by decide +kernel
theorem d_Ga_bytesNeverLeftOut_46 : decode b_Ga_bytesNeverLeftOut 46 = .ok (.iload_n 1, 1) := by decide +kernel
theorem d_Ga_bytesNeverLeftOut_47 : decode b_Ga_bytesNeverLeftOut 47 = .ok (.ireturn, 1) := by decide +kernel
theorem d_Ga_hasPlaceIn_0 : decode b_Ga_hasPlaceIn 0 = .ok (.iload_n 1, 1) := by decide +kernel
theorem d_Ga_hasPlaceIn_1 : decode b_Ga_hasPlaceIn 1 = .ok (.ifCond .ne 22, 3) := by decide +kernel
theorem d_Ga_hasPlaceIn_4 : decode b_Ga_hasPlaceIn 4 = .ok (.aload_n 0, 1) := by decide +kernel
theorem d_Ga_hasPlaceIn_5 : decode b_Ga_hasPlaceIn 5 = .ok (.getfield 42, 3) := by decide +kernel
theorem d_Ga_hasPlaceIn_8 : decode b_Ga_hasPlaceIn 8 = .ok (.iconst 0, 1) := by decide +kernel
theorem d_Ga_hasPlaceIn_9 : decode b_Ga_hasPlaceIn 9 = .ok (.iaload, 1) := by decide +kernel
theorem d_Ga_hasPlaceIn_10 : decode b_Ga_hasPlaceIn 10 = .ok (.bipush 100, 2) := by decide +kernel
theorem d_Ga_hasPlaceIn_12 : decode b_Ga_hasPlaceIn 12 = .ok (.if_icmp .ge 7, 3) := by decide +kernel
theorem d_Ga_hasPlaceIn_15 : decode b_Ga_hasPlaceIn 15 = .ok (.iconst 1, 1) := by decide +kernel
theorem d_Ga_hasPlaceIn_16 : decode b_Ga_hasPlaceIn 16 = .ok (.goto 22, 3) := by decide +kernel
theorem d_Ga_hasPlaceIn_19 : decode b_Ga_hasPlaceIn 19 = .ok (.iconst 0, 1) := by decide +kernel
theorem d_Ga_hasPlaceIn_20 : decode b_Ga_hasPlaceIn 20 = .ok (.goto 18, 3) := by decide +kernel
theorem d_Ga_hasPlaceIn_23 : decode b_Ga_hasPlaceIn 23 = .ok (.aload_n 0, 1) := by decide +kernel
theorem d_Ga_hasPlaceIn_24 : decode b_Ga_hasPlaceIn 24 = .ok (.invokevirtual 55, 3) := by decide +kernel
theorem d_Ga_hasPlaceIn_27 : decode b_Ga_hasPlaceIn 27 = .ok (.sipush 1000, 3) := by decide +kernel
theorem d_Ga_hasPlaceIn_30 : decode b_Ga_hasPlaceIn 30 = .ok (.if_icmp .ge 7, 3) := by decide +kernel
theorem d_Ga_hasPlaceIn_33 : decode b_Ga_hasPlaceIn 33 = .ok (.iconst 1, 1) := by decide +kernel
theorem d_Ga_hasPlaceIn_34 : decode b_Ga_hasPlaceIn 34 = .ok (.goto 4, 3) := by decide +kernel
theorem d_Ga_hasPlaceIn_37 : decode b_Ga_hasPlaceIn 37 = .ok (.iconst 0, 1) := by decide +kernel
theorem d_Ga_hasPlaceIn_38 : decode b_Ga_hasPlaceIn 38 = .ok (.ireturn, 1) := by decide +kernel
theorem d_Ga_isNeverLeftOut_0 : decode b_Ga_isNeverLeftOut 0 = .ok (.iload_n 1, 1) := by decide +kernel
theorem d_Ga_isNeverLeftOut_1 : decode b_Ga_isNeverLeftOut 1 = .ok (.iconst 3, 1) := by decide +kernel
theorem d_Ga_isNeverLeftOut_2 : decode b_Ga_isNeverLeftOut 2 = .ok (.if_icmp .ne 18, 3) := by decide +kernel
theorem d_Ga_isNeverLeftOut_5 : decode b_Ga_isNeverLeftOut 5 = .ok (.aload_n 0, 1) := by decide +kernel
theorem d_Ga_isNeverLeftOut_6 : decode b_Ga_isNeverLeftOut 6 = .ok (.getfield 28, 3) := by decide +kernel
theorem d_Ga_isNeverLeftOut_9 : decode b_Ga_isNeverLeftOut 9 = .ok (.iload_n 2, 1) := by decide +kernel
theorem d_Ga_isNeverLeftOut_10 : decode b_Ga_isNeverLeftOut 10 = .ok (.iaload, 1) := by decide +kernel
theorem d_Ga_isNeverLeftOut_11 : decode b_Ga_isNeverLeftOut 11 = .ok (.bipush 41, 2) := by decide +kernel
theorem d_Ga_isNeverLeftOut_13 : decode b_Ga_isNeverLeftOut 13 = .ok (.if_icmp .ne 7, 3) := by decide +kernel
theorem d_Ga_isNeverLeftOut_16 : decode b_Ga_isNeverLeftOut 16 = .ok (.iconst 1, 1) := by decide +kernel
theorem d_Ga_isNeverLeftOut_17 : decode b_Ga_isNeverLeftOut 17 = .ok (.goto 4, 3) := by decide +kernel
theorem d_Ga_isNeverLeftOut_20 : decode b_Ga_isNeverLeftOut 20 = .ok (.iconst 0, 1) := by decide +kernel
theorem d_Ga_isNeverLeftOut_21 : decode b_Ga_isNeverLeftOut 21 = .ok (.ireturn, 1) := by decide +kernel
theorem d_Ga_keep_0 : decode b_Ga_keep 0 = .ok (.aload_n 0, 1) := by decide +kernel
theorem d_Ga_keep_1 : decode b_Ga_keep 1 = .ok (.getfield 12, 3) := by decide +kernel
theorem d_Ga_keep_4 : decode b_Ga_keep 4 = .ok (.getfield 52, 3) := by decide +kernel
theorem d_Ga_keep_7 : decode b_Ga_keep 7 = .ok (.ldc 59, 2) := by decide +kernel
theorem d_Ga_keep_9 : decode b_Ga_keep 9 = .ok (.if_icmp .gt 11, 3) := by decide +kernel
theorem d_Ga_keep_12 : decode b_Ga_keep 12 = .ok (.aload_n 0, 1) := by decide +kernel
theorem d_Ga_keep_13 : decode b_Ga_keep 13 = .ok (.iload_n 1, 1) := by decide +kernel
theorem d_Ga_keep_14 : decode b_Ga_keep 14 = .ok (.invokevirtual 60, 3) := by decide +kernel
theorem d_Ga_keep_17 : decode b_Ga_keep 17 = .ok (.ifCond .ne 13, 3) := by decide +kernel
theorem d_Ga_keep_20 : decode b_Ga_keep 20 = .ok (.aload_n 0, 1) := by decide +kernel
theorem d_Ga_keep_21 : decode b_Ga_keep 21 = .ok (.getfield 12, 3) := by decide +kernel
theorem d_Ga_keep_24 : decode b_Ga_keep 24 = .ok (.iload_n 2, 1) := by decide +kernel
theorem d_Ga_keep_25 : decode b_Ga_keep 25 = .ok (.putfield 52, 3) := by decide +kernel
theorem d_Ga_keep_28 : decode b_Ga_keep 28 = .ok (.iconst 0, 1) := by decide +kernel
theorem d_Ga_keep_29 : decode b_Ga_keep 29 = .ok (.ireturn, 1) := by decide +kernel
theorem d_Ga_keep_30 : decode b_Ga_keep 30 = .ok (.aload_n 0, 1) := by decide +kernel
theorem d_Ga_keep_31 : decode b_Ga_keep 31 = .ok (.getfield 42, 3) := by decide +kernel
theorem d_Ga_keep_34 : decode b_Ga_keep 34 = .ok (.iconst 0, 1) := by decide +kernel
theorem d_Ga_keep_35 : decode b_Ga_keep 35 = .ok (.iaload, 1) := by decide +kernel
theorem d_Ga_keep_36 : decode b_Ga_keep 36 = .ok (.aload_n 0, 1) := by decide +kernel
theorem d_Ga_keep_37 : decode b_Ga_keep 37 = .ok (.invokevirtual 55, 3) := by decide +kernel
theorem d_Ga_keep_40 : decode b_Ga_keep 40 = .ok (.iadd, 1) := by decide +kernel
theorem d_Ga_keep_41 : decode b_Ga_keep 41 = .ok (.istore 7, 2) := by decide +kernel
theorem d_Ga_keep_43 : decode b_Ga_keep 43 = .ok (.aload_n 0, 1) := by decide +kernel
theorem d_Ga_keep_44 : decode b_Ga_keep 44 = .ok (.getfield 18, 3) := by decide +kernel
theorem d_Ga_keep_47 : decode b_Ga_keep 47 = .ok (.iload 7, 2) := by decide +kernel
theorem d_Ga_keep_49 : decode b_Ga_keep 49 = .ok (.iload_n 2, 1) := by decide +kernel
theorem d_Ga_keep_50 : decode b_Ga_keep 50 = .ok (.iastore, 1) := by decide +kernel
theorem d_Ga_keep_51 : decode b_Ga_keep 51 = .ok (.aload_n 0, 1) := by decide +kernel
theorem d_Ga_keep_52 : decode b_Ga_keep 52 = .ok (.getfield 22, 3) := by decide +kernel
theorem d_Ga_keep_55 : decode b_Ga_keep 55 = .ok (.iload 7, 2) := by decide +kernel
theorem d_Ga_keep_57 : decode b_Ga_keep 57 = .ok (.iload_n 3, 1) := by decide +kernel
theorem d_Ga_keep_58 : decode b_Ga_keep 58 = .ok (.iastore, 1) := by decide +kernel
theorem d_Ga_keep_59 : decode b_Ga_keep 59 = .ok (.aload_n 0, 1) := by decide +kernel
theorem d_Ga_keep_60 : decode b_Ga_keep 60 = .ok (.getfield 25, 3) := by decide +kernel
theorem d_Ga_keep_63 : decode b_Ga_keep 63 = .ok (.iload 7, 2) := by decide +kernel
theorem d_Ga_keep_65 : decode b_Ga_keep 65 = .ok (.aload_n 0, 1) := by decide +kernel
theorem d_Ga_keep_66 : decode b_Ga_keep 66 = .ok (.getfield 12, 3) := by decide +kernel
theorem d_Ga_keep_69 : decode b_Ga_keep 69 = .ok (.getfield 52, 3) := by decide +kernel
theorem d_Ga_keep_72 : decode b_Ga_keep 72 = .ok (.iload_n 2, 1) := by decide +kernel
theorem d_Ga_keep_73 : decode b_Ga_keep 73 = .ok (.isub, 1) := by decide +kernel
theorem d_Ga_keep_74 : decode b_Ga_keep 74 = .ok (.iload_n 3, 1) := by decide +kernel
theorem d_Ga_keep_75 : decode b_Ga_keep 75 = .ok (.isub, 1) := by decide +kernel
theorem d_Ga_keep_76 : decode b_Ga_keep 76 = .ok (.iastore, 1) := by decide +kernel
theorem d_Ga_keep_77 : decode b_Ga_keep 77 = .ok (.aload_n 0, 1) := by decide +kernel
theorem d_Ga_keep_78 : decode b_Ga_keep 78 = .ok (.getfield 28, 3) := by decide +kernel
theorem d_Ga_keep_81 : decode b_Ga_keep 81 = .ok (.iload 7, 2) := by decide +kernel
theorem d_Ga_keep_83 : decode b_Ga_keep 83 = .ok (.iload 4, 2) := by decide +kernel
theorem d_Ga_keep_85 : decode b_Ga_keep 85 = .ok (.iastore, 1) := by decide +kernel
theorem d_Ga_keep_86 : decode b_Ga_keep 86 = .ok (.aload_n 0, 1) := by decide +kernel
theorem d_Ga_keep_87 : decode b_Ga_keep 87 = .ok (.getfield 31, 3) := by decide +kernel
theorem d_Ga_keep_90 : decode b_Ga_keep 90 = .ok (.iload 7, 2) := by decide +kernel
theorem d_Ga_keep_92 : decode b_Ga_keep 92 = .ok (.iload 5, 2) := by decide +kernel
theorem d_Ga_keep_94 : decode b_Ga_keep 94 = .ok (.iastore, 1) := by decide +kernel
theorem d_Ga_keep_95 : decode b_Ga_keep 95 = .ok (.aload_n 0, 1) := by decide +kernel
theorem d_Ga_keep_96 : decode b_Ga_keep 96 = .ok (.getfield 34, 3) := by decide +kernel
theorem d_Ga_keep_99 : decode b_Ga_keep 99 = .ok (.iload 7, 2) := by decide +kernel
theorem d_Ga_keep_101 : decode b_Ga_keep 101 = .ok (.iload 6, 2) := by decide +kernel
theorem d_Ga_keep_103 : decode b_Ga_keep 103 = .ok (.iastore, 1) := by decide +kernel
theorem d_Ga_keep_104 : decode b_Ga_keep 104 = .ok (.aload_n 0, 1) := by decide +kernel
theorem d_Ga_keep_105 : decode b_Ga_keep 105 = .ok (.getfield 39, 3) := by decide +kernel
theorem d_Ga_keep_108 : decode b_Ga_keep 108 = .ok (.iload_n 1, 1) := by decide +kernel
theorem d_Ga_keep_109 : decode b_Ga_keep 109 = .ok (.aaload, 1) := by decide +kernel
theorem d_Ga_keep_110 : decode b_Ga_keep 110 = .ok (.aload_n 0, 1) := by decide +kernel
theorem d_Ga_keep_111 : decode b_Ga_keep 111 = .ok (.getfield 42, 3) := by decide +kernel
theorem d_Ga_keep_114 : decode b_Ga_keep 114 = .ok (.iload_n 1, 1) := by decide +kernel
theorem d_Ga_keep_115 : decode b_Ga_keep 115 = .ok (.iaload, 1) := by decide +kernel
theorem d_Ga_keep_116 : decode b_Ga_keep 116 = .ok (.iload 7, 2) := by decide +kernel
theorem d_Ga_keep_118 : decode b_Ga_keep 118 = .ok (.iastore, 1) := by decide +kernel
theorem d_Ga_keep_119 : decode b_Ga_keep 119 = .ok (.aload_n 0, 1) := by decide +kernel
theorem d_Ga_keep_120 : decode b_Ga_keep 120 = .ok (.getfield 42, 3) := by decide +kernel
theorem d_Ga_keep_123 : decode b_Ga_keep 123 = .ok (.iload_n 1, 1) := by decide +kernel
theorem d_Ga_keep_124 : decode b_Ga_keep 124 = .ok (.dup2, 1) := by decide +kernel
theorem d_Ga_keep_125 : decode b_Ga_keep 125 = .ok (.iaload, 1) := by decide +kernel
theorem d_Ga_keep_126 : decode b_Ga_keep 126 = .ok (.iconst 1, 1) := by decide +kernel
theorem d_Ga_keep_127 : decode b_Ga_keep 127 = .ok (.iadd, 1) := by decide +kernel
theorem d_Ga_keep_128 : decode b_Ga_keep 128 = .ok (.iastore, 1) := by decide +kernel
theorem d_Ga_keep_129 : decode b_Ga_keep 129 = .ok (.iconst 1, 1) := by decide +kernel
theorem d_Ga_keep_130 : decode b_Ga_keep 130 = .ok (.ireturn, 1) := by decide +kernel
theorem d_Ga_lengthUnderRoot_0 : decode b_Ga_lengthUnderRoot 0 = .ok (.bipush 11, 2) := by decide +kernel
theorem d_Ga_lengthUnderRoot_2 : decode b_Ga_lengthUnderRoot 2 = .ok (.aload_n 0, 1) := by decide +kernel
theorem d_Ga_lengthUnderRoot_3 : decode b_Ga_lengthUnderRoot 3 = .ok (.getfield 25, 3) := by decide +kernel
theorem d_Ga_lengthUnderRoot_6 : decode b_Ga_lengthUnderRoot 6 = .ok (.iload_n 1, 1) := by decide +kernel
theorem d_Ga_lengthUnderRoot_7 : decode b_Ga_lengthUnderRoot 7 = .ok (.iaload, 1) := by decide +kernel
theorem d_Ga_lengthUnderRoot_8 : decode b_Ga_lengthUnderRoot 8 = .ok (.iadd, 1) := by decide +kernel
theorem d_Ga_lengthUnderRoot_9 : decode b_Ga_lengthUnderRoot 9 = .ok (.ireturn, 1) := by decide +kernel
theorem d_Ga_records_0 : decode b_Ga_records 0 = .ok (.aload_n 0, 1) := by decide +kernel
theorem d_Ga_records_1 : decode b_Ga_records 1 = .ok (.getfield 42, 3) := by decide +kernel
theorem d_Ga_records_4 : decode b_Ga_records 4 = .ok (.iconst 1, 1) := by decide +kernel
theorem d_Ga_records_5 : decode b_Ga_records 5 = .ok (.iaload, 1) := by decide +kernel
theorem d_Ga_records_6 : decode b_Ga_records 6 = .ok (.aload_n 0, 1) := by decide +kernel
theorem d_Ga_records_7 : decode b_Ga_records 7 = .ok (.getfield 42, 3) := by decide +kernel
theorem d_Ga_records_10 : decode b_Ga_records 10 = .ok (.iconst 2, 1) := by decide +kernel
theorem d_Ga_records_11 : decode b_Ga_records 11 = .ok (.iaload, 1) := by decide +kernel
theorem d_Ga_records_12 : decode b_Ga_records 12 = .ok (.iadd, 1) := by decide +kernel
theorem d_Ga_records_13 : decode b_Ga_records 13 = .ok (.aload_n 0, 1) := by decide +kernel
theorem d_Ga_records_14 : decode b_Ga_records 14 = .ok (.getfield 42, 3) := by decide +kernel
theorem d_Ga_records_17 : decode b_Ga_records 17 = .ok (.iconst 3, 1) := by decide +kernel
theorem d_Ga_records_18 : decode b_Ga_records 18 = .ok (.iaload, 1) := by decide +kernel
theorem d_Ga_records_19 : decode b_Ga_records 19 = .ok (.iadd, 1) := by decide +kernel
theorem d_Ga_records_20 : decode b_Ga_records 20 = .ok (.ireturn, 1) := by decide +kernel
theorem d_Ga_rowOf_0 : decode b_Ga_rowOf 0 = .ok (.iload_n 1, 1) := by decide +kernel
theorem d_Ga_rowOf_1 : decode b_Ga_rowOf 1 = .ok (.ifCond .lt 22, 3) := by decide +kernel
theorem d_Ga_rowOf_4 : decode b_Ga_rowOf 4 = .ok (.iload_n 1, 1) := by decide +kernel
theorem d_Ga_rowOf_5 : decode b_Ga_rowOf 5 = .ok (.iconst 4, 1) := by decide +kernel
theorem d_Ga_rowOf_6 : decode b_Ga_rowOf 6 = .ok (.if_icmp .ge 17, 3) := by decide +kernel
theorem d_Ga_rowOf_9 : decode b_Ga_rowOf 9 = .ok (.iload_n 2, 1) := by decide +kernel
theorem d_Ga_rowOf_10 : decode b_Ga_rowOf 10 = .ok (.ifCond .lt 13, 3) := by decide +kernel
theorem d_Ga_rowOf_13 : decode b_Ga_rowOf 13 = .ok (.iload_n 2, 1) := by decide +kernel
theorem d_Ga_rowOf_14 : decode b_Ga_rowOf 14 = .ok (.aload_n 0, 1) := by decide +kernel
theorem d_Ga_rowOf_15 : decode b_Ga_rowOf 15 = .ok (.getfield 42, 3) := by decide +kernel
theorem d_Ga_rowOf_18 : decode b_Ga_rowOf 18 = .ok (.iload_n 1, 1) := by decide +kernel
theorem d_Ga_rowOf_19 : decode b_Ga_rowOf 19 = .ok (.iaload, 1) := by decide +kernel
theorem d_Ga_rowOf_20 : decode b_Ga_rowOf 20 = .ok (.if_icmp .lt 5, 3) := by decide +kernel
theorem d_Ga_rowOf_23 : decode b_Ga_rowOf 23 = .ok (.iconst (-1), 1) := by decide +kernel
theorem d_Ga_rowOf_24 : decode b_Ga_rowOf 24 = .ok (.ireturn, 1) := by decide +kernel
theorem d_Ga_rowOf_25 : decode b_Ga_rowOf 25 = .ok (.aload_n 0, 1) := by decide +kernel
theorem d_Ga_rowOf_26 : decode b_Ga_rowOf 26 = .ok (.getfield 39, 3) := by decide +kernel
theorem d_Ga_rowOf_29 : decode b_Ga_rowOf 29 = .ok (.iload_n 1, 1) := by decide +kernel
theorem d_Ga_rowOf_30 : decode b_Ga_rowOf 30 = .ok (.aaload, 1) := by decide +kernel
theorem d_Ga_rowOf_31 : decode b_Ga_rowOf 31 = .ok (.iload_n 2, 1) := by decide +kernel
theorem d_Ga_rowOf_32 : decode b_Ga_rowOf 32 = .ok (.iaload, 1) := by decide +kernel
theorem d_Ga_rowOf_33 : decode b_Ga_rowOf 33 = .ok (.ireturn, 1) := by decide +kernel
theorem d_Ga_startAnew_0 : decode b_Ga_startAnew 0 = .ok (.aload_n 0, 1) := by decide +kernel
theorem d_Ga_startAnew_1 : decode b_Ga_startAnew 1 = .ok (.iload_n 1, 1) := by decide +kernel
theorem d_Ga_startAnew_2 : decode b_Ga_startAnew 2 = .ok (.putfield 45, 3) := by decide +kernel
theorem d_Ga_startAnew_5 : decode b_Ga_startAnew 5 = .ok (.aload_n 0, 1) := by decide +kernel
theorem d_Ga_startAnew_6 : decode b_Ga_startAnew 6 = .ok (.iload_n 2, 1) := by decide +kernel
theorem d_Ga_startAnew_7 : decode b_Ga_startAnew 7 = .ok (.putfield 49, 3) := by decide +kernel
theorem d_Ga_startAnew_10 : decode b_Ga_startAnew 10 = .ok (.aload_n 0, 1) := by decide +kernel
theorem d_Ga_startAnew_11 : decode b_Ga_startAnew 11 = .ok (.getfield 12, 3) := by decide +kernel
theorem d_Ga_startAnew_14 : decode b_Ga_startAnew 14 = .ok (.iconst 0, 1) := by decide +kernel
theorem d_Ga_startAnew_15 : decode b_Ga_startAnew 15 = .ok (.putfield 52, 3) := by decide +kernel
theorem d_Ga_startAnew_18 : decode b_Ga_startAnew 18 = .ok (.iconst 0, 1) := by decide +kernel
theorem d_Ga_startAnew_19 : decode b_Ga_startAnew 19 = .ok (.istore_n 3, 1) := by decide +kernel
theorem d_Ga_startAnew_20 : decode b_Ga_startAnew 20 = .ok (.iload_n 3, 1) := by decide +kernel
theorem d_Ga_startAnew_21 : decode b_Ga_startAnew 21 = .ok (.iconst 4, 1) := by decide +kernel
theorem d_Ga_startAnew_22 : decode b_Ga_startAnew 22 = .ok (.if_icmp .ge 16, 3) := by decide +kernel
theorem d_Ga_startAnew_25 : decode b_Ga_startAnew 25 = .ok (.aload_n 0, 1) := by decide +kernel
theorem d_Ga_startAnew_26 : decode b_Ga_startAnew 26 = .ok (.getfield 42, 3) := by decide +kernel
theorem d_Ga_startAnew_29 : decode b_Ga_startAnew 29 = .ok (.iload_n 3, 1) := by decide +kernel
theorem d_Ga_startAnew_30 : decode b_Ga_startAnew 30 = .ok (.iconst 0, 1) := by decide +kernel
theorem d_Ga_startAnew_31 : decode b_Ga_startAnew 31 = .ok (.iastore, 1) := by decide +kernel
theorem d_Ga_startAnew_32 : decode b_Ga_startAnew 32 = .ok (.iinc 3 1, 3) := by decide +kernel
theorem d_Ga_startAnew_35 : decode b_Ga_startAnew 35 = .ok (.goto (-15), 3) := by decide +kernel
theorem d_Ga_startAnew_38 : decode b_Ga_startAnew 38 = .ok (.return_, 1) := by decide +kernel
set_option maxHeartbeats 4000000 in
set_option maxRecDepth 100000 in
/-- Gathered.startAnew -/
theorem m_Ga_startAnew (l : Launch) (D9 : va_G) (cB cI cJ cG : ClassId) (a : Nat → Nat) (O : Nat → Int64) (I : Nat → Int32) (F : Nat → Nat → Int32) (es : List En9) (x y : Int32) (hF : sb_Fit (F 4)) : MC l D9 cB cI cJ cG a O y_Ga_startAnew b_Ga_startAnew 4 (none) 0 [.ref (a 19), .int (x), .int (y)] I F (fun v I' F' => v = none ∧ sm [3, 11, 12] I I' ∧ I' 11 = x ∧ I' 12 = y ∧ I' 3 = nI 0 ∧ sm [16] F F' ∧ GaR F' []) := by
  refine mc_ofv (by decide) (Nat.le_of_ble_eq_true rfl) ?_
  intro p e s m below meth c ls A0 Q C0 hP hD hA hS hl hret
  obtain ⟨hx, hb, hml, hr, hlocks, hown, hts, hK⟩ := id C0
  have hl : lv_has ls 4 [(0, .ref (a 19)), (1, .int (x)), (2, .int (y))] := hl
  refine lv_aload_n hx hb d_Ga_startAnew_0 rfl (lv_at hl 0 rfl) ?_
  refine lv_iload_n hx hb d_Ga_startAnew_1 rfl (lv_at hl 1 rfl) ?_
  refine va_put (D := D9) (ty := .int) (ci := 2) (C := R_Ga) (T := F_Ga) (N := 11) hx hb hts i_Ga t_Ga t_Ga_ok n_Ga hown hK hP hD hS 19 ww_19 rfl 9 (by decide) (hts _ g_84) (fun _ h9 => h9) rfl (by decide +kernel) rfl rfl (Nat.le_of_ble_eq_true rfl) d_Ga_startAnew_2 (fun H locs hP hD hS => ?_)
  obtain ⟨I1, aI1, sI1, hP, hD⟩ := fx (P := fun z => va_P D9 cls9 (WW a cB cI cJ cG z _ O) H ∧ va_D A0 (WW a cB cI cJ cG z _ O)) ⟨wp_11 hP, wd_11 hD⟩
  refine lv_aload_n hx hb d_Ga_startAnew_5 rfl (lv_at hl 0 rfl) ?_
  refine lv_iload_n hx hb d_Ga_startAnew_6 rfl (lv_at hl 2 rfl) ?_
  refine va_put (D := D9) (ty := .int) (ci := 2) (C := R_Ga) (T := F_Ga) (N := 11) hx hb hts i_Ga t_Ga t_Ga_ok n_Ga hown hK hP hD hS 19 ww_19 rfl 10 (by decide) (hts _ g_87) (fun _ h9 => h9) rfl (by decide +kernel) rfl rfl (Nat.le_of_ble_eq_true rfl) d_Ga_startAnew_7 (fun H locs hP hD hS => ?_)
  obtain ⟨I2, aI2, sI2, hP, hD⟩ := fx (P := fun z => va_P D9 cls9 (WW a cB cI cJ cG z _ O) H ∧ va_D A0 (WW a cB cI cJ cG z _ O)) ⟨wp_12 hP, wd_12 hD⟩
  refine lv_aload_n hx hb d_Ga_startAnew_10 rfl (lv_at hl 0 rfl) ?_
  refine va_get (D := D9) (ci := 2) (C := R_Ga) (T := F_Ga) (N := 11) hx hb hts i_Ga hown hK hP 19 ww_19 rfl 0 (by decide) (hts _ g_57) (fun _ h9 => h9) rfl d_Ga_startAnew_11 ?_
  refine lv_iconst (v := 0) hx hb d_Ga_startAnew_14 (by decide) ?_
  refine lv_topq (y := nI 0) (rfl) ?_
  refine va_putN (D := D9) (ty := .int) (ci := 0) (C := R_By) (T := F_By) (N := 2) hx hb hts i_By t_By t_By_ok n_By hown hK hP hD hS 3 ww_3 rfl 1 (by decide) (hts _ g_37) (fun _ h9 => h9) rfl (by decide +kernel) rfl rfl (Nat.le_of_ble_eq_true rfl) d_Ga_startAnew_15 (fun H locs hP hD hS => ?_)
  obtain ⟨I3, aI3, sI3, hP, hD⟩ := fx (P := fun z => va_P D9 cls9 (WW a cB cI cJ cG z _ O) H ∧ va_D A0 (WW a cB cI cJ cG z _ O)) ⟨wp_3 hP, wd_3 hD⟩
  refine lv_iconst (v := 0) hx hb d_Ga_startAnew_18 (by decide) ?_
  refine lv_topq (y := nI 0) (rfl) ?_
  refine lv_istore_n (lv' := [(3, _), (0, _), (1, _), (2, _)]) hx hb d_Ga_startAnew_19 rfl hl (by decide) rfl (fun ls hl => ?_)
  refine lv_iload_n hx hb d_Ga_startAnew_20 rfl (lv_at hl 0 rfl) ?_
  refine lv_iconst (v := 4) hx hb d_Ga_startAnew_21 (by decide) ?_
  refine lv_topq (y := nI 4) (rfl) ?_
  refine lv_icmp_ge (tgt := 38) hx hb d_Ga_startAnew_22 (by decide) (fun c4 => ?_) (fun c4 => ?_)
  · exact absurd c4 (by decide)
  · refine lv_aload_n hx hb d_Ga_startAnew_25 rfl (lv_at hl 1 rfl) ?_
    refine va_get (D := D9) (ci := 2) (C := R_Ga) (T := F_Ga) (N := 11) hx hb hts i_Ga hown hK hP 19 ww_19 rfl 8 (by decide) (hts _ g_81) (fun _ h9 => h9) rfl d_Ga_startAnew_26 ?_
    refine lv_iload_n hx hb d_Ga_startAnew_29 rfl (lv_at hl 0 rfl) ?_
    refine lv_iconst (v := 0) hx hb d_Ga_startAnew_30 (by decide) ?_
    refine lv_topq (y := nI 0) (rfl) ?_
    refine va_iast (D := D9) hx hb hK hP hD hS 16 1 ww_16 rfl (vp_in_nI (by omega) (by decide)) d_Ga_startAnew_31 (fun H locs hP hD hS => ?_)
    obtain ⟨F5, aF5, sF5, hP, hD⟩ := fx (P := fun z => va_P D9 cls9 (WW a cB cI cJ cG _ z O) H ∧ va_D A0 (WW a cB cI cJ cG _ z O)) ⟨wpa_16 hP, wda_16 hD⟩
    rw [nI_clamp (by omega)] at aF5
    refine lv_iinc (lv' := [(3, .int (nI 1)), (0, _), (1, _), (2, _)]) hx hb d_Ga_startAnew_32 hl (k := 0) rfl rfl (by decide) rfl (fun ls hl => ?_)
    refine lv_goto (tgt := 20) hx hb d_Ga_startAnew_35 (by decide) ?_
    refine lv_iload_n hx hb d_Ga_startAnew_20 rfl (lv_at hl 0 rfl) ?_
    refine lv_iconst (v := 4) hx hb d_Ga_startAnew_21 (by decide) ?_
    refine lv_topq (y := nI 4) (rfl) ?_
    refine lv_icmp_ge (tgt := 38) hx hb d_Ga_startAnew_22 (by decide) (fun c6 => ?_) (fun c6 => ?_)
    · exact absurd c6 (by decide)
    · refine lv_aload_n hx hb d_Ga_startAnew_25 rfl (lv_at hl 1 rfl) ?_
      refine va_get (D := D9) (ci := 2) (C := R_Ga) (T := F_Ga) (N := 11) hx hb hts i_Ga hown hK hP 19 ww_19 rfl 8 (by decide) (hts _ g_81) (fun _ h9 => h9) rfl d_Ga_startAnew_26 ?_
      refine lv_iload_n hx hb d_Ga_startAnew_29 rfl (lv_at hl 0 rfl) ?_
      refine lv_iconst (v := 0) hx hb d_Ga_startAnew_30 (by decide) ?_
      refine lv_topq (y := nI 0) (rfl) ?_
      refine va_iast (D := D9) hx hb hK hP hD hS 16 1 ww_16 rfl (vp_in_nI (by omega) (by decide)) d_Ga_startAnew_31 (fun H locs hP hD hS => ?_)
      obtain ⟨F7, aF7, sF7, hP, hD⟩ := fx (P := fun z => va_P D9 cls9 (WW a cB cI cJ cG _ z O) H ∧ va_D A0 (WW a cB cI cJ cG _ z O)) ⟨wpa_16 hP, wda_16 hD⟩
      rw [nI_clamp (by omega)] at aF7
      refine lv_iinc (lv' := [(3, .int (nI 2)), (0, _), (1, _), (2, _)]) hx hb d_Ga_startAnew_32 hl (k := 0) rfl rfl (by decide) rfl (fun ls hl => ?_)
      refine lv_goto (tgt := 20) hx hb d_Ga_startAnew_35 (by decide) ?_
      refine lv_iload_n hx hb d_Ga_startAnew_20 rfl (lv_at hl 0 rfl) ?_
      refine lv_iconst (v := 4) hx hb d_Ga_startAnew_21 (by decide) ?_
      refine lv_topq (y := nI 4) (rfl) ?_
      refine lv_icmp_ge (tgt := 38) hx hb d_Ga_startAnew_22 (by decide) (fun c8 => ?_) (fun c8 => ?_)
      · exact absurd c8 (by decide)
      · refine lv_aload_n hx hb d_Ga_startAnew_25 rfl (lv_at hl 1 rfl) ?_
        refine va_get (D := D9) (ci := 2) (C := R_Ga) (T := F_Ga) (N := 11) hx hb hts i_Ga hown hK hP 19 ww_19 rfl 8 (by decide) (hts _ g_81) (fun _ h9 => h9) rfl d_Ga_startAnew_26 ?_
        refine lv_iload_n hx hb d_Ga_startAnew_29 rfl (lv_at hl 0 rfl) ?_
        refine lv_iconst (v := 0) hx hb d_Ga_startAnew_30 (by decide) ?_
        refine lv_topq (y := nI 0) (rfl) ?_
        refine va_iast (D := D9) hx hb hK hP hD hS 16 1 ww_16 rfl (vp_in_nI (by omega) (by decide)) d_Ga_startAnew_31 (fun H locs hP hD hS => ?_)
        obtain ⟨F9, aF9, sF9, hP, hD⟩ := fx (P := fun z => va_P D9 cls9 (WW a cB cI cJ cG _ z O) H ∧ va_D A0 (WW a cB cI cJ cG _ z O)) ⟨wpa_16 hP, wda_16 hD⟩
        rw [nI_clamp (by omega)] at aF9
        refine lv_iinc (lv' := [(3, .int (nI 3)), (0, _), (1, _), (2, _)]) hx hb d_Ga_startAnew_32 hl (k := 0) rfl rfl (by decide) rfl (fun ls hl => ?_)
        refine lv_goto (tgt := 20) hx hb d_Ga_startAnew_35 (by decide) ?_
        refine lv_iload_n hx hb d_Ga_startAnew_20 rfl (lv_at hl 0 rfl) ?_
        refine lv_iconst (v := 4) hx hb d_Ga_startAnew_21 (by decide) ?_
        refine lv_topq (y := nI 4) (rfl) ?_
        refine lv_icmp_ge (tgt := 38) hx hb d_Ga_startAnew_22 (by decide) (fun c10 => ?_) (fun c10 => ?_)
        · exact absurd c10 (by decide)
        · refine lv_aload_n hx hb d_Ga_startAnew_25 rfl (lv_at hl 1 rfl) ?_
          refine va_get (D := D9) (ci := 2) (C := R_Ga) (T := F_Ga) (N := 11) hx hb hts i_Ga hown hK hP 19 ww_19 rfl 8 (by decide) (hts _ g_81) (fun _ h9 => h9) rfl d_Ga_startAnew_26 ?_
          refine lv_iload_n hx hb d_Ga_startAnew_29 rfl (lv_at hl 0 rfl) ?_
          refine lv_iconst (v := 0) hx hb d_Ga_startAnew_30 (by decide) ?_
          refine lv_topq (y := nI 0) (rfl) ?_
          refine va_iast (D := D9) hx hb hK hP hD hS 16 1 ww_16 rfl (vp_in_nI (by omega) (by decide)) d_Ga_startAnew_31 (fun H locs hP hD hS => ?_)
          obtain ⟨F11, aF11, sF11, hP, hD⟩ := fx (P := fun z => va_P D9 cls9 (WW a cB cI cJ cG _ z O) H ∧ va_D A0 (WW a cB cI cJ cG _ z O)) ⟨wpa_16 hP, wda_16 hD⟩
          rw [nI_clamp (by omega)] at aF11
          refine lv_iinc (lv' := [(3, .int (nI 4)), (0, _), (1, _), (2, _)]) hx hb d_Ga_startAnew_32 hl (k := 0) rfl rfl (by decide) rfl (fun ls hl => ?_)
          refine lv_goto (tgt := 20) hx hb d_Ga_startAnew_35 (by decide) ?_
          refine lv_iload_n hx hb d_Ga_startAnew_20 rfl (lv_at hl 0 rfl) ?_
          refine lv_iconst (v := 4) hx hb d_Ga_startAnew_21 (by decide) ?_
          refine lv_topq (y := nI 4) (rfl) ?_
          refine lv_icmp_ge (tgt := 38) hx hb d_Ga_startAnew_22 (by decide) (fun c12 => ?_) (fun c12 => ?_)
          · exact hret _ _ _ _ _ _ hS hP hD d_Ga_startAnew_38 (⟨rfl, (sm_tr (sm_tr (sm_mo sI1 (by decide)) (sm_mo sI2 (by decide))) (sm_mo sI3 (by decide))), (((sI3 11 (by decide)).trans (sI2 11 (by decide))).trans aI1), ((sI3 12 (by decide)).trans aI2), aI3, (sm_tr (sm_tr (sm_tr (sm_mo sF5 (by decide)) (sm_mo sF7 (by decide))) (sm_mo sF9 (by decide))) (sm_mo sF11 (by decide))), GaR_nil (BR_eq (BR_nil hF) ((sF11 4 (by decide)).trans ((sF9 4 (by decide)).trans ((sF7 4 (by decide)).trans (sF5 4 (by decide)))))) (by intro s hs; rw [aF11, aF9, aF7, aF5]; exact sz0 hs)⟩)
          · exact absurd c12 (by decide)
set_option maxHeartbeats 4000000 in
set_option maxRecDepth 100000 in
/-- Gathered.records -/
theorem m_Ga_records (l : Launch) (D9 : va_G) (cB cI cJ cG : ClassId) (a : Nat → Nat) (O : Nat → Int64) (I : Nat → Int32) (F : Nat → Nat → Int32) (es : List En9) (hG : GaR F es) : MC l D9 cB cI cJ cG a O y_Ga_records b_Ga_records 1 (some .int) 0 [.ref (a 19)] I F (fun v I' F' => v = some (.int (nI (cn 1 es + cn 2 es + cn 3 es))) ∧ I = I' ∧ F = F') := by
  refine mc_of (by decide) (Nat.le_of_ble_eq_true rfl) ?_
  intro p e s m below meth c ls A0 Q C0 hP hD hA hS hl hret
  obtain ⟨hx, hb, hml, hr, hlocks, hown, hts, hK⟩ := id C0
  have hl : lv_has ls 1 [(0, .ref (a 19))] := hl
  refine lv_aload_n hx hb d_Ga_records_0 rfl (lv_at hl 0 rfl) ?_
  refine va_get (D := D9) (ci := 2) (C := R_Ga) (T := F_Ga) (N := 11) hx hb hts i_Ga hown hK hP 19 ww_19 rfl 8 (by decide) (hts _ g_81) (fun _ h9 => h9) rfl d_Ga_records_1 ?_
  refine lv_iconst (v := 1) hx hb d_Ga_records_4 (by decide) ?_
  refine lv_topq (y := nI 1) (rfl) ?_
  refine va_iald (D := D9) hx hb hK hP 16 1 ww_16 rfl (vp_in_nI (by omega) (by decide)) d_Ga_records_5 ?_
  refine lv_topq (y := nI (cn 1 es)) (by rw [nI_clamp (by omega)]; exact (hG.2.1 1 (by omega))) ?_
  refine lv_aload_n hx hb d_Ga_records_6 rfl (lv_at hl 0 rfl) ?_
  refine va_get (D := D9) (ci := 2) (C := R_Ga) (T := F_Ga) (N := 11) hx hb hts i_Ga hown hK hP 19 ww_19 rfl 8 (by decide) (hts _ g_81) (fun _ h9 => h9) rfl d_Ga_records_7 ?_
  refine lv_iconst (v := 2) hx hb d_Ga_records_10 (by decide) ?_
  refine lv_topq (y := nI 2) (rfl) ?_
  refine va_iald (D := D9) hx hb hK hP 16 1 ww_16 rfl (vp_in_nI (by omega) (by decide)) d_Ga_records_11 ?_
  refine lv_topq (y := nI (cn 2 es)) (by rw [nI_clamp (by omega)]; exact (hG.2.1 2 (by omega))) ?_
  refine lv_iadd hx hb d_Ga_records_12 ?_
  refine lv_topq (y := nI (cn 1 es + (cn 2 es))) (nI_add _ _) ?_
  refine lv_aload_n hx hb d_Ga_records_13 rfl (lv_at hl 0 rfl) ?_
  refine va_get (D := D9) (ci := 2) (C := R_Ga) (T := F_Ga) (N := 11) hx hb hts i_Ga hown hK hP 19 ww_19 rfl 8 (by decide) (hts _ g_81) (fun _ h9 => h9) rfl d_Ga_records_14 ?_
  refine lv_iconst (v := 3) hx hb d_Ga_records_17 (by decide) ?_
  refine lv_topq (y := nI 3) (rfl) ?_
  refine va_iald (D := D9) hx hb hK hP 16 1 ww_16 rfl (vp_in_nI (by omega) (by decide)) d_Ga_records_18 ?_
  refine lv_topq (y := nI (cn 3 es)) (by rw [nI_clamp (by omega)]; exact (hG.2.1 3 (by omega))) ?_
  refine lv_iadd hx hb d_Ga_records_19 ?_
  refine lv_topq (y := nI (cn 1 es + (cn 2 es) + (cn 3 es))) (nI_add _ _) ?_
  exact hret _ _ _ _ _ _ _ hS hP hD d_Ga_records_20 nr_i (⟨rfl, rfl, rfl⟩)
set_option maxHeartbeats 4000000 in
set_option maxRecDepth 100000 in
/-- Gathered.hasPlaceIn -/
theorem m_Ga_hasPlaceIn (l : Launch) (D9 : va_G) (cB cI cJ cG : ClassId) (a : Nat → Nat) (O : Nat → Int64) (I : Nat → Int32) (F : Nat → Nat → Int32) (es : List En9) (t : Nat) (ht : t < 4) (hG : GaR F es) (hO : okE es) : MC l D9 cB cI cJ cG a O y_Ga_hasPlaceIn b_Ga_hasPlaceIn 2 (some .boolean) 1 [.ref (a 19), .int (nI t)] I F (fun v I' F' => v = some (.int (bI (hp t es))) ∧ I = I' ∧ F = F') := by
  refine mc_of (by decide) (Nat.le_of_ble_eq_true rfl) ?_
  intro p e s m below meth c ls A0 Q C0 hP hD hA hS hl hret
  obtain ⟨hx, hb, hml, hr, hlocks, hown, hts, hK⟩ := id C0
  have hl : lv_has ls 2 [(0, .ref (a 19)), (1, .int (nI t))] := hl
  have k0 := hO.1; have k1 := hO.2.1; have k2 := hO.2.2.1
  refine lv_iload_n hx hb d_Ga_hasPlaceIn_0 rfl (lv_at hl 1 rfl) ?_
  refine lv_if_ne (tgt := 23) hx hb d_Ga_hasPlaceIn_1 (by decide) (fun c1 => ?_) (fun c1 => ?_)
  · have c1 : ¬ (t = 0) := fun z9 => c1 ((nI_eq (a := t) (b := 0) (by omega) (by omega)).mpr z9)
    refine lv_aload_n hx hb d_Ga_hasPlaceIn_23 rfl (lv_at hl 0 rfl) ?_
    refine mw_cV (ci := 2) (k := 19) C0 (m_Ga_records l D9 cB cI cJ cG a O _ _ es hG) g_319 g_3 g_316 g_318 gs_Ga_records ⟨by decide +kernel, by decide +kernel, show Option.map (fun d => d.parameters.length) (parseMethodDescriptor y_Ga_records.desc) = some 0 by decide +kernel⟩ ⟨by decide, by decide⟩ rfl rfl hP hD hS hA rfl ww_19 hl.1 (Nat.le_of_ble_eq_true rfl) rfl d_Ga_hasPlaceIn_24 ⟨by decide, by decide⟩ (fun v9 w9 H locs hq hP hD hS => ?_)
    obtain ⟨I2, F3, hw9, q4⟩ := hq
    subst hw9
    obtain ⟨rfl, rfl, rfl⟩ := q4
    refine lv_sipush (v := 1000) hx hb d_Ga_hasPlaceIn_27 (by decide) ?_
    refine lv_topq (y := nI 1000) (rfl) ?_
    refine lv_icmp_ge (tgt := 37) hx hb d_Ga_hasPlaceIn_30 (by decide) (fun c5 => ?_) (fun c5 => ?_)
    · have c5 : 1000 ≤ cn 1 es + cn 2 es + cn 3 es := (nI_leI (a := 1000) (b := cn 1 es + cn 2 es + cn 3 es) (by omega) (by omega)).mp c5
      refine lv_iconst (v := 0) hx hb d_Ga_hasPlaceIn_37 (by decide) ?_
      refine lv_topq (y := nI 0) (rfl) ?_
      exact hret _ _ _ _ _ _ _ hS hP hD d_Ga_hasPlaceIn_38 (nr_z (Or.inl rfl)) (by have e9 : hp t es = false := (by unfold hp; split <;> simp <;> omega); rw [e9]; exact ⟨rfl, rfl, rfl⟩)
    · have c5 : ¬ (1000 ≤ cn 1 es + cn 2 es + cn 3 es) := fun z9 => c5 ((nI_leI (a := 1000) (b := cn 1 es + cn 2 es + cn 3 es) (by omega) (by omega)).mpr z9)
      refine lv_iconst (v := 1) hx hb d_Ga_hasPlaceIn_33 (by decide) ?_
      refine lv_topq (y := nI 1) (rfl) ?_
      refine lv_goto (tgt := 38) hx hb d_Ga_hasPlaceIn_34 (by decide) ?_
      exact hret _ _ _ _ _ _ _ hS hP hD d_Ga_hasPlaceIn_38 (nr_z (Or.inr rfl)) (by have e9 : hp t es = true := (by unfold hp; split <;> simp <;> omega); rw [e9]; exact ⟨rfl, rfl, rfl⟩)
  · have c1 : t = 0 := (nI_eq (a := t) (b := 0) (by omega) (by omega)).mp c1
    refine lv_aload_n hx hb d_Ga_hasPlaceIn_4 rfl (lv_at hl 0 rfl) ?_
    refine va_get (D := D9) (ci := 2) (C := R_Ga) (T := F_Ga) (N := 11) hx hb hts i_Ga hown hK hP 19 ww_19 rfl 8 (by decide) (hts _ g_81) (fun _ h9 => h9) rfl d_Ga_hasPlaceIn_5 ?_
    refine lv_iconst (v := 0) hx hb d_Ga_hasPlaceIn_8 (by decide) ?_
    refine lv_topq (y := nI 0) (rfl) ?_
    refine va_iald (D := D9) hx hb hK hP 16 1 ww_16 rfl (vp_in_nI (by omega) (by decide)) d_Ga_hasPlaceIn_9 ?_
    refine lv_topq (y := nI (cn 0 es)) (by rw [nI_clamp (by omega)]; exact (hG.2.1 0 (by omega))) ?_
    refine lv_bipush (v := 100) hx hb d_Ga_hasPlaceIn_10 (by decide) ?_
    refine lv_topq (y := nI 100) (rfl) ?_
    refine lv_icmp_ge (tgt := 19) hx hb d_Ga_hasPlaceIn_12 (by decide) (fun c6 => ?_) (fun c6 => ?_)
    · have c6 : 100 ≤ cn 0 es := (nI_leI (a := 100) (b := cn 0 es) (by omega) (by omega)).mp c6
      refine lv_iconst (v := 0) hx hb d_Ga_hasPlaceIn_19 (by decide) ?_
      refine lv_topq (y := nI 0) (rfl) ?_
      refine lv_goto (tgt := 38) hx hb d_Ga_hasPlaceIn_20 (by decide) ?_
      exact hret _ _ _ _ _ _ _ hS hP hD d_Ga_hasPlaceIn_38 (nr_z (Or.inl rfl)) (by have e9 : hp t es = false := (by unfold hp; split <;> simp <;> omega); rw [e9]; exact ⟨rfl, rfl, rfl⟩)
    · have c6 : ¬ (100 ≤ cn 0 es) := fun z9 => c6 ((nI_leI (a := 100) (b := cn 0 es) (by omega) (by omega)).mpr z9)
      refine lv_iconst (v := 1) hx hb d_Ga_hasPlaceIn_15 (by decide) ?_
      refine lv_topq (y := nI 1) (rfl) ?_
      refine lv_goto (tgt := 38) hx hb d_Ga_hasPlaceIn_16 (by decide) ?_
      exact hret _ _ _ _ _ _ _ hS hP hD d_Ga_hasPlaceIn_38 (nr_z (Or.inr rfl)) (by have e9 : hp t es = true := (by unfold hp; split <;> simp <;> omega); rw [e9]; exact ⟨rfl, rfl, rfl⟩)
set_option maxHeartbeats 4000000 in
set_option maxRecDepth 100000 in
/-- Gathered.keep -/
theorem m_Ga_keep (l : Launch) (D9 : va_G) (cB cI cJ cG : ClassId) (a : Nat → Nat) (O : Nat → Int64) (I : Nat → Int32) (F : Nat → Nat → Int32) (es : List En9) (x : En9) (hs : eS x < 4) (hty : eT x < 65536) (hki : eK x < 65536) (hG : GaR F es) (hO : okE es) (hB : BR 0 65536 (F 4) (fl es ++ (eN x ++ eD x))) (hl3 : I 3 = nI ((fl es).length + ((eN x).length + (eD x).length))) (hbd : (eN x).length + (eD x).length < 1000000) : MC l D9 cB cI cJ cG a O y_Ga_keep b_Ga_keep 8 (some .boolean) 2 [.ref (a 19), .int (nI (eS x)), .int (nI ((fl es).length)), .int (nI ((eN x).length)), .int (nI (eT x)), .int (nI (eK x)), .int (eL x)] I F (fun v I' F' => (okE (es ++ [x]) ∧ v = some (.int (nI 1)) ∧ I = I' ∧ GaR F' (es ++ [x]) ∧ sm [5, 6, 7, 8, 9, 10, 12, 13, 14, 15, 16] F F') ∨ (¬ okE (es ++ [x]) ∧ v = some (.int (nI 0)) ∧ sm [3] I I' ∧ I' 3 = nI (fl es).length ∧ F = F')) := by
  refine mc_of (by decide) (Nat.le_of_ble_eq_true rfl) ?_
  intro p e s m below meth c ls A0 Q C0 hP hD hA hS hl hret
  obtain ⟨hx, hb, hml, hr, hlocks, hown, hts, hK⟩ := id C0
  have hl : lv_has ls 8 [(0, .ref (a 19)), (1, .int (nI (eS x))), (2, .int (nI ((fl es).length))), (3, .int (nI ((eN x).length))), (4, .int (nI (eT x))), (5, .int (nI (eK x))), (6, .int (eL x))] := hl
  have k0 := hO.1; have k1 := hO.2.1; have k2 := hO.2.2.1
  refine lv_aload_n hx hb d_Ga_keep_0 rfl (lv_at hl 0 rfl) ?_
  refine va_get (D := D9) (ci := 2) (C := R_Ga) (T := F_Ga) (N := 11) hx hb hts i_Ga hown hK hP 19 ww_19 rfl 0 (by decide) (hts _ g_57) (fun _ h9 => h9) rfl d_Ga_keep_1 ?_
  refine va_getN (D := D9) (ci := 0) (C := R_By) (T := F_By) (N := 2) hx hb hts i_By hown hK hP 3 ww_3 rfl 1 (by decide) (hts _ g_37) (fun _ h9 => h9) rfl d_Ga_keep_4 ?_
  refine lv_topq (y := nI ((fl es).length + ((eN x).length + (eD x).length))) (hl3) ?_
  refine lv_ldc hx hb hown (hts _ g_311) d_Ga_keep_7 ?_
  refine lv_topq (y := nI 65536) (rfl) ?_
  refine lv_icmp_gt (tgt := 20) hx hb d_Ga_keep_9 (by decide) (fun c1 => ?_) (fun c1 => ?_)
  · have c1 : 65536 < (fl es).length + ((eN x).length + (eD x).length) := (nI_ltI (a := 65536) (b := (fl es).length + ((eN x).length + (eD x).length)) (by omega) (by omega)).mp c1
    refine lv_aload_n hx hb d_Ga_keep_20 rfl (lv_at hl 0 rfl) ?_
    refine va_get (D := D9) (ci := 2) (C := R_Ga) (T := F_Ga) (N := 11) hx hb hts i_Ga hown hK hP 19 ww_19 rfl 0 (by decide) (hts _ g_57) (fun _ h9 => h9) rfl d_Ga_keep_21 ?_
    refine lv_iload_n hx hb d_Ga_keep_24 rfl (lv_at hl 2 rfl) ?_
    refine va_putN (D := D9) (ty := .int) (ci := 0) (C := R_By) (T := F_By) (N := 2) hx hb hts i_By t_By t_By_ok n_By hown hK hP hD hS 3 ww_3 rfl 1 (by decide) (hts _ g_37) (fun _ h9 => h9) rfl (by decide +kernel) rfl rfl (Nat.le_of_ble_eq_true rfl) d_Ga_keep_25 (fun H locs hP hD hS => ?_)
    obtain ⟨I2, aI2, sI2, hP, hD⟩ := fx (P := fun z => va_P D9 cls9 (WW a cB cI cJ cG z _ O) H ∧ va_D A0 (WW a cB cI cJ cG z _ O)) ⟨wp_3 hP, wd_3 hD⟩
    refine lv_iconst (v := 0) hx hb d_Ga_keep_28 (by decide) ?_
    refine lv_topq (y := nI 0) (rfl) ?_
    exact hret _ _ _ _ _ _ _ hS hP hD d_Ga_keep_29 (nr_z (Or.inl rfl)) (Or.inr ⟨fun z9 => by have z9 := (okE_add hO hs hty hki).mp z9; have z8 := z9.2; simp only [List.length_append] at z8; omega, rfl, (sm_mo sI2 (by decide)), aI2, rfl⟩)
  · have c1 : ¬ (65536 < (fl es).length + ((eN x).length + (eD x).length)) := fun z9 => c1 ((nI_ltI (a := 65536) (b := (fl es).length + ((eN x).length + (eD x).length)) (by omega) (by omega)).mpr z9)
    refine lv_aload_n hx hb d_Ga_keep_12 rfl (lv_at hl 0 rfl) ?_
    refine lv_iload_n hx hb d_Ga_keep_13 rfl (lv_at hl 1 rfl) ?_
    refine mw_cV (ci := 2) (k := 19) C0 (m_Ga_hasPlaceIn l D9 cB cI cJ cG a O _ _ es (eS x) hs hG hO) g_315 g_3 g_312 g_314 gs_Ga_hasPlaceIn ⟨by decide +kernel, by decide +kernel, show Option.map (fun d => d.parameters.length) (parseMethodDescriptor y_Ga_hasPlaceIn.desc) = some 1 by decide +kernel⟩ ⟨by decide, by decide⟩ rfl rfl hP hD hS hA rfl ww_19 hl.1 (Nat.le_of_ble_eq_true rfl) rfl d_Ga_keep_14 ⟨by decide, by decide⟩ (fun v9 w9 H locs hq hP hD hS => ?_)
    obtain ⟨I3, F4, hw9, q5⟩ := hq
    subst hw9
    obtain ⟨rfl, rfl, rfl⟩ := q5
    refine lv_if_ne (tgt := 30) hx hb d_Ga_keep_17 (by decide) (fun c6 => ?_) (fun c6 => ?_)
    · have c6 : hp (eS x) es = true := bI_t c6
      refine lv_aload_n hx hb d_Ga_keep_30 rfl (lv_at hl 0 rfl) ?_
      refine va_get (D := D9) (ci := 2) (C := R_Ga) (T := F_Ga) (N := 11) hx hb hts i_Ga hown hK hP 19 ww_19 rfl 8 (by decide) (hts _ g_81) (fun _ h9 => h9) rfl d_Ga_keep_31 ?_
      refine lv_iconst (v := 0) hx hb d_Ga_keep_34 (by decide) ?_
      refine lv_topq (y := nI 0) (rfl) ?_
      refine va_iald (D := D9) hx hb hK hP 16 1 ww_16 rfl (vp_in_nI (by omega) (by decide)) d_Ga_keep_35 ?_
      refine lv_topq (y := nI (cn 0 es)) (by rw [nI_clamp (by omega)]; exact (hG.2.1 0 (by omega))) ?_
      refine lv_aload_n hx hb d_Ga_keep_36 rfl (lv_at hl 0 rfl) ?_
      refine mw_cV (ci := 2) (k := 19) C0 (m_Ga_records l D9 cB cI cJ cG a O _ _ es hG) g_319 g_3 g_316 g_318 gs_Ga_records ⟨by decide +kernel, by decide +kernel, show Option.map (fun d => d.parameters.length) (parseMethodDescriptor y_Ga_records.desc) = some 0 by decide +kernel⟩ ⟨by decide, by decide⟩ rfl rfl hP hD hS hA rfl ww_19 hl.1 (Nat.le_of_ble_eq_true rfl) rfl d_Ga_keep_37 ⟨by decide, by decide⟩ (fun v9 w9 H locs hq hP hD hS => ?_)
      obtain ⟨I7, F8, hw9, q9⟩ := hq
      subst hw9
      obtain ⟨rfl, rfl, rfl⟩ := q9
      refine lv_iadd hx hb d_Ga_keep_40 ?_
      refine lv_topq (y := nI (cn 0 es + (cn 1 es + cn 2 es + cn 3 es))) (nI_add _ _) ?_
      have hln := okE_len hO
      have hhp := hp_t c6
      have hcn : cn (eS x) es < 1000 := by rcases lt4 hs with e0 | e0 | e0 | e0 <;> simp [e0] at hhp ⊢ <;> omega
      have hrow : cn 0 es + (cn 1 es + cn 2 es + cn 3 es) = es.length := by omega
      refine lv_topq (y := nI es.length) (congrArg nI hrow) ?_
      refine lv_istore (lv' := [(7, _), (0, _), (1, _), (2, _), (3, _), (4, _), (5, _), (6, _)]) hx hb d_Ga_keep_41 hl (by decide) rfl (fun ls hl => ?_)
      refine lv_aload_n hx hb d_Ga_keep_43 rfl (lv_at hl 1 rfl) ?_
      refine va_get (D := D9) (ci := 2) (C := R_Ga) (T := F_Ga) (N := 11) hx hb hts i_Ga hown hK hP 19 ww_19 rfl 1 (by decide) (hts _ g_61) (fun _ h9 => h9) rfl d_Ga_keep_44 ?_
      refine lv_iload hx hb d_Ga_keep_47 (lv_at hl 0 rfl) ?_
      refine lv_iload_n hx hb d_Ga_keep_49 rfl (lv_at hl 3 rfl) ?_
      refine va_iast (D := D9) hx hb hK hP hD hS 5 1 ww_5 rfl (vp_in_nI (by omega) (by decide)) d_Ga_keep_50 (fun H locs hP hD hS => ?_)
      obtain ⟨F10, aF10, sF10, hP, hD⟩ := fx (P := fun z => va_P D9 cls9 (WW a cB cI cJ cG _ z O) H ∧ va_D A0 (WW a cB cI cJ cG _ z O)) ⟨wpa_5 hP, wda_5 hD⟩
      rw [nI_clamp (by omega)] at aF10
      refine lv_aload_n hx hb d_Ga_keep_51 rfl (lv_at hl 1 rfl) ?_
      refine va_get (D := D9) (ci := 2) (C := R_Ga) (T := F_Ga) (N := 11) hx hb hts i_Ga hown hK hP 19 ww_19 rfl 2 (by decide) (hts _ g_64) (fun _ h9 => h9) rfl d_Ga_keep_52 ?_
      refine lv_iload hx hb d_Ga_keep_55 (lv_at hl 0 rfl) ?_
      refine lv_iload_n hx hb d_Ga_keep_57 rfl (lv_at hl 4 rfl) ?_
      refine va_iast (D := D9) hx hb hK hP hD hS 6 1 ww_6 rfl (vp_in_nI (by omega) (by decide)) d_Ga_keep_58 (fun H locs hP hD hS => ?_)
      obtain ⟨F11, aF11, sF11, hP, hD⟩ := fx (P := fun z => va_P D9 cls9 (WW a cB cI cJ cG _ z O) H ∧ va_D A0 (WW a cB cI cJ cG _ z O)) ⟨wpa_6 hP, wda_6 hD⟩
      rw [nI_clamp (by omega)] at aF11
      rw [(sF10 6 (by decide))] at aF11
      refine lv_aload_n hx hb d_Ga_keep_59 rfl (lv_at hl 1 rfl) ?_
      refine va_get (D := D9) (ci := 2) (C := R_Ga) (T := F_Ga) (N := 11) hx hb hts i_Ga hown hK hP 19 ww_19 rfl 3 (by decide) (hts _ g_67) (fun _ h9 => h9) rfl d_Ga_keep_60 ?_
      refine lv_iload hx hb d_Ga_keep_63 (lv_at hl 0 rfl) ?_
      refine lv_aload_n hx hb d_Ga_keep_65 rfl (lv_at hl 1 rfl) ?_
      refine va_get (D := D9) (ci := 2) (C := R_Ga) (T := F_Ga) (N := 11) hx hb hts i_Ga hown hK hP 19 ww_19 rfl 0 (by decide) (hts _ g_57) (fun _ h9 => h9) rfl d_Ga_keep_66 ?_
      refine va_getN (D := D9) (ci := 0) (C := R_By) (T := F_By) (N := 2) hx hb hts i_By hown hK hP 3 ww_3 rfl 1 (by decide) (hts _ g_37) (fun _ h9 => h9) rfl d_Ga_keep_69 ?_
      refine lv_topq (y := nI ((fl es).length + ((eN x).length + (eD x).length))) (hl3) ?_
      refine lv_iload_n hx hb d_Ga_keep_72 rfl (lv_at hl 3 rfl) ?_
      refine lv_isub hx hb d_Ga_keep_73 ?_
      refine lv_topq (y := nI ((eN x).length + (eD x).length)) ((pk_sub (by omega)).trans (congrArg nI (by omega))) ?_
      refine lv_iload_n hx hb d_Ga_keep_74 rfl (lv_at hl 4 rfl) ?_
      refine lv_isub hx hb d_Ga_keep_75 ?_
      refine lv_topq (y := nI ((eD x).length)) ((pk_sub (by omega)).trans (congrArg nI (by omega))) ?_
      refine va_iast (D := D9) hx hb hK hP hD hS 7 1 ww_7 rfl (vp_in_nI (by omega) (by decide)) d_Ga_keep_76 (fun H locs hP hD hS => ?_)
      obtain ⟨F12, aF12, sF12, hP, hD⟩ := fx (P := fun z => va_P D9 cls9 (WW a cB cI cJ cG _ z O) H ∧ va_D A0 (WW a cB cI cJ cG _ z O)) ⟨wpa_7 hP, wda_7 hD⟩
      rw [nI_clamp (by omega)] at aF12
      rw [((sF11 7 (by decide)).trans (sF10 7 (by decide)))] at aF12
      refine lv_aload_n hx hb d_Ga_keep_77 rfl (lv_at hl 1 rfl) ?_
      refine va_get (D := D9) (ci := 2) (C := R_Ga) (T := F_Ga) (N := 11) hx hb hts i_Ga hown hK hP 19 ww_19 rfl 4 (by decide) (hts _ g_70) (fun _ h9 => h9) rfl d_Ga_keep_78 ?_
      refine lv_iload hx hb d_Ga_keep_81 (lv_at hl 0 rfl) ?_
      refine lv_iload hx hb d_Ga_keep_83 (lv_at hl 5 rfl) ?_
      refine va_iast (D := D9) hx hb hK hP hD hS 8 1 ww_8 rfl (vp_in_nI (by omega) (by decide)) d_Ga_keep_85 (fun H locs hP hD hS => ?_)
      obtain ⟨F13, aF13, sF13, hP, hD⟩ := fx (P := fun z => va_P D9 cls9 (WW a cB cI cJ cG _ z O) H ∧ va_D A0 (WW a cB cI cJ cG _ z O)) ⟨wpa_8 hP, wda_8 hD⟩
      rw [nI_clamp (by omega)] at aF13
      rw [((sF12 8 (by decide)).trans ((sF11 8 (by decide)).trans (sF10 8 (by decide))))] at aF13
      refine lv_aload_n hx hb d_Ga_keep_86 rfl (lv_at hl 1 rfl) ?_
      refine va_get (D := D9) (ci := 2) (C := R_Ga) (T := F_Ga) (N := 11) hx hb hts i_Ga hown hK hP 19 ww_19 rfl 5 (by decide) (hts _ g_73) (fun _ h9 => h9) rfl d_Ga_keep_87 ?_
      refine lv_iload hx hb d_Ga_keep_90 (lv_at hl 0 rfl) ?_
      refine lv_iload hx hb d_Ga_keep_92 (lv_at hl 6 rfl) ?_
      refine va_iast (D := D9) hx hb hK hP hD hS 9 1 ww_9 rfl (vp_in_nI (by omega) (by decide)) d_Ga_keep_94 (fun H locs hP hD hS => ?_)
      obtain ⟨F14, aF14, sF14, hP, hD⟩ := fx (P := fun z => va_P D9 cls9 (WW a cB cI cJ cG _ z O) H ∧ va_D A0 (WW a cB cI cJ cG _ z O)) ⟨wpa_9 hP, wda_9 hD⟩
      rw [nI_clamp (by omega)] at aF14
      rw [((sF13 9 (by decide)).trans ((sF12 9 (by decide)).trans ((sF11 9 (by decide)).trans (sF10 9 (by decide)))))] at aF14
      refine lv_aload_n hx hb d_Ga_keep_95 rfl (lv_at hl 1 rfl) ?_
      refine va_get (D := D9) (ci := 2) (C := R_Ga) (T := F_Ga) (N := 11) hx hb hts i_Ga hown hK hP 19 ww_19 rfl 6 (by decide) (hts _ g_76) (fun _ h9 => h9) rfl d_Ga_keep_96 ?_
      refine lv_iload hx hb d_Ga_keep_99 (lv_at hl 0 rfl) ?_
      refine lv_iload hx hb d_Ga_keep_101 (lv_at hl 7 rfl) ?_
      refine va_iast (D := D9) hx hb hK hP hD hS 10 1 ww_10 rfl (vp_in_nI (by omega) (by decide)) d_Ga_keep_103 (fun H locs hP hD hS => ?_)
      obtain ⟨F15, aF15, sF15, hP, hD⟩ := fx (P := fun z => va_P D9 cls9 (WW a cB cI cJ cG _ z O) H ∧ va_D A0 (WW a cB cI cJ cG _ z O)) ⟨wpa_10 hP, wda_10 hD⟩
      rw [nI_clamp (by omega)] at aF15
      rw [((sF14 10 (by decide)).trans ((sF13 10 (by decide)).trans ((sF12 10 (by decide)).trans ((sF11 10 (by decide)).trans (sF10 10 (by decide))))))] at aF15
      refine lv_aload_n hx hb d_Ga_keep_104 rfl (lv_at hl 1 rfl) ?_
      refine va_get (D := D9) (ci := 2) (C := R_Ga) (T := F_Ga) (N := 11) hx hb hts i_Ga hown hK hP 19 ww_19 rfl 7 (by decide) (hts _ g_79) (fun _ h9 => h9) rfl d_Ga_keep_105 ?_
      refine lv_iload_n hx hb d_Ga_keep_108 rfl (lv_at hl 2 rfl) ?_
      refine va_aldG (D := D9) hx hb hK hP 11 3 ww_11 rfl (vp_in_nI (by omega) (by decide)) d_Ga_keep_109 ?_
      rw [nI_clamp (by omega), va_rf4 hs]
      refine lv_aload_n hx hb d_Ga_keep_110 rfl (lv_at hl 1 rfl) ?_
      refine va_get (D := D9) (ci := 2) (C := R_Ga) (T := F_Ga) (N := 11) hx hb hts i_Ga hown hK hP 19 ww_19 rfl 8 (by decide) (hts _ g_81) (fun _ h9 => h9) rfl d_Ga_keep_111 ?_
      refine lv_iload_n hx hb d_Ga_keep_114 rfl (lv_at hl 2 rfl) ?_
      refine va_iald (D := D9) hx hb hK hP 16 1 ww_16 rfl (vp_in_nI (by omega) (by decide)) d_Ga_keep_115 ?_
      refine lv_topq (y := nI (cn (eS x) es)) (by rw [nI_clamp (by omega)]; exact ((congrFun (sF15 16 (by decide)) _).trans ((congrFun (sF14 16 (by decide)) _).trans ((congrFun (sF13 16 (by decide)) _).trans ((congrFun (sF12 16 (by decide)) _).trans ((congrFun (sF11 16 (by decide)) _).trans ((congrFun (sF10 16 (by decide)) _).trans (hG.2.1 (eS x) hs)))))))) ?_
      refine lv_iload hx hb d_Ga_keep_116 (lv_at hl 0 rfl) ?_
      refine va_iast (D := D9) hx hb hK hP hD hS (12 + eS x) 1 (ww_row hs) rfl (vp_in_nI (by omega) (by decide)) d_Ga_keep_118 (fun H locs hP hD hS => ?_)
      obtain ⟨F16, aF16, sF16, hP, hD⟩ := fx (P := fun z => va_P D9 cls9 (WW a cB cI cJ cG _ z O) H ∧ va_D A0 (WW a cB cI cJ cG _ z O)) ⟨wpa_row hs hP, wda_row hs hD⟩
      rw [nI_clamp (by omega)] at aF16
      rw [((sF15 (12 + eS x) (by simp only [List.mem_cons, List.not_mem_nil, or_false]; omega)).trans ((sF14 (12 + eS x) (by simp only [List.mem_cons, List.not_mem_nil, or_false]; omega)).trans ((sF13 (12 + eS x) (by simp only [List.mem_cons, List.not_mem_nil, or_false]; omega)).trans ((sF12 (12 + eS x) (by simp only [List.mem_cons, List.not_mem_nil, or_false]; omega)).trans ((sF11 (12 + eS x) (by simp only [List.mem_cons, List.not_mem_nil, or_false]; omega)).trans (sF10 (12 + eS x) (by simp only [List.mem_cons, List.not_mem_nil, or_false]; omega)))))))] at aF16
      refine lv_aload_n hx hb d_Ga_keep_119 rfl (lv_at hl 1 rfl) ?_
      refine va_get (D := D9) (ci := 2) (C := R_Ga) (T := F_Ga) (N := 11) hx hb hts i_Ga hown hK hP 19 ww_19 rfl 8 (by decide) (hts _ g_81) (fun _ h9 => h9) rfl d_Ga_keep_120 ?_
      refine lv_iload_n hx hb d_Ga_keep_123 rfl (lv_at hl 2 rfl) ?_
      refine lv_dup2_11 hx hb d_Ga_keep_124 rfl rfl ?_
      refine va_iald (D := D9) hx hb hK hP 16 1 ww_16 rfl (vp_in_nI (by omega) (by decide)) d_Ga_keep_125 ?_
      refine lv_topq (y := nI (cn (eS x) es)) (by rw [nI_clamp (by omega)]; exact ((congrFun (sF16 16 (rw_ne hs)) _).trans ((congrFun (sF15 16 (by decide)) _).trans ((congrFun (sF14 16 (by decide)) _).trans ((congrFun (sF13 16 (by decide)) _).trans ((congrFun (sF12 16 (by decide)) _).trans ((congrFun (sF11 16 (by decide)) _).trans ((congrFun (sF10 16 (by decide)) _).trans (hG.2.1 (eS x) hs))))))))) ?_
      refine lv_iconst (v := 1) hx hb d_Ga_keep_126 (by decide) ?_
      refine lv_topq (y := nI 1) (rfl) ?_
      refine lv_iadd hx hb d_Ga_keep_127 ?_
      refine lv_topq (y := nI (cn (eS x) es + 1)) (nI_add _ _) ?_
      refine va_iast (D := D9) hx hb hK hP hD hS 16 1 ww_16 rfl (vp_in_nI (by omega) (by decide)) d_Ga_keep_128 (fun H locs hP hD hS => ?_)
      obtain ⟨F17, aF17, sF17, hP, hD⟩ := fx (P := fun z => va_P D9 cls9 (WW a cB cI cJ cG _ z O) H ∧ va_D A0 (WW a cB cI cJ cG _ z O)) ⟨wpa_16 hP, wda_16 hD⟩
      rw [nI_clamp (by omega)] at aF17
      rw [((sF16 16 (rw_ne hs)).trans ((sF15 16 (by decide)).trans ((sF14 16 (by decide)).trans ((sF13 16 (by decide)).trans ((sF12 16 (by decide)).trans ((sF11 16 (by decide)).trans (sF10 16 (by decide))))))))] at aF17
      refine lv_iconst (v := 1) hx hb d_Ga_keep_129 (by decide) ?_
      refine lv_topq (y := nI 1) (rfl) ?_
      exact hret _ _ _ _ _ _ _ hS hP hD d_Ga_keep_130 (nr_z (Or.inr rfl)) (Or.inl ⟨(okE_add hO hs hty hki).mpr ⟨c6, by simp only [List.length_append]; omega⟩, rfl, rfl, GaR_add hG hB hs ((sF17 4 (by decide)).trans ((sF16 4 (rw_ne hs)).trans ((sF15 4 (by decide)).trans ((sF14 4 (by decide)).trans ((sF13 4 (by decide)).trans ((sF12 4 (by decide)).trans ((sF11 4 (by decide)).trans (sF10 4 (by decide))))))))) (((sF17 5 (by decide)).trans ((sF16 5 (rw_ne hs)).trans ((sF15 5 (by decide)).trans ((sF14 5 (by decide)).trans ((sF13 5 (by decide)).trans ((sF12 5 (by decide)).trans (sF11 5 (by decide)))))))).trans aF10) (((sF17 6 (by decide)).trans ((sF16 6 (rw_ne hs)).trans ((sF15 6 (by decide)).trans ((sF14 6 (by decide)).trans ((sF13 6 (by decide)).trans (sF12 6 (by decide))))))).trans aF11) (((sF17 7 (by decide)).trans ((sF16 7 (rw_ne hs)).trans ((sF15 7 (by decide)).trans ((sF14 7 (by decide)).trans (sF13 7 (by decide)))))).trans aF12) (((sF17 8 (by decide)).trans ((sF16 8 (rw_ne hs)).trans ((sF15 8 (by decide)).trans (sF14 8 (by decide))))).trans aF13) (((sF17 9 (by decide)).trans ((sF16 9 (rw_ne hs)).trans (sF15 9 (by decide)))).trans aF14) (((sF17 10 (by decide)).trans (sF16 10 (rw_ne hs))).trans aF15) aF17 ((sF17 (12 + eS x) (by simp only [List.mem_cons, List.not_mem_nil, or_false]; omega)).trans aF16) (fun s4 h4 h5 => ((sF17 (12 + s4) (by simp only [List.mem_cons, List.not_mem_nil, or_false]; omega)).trans ((sF16 (12 + s4) (by simp only [List.mem_cons, List.not_mem_nil, or_false]; omega)).trans ((sF15 (12 + s4) (by simp only [List.mem_cons, List.not_mem_nil, or_false]; omega)).trans ((sF14 (12 + s4) (by simp only [List.mem_cons, List.not_mem_nil, or_false]; omega)).trans ((sF13 (12 + s4) (by simp only [List.mem_cons, List.not_mem_nil, or_false]; omega)).trans ((sF12 (12 + s4) (by simp only [List.mem_cons, List.not_mem_nil, or_false]; omega)).trans ((sF11 (12 + s4) (by simp only [List.mem_cons, List.not_mem_nil, or_false]; omega)).trans (sF10 (12 + s4) (by simp only [List.mem_cons, List.not_mem_nil, or_false]; omega)))))))))) (fun e he => (hO.2.2.2 e he).1), (sm_tr (sm_tr (sm_tr (sm_tr (sm_tr (sm_tr (sm_tr (sm_mo sF10 (by decide)) (sm_mo sF11 (by decide))) (sm_mo sF12 (by decide))) (sm_mo sF13 (by decide))) (sm_mo sF14 (by decide))) (sm_mo sF15 (by decide))) (sm_mo sF16 (row_in hs (by decide)))) (sm_mo sF17 (by decide)))⟩)
    · have c6 : hp (eS x) es = false := bI_f c6
      refine lv_aload_n hx hb d_Ga_keep_20 rfl (lv_at hl 0 rfl) ?_
      refine va_get (D := D9) (ci := 2) (C := R_Ga) (T := F_Ga) (N := 11) hx hb hts i_Ga hown hK hP 19 ww_19 rfl 0 (by decide) (hts _ g_57) (fun _ h9 => h9) rfl d_Ga_keep_21 ?_
      refine lv_iload_n hx hb d_Ga_keep_24 rfl (lv_at hl 2 rfl) ?_
      refine va_putN (D := D9) (ty := .int) (ci := 0) (C := R_By) (T := F_By) (N := 2) hx hb hts i_By t_By t_By_ok n_By hown hK hP hD hS 3 ww_3 rfl 1 (by decide) (hts _ g_37) (fun _ h9 => h9) rfl (by decide +kernel) rfl rfl (Nat.le_of_ble_eq_true rfl) d_Ga_keep_25 (fun H locs hP hD hS => ?_)
      obtain ⟨I18, aI18, sI18, hP, hD⟩ := fx (P := fun z => va_P D9 cls9 (WW a cB cI cJ cG z _ O) H ∧ va_D A0 (WW a cB cI cJ cG z _ O)) ⟨wp_3 hP, wd_3 hD⟩
      refine lv_iconst (v := 0) hx hb d_Ga_keep_28 (by decide) ?_
      refine lv_topq (y := nI 0) (rfl) ?_
      exact hret _ _ _ _ _ _ _ hS hP hD d_Ga_keep_29 (nr_z (Or.inl rfl)) (Or.inr ⟨fun z9 => by have z9 := (okE_add hO hs hty hki).mp z9; rw [c6] at z9; exact absurd z9.1 (by decide), rfl, (sm_mo sI18 (by decide)), aI18, rfl⟩)
set_option maxHeartbeats 4000000 in
set_option maxRecDepth 100000 in
/-- Gathered.rowOf -/
theorem m_Ga_rowOf (l : Launch) (D9 : va_G) (cB cI cJ cG : ClassId) (a : Nat → Nat) (O : Nat → Int64) (I : Nat → Int32) (F : Nat → Nat → Int32) (es : List En9) (x y : Int32) (hG : GaR F es) (hO : okE es) : MC l D9 cB cI cJ cG a O y_Ga_rowOf b_Ga_rowOf 3 (some .int) 0 [.ref (a 19), .int (x), .int (y)] I F (fun v I' F' => v = some (.int (oI (rI x y es))) ∧ I = I' ∧ F = F') := by
  refine mc_of (by decide) (Nat.le_of_ble_eq_true rfl) ?_
  intro p e s m below meth c ls A0 Q C0 hP hD hA hS hl hret
  obtain ⟨hx, hb, hml, hr, hlocks, hown, hts, hK⟩ := id C0
  have hl : lv_has ls 3 [(0, .ref (a 19)), (1, .int (x)), (2, .int (y))] := hl
  have k0 := hO.1; have k1 := hO.2.1; have k2 := hO.2.2.1
  rcases pk_ix x (n := 4) (by decide) with h9 | h9 | ⟨t, ht, rfl⟩
  · refine lv_iload_n hx hb d_Ga_rowOf_0 rfl (lv_at hl 1 rfl) ?_
    refine lv_if_lt (tgt := 23) hx hb d_Ga_rowOf_1 (by decide) (fun c1 => ?_) (fun c1 => ?_)
    · refine lv_iconst (v := -1) hx hb d_Ga_rowOf_23 (by decide) ?_
      refine lv_topq (y := (-1 : Int32)) rfl ?_
      exact hret _ _ _ _ _ _ _ hS hP hD d_Ga_rowOf_24 nr_i (⟨by unfold rI; rw [if_pos (Or.inl h9)]; rfl, rfl, rfl⟩)
    · exact absurd h9 c1
  · refine lv_iload_n hx hb d_Ga_rowOf_0 rfl (lv_at hl 1 rfl) ?_
    refine lv_if_lt (tgt := 23) hx hb d_Ga_rowOf_1 (by decide) (fun c2 => ?_) (fun c2 => ?_)
    · exact absurd (Int32.lt_of_lt_of_le c2 (show (0 : Int32) ≤ nI 4 by decide)) (Int32.not_lt.mpr h9)
    · refine lv_iload_n hx hb d_Ga_rowOf_4 rfl (lv_at hl 1 rfl) ?_
      refine lv_iconst (v := 4) hx hb d_Ga_rowOf_5 (by decide) ?_
      refine lv_topq (y := nI 4) (rfl) ?_
      refine lv_icmp_ge (tgt := 23) hx hb d_Ga_rowOf_6 (by decide) (fun c3 => ?_) (fun c3 => ?_)
      · refine lv_iconst (v := -1) hx hb d_Ga_rowOf_23 (by decide) ?_
        refine lv_topq (y := (-1 : Int32)) rfl ?_
        exact hret _ _ _ _ _ _ _ hS hP hD d_Ga_rowOf_24 nr_i (⟨by unfold rI; rw [if_pos (Or.inr (Or.inl (show (4 : Int32) ≤ x from h9)))]; rfl, rfl, rfl⟩)
      · exact absurd h9 c3
  · have ct : cn t es ≤ 1000 := by rcases lt4 ht with rfl | rfl | rfl | rfl <;> omega
    refine lv_iload_n hx hb d_Ga_rowOf_0 rfl (lv_at hl 1 rfl) ?_
    refine lv_if_lt (tgt := 23) hx hb d_Ga_rowOf_1 (by decide) (fun c4 => ?_) (fun c4 => ?_)
    · have c4 : t < 0 := (nI_ltI (a := t) (b := 0) (by omega) (by omega)).mp c4
      exfalso; omega
    · have c4 : ¬ (t < 0) := fun z9 => c4 ((nI_ltI (a := t) (b := 0) (by omega) (by omega)).mpr z9)
      refine lv_iload_n hx hb d_Ga_rowOf_4 rfl (lv_at hl 1 rfl) ?_
      refine lv_iconst (v := 4) hx hb d_Ga_rowOf_5 (by decide) ?_
      refine lv_topq (y := nI 4) (rfl) ?_
      refine lv_icmp_ge (tgt := 23) hx hb d_Ga_rowOf_6 (by decide) (fun c5 => ?_) (fun c5 => ?_)
      · have c5 : 4 ≤ t := (nI_leI (a := 4) (b := t) (by omega) (by omega)).mp c5
        exfalso; omega
      · have c5 : ¬ (4 ≤ t) := fun z9 => c5 ((nI_leI (a := 4) (b := t) (by omega) (by omega)).mpr z9)
        refine lv_iload_n hx hb d_Ga_rowOf_9 rfl (lv_at hl 2 rfl) ?_
        refine lv_if_lt (tgt := 23) hx hb d_Ga_rowOf_10 (by decide) (fun c6 => ?_) (fun c6 => ?_)
        · refine lv_iconst (v := -1) hx hb d_Ga_rowOf_23 (by decide) ?_
          refine lv_topq (y := (-1 : Int32)) rfl ?_
          exact hret _ _ _ _ _ _ _ hS hP hD d_Ga_rowOf_24 nr_i (⟨by unfold rI; rw [if_pos (Or.inr (Or.inr c6))]; rfl, rfl, rfl⟩)
        · obtain ⟨k, hk, rfl⟩ := nI_of c6
          refine lv_iload_n hx hb d_Ga_rowOf_13 rfl (lv_at hl 2 rfl) ?_
          refine lv_aload_n hx hb d_Ga_rowOf_14 rfl (lv_at hl 0 rfl) ?_
          refine va_get (D := D9) (ci := 2) (C := R_Ga) (T := F_Ga) (N := 11) hx hb hts i_Ga hown hK hP 19 ww_19 rfl 8 (by decide) (hts _ g_81) (fun _ h9 => h9) rfl d_Ga_rowOf_15 ?_
          refine lv_iload_n hx hb d_Ga_rowOf_18 rfl (lv_at hl 1 rfl) ?_
          refine va_iald (D := D9) hx hb hK hP 16 1 ww_16 rfl (vp_in_nI (by omega) (by decide)) d_Ga_rowOf_19 ?_
          refine lv_topq (y := nI (cn t es)) (by rw [nI_clamp (by omega)]; exact (hG.2.1 t ht)) ?_
          refine lv_icmp_lt (tgt := 25) hx hb d_Ga_rowOf_20 (by decide) (fun c7 => ?_) (fun c7 => ?_)
          · have c7 : k < cn t es := (nI_ltI (a := k) (b := cn t es) (by omega) (by omega)).mp c7
            obtain ⟨r9, e9, g1, g2, g3, g4, g5, g6⟩ := GaR_row hG c7
            refine lv_aload_n hx hb d_Ga_rowOf_25 rfl (lv_at hl 0 rfl) ?_
            refine va_get (D := D9) (ci := 2) (C := R_Ga) (T := F_Ga) (N := 11) hx hb hts i_Ga hown hK hP 19 ww_19 rfl 7 (by decide) (hts _ g_79) (fun _ h9 => h9) rfl d_Ga_rowOf_26 ?_
            refine lv_iload_n hx hb d_Ga_rowOf_29 rfl (lv_at hl 1 rfl) ?_
            refine va_aldG (D := D9) hx hb hK hP 11 3 ww_11 rfl (vp_in_nI (by omega) (by decide)) d_Ga_rowOf_30 ?_
            rw [nI_clamp (by omega), va_rf4 ht]
            refine lv_iload_n hx hb d_Ga_rowOf_31 rfl (lv_at hl 2 rfl) ?_
            refine va_iald (D := D9) hx hb hK hP (12 + t) 1 (ww_row ht) rfl (vp_in_nI (show k < 1000 by have := lt4 ht; rcases this with rfl | rfl | rfl | rfl <;> omega) (by decide)) d_Ga_rowOf_32 ?_
            refine lv_topq (y := nI r9) (by rw [nI_clamp (by omega)]; exact g5) ?_
            exact hret _ _ _ _ _ _ _ hS hP hD d_Ga_rowOf_33 nr_i (⟨by rw [rI_n ht hk, g1]; rfl, rfl, rfl⟩)
          · have c7 : ¬ (k < cn t es) := fun z9 => c7 ((nI_ltI (a := k) (b := cn t es) (by omega) (by omega)).mpr z9)
            refine lv_iconst (v := -1) hx hb d_Ga_rowOf_23 (by decide) ?_
            refine lv_topq (y := (-1 : Int32)) rfl ?_
            exact hret _ _ _ _ _ _ _ hS hP hD d_Ga_rowOf_24 nr_i (⟨by rw [rI_n ht hk]; cases h8 : ix t k es with | none => rfl | some r => have := (ix_lt h8).2; exfalso; omega, rfl, rfl⟩)
set_option maxHeartbeats 4000000 in
set_option maxRecDepth 100000 in
/-- Gathered.isNeverLeftOut -/
theorem m_Ga_isNeverLeftOut (l : Launch) (D9 : va_G) (cB cI cJ cG : ClassId) (a : Nat → Nat) (O : Nat → Int64) (I : Nat → Int32) (F : Nat → Nat → Int32) (es : List En9) (r : Nat) (e9 : En9) (hre : es[r]? = some e9) (hG : GaR F es) (hO : okE es) (t : Nat) (ht : t < 4) : MC l D9 cB cI cJ cG a O y_Ga_isNeverLeftOut b_Ga_isNeverLeftOut 3 (some .boolean) 0 [.ref (a 19), .int (nI t), .int (nI r)] I F (fun v I' F' => v = some (.int (bI (decide (t = 3) && decide (eT e9 = 41)))) ∧ I = I' ∧ F = F') := by
  refine mc_of (by decide) (Nat.le_of_ble_eq_true rfl) ?_
  intro p e s m below meth c ls A0 Q C0 hP hD hA hS hl hret
  obtain ⟨hx, hb, hml, hr, hlocks, hown, hts, hK⟩ := id C0
  have hl : lv_has ls 3 [(0, .ref (a 19)), (1, .int (nI t)), (2, .int (nI r))] := hl
  have hln := okE_len hO
  have hrl := (List.getElem?_eq_some_iff.mp hre).1
  obtain ⟨z1, z2, z3, z4, z5, z6, z7⟩ := hG.1 r e9 hre
  obtain ⟨y1, y2, y3⟩ := hO.2.2.2 e9 (List.mem_of_getElem? hre)
  refine lv_iload_n hx hb d_Ga_isNeverLeftOut_0 rfl (lv_at hl 1 rfl) ?_
  refine lv_iconst (v := 3) hx hb d_Ga_isNeverLeftOut_1 (by decide) ?_
  refine lv_topq (y := nI 3) (rfl) ?_
  refine lv_icmp_ne (tgt := 20) hx hb d_Ga_isNeverLeftOut_2 (by decide) (fun c1 => ?_) (fun c1 => ?_)
  · have c1 : ¬ (t = 3) := fun z9 => c1 ((nI_eq (a := t) (b := 3) (by omega) (by omega)).mpr z9)
    refine lv_iconst (v := 0) hx hb d_Ga_isNeverLeftOut_20 (by decide) ?_
    refine lv_topq (y := nI 0) (rfl) ?_
    exact hret _ _ _ _ _ _ _ hS hP hD d_Ga_isNeverLeftOut_21 (nr_z (Or.inl rfl)) (by have e8 : (decide (t = 3) && decide (eT e9 = 41)) = false := (by simp <;> omega); rw [e8]; exact ⟨rfl, rfl, rfl⟩)
  · have c1 : t = 3 := (nI_eq (a := t) (b := 3) (by omega) (by omega)).mp c1
    refine lv_aload_n hx hb d_Ga_isNeverLeftOut_5 rfl (lv_at hl 0 rfl) ?_
    refine va_get (D := D9) (ci := 2) (C := R_Ga) (T := F_Ga) (N := 11) hx hb hts i_Ga hown hK hP 19 ww_19 rfl 4 (by decide) (hts _ g_70) (fun _ h9 => h9) rfl d_Ga_isNeverLeftOut_6 ?_
    refine lv_iload_n hx hb d_Ga_isNeverLeftOut_9 rfl (lv_at hl 2 rfl) ?_
    refine va_iald (D := D9) hx hb hK hP 8 1 ww_8 rfl (vp_in_nI (by omega) (by decide)) d_Ga_isNeverLeftOut_10 ?_
    refine lv_topq (y := nI (eT e9)) (by rw [nI_clamp (by omega)]; exact z4) ?_
    refine lv_bipush (v := 41) hx hb d_Ga_isNeverLeftOut_11 (by decide) ?_
    refine lv_topq (y := nI 41) (rfl) ?_
    refine lv_icmp_ne (tgt := 20) hx hb d_Ga_isNeverLeftOut_13 (by decide) (fun c2 => ?_) (fun c2 => ?_)
    · have c2 : ¬ (eT e9 = 41) := fun z9 => c2 ((nI_eq (a := eT e9) (b := 41) (by omega) (by omega)).mpr z9)
      refine lv_iconst (v := 0) hx hb d_Ga_isNeverLeftOut_20 (by decide) ?_
      refine lv_topq (y := nI 0) (rfl) ?_
      exact hret _ _ _ _ _ _ _ hS hP hD d_Ga_isNeverLeftOut_21 (nr_z (Or.inl rfl)) (by have e8 : (decide (t = 3) && decide (eT e9 = 41)) = false := (by simp <;> omega); rw [e8]; exact ⟨rfl, rfl, rfl⟩)
    · have c2 : eT e9 = 41 := (nI_eq (a := eT e9) (b := 41) (by omega) (by omega)).mp c2
      refine lv_iconst (v := 1) hx hb d_Ga_isNeverLeftOut_16 (by decide) ?_
      refine lv_topq (y := nI 1) (rfl) ?_
      refine lv_goto (tgt := 21) hx hb d_Ga_isNeverLeftOut_17 (by decide) ?_
      exact hret _ _ _ _ _ _ _ hS hP hD d_Ga_isNeverLeftOut_21 (nr_z (Or.inr rfl)) (by have e8 : (decide (t = 3) && decide (eT e9 = 41)) = true := (by simp <;> omega); rw [e8]; exact ⟨rfl, rfl, rfl⟩)
set_option maxHeartbeats 4000000 in
set_option maxRecDepth 100000 in
/-- Gathered.lengthUnderRoot -/
theorem m_Ga_lengthUnderRoot (l : Launch) (D9 : va_G) (cB cI cJ cG : ClassId) (a : Nat → Nat) (O : Nat → Int64) (I : Nat → Int32) (F : Nat → Nat → Int32) (es : List En9) (r : Nat) (e9 : En9) (hre : es[r]? = some e9) (hG : GaR F es) (hO : okE es) : MC l D9 cB cI cJ cG a O y_Ga_lengthUnderRoot b_Ga_lengthUnderRoot 2 (some .int) 0 [.ref (a 19), .int (nI r)] I F (fun v I' F' => v = some (.int (nI (11 + (eD e9).length))) ∧ I = I' ∧ F = F') := by
  refine mc_of (by decide) (Nat.le_of_ble_eq_true rfl) ?_
  intro p e s m below meth c ls A0 Q C0 hP hD hA hS hl hret
  obtain ⟨hx, hb, hml, hr, hlocks, hown, hts, hK⟩ := id C0
  have hl : lv_has ls 2 [(0, .ref (a 19)), (1, .int (nI r))] := hl
  have hln := okE_len hO
  have hrl := (List.getElem?_eq_some_iff.mp hre).1
  obtain ⟨z1, z2, z3, z4, z5, z6, z7⟩ := hG.1 r e9 hre
  obtain ⟨y1, y2, y3⟩ := hO.2.2.2 e9 (List.mem_of_getElem? hre)
  refine lv_bipush (v := 11) hx hb d_Ga_lengthUnderRoot_0 (by decide) ?_
  refine lv_topq (y := nI 11) (rfl) ?_
  refine lv_aload_n hx hb d_Ga_lengthUnderRoot_2 rfl (lv_at hl 0 rfl) ?_
  refine va_get (D := D9) (ci := 2) (C := R_Ga) (T := F_Ga) (N := 11) hx hb hts i_Ga hown hK hP 19 ww_19 rfl 3 (by decide) (hts _ g_67) (fun _ h9 => h9) rfl d_Ga_lengthUnderRoot_3 ?_
  refine lv_iload_n hx hb d_Ga_lengthUnderRoot_6 rfl (lv_at hl 1 rfl) ?_
  refine va_iald (D := D9) hx hb hK hP 7 1 ww_7 rfl (vp_in_nI (by omega) (by decide)) d_Ga_lengthUnderRoot_7 ?_
  refine lv_topq (y := nI ((eD e9).length)) (by rw [nI_clamp (by omega)]; exact z3) ?_
  refine lv_iadd hx hb d_Ga_lengthUnderRoot_8 ?_
  refine lv_topq (y := nI (11 + ((eD e9).length))) (nI_add _ _) ?_
  exact hret _ _ _ _ _ _ _ hS hP hD d_Ga_lengthUnderRoot_9 nr_i (⟨rfl, rfl, rfl⟩)
set_option maxHeartbeats 4000000 in
set_option maxRecDepth 100000 in
/-- Gathered.bytesNeverLeftOut -/
theorem m_Ga_bytesNeverLeftOut (l : Launch) (D9 : va_G) (cB cI cJ cG : ClassId) (a : Nat → Nat) (O : Nat → Int64) (I : Nat → Int32) (F : Nat → Nat → Int32) (es : List En9) (hG : GaR F es) (hO : okE es) : MC l D9 cB cI cJ cG a O y_Ga_bytesNeverLeftOut b_Ga_bytesNeverLeftOut 4 (some .int) 1 [.ref (a 19)] I F (fun v I' F' => v = some (.int (nI (mu3 (fil 3 es)))) ∧ I = I' ∧ F = F') := by
  refine mc_of (by decide) (Nat.le_of_ble_eq_true rfl) ?_
  intro p e s m below meth c ls A0 Q C0 hP hD hA hS hl hret
  obtain ⟨hx, hb, hml, hr, hlocks, hown, hts, hK⟩ := id C0
  have hl : lv_has ls 4 [(0, .ref (a 19))] := hl
  have k0 := hO.1; have k1 := hO.2.1; have k2 := hO.2.2.1
  refine lv_iconst (v := 0) hx hb d_Ga_bytesNeverLeftOut_0 (by decide) ?_
  refine lv_topq (y := nI 0) (rfl) ?_
  refine lv_istore_n (lv' := [(1, _), (0, _)]) hx hb d_Ga_bytesNeverLeftOut_1 rfl hl (by decide) rfl (fun ls hl => ?_)
  refine lv_iconst (v := 0) hx hb d_Ga_bytesNeverLeftOut_2 (by decide) ?_
  refine lv_topq (y := nI 0) (rfl) ?_
  refine lv_istore_n (lv' := [(2, _), (1, _), (0, _)]) hx hb d_Ga_bytesNeverLeftOut_3 rfl hl (by decide) rfl (fun ls hl => ?_)
  have loop1 : ∀ (n9 : Nat) (k : Nat) (I9 : Nat → Int32) (F9 : Nat → Nat → Int32) (H : Heap) (locs : List Loc) (ls : Array Slot), (I = I9) → (F = F9) → (cn 3 es - k = n9) → (k ≤ cn 3 es) → va_P D9 cls9 (WW a cB cI cJ cG I9 F9 O) H → va_D A0 (WW a cB cI cJ cG I9 F9 O) → va_S A0 s.heap H locs → lv_has ls 4 [(0, .ref (a 19)), (1, .int (nI (mu3 ((fil 3 es).take k)))), (2, .int (nI k))] → W p l e (rm9 1 0 0) s m ([.ref (a 19)] : List Value).toArray below meth c H locs 0 0 Q (F0 m 4 ls []) := by
    intro n9
    induction n9 using Nat.strongRecOn with
    | ind n9 ih =>
      intro k I9 F9 H locs ls hsI hsF hn9 hk hP hD hS hl
      subst hsI
      subst hsF
      refine lv_iload_n hx hb d_Ga_bytesNeverLeftOut_4 rfl (lv_at hl 2 rfl) ?_
      refine lv_aload_n hx hb d_Ga_bytesNeverLeftOut_5 rfl (lv_at hl 0 rfl) ?_
      refine va_get (D := D9) (ci := 2) (C := R_Ga) (T := F_Ga) (N := 11) hx hb hts i_Ga hown hK hP 19 ww_19 rfl 8 (by decide) (hts _ g_81) (fun _ h9 => h9) rfl d_Ga_bytesNeverLeftOut_6 ?_
      refine lv_iconst (v := 3) hx hb d_Ga_bytesNeverLeftOut_9 (by decide) ?_
      refine lv_topq (y := nI 3) (rfl) ?_
      refine va_iald (D := D9) hx hb hK hP 16 1 ww_16 rfl (vp_in_nI (by omega) (by decide)) d_Ga_bytesNeverLeftOut_10 ?_
      refine lv_topq (y := nI (cn 3 es)) (by rw [nI_clamp (by omega)]; exact (hG.2.1 3 (by omega))) ?_
      refine lv_icmp_ge (tgt := 46) hx hb d_Ga_bytesNeverLeftOut_11 (by decide) (fun c1 => ?_) (fun c1 => ?_)
      · have c1 : cn 3 es ≤ k := (nI_leI (a := cn 3 es) (b := k) (by omega) (by omega)).mp c1
        refine lv_iload_n hx hb d_Ga_bytesNeverLeftOut_46 rfl (lv_at hl 1 rfl) ?_
        exact hret _ _ _ _ _ _ _ hS hP hD d_Ga_bytesNeverLeftOut_47 nr_i (⟨by rw [List.take_of_length_le (by rw [fil_len]; omega)], rfl, rfl⟩)
      · have c1 : ¬ (cn 3 es ≤ k) := fun z9 => c1 ((nI_leI (a := cn 3 es) (b := k) (by omega) (by omega)).mpr z9)
        obtain ⟨r9, e9, g1, g2, g3, g4, g5, g6⟩ := GaR_row hG (show k < cn 3 es by omega)
        have hmx := mu3_next g4
        refine lv_aload_n hx hb d_Ga_bytesNeverLeftOut_14 rfl (lv_at hl 0 rfl) ?_
        refine va_get (D := D9) (ci := 2) (C := R_Ga) (T := F_Ga) (N := 11) hx hb hts i_Ga hown hK hP 19 ww_19 rfl 7 (by decide) (hts _ g_79) (fun _ h9 => h9) rfl d_Ga_bytesNeverLeftOut_15 ?_
        refine lv_iconst (v := 3) hx hb d_Ga_bytesNeverLeftOut_18 (by decide) ?_
        refine lv_topq (y := nI 3) (rfl) ?_
        refine va_aldG (D := D9) hx hb hK hP 11 3 ww_11 rfl (vp_in_nI (by omega) (by decide)) d_Ga_bytesNeverLeftOut_19 ?_
        rw [nI_clamp (by omega), va_rf4 (show 3 < 4 by decide)]
        refine lv_iload_n hx hb d_Ga_bytesNeverLeftOut_20 rfl (lv_at hl 2 rfl) ?_
        refine va_iald (D := D9) hx hb hK hP (12 + 3) 1 (ww_row (show 3 < 4 by decide)) rfl (vp_in_nI (by omega) (by decide)) d_Ga_bytesNeverLeftOut_21 ?_
        refine lv_topq (y := nI r9) (by rw [nI_clamp (by omega)]; exact g5) ?_
        refine lv_istore_n (lv' := [(3, _), (0, _), (1, _), (2, _)]) hx hb d_Ga_bytesNeverLeftOut_22 rfl hl (by decide) rfl (fun ls hl => ?_)
        refine lv_aload_n hx hb d_Ga_bytesNeverLeftOut_23 rfl (lv_at hl 1 rfl) ?_
        refine lv_iconst (v := 3) hx hb d_Ga_bytesNeverLeftOut_24 (by decide) ?_
        refine lv_topq (y := nI 3) (rfl) ?_
        refine lv_iload_n hx hb d_Ga_bytesNeverLeftOut_25 rfl (lv_at hl 0 rfl) ?_
        refine mw_cV (ci := 2) (k := 19) C0 (m_Ga_isNeverLeftOut l D9 cB cI cJ cG a O _ _ es r9 e9 g2 hG hO 3 (by decide)) g_539 g_3 g_536 g_538 gs_Ga_isNeverLeftOut ⟨by decide +kernel, by decide +kernel, show Option.map (fun d => d.parameters.length) (parseMethodDescriptor y_Ga_isNeverLeftOut.desc) = some 2 by decide +kernel⟩ ⟨by decide, by decide⟩ rfl rfl hP hD hS hA rfl ww_19 hl.1 (Nat.le_of_ble_eq_true rfl) rfl d_Ga_bytesNeverLeftOut_26 ⟨by decide, by decide⟩ (fun v9 w9 H locs hq hP hD hS => ?_)
        obtain ⟨I2, F3, hw9, q4⟩ := hq
        subst hw9
        obtain ⟨rfl, rfl, rfl⟩ := q4
        refine lv_if_eq (tgt := 40) hx hb d_Ga_bytesNeverLeftOut_29 (by decide) (fun c5 => ?_) (fun c5 => ?_)
        · have c5 : (decide (3 = 3) && decide (eT e9 = 41)) = false := bI_f c5
          simp at c5
          rw [if_neg c5] at hmx
          have hmy : mu3 ((fil 3 es).take k) = mu3 ((fil 3 es).take (k + 1)) := by omega
          rw [hmy] at hl
          refine lv_iinc (lv' := [(2, .int (nI (k + 1))), (3, _), (0, _), (1, _)]) hx hb d_Ga_bytesNeverLeftOut_40 hl (k := 3) rfl (nI_add _ 1) (by decide) rfl (fun ls hl => ?_)
          refine lv_goto (tgt := 4) hx hb d_Ga_bytesNeverLeftOut_43 (by decide) ?_
          exact ih _ (by omega) (k + 1) _ _ _ _ _ rfl rfl rfl (by omega) hP hD hS (lv_pk hl [2, 3, 0] rfl)
        · have c5 : (decide (3 = 3) && decide (eT e9 = 41)) = true := bI_t c5
          simp at c5
          rw [if_pos c5] at hmx
          refine lv_iload_n hx hb d_Ga_bytesNeverLeftOut_32 rfl (lv_at hl 2 rfl) ?_
          refine lv_aload_n hx hb d_Ga_bytesNeverLeftOut_33 rfl (lv_at hl 1 rfl) ?_
          refine lv_iload_n hx hb d_Ga_bytesNeverLeftOut_34 rfl (lv_at hl 0 rfl) ?_
          refine mw_cV (ci := 2) (k := 19) C0 (m_Ga_lengthUnderRoot l D9 cB cI cJ cG a O _ _ es r9 e9 g2 hG hO) g_543 g_3 g_540 g_542 gs_Ga_lengthUnderRoot ⟨by decide +kernel, by decide +kernel, show Option.map (fun d => d.parameters.length) (parseMethodDescriptor y_Ga_lengthUnderRoot.desc) = some 1 by decide +kernel⟩ ⟨by decide, by decide⟩ rfl rfl hP hD hS hA rfl ww_19 hl.1 (Nat.le_of_ble_eq_true rfl) rfl d_Ga_bytesNeverLeftOut_35 ⟨by decide, by decide⟩ (fun v9 w9 H locs hq hP hD hS => ?_)
          obtain ⟨I6, F7, hw9, q8⟩ := hq
          subst hw9
          obtain ⟨rfl, rfl, rfl⟩ := q8
          refine lv_iadd hx hb d_Ga_bytesNeverLeftOut_38 ?_
          refine lv_topq (y := nI (mu3 ((fil 3 es).take k) + (11 + (eD e9).length))) (nI_add _ _) ?_
          refine lv_istore_n (lv' := [(1, _), (3, _), (0, _), (2, _)]) hx hb d_Ga_bytesNeverLeftOut_39 rfl hl (by decide) rfl (fun ls hl => ?_)
          have hmy : mu3 ((fil 3 es).take k) + (11 + (eD e9).length) = mu3 ((fil 3 es).take (k + 1)) := by omega
          rw [hmy] at hl
          refine lv_iinc (lv' := [(2, .int (nI (k + 1))), (1, _), (3, _), (0, _)]) hx hb d_Ga_bytesNeverLeftOut_40 hl (k := 3) rfl (nI_add _ 1) (by decide) rfl (fun ls hl => ?_)
          refine lv_goto (tgt := 4) hx hb d_Ga_bytesNeverLeftOut_43 (by decide) ?_
          exact ih _ (by omega) (k + 1) _ _ _ _ _ rfl rfl rfl (by omega) hP hD hS (lv_pk hl [3, 1, 0] rfl)
  exact loop1 _ 0 _ _ _ _ _ rfl rfl rfl (Nat.zero_le _) hP hD hS (lv_pk hl [2, 1, 0] rfl)
