/-! DATA ON THE TAPE -/
def se : Nat → List Nat → Nat → Nat → Bool
  | 0, _, _, _ => false
  | f + 1, t, at9, to => if at9 < to then se f t (at9 + (1 + tb t at9)) to else decide (at9 = to)
def strs (t : List Nat) (fr to : Nat) : Bool := decide (fr < to) && se (to - fr + 1) t fr to
def fxo (ty n : Nat) : Bool := if ty = 1 then decide (n = 4) else if ty = 28 then decide (n = 16) else true
def asT (t : List Nat) (ty fr to ol : Nat) : Bool := if ty = 16 then strs t fr to else if ty = 41 then decide (ol = 1) else fxo ty (to - fr)
def rdF (t : List Nat) (ty to : Nat) (l : List Nat) (e c : Nat) : Option (List Nat × Nat) := if (0 < c ∧ k_sh ty = false) ∨ e + k_bh ty ≠ to then none else some (l ++ sl9 t e (k_bh ty), c)
def rdN (t : List Nat) (ty fr to : Nat) : Option (List Nat × Nat) :=
  if to < fr + k_bf ty then none else
  match rn 16639 t to (fr + k_bf ty) (fr + k_bf ty) 0 none with
  | none => none
  | some (n1, e1, c1) => if k_nm ty = 1 then rdF t ty to (sl9 t fr (k_bf ty) ++ n1) e1 c1 else
    match rn 16639 t to e1 e1 0 none with
    | none => none
    | some (n2, e2, c2) => rdF t ty to (sl9 t fr (k_bf ty) ++ n1 ++ n2) e2 (c1 + c2)
def rdD (t : List Nat) (ty fr to ol : Nat) : Option (List Nat × Nat) := if 0 < k_nm ty then rdN t ty fr to else if asT t ty fr to ol = true then some (sl9 t fr (to - fr), 0) else none
theorem k_bf_le (ty : Nat) : k_bf ty ≤ 6 := by unfold k_bf; split; omega; split <;> omega
theorem k_bh_le (ty : Nat) : k_bh ty ≤ 20 := by unfold k_bh; split <;> omega
theorem k_nm_12 {ty : Nat} (h : 0 < k_nm ty) : k_nm ty = 1 ∨ k_nm ty = 2 := by
  unfold k_nm at h ⊢
  split
  · exact Or.inl rfl
  · split
    · exact Or.inr rfl
    · rename_i h1 h2; rw [if_neg h1, if_neg h2] at h; omega
theorem rdN_short {t : List Nat} {ty fr to : Nat} (h : to < fr + k_bf ty) : rdN t ty fr to = none := by unfold rdN; rw [if_pos h]
theorem rdN_n1 {t : List Nat} {ty fr to : Nat} (h : ¬ to < fr + k_bf ty) (h1 : rn 16639 t to (fr + k_bf ty) (fr + k_bf ty) 0 none = none) : rdN t ty fr to = none := by unfold rdN; rw [if_neg h, h1]
theorem rdN_1 {t : List Nat} {ty fr to : Nat} {n1 : List Nat} {e1 c1 : Nat} (h : ¬ to < fr + k_bf ty) (h1 : rn 16639 t to (fr + k_bf ty) (fr + k_bf ty) 0 none = some (n1, e1, c1)) (hk : k_nm ty = 1) : rdN t ty fr to = rdF t ty to (sl9 t fr (k_bf ty) ++ n1) e1 c1 := by unfold rdN; rw [if_neg h, h1]; simp only; rw [if_pos hk]
theorem rdN_n2 {t : List Nat} {ty fr to : Nat} {n1 : List Nat} {e1 c1 : Nat} (h : ¬ to < fr + k_bf ty) (h1 : rn 16639 t to (fr + k_bf ty) (fr + k_bf ty) 0 none = some (n1, e1, c1)) (hk : k_nm ty = 2) (h2 : rn 16639 t to e1 e1 0 none = none) : rdN t ty fr to = none := by unfold rdN; rw [if_neg h, h1]; simp only; rw [if_neg (by omega), h2]
theorem rdN_2 {t : List Nat} {ty fr to : Nat} {n1 n2 : List Nat} {e1 c1 e2 c2 : Nat} (h : ¬ to < fr + k_bf ty) (h1 : rn 16639 t to (fr + k_bf ty) (fr + k_bf ty) 0 none = some (n1, e1, c1)) (hk : k_nm ty = 2) (h2 : rn 16639 t to e1 e1 0 none = some (n2, e2, c2)) : rdN t ty fr to = rdF t ty to (sl9 t fr (k_bf ty) ++ n1 ++ n2) e2 (c1 + c2) := by unfold rdN; rw [if_neg h, h1]; simp only; rw [if_neg (by omega), h2]
theorem rdF_bd {t : List Nat} {ty to : Nat} {l d : List Nat} {e c c' : Nat} (h : rdF t ty to l e c = some (d, c')) : d.length ≤ l.length + 20 := by
  unfold rdF at h
  split at h
  · cases h
  · simp only [Option.some.injEq, Prod.mk.injEq] at h
    rw [← h.1, List.length_append]
    have h1 : (sl9 t e (k_bh ty)).length ≤ k_bh ty := by unfold sl9; rw [List.length_take]; omega
    have := k_bh_le ty
    omega
theorem sl9_le (t : List Nat) (p k : Nat) : (sl9 t p k).length ≤ k := by unfold sl9; rw [List.length_take]; omega
theorem rdN_bd {t : List Nat} {ty fr to : Nat} {d : List Nat} {c : Nat} (h : rdN t ty fr to = some (d, c)) : d.length ≤ 600 := by
  have kb := k_bf_le ty
  have s1 := sl9_le t fr (k_bf ty)
  unfold rdN at h
  split at h
  · cases h
  · split at h
    · cases h
    · rename_i n1 e1 c1 h1
      have b1 := rn_bd h1 (by decide)
      split at h
      · have := rdF_bd h
        rw [List.length_append] at this
        omega
      · split at h
        · cases h
        · rename_i n2 e2 c2 h2
          have b2 := rn_bd h2 (by decide)
          have := rdF_bd h
          rw [List.length_append, List.length_append] at this
          omega
theorem rdD_bd {t : List Nat} {ty fr to ol : Nat} {d : List Nat} {c : Nat} (h : rdD t ty fr to ol = some (d, c)) : d.length ≤ 600 + (to - fr) := by
  unfold rdD at h
  split at h
  · have := rdN_bd h; omega
  · split at h
    · simp only [Option.some.injEq, Prod.mk.injEq] at h
      rw [← h.1]
      have := sl9_le t fr (to - fr)
      omega
    · cases h
theorem g_128 : (Cond.fieldLink "WireMessages$Reader" (65 : Nat) "WireMessages$Reader" "ownerLength" "I") ∈ GT := gt_mem 128 (by decide +kernel) rfl
theorem g_276 : (Cond.methodLink "WireMessages$Reader" (82 : Nat) ({ cls := "WireMessages$Reader", name := "takeName", desc := "(II)Z" } : MethodName)) ∈ GT := gt_mem 276 (by decide +kernel) rfl
theorem g_278 : (Cond.instanceMethod ({ cls := "WireMessages$Reader", name := "takeName", desc := "(II)Z" } : MethodName)) ∈ GT := gt_mem 278 (by decide +kernel) rfl
theorem g_279 : (Cond.code ({ cls := "WireMessages$Reader", name := "takeName", desc := "(II)Z" } : MethodName) prog_7_method_10_code (11 : Nat) (Option.some FieldType.boolean)) ∈ GT := gt_mem 279 (by decide +kernel) rfl
theorem g_328 : (Cond.methodLinkNest "WireMessages$Reader" (107 : Nat) ({ cls := "WireMessages$Kinds", name := "namesIn", desc := "(I)I" } : MethodName) "WireMessages") ∈ GT := gt_mem 328 (by decide +kernel) rfl
theorem g_331 : (Cond.methodLink "WireMessages$Reader" (112 : Nat) ({ cls := "WireMessages$Reader", name := "takeDataWithNames", desc := "(III)Z" } : MethodName)) ∈ GT := gt_mem 331 (by decide +kernel) rfl
theorem g_333 : (Cond.instanceMethod ({ cls := "WireMessages$Reader", name := "takeDataWithNames", desc := "(III)Z" } : MethodName)) ∈ GT := gt_mem 333 (by decide +kernel) rfl
theorem g_334 : (Cond.code ({ cls := "WireMessages$Reader", name := "takeDataWithNames", desc := "(III)Z" } : MethodName) prog_7_method_16_code (9 : Nat) (Option.some FieldType.boolean)) ∈ GT := gt_mem 334 (by decide +kernel) rfl
theorem g_335 : (Cond.methodLinkNest "WireMessages$Reader" (124 : Nat) ({ cls := "WireMessages$Kinds", name := "bytesBeforeNames", desc := "(I)I" } : MethodName) "WireMessages") ∈ GT := gt_mem 335 (by decide +kernel) rfl
theorem g_336 : (Cond.static ({ cls := "WireMessages$Kinds", name := "bytesBeforeNames", desc := "(I)I" } : MethodName)) ∈ GT := gt_mem 336 (by decide +kernel) rfl
theorem g_337 : (Cond.code ({ cls := "WireMessages$Kinds", name := "bytesBeforeNames", desc := "(I)I" } : MethodName) prog_5_method_4_code (1 : Nat) (Option.some FieldType.int)) ∈ GT := gt_mem 337 (by decide +kernel) rfl
theorem g_338 : (Cond.methodLinkNest "WireMessages$Reader" (127 : Nat) ({ cls := "WireMessages$Kinds", name := "bytesBehindNames", desc := "(I)I" } : MethodName) "WireMessages") ∈ GT := gt_mem 338 (by decide +kernel) rfl
theorem g_339 : (Cond.static ({ cls := "WireMessages$Kinds", name := "bytesBehindNames", desc := "(I)I" } : MethodName)) ∈ GT := gt_mem 339 (by decide +kernel) rfl
theorem g_340 : (Cond.code ({ cls := "WireMessages$Kinds", name := "bytesBehindNames", desc := "(I)I" } : MethodName) prog_5_method_5_code (1 : Nat) (Option.some FieldType.int)) ∈ GT := gt_mem 340 (by decide +kernel) rfl
theorem g_341 : (Cond.methodLinkNest "WireMessages$Reader" (130 : Nat) ({ cls := "WireMessages$Kinds", name := "sharesNames", desc := "(I)Z" } : MethodName) "WireMessages") ∈ GT := gt_mem 341 (by decide +kernel) rfl
theorem g_342 : (Cond.static ({ cls := "WireMessages$Kinds", name := "sharesNames", desc := "(I)Z" } : MethodName)) ∈ GT := gt_mem 342 (by decide +kernel) rfl
theorem g_343 : (Cond.code ({ cls := "WireMessages$Kinds", name := "sharesNames", desc := "(I)Z" } : MethodName) prog_5_method_6_code (1 : Nat) (Option.some FieldType.boolean)) ∈ GT := gt_mem 343 (by decide +kernel) rfl
theorem g_345 : (Cond.methodLink "WireMessages$Reader" (115 : Nat) ({ cls := "WireMessages$Reader", name := "isAsItsType", desc := "(III)Z" } : MethodName)) ∈ GT := gt_mem 345 (by decide +kernel) rfl
theorem g_347 : (Cond.instanceMethod ({ cls := "WireMessages$Reader", name := "isAsItsType", desc := "(III)Z" } : MethodName)) ∈ GT := gt_mem 347 (by decide +kernel) rfl
theorem g_348 : (Cond.code ({ cls := "WireMessages$Reader", name := "isAsItsType", desc := "(III)Z" } : MethodName) prog_7_method_14_code (5 : Nat) (Option.some FieldType.boolean)) ∈ GT := gt_mem 348 (by decide +kernel) rfl
theorem g_349 : (Cond.methodLink "WireMessages$Reader" (118 : Nat) ({ cls := "WireMessages$Reader", name := "areStrings", desc := "(II)Z" } : MethodName)) ∈ GT := gt_mem 349 (by decide +kernel) rfl
theorem g_351 : (Cond.instanceMethod ({ cls := "WireMessages$Reader", name := "areStrings", desc := "(II)Z" } : MethodName)) ∈ GT := gt_mem 351 (by decide +kernel) rfl
theorem g_352 : (Cond.code ({ cls := "WireMessages$Reader", name := "areStrings", desc := "(II)Z" } : MethodName) prog_7_method_15_code (4 : Nat) (Option.some FieldType.boolean)) ∈ GT := gt_mem 352 (by decide +kernel) rfl
theorem g_353 : (Cond.methodLinkNest "WireMessages$Reader" (121 : Nat) ({ cls := "WireMessages$Kinds", name := "fixedSize", desc := "(I)I" } : MethodName) "WireMessages") ∈ GT := gt_mem 353 (by decide +kernel) rfl
theorem g_354 : (Cond.static ({ cls := "WireMessages$Kinds", name := "fixedSize", desc := "(I)I" } : MethodName)) ∈ GT := gt_mem 354 (by decide +kernel) rfl
theorem g_355 : (Cond.code ({ cls := "WireMessages$Kinds", name := "fixedSize", desc := "(I)I" } : MethodName) prog_5_method_2_code (1 : Nat) (Option.some FieldType.int)) ∈ GT := gt_mem 355 (by decide +kernel) rfl
theorem gs_Re_takeName : Cond.selects R_Re y_Re_takeName y_Re_takeName ∈ GT := gt_sel (q := (⟨"WireMessages$Reader", "takeName", "(II)Z"⟩, 8)) (by decide +kernel)
theorem gs_Re_areStrings : Cond.selects R_Re y_Re_areStrings y_Re_areStrings ∈ GT := gt_sel (q := (⟨"WireMessages$Reader", "areStrings", "(II)Z"⟩, 8)) (by decide +kernel)
theorem gs_Re_isAsItsType : Cond.selects R_Re y_Re_isAsItsType y_Re_isAsItsType ∈ GT := gt_sel (q := (⟨"WireMessages$Reader", "isAsItsType", "(III)Z"⟩, 8)) (by decide +kernel)
theorem gs_Re_takeDataWithNames : Cond.selects R_Re y_Re_takeDataWithNames y_Re_takeDataWithNames ∈ GT := gt_sel (q := (⟨"WireMessages$Reader", "takeDataWithNames", "(III)Z"⟩, 8)) (by decide +kernel)
theorem d_Re_areStrings_0 : decode b_Re_areStrings 0 = .ok (.iload_n 1, 1) := by decide +kernel
theorem d_Re_areStrings_1 : decode b_Re_areStrings 1 = .ok (.istore_n 3, 1) := by decide +kernel
theorem d_Re_areStrings_2 : decode b_Re_areStrings 2 = .ok (.iload_n 3, 1) := by decide +kernel
theorem d_Re_areStrings_3 : decode b_Re_areStrings 3 = .ok (.iload_n 2, 1) := by decide +kernel
theorem d_Re_areStrings_4 : decode b_Re_areStrings 4 = .ok (.if_icmp .ge 19, 3) := by decide +kernel
theorem d_Re_areStrings_7 : decode b_Re_areStrings 7 = .ok (.iload_n 3, 1) := by decide +kernel
theorem d_Re_areStrings_8 : decode b_Re_areStrings 8 = .ok (.iconst 1, 1) := by decide +kernel
theorem d_Re_areStrings_9 : decode b_Re_areStrings 9 = .ok (.aload_n 0, 1) := by decide +kernel
theorem d_Re_areStrings_10 : decode b_Re_areStrings 10 = .ok (.getfield 9, 3) := by decide +kernel
theorem d_Re_areStrings_13 : decode b_Re_areStrings 13 = .ok (.iload_n 3, 1) := by decide +kernel
theorem d_Re_areStrings_14 : decode b_Re_areStrings 14 = .ok (.invokevirtual 85, 3) := by decide +kernel
theorem d_Re_areStrings_17 : decode b_Re_areStrings 17 = .ok (.iadd, 1) := by decide +kernel
theorem d_Re_areStrings_18 : decode b_Re_areStrings 18 = .ok (.iadd, 1) := by decide +kernel
theorem d_Re_areStrings_19 : decode b_Re_areStrings 19 = .ok (.istore_n 3, 1) := by decide +kernel
theorem d_Re_areStrings_20 : decode b_Re_areStrings 20 = .ok (.goto (-18), 3) := by decide +kernel
theorem d_Re_areStrings_23 : decode b_Re_areStrings 23 = .ok (.iload_n 1, 1) := by decide +kernel
theorem d_Re_areStrings_24 : decode b_Re_areStrings 24 = .ok (.iload_n 2, 1) := by decide +kernel
theorem d_Re_areStrings_25 : decode b_Re_areStrings 25 = .ok (.if_icmp .ge 12, 3) := by decide +kernel
theorem d_Re_areStrings_28 : decode b_Re_areStrings 28 = .ok (.iload_n 3, 1) := by decide +kernel
theorem d_Re_areStrings_29 : decode b_Re_areStrings 29 = .ok (.iload_n 2, 1) := by decide +kernel
theorem d_Re_areStrings_30 : decode b_Re_areStrings 30 = .ok (.if_icmp .ne 7, 3) := by decide +kernel
theorem d_Re_areStrings_33 : decode b_Re_areStrings 33 = .ok (.iconst 1, 1) := by decide +kernel
theorem d_Re_areStrings_34 : decode b_Re_areStrings 34 = .ok (.goto 4, 3) := by decide +kernel
theorem d_Re_areStrings_37 : decode b_Re_areStrings 37 = .ok (.iconst 0, 1) := by decide +kernel
theorem d_Re_areStrings_38 : decode b_Re_areStrings 38 = .ok (.ireturn, 1) := by decide +kernel
theorem d_Re_isAsItsType_0 : decode b_Re_isAsItsType 0 = .ok (.iload_n 1, 1) := by decide +kernel
theorem d_Re_isAsItsType_1 : decode b_Re_isAsItsType 1 = .ok (.bipush 16, 2) := by decide +kernel
theorem d_Re_isAsItsType_3 : decode b_Re_isAsItsType 3 = .ok (.if_icmp .ne 10, 3) := by decide +kernel
theorem d_Re_isAsItsType_6 : decode b_Re_isAsItsType 6 = .ok (.aload_n 0, 1) := by decide +kernel
theorem d_Re_isAsItsType_7 : decode b_Re_isAsItsType 7 = .ok (.iload_n 2, 1) := by decide +kernel
theorem d_Re_isAsItsType_8 : decode b_Re_isAsItsType 8 = .ok (.iload_n 3, 1) := by decide +kernel
theorem d_Re_isAsItsType_9 : decode b_Re_isAsItsType 9 = .ok (.invokevirtual 118, 3) := by decide +kernel
theorem d_Re_isAsItsType_12 : decode b_Re_isAsItsType 12 = .ok (.ireturn, 1) := by decide +kernel
theorem d_Re_isAsItsType_13 : decode b_Re_isAsItsType 13 = .ok (.iload_n 1, 1) := by decide +kernel
theorem d_Re_isAsItsType_14 : decode b_Re_isAsItsType 14 = .ok (.bipush 41, 2) := by decide +kernel
theorem d_Re_isAsItsType_16 : decode b_Re_isAsItsType 16 = .ok (.if_icmp .ne 17, 3) := by decide +kernel
theorem d_Re_isAsItsType_19 : decode b_Re_isAsItsType 19 = .ok (.aload_n 0, 1) := by decide +kernel
theorem d_Re_isAsItsType_20 : decode b_Re_isAsItsType 20 = .ok (.getfield 65, 3) := by decide +kernel
theorem d_Re_isAsItsType_23 : decode b_Re_isAsItsType 23 = .ok (.iconst 1, 1) := by decide +kernel
theorem d_Re_isAsItsType_24 : decode b_Re_isAsItsType 24 = .ok (.if_icmp .ne 7, 3) := by decide +kernel
theorem d_Re_isAsItsType_27 : decode b_Re_isAsItsType 27 = .ok (.iconst 1, 1) := by decide +kernel
theorem d_Re_isAsItsType_28 : decode b_Re_isAsItsType 28 = .ok (.goto 4, 3) := by decide +kernel
theorem d_Re_isAsItsType_31 : decode b_Re_isAsItsType 31 = .ok (.iconst 0, 1) := by decide +kernel
theorem d_Re_isAsItsType_32 : decode b_Re_isAsItsType 32 = .ok (.ireturn, 1) := by decide +kernel
theorem d_Re_isAsItsType_33 : decode b_Re_isAsItsType 33 = .ok (.iload_n 1, 1) := by decide +kernel
theorem d_Re_isAsItsType_34 : decode b_Re_isAsItsType 34 = .ok (.invokestatic 121, 3) := by decide +kernel
theorem d_Re_isAsItsType_37 : decode b_Re_isAsItsType 37 = .ok (.istore 4, 2) := by decide +kernel
theorem d_Re_isAsItsType_39 : decode b_Re_isAsItsType 39 = .ok (.iload 4, 2) := by decide +kernel
theorem d_Re_isAsItsType_41 : decode b_Re_isAsItsType 41 = .ok (.ifCond .lt 11, 3) := by decide +kernel
theorem d_Re_isAsItsType_44 : decode b_Re_isAsItsType 44 = .ok (.iload 4, 2) := by decide +kernel
theorem d_Re_isAsItsType_46 : decode b_Re_isAsItsType 46 = .ok (.iload_n 3, 1) := by decide +kernel
theorem d_Re_isAsItsType_47 : decode b_Re_isAsItsType 47 = .ok (.iload_n 2, 1) := by decide +kernel
theorem d_Re_isAsItsType_48 : decode b_Re_isAsItsType 48 = .ok (.isub, 1) := by decide +kernel
theorem d_Re_isAsItsType_49 : decode b_Re_isAsItsType 49 = .ok (.if_icmp .ne 7, 3) := by decide +kernel
theorem d_Re_isAsItsType_52 : decode b_Re_isAsItsType 52 = .ok (.iconst 1, 1) := by decide +kernel
theorem d_Re_isAsItsType_53 : decode b_Re_isAsItsType 53 = .ok (.goto 4, 3) := by decide +kernel
theorem d_Re_isAsItsType_56 : decode b_Re_isAsItsType 56 = .ok (.iconst 0, 1) := by decide +kernel
theorem d_Re_isAsItsType_57 : decode b_Re_isAsItsType 57 = .ok (.ireturn, 1) := by decide +kernel
theorem d_Re_takeBackTo_0 : decode b_Re_takeBackTo 0 = .ok (.aload_n 0, 1) := by decide +kernel
theorem d_Re_takeBackTo_1 : decode b_Re_takeBackTo 1 = .ok (.getfield 15, 3) := by decide +kernel
theorem d_Re_takeBackTo_4 : decode b_Re_takeBackTo 4 = .ok (.getfield 59, 3) := by decide +kernel
theorem d_Re_takeBackTo_7 : decode b_Re_takeBackTo 7 = .ok (.iload_n 1, 1) := by decide +kernel
theorem d_Re_takeBackTo_8 : decode b_Re_takeBackTo 8 = .ok (.putfield 44, 3) := by decide +kernel
theorem d_Re_takeBackTo_11 : decode b_Re_takeBackTo 11 = .ok (.iconst 0, 1) := by decide +kernel
theorem d_Re_takeBackTo_12 : decode b_Re_takeBackTo 12 = .ok (.ireturn, 1) := by decide +kernel
theorem d_Re_takeData_0 : decode b_Re_takeData 0 = .ok (.aload_n 0, 1) := by decide +kernel
theorem d_Re_takeData_1 : decode b_Re_takeData 1 = .ok (.iload_n 2, 1) := by decide +kernel
theorem d_Re_takeData_2 : decode b_Re_takeData 2 = .ok (.putfield 92, 3) := by decide +kernel
theorem d_Re_takeData_5 : decode b_Re_takeData 5 = .ok (.iload_n 1, 1) := by decide +kernel
theorem d_Re_takeData_6 : decode b_Re_takeData 6 = .ok (.invokestatic 107, 3) := by decide +kernel
theorem d_Re_takeData_9 : decode b_Re_takeData 9 = .ok (.ifCond .le 11, 3) := by decide +kernel
theorem d_Re_takeData_12 : decode b_Re_takeData 12 = .ok (.aload_n 0, 1) := by decide +kernel
theorem d_Re_takeData_13 : decode b_Re_takeData 13 = .ok (.iload_n 1, 1) := by decide +kernel
theorem d_Re_takeData_14 : decode b_Re_takeData 14 = .ok (.iload_n 2, 1) := by decide +kernel
theorem d_Re_takeData_15 : decode b_Re_takeData 15 = .ok (.iload_n 3, 1) := by decide +kernel
theorem d_Re_takeData_16 : decode b_Re_takeData 16 = .ok (.invokevirtual 112, 3) := by decide +kernel
theorem d_Re_takeData_19 : decode b_Re_takeData 19 = .ok (.ireturn, 1) := by decide +kernel
theorem d_Re_takeData_20 : decode b_Re_takeData 20 = .ok (.aload_n 0, 1) := by decide +kernel
theorem d_Re_takeData_21 : decode b_Re_takeData 21 = .ok (.iload_n 1, 1) := by decide +kernel
theorem d_Re_takeData_22 : decode b_Re_takeData 22 = .ok (.iload_n 2, 1) := by decide +kernel
theorem d_Re_takeData_23 : decode b_Re_takeData 23 = .ok (.iload_n 3, 1) := by decide +kernel
theorem d_Re_takeData_24 : decode b_Re_takeData 24 = .ok (.invokevirtual 115, 3) := by decide +kernel
theorem d_Re_takeData_27 : decode b_Re_takeData 27 = .ok (.ifCond .ne 10, 3) := by decide +kernel
theorem d_Re_takeData_30 : decode b_Re_takeData 30 = .ok (.aload_n 0, 1) := by decide +kernel
theorem d_Re_takeData_31 : decode b_Re_takeData 31 = .ok (.iconst 5, 1) := by decide +kernel
theorem d_Re_takeData_32 : decode b_Re_takeData 32 = .ok (.iload_n 2, 1) := by decide +kernel
theorem d_Re_takeData_33 : decode b_Re_takeData 33 = .ok (.invokevirtual 47, 3) := by decide +kernel
theorem d_Re_takeData_36 : decode b_Re_takeData 36 = .ok (.ireturn, 1) := by decide +kernel
theorem d_Re_takeData_37 : decode b_Re_takeData 37 = .ok (.aload_n 0, 1) := by decide +kernel
theorem d_Re_takeData_38 : decode b_Re_takeData 38 = .ok (.getfield 15, 3) := by decide +kernel
theorem d_Re_takeData_41 : decode b_Re_takeData 41 = .ok (.getfield 59, 3) := by decide +kernel
theorem d_Re_takeData_44 : decode b_Re_takeData 44 = .ok (.aload_n 0, 1) := by decide +kernel
theorem d_Re_takeData_45 : decode b_Re_takeData 45 = .ok (.getfield 9, 3) := by decide +kernel
theorem d_Re_takeData_48 : decode b_Re_takeData 48 = .ok (.iload_n 2, 1) := by decide +kernel
theorem d_Re_takeData_49 : decode b_Re_takeData 49 = .ok (.iload_n 3, 1) := by decide +kernel
theorem d_Re_takeData_50 : decode b_Re_takeData 50 = .ok (.iload_n 2, 1) := by decide +kernel
theorem d_Re_takeData_51 : decode b_Re_takeData 51 = .ok (.isub, 1) := by decide +kernel
theorem d_Re_takeData_52 : decode b_Re_takeData 52 = .ok (.invokevirtual 103, 3) := by decide +kernel
theorem d_Re_takeData_55 : decode b_Re_takeData 55 = .ok (.iconst 1, 1) := by decide +kernel
theorem d_Re_takeData_56 : decode b_Re_takeData 56 = .ok (.ireturn, 1) := by decide +kernel
theorem d_Re_takeDataWithNames_0 : decode b_Re_takeDataWithNames 0 = .ok (.iload_n 1, 1) := by decide +kernel
theorem d_Re_takeDataWithNames_1 : decode b_Re_takeDataWithNames 1 = .ok (.invokestatic 124, 3) := by decide +kernel
theorem d_Re_takeDataWithNames_4 : decode b_Re_takeDataWithNames 4 = .ok (.istore 4, 2) := by decide +kernel
theorem d_Re_takeDataWithNames_6 : decode b_Re_takeDataWithNames 6 = .ok (.iload_n 1, 1) := by decide +kernel
theorem d_Re_takeDataWithNames_7 : decode b_Re_takeDataWithNames 7 = .ok (.invokestatic 127, 3) := by decide +kernel
theorem d_Re_takeDataWithNames_10 : decode b_Re_takeDataWithNames 10 = .ok (.istore 5, 2) := by decide +kernel
theorem d_Re_takeDataWithNames_12 : decode b_Re_takeDataWithNames 12 = .ok (.iload_n 1, 1) := by decide +kernel
theorem d_Re_takeDataWithNames_13 : decode b_Re_takeDataWithNames 13 = .ok (.invokestatic 107, 3) := by decide +kernel
theorem d_Re_takeDataWithNames_16 : decode b_Re_takeDataWithNames 16 = .ok (.istore 6, 2) := by decide +kernel
theorem d_Re_takeDataWithNames_18 : decode b_Re_takeDataWithNames 18 = .ok (.aload_n 0, 1) := by decide +kernel
theorem d_Re_takeDataWithNames_19 : decode b_Re_takeDataWithNames 19 = .ok (.getfield 26, 3) := by decide +kernel
theorem d_Re_takeDataWithNames_22 : decode b_Re_takeDataWithNames 22 = .ok (.istore 7, 2) := by decide +kernel
theorem d_Re_takeDataWithNames_24 : decode b_Re_takeDataWithNames 24 = .ok (.iload_n 2, 1) := by decide +kernel
theorem d_Re_takeDataWithNames_25 : decode b_Re_takeDataWithNames 25 = .ok (.iload 4, 2) := by decide +kernel
theorem d_Re_takeDataWithNames_27 : decode b_Re_takeDataWithNames 27 = .ok (.iadd, 1) := by decide +kernel
theorem d_Re_takeDataWithNames_28 : decode b_Re_takeDataWithNames 28 = .ok (.iload_n 3, 1) := by decide +kernel
theorem d_Re_takeDataWithNames_29 : decode b_Re_takeDataWithNames 29 = .ok (.if_icmp .le 10, 3) := by decide +kernel
theorem d_Re_takeDataWithNames_32 : decode b_Re_takeDataWithNames 32 = .ok (.aload_n 0, 1) := by decide +kernel
theorem d_Re_takeDataWithNames_33 : decode b_Re_takeDataWithNames 33 = .ok (.iconst 5, 1) := by decide +kernel
theorem d_Re_takeDataWithNames_34 : decode b_Re_takeDataWithNames 34 = .ok (.iload_n 2, 1) := by decide +kernel
theorem d_Re_takeDataWithNames_35 : decode b_Re_takeDataWithNames 35 = .ok (.invokevirtual 47, 3) := by decide +kernel
theorem d_Re_takeDataWithNames_38 : decode b_Re_takeDataWithNames 38 = .ok (.ireturn, 1) := by decide +kernel
theorem d_Re_takeDataWithNames_39 : decode b_Re_takeDataWithNames 39 = .ok (.aload_n 0, 1) := by decide +kernel
theorem d_Re_takeDataWithNames_40 : decode b_Re_takeDataWithNames 40 = .ok (.getfield 15, 3) := by decide +kernel
theorem d_Re_takeDataWithNames_43 : decode b_Re_takeDataWithNames 43 = .ok (.getfield 59, 3) := by decide +kernel
theorem d_Re_takeDataWithNames_46 : decode b_Re_takeDataWithNames 46 = .ok (.aload_n 0, 1) := by decide +kernel
theorem d_Re_takeDataWithNames_47 : decode b_Re_takeDataWithNames 47 = .ok (.getfield 9, 3) := by decide +kernel
theorem d_Re_takeDataWithNames_50 : decode b_Re_takeDataWithNames 50 = .ok (.iload_n 2, 1) := by decide +kernel
theorem d_Re_takeDataWithNames_51 : decode b_Re_takeDataWithNames 51 = .ok (.iload 4, 2) := by decide +kernel
theorem d_Re_takeDataWithNames_53 : decode b_Re_takeDataWithNames 53 = .ok (.invokevirtual 103, 3) := by decide +kernel
theorem d_Re_takeDataWithNames_56 : decode b_Re_takeDataWithNames 56 = .ok (.aload_n 0, 1) := by decide +kernel
theorem d_Re_takeDataWithNames_57 : decode b_Re_takeDataWithNames 57 = .ok (.iload_n 2, 1) := by decide +kernel
theorem d_Re_takeDataWithNames_58 : decode b_Re_takeDataWithNames 58 = .ok (.iload 4, 2) := by decide +kernel
theorem d_Re_takeDataWithNames_60 : decode b_Re_takeDataWithNames 60 = .ok (.iadd, 1) := by decide +kernel
theorem d_Re_takeDataWithNames_61 : decode b_Re_takeDataWithNames 61 = .ok (.putfield 41, 3) := by decide +kernel
theorem d_Re_takeDataWithNames_64 : decode b_Re_takeDataWithNames 64 = .ok (.iconst 0, 1) := by decide +kernel
theorem d_Re_takeDataWithNames_65 : decode b_Re_takeDataWithNames 65 = .ok (.istore 8, 2) := by decide +kernel
theorem d_Re_takeDataWithNames_67 : decode b_Re_takeDataWithNames 67 = .ok (.iload 8, 2) := by decide +kernel
theorem d_Re_takeDataWithNames_69 : decode b_Re_takeDataWithNames 69 = .ok (.iload 6, 2) := by decide +kernel
theorem d_Re_takeDataWithNames_71 : decode b_Re_takeDataWithNames 71 = .ok (.if_icmp .ge 23, 3) := by decide +kernel
theorem d_Re_takeDataWithNames_74 : decode b_Re_takeDataWithNames 74 = .ok (.aload_n 0, 1) := by decide +kernel
theorem d_Re_takeDataWithNames_75 : decode b_Re_takeDataWithNames 75 = .ok (.aload_n 0, 1) := by decide +kernel
theorem d_Re_takeDataWithNames_76 : decode b_Re_takeDataWithNames 76 = .ok (.getfield 41, 3) := by decide +kernel
theorem d_Re_takeDataWithNames_79 : decode b_Re_takeDataWithNames 79 = .ok (.iload_n 3, 1) := by decide +kernel
theorem d_Re_takeDataWithNames_80 : decode b_Re_takeDataWithNames 80 = .ok (.invokevirtual 82, 3) := by decide +kernel
theorem d_Re_takeDataWithNames_83 : decode b_Re_takeDataWithNames 83 = .ok (.ifCond .ne 5, 3) := by decide +kernel
theorem d_Re_takeDataWithNames_86 : decode b_Re_takeDataWithNames 86 = .ok (.iconst 0, 1) := by decide +kernel
theorem d_Re_takeDataWithNames_87 : decode b_Re_takeDataWithNames 87 = .ok (.ireturn, 1) := by decide +kernel
theorem d_Re_takeDataWithNames_88 : decode b_Re_takeDataWithNames 88 = .ok (.iinc 8 1, 3) := by decide +kernel
theorem d_Re_takeDataWithNames_91 : decode b_Re_takeDataWithNames 91 = .ok (.goto (-24), 3) := by decide +kernel
theorem d_Re_takeDataWithNames_94 : decode b_Re_takeDataWithNames 94 = .ok (.aload_n 0, 1) := by decide +kernel
theorem d_Re_takeDataWithNames_95 : decode b_Re_takeDataWithNames 95 = .ok (.getfield 26, 3) := by decide +kernel
theorem d_Re_takeDataWithNames_98 : decode b_Re_takeDataWithNames 98 = .ok (.iload 7, 2) := by decide +kernel
theorem d_Re_takeDataWithNames_100 : decode b_Re_takeDataWithNames 100 = .ok (.if_icmp .le 14, 3) := by decide +kernel
theorem d_Re_takeDataWithNames_103 : decode b_Re_takeDataWithNames 103 = .ok (.iload_n 1, 1) := by decide +kernel
theorem d_Re_takeDataWithNames_104 : decode b_Re_takeDataWithNames 104 = .ok (.invokestatic 130, 3) := by decide +kernel
theorem d_Re_takeDataWithNames_107 : decode b_Re_takeDataWithNames 107 = .ok (.ifCond .ne 7, 3) := by decide +kernel
theorem d_Re_takeDataWithNames_110 : decode b_Re_takeDataWithNames 110 = .ok (.iconst 1, 1) := by decide +kernel
theorem d_Re_takeDataWithNames_111 : decode b_Re_takeDataWithNames 111 = .ok (.goto 4, 3) := by decide +kernel
theorem d_Re_takeDataWithNames_114 : decode b_Re_takeDataWithNames 114 = .ok (.iconst 0, 1) := by decide +kernel
theorem d_Re_takeDataWithNames_115 : decode b_Re_takeDataWithNames 115 = .ok (.istore 8, 2) := by decide +kernel
theorem d_Re_takeDataWithNames_117 : decode b_Re_takeDataWithNames 117 = .ok (.iload 8, 2) := by decide +kernel
theorem d_Re_takeDataWithNames_119 : decode b_Re_takeDataWithNames 119 = .ok (.ifCond .ne 14, 3) := by decide +kernel
theorem d_Re_takeDataWithNames_122 : decode b_Re_takeDataWithNames 122 = .ok (.aload_n 0, 1) := by decide +kernel
theorem d_Re_takeDataWithNames_123 : decode b_Re_takeDataWithNames 123 = .ok (.getfield 41, 3) := by decide +kernel
theorem d_Re_takeDataWithNames_126 : decode b_Re_takeDataWithNames 126 = .ok (.iload 5, 2) := by decide +kernel
theorem d_Re_takeDataWithNames_128 : decode b_Re_takeDataWithNames 128 = .ok (.iadd, 1) := by decide +kernel
theorem d_Re_takeDataWithNames_129 : decode b_Re_takeDataWithNames 129 = .ok (.iload_n 3, 1) := by decide +kernel
theorem d_Re_takeDataWithNames_130 : decode b_Re_takeDataWithNames 130 = .ok (.if_icmp .eq 10, 3) := by decide +kernel
theorem d_Re_takeDataWithNames_133 : decode b_Re_takeDataWithNames 133 = .ok (.aload_n 0, 1) := by decide +kernel
theorem d_Re_takeDataWithNames_134 : decode b_Re_takeDataWithNames 134 = .ok (.iconst 5, 1) := by decide +kernel
theorem d_Re_takeDataWithNames_135 : decode b_Re_takeDataWithNames 135 = .ok (.iload_n 2, 1) := by decide +kernel
theorem d_Re_takeDataWithNames_136 : decode b_Re_takeDataWithNames 136 = .ok (.invokevirtual 47, 3) := by decide +kernel
theorem d_Re_takeDataWithNames_139 : decode b_Re_takeDataWithNames 139 = .ok (.ireturn, 1) := by decide +kernel
theorem d_Re_takeDataWithNames_140 : decode b_Re_takeDataWithNames 140 = .ok (.aload_n 0, 1) := by decide +kernel
theorem d_Re_takeDataWithNames_141 : decode b_Re_takeDataWithNames 141 = .ok (.getfield 15, 3) := by decide +kernel
theorem d_Re_takeDataWithNames_144 : decode b_Re_takeDataWithNames 144 = .ok (.getfield 59, 3) := by decide +kernel
theorem d_Re_takeDataWithNames_147 : decode b_Re_takeDataWithNames 147 = .ok (.aload_n 0, 1) := by decide +kernel
theorem d_Re_takeDataWithNames_148 : decode b_Re_takeDataWithNames 148 = .ok (.getfield 9, 3) := by decide +kernel
theorem d_Re_takeDataWithNames_151 : decode b_Re_takeDataWithNames 151 = .ok (.aload_n 0, 1) := by decide +kernel
theorem d_Re_takeDataWithNames_152 : decode b_Re_takeDataWithNames 152 = .ok (.getfield 41, 3) := by decide +kernel
theorem d_Re_takeDataWithNames_155 : decode b_Re_takeDataWithNames 155 = .ok (.iload 5, 2) := by decide +kernel
theorem d_Re_takeDataWithNames_157 : decode b_Re_takeDataWithNames 157 = .ok (.invokevirtual 103, 3) := by decide +kernel
theorem d_Re_takeDataWithNames_160 : decode b_Re_takeDataWithNames 160 = .ok (.iconst 1, 1) := by decide +kernel
theorem d_Re_takeDataWithNames_161 : decode b_Re_takeDataWithNames 161 = .ok (.ireturn, 1) := by decide +kernel
theorem d_Re_takeOwner_0 : decode b_Re_takeOwner 0 = .ok (.aload_n 0, 1) := by decide +kernel
theorem d_Re_takeOwner_1 : decode b_Re_takeOwner 1 = .ok (.getfield 15, 3) := by decide +kernel
theorem d_Re_takeOwner_4 : decode b_Re_takeOwner 4 = .ok (.getfield 59, 3) := by decide +kernel
theorem d_Re_takeOwner_7 : decode b_Re_takeOwner 7 = .ok (.getfield 44, 3) := by decide +kernel
theorem d_Re_takeOwner_10 : decode b_Re_takeOwner 10 = .ok (.istore_n 2, 1) := by decide +kernel
theorem d_Re_takeOwner_11 : decode b_Re_takeOwner 11 = .ok (.aload_n 0, 1) := by decide +kernel
theorem d_Re_takeOwner_12 : decode b_Re_takeOwner 12 = .ok (.iload_n 1, 1) := by decide +kernel
theorem d_Re_takeOwner_13 : decode b_Re_takeOwner 13 = .ok (.aload_n 0, 1) := by decide +kernel
theorem d_Re_takeOwner_14 : decode b_Re_takeOwner 14 = .ok (.getfield 9, 3) := by decide +kernel
theorem d_Re_takeOwner_17 : decode b_Re_takeOwner 17 = .ok (.getfield 44, 3) := by decide +kernel
theorem d_Re_takeOwner_20 : decode b_Re_takeOwner 20 = .ok (.invokevirtual 82, 3) := by decide +kernel
theorem d_Re_takeOwner_23 : decode b_Re_takeOwner 23 = .ok (.istore_n 3, 1) := by decide +kernel
theorem d_Re_takeOwner_24 : decode b_Re_takeOwner 24 = .ok (.aload_n 0, 1) := by decide +kernel
theorem d_Re_takeOwner_25 : decode b_Re_takeOwner 25 = .ok (.aload_n 0, 1) := by decide +kernel
theorem d_Re_takeOwner_26 : decode b_Re_takeOwner 26 = .ok (.getfield 15, 3) := by decide +kernel
theorem d_Re_takeOwner_29 : decode b_Re_takeOwner 29 = .ok (.getfield 59, 3) := by decide +kernel
theorem d_Re_takeOwner_32 : decode b_Re_takeOwner 32 = .ok (.getfield 44, 3) := by decide +kernel
theorem d_Re_takeOwner_35 : decode b_Re_takeOwner 35 = .ok (.iload_n 2, 1) := by decide +kernel
theorem d_Re_takeOwner_36 : decode b_Re_takeOwner 36 = .ok (.isub, 1) := by decide +kernel
theorem d_Re_takeOwner_37 : decode b_Re_takeOwner 37 = .ok (.putfield 65, 3) := by decide +kernel
theorem d_Re_takeOwner_40 : decode b_Re_takeOwner 40 = .ok (.iload_n 3, 1) := by decide +kernel
theorem d_Re_takeOwner_41 : decode b_Re_takeOwner 41 = .ok (.ireturn, 1) := by decide +kernel
set_option maxHeartbeats 4000000 in
set_option maxRecDepth 100000 in
/-- Reader.takeOwner -/
theorem m_Re_takeOwner (l : Launch) (D9 : va_G) (cB cI cJ cG : ClassId) (a : Nat → Nat) (O : Nat → Int64) (I : Nat → Int32) (F : Nat → Nat → Int32) (t : List Nat) (hT2 : I 2 = nI t.length) (htl : t.length ≤ 65536) (hT : BR 0 65536 (F 2) t) (L : List Nat) (st9 fw : Nat) (hL3 : I 3 = nI L.length) (hLb : L.length < 400000) (hBL : BR 0 65536 (F 4) L) (hst9 : st9 ≤ 65536) (hfw : I 7 = nI fw) : MC l D9 cB cI cJ cG a O y_Re_takeOwner b_Re_takeOwner 4 (some .boolean) 3 [.ref (a 17), .int (nI st9)] I F (fun v I' F' => (∃ nm e c, rn 16639 t t.length st9 st9 0 none = some (nm, e, c) ∧ v = some (.int (nI 1)) ∧ sm [3, 6, 7, 8] I I' ∧ I' 3 = nI (L ++ nm).length ∧ I' 6 = nI e ∧ I' 7 = nI (fw + c) ∧ I' 8 = nI nm.length ∧ sm [4] F F' ∧ BR 0 65536 (F' 4) (L ++ nm)) ∨ (rn 16639 t t.length st9 st9 0 none = none ∧ v = some (.int (nI 0)) ∧ sm [3, 4, 5, 6, 7, 8] I I' ∧ ¬ I' 4 = 0 ∧ sm [4] F F' ∧ BR 0 65536 (F' 4) L)) := by
  refine mc_of (by decide) (Nat.le_of_ble_eq_true rfl) ?_
  intro p e s m below meth c ls A0 Q C0 hP hD hA hS hl hret
  obtain ⟨hx, hb, hml, hr, hlocks, hown, hts, hK⟩ := id C0
  have hl : lv_has ls 4 [(0, .ref (a 17)), (1, .int (nI st9))] := hl
  refine lv_aload_n hx hb d_Re_takeOwner_0 rfl (lv_at hl 0 rfl) ?_
  refine va_get (D := D9) (ci := 4) (C := R_Re) (T := F_Re) (N := 8) hx hb hts i_Re hown hK hP 17 ww_17 rfl 1 (by decide) (hts _ g_121) (fun _ h9 => h9) rfl d_Re_takeOwner_1 ?_
  refine va_getN (D := D9) (ci := 2) (C := R_Ga) (T := F_Ga) (N := 11) hx hb hts i_Ga hown hK hP 19 ww_19 rfl 0 (by decide) (hts _ g_60) (fun _ h9 => h9) rfl d_Re_takeOwner_4 ?_
  refine va_getN (D := D9) (ci := 0) (C := R_By) (T := F_By) (N := 2) hx hb hts i_By hown hK hP 3 ww_3 rfl 1 (by decide) (hts _ g_39) (fun _ h9 => h9) rfl d_Re_takeOwner_7 ?_
  refine lv_topq (y := nI L.length) (hL3) ?_
  refine lv_istore_n (lv' := [(2, _), (0, _), (1, _)]) hx hb d_Re_takeOwner_10 rfl hl (by decide) rfl (fun ls hl => ?_)
  refine lv_aload_n hx hb d_Re_takeOwner_11 rfl (lv_at hl 1 rfl) ?_
  refine lv_iload_n hx hb d_Re_takeOwner_12 rfl (lv_at hl 2 rfl) ?_
  refine lv_aload_n hx hb d_Re_takeOwner_13 rfl (lv_at hl 1 rfl) ?_
  refine va_get (D := D9) (ci := 4) (C := R_Re) (T := F_Re) (N := 8) hx hb hts i_Re hown hK hP 17 ww_17 rfl 0 (by decide) (hts _ g_120) (fun _ h9 => h9) rfl d_Re_takeOwner_14 ?_
  refine va_getN (D := D9) (ci := 0) (C := R_By) (T := F_By) (N := 2) hx hb hts i_By hown hK hP 1 ww_1 rfl 1 (by decide) (hts _ g_39) (fun _ h9 => h9) rfl d_Re_takeOwner_17 ?_
  refine lv_topq (y := nI t.length) (hT2) ?_
  refine mw_cV (ci := 4) (k := 17) C0 (m_Re_takeName l D9 cB cI cJ cG a O _ _ t hT2 htl hT L t.length st9 fw hL3 (by omega) hBL (by omega) (by omega) hfw) g_279 g_4 g_276 g_278 gs_Re_takeName ⟨by decide +kernel, by decide +kernel, show Option.map (fun d => d.parameters.length) (parseMethodDescriptor y_Re_takeName.desc) = some 2 by decide +kernel⟩ ⟨by decide, by decide⟩ rfl rfl hP hD hS hA rfl ww_17 hl.1 (Nat.le_of_ble_eq_true rfl) rfl d_Re_takeOwner_20 ⟨by decide, by decide⟩ (fun v9 w9 H locs hq hP hD hS => ?_)
  obtain ⟨I1, F2, hw9, q3⟩ := hq
  subst hw9
  rcases q3 with ⟨nm1, e1, c_1, hr1, rfl, sn1, z31, z61, z71, sG1, wB1⟩ | ⟨hr1, rfl, sn1, z31, sG1, wB1⟩
  · have hbd1 := rn_bd hr1 (by decide)
    have hln1 : (L ++ nm1).length = L.length + nm1.length := List.length_append
    refine lv_istore_n (lv' := [(3, _), (2, _), (0, _), (1, _)]) hx hb d_Re_takeOwner_23 rfl hl (by decide) rfl (fun ls hl => ?_)
    refine lv_aload_n hx hb d_Re_takeOwner_24 rfl (lv_at hl 2 rfl) ?_
    refine lv_aload_n hx hb d_Re_takeOwner_25 rfl (lv_at hl 2 rfl) ?_
    refine va_get (D := D9) (ci := 4) (C := R_Re) (T := F_Re) (N := 8) hx hb hts i_Re hown hK hP 17 ww_17 rfl 1 (by decide) (hts _ g_121) (fun _ h9 => h9) rfl d_Re_takeOwner_26 ?_
    refine va_getN (D := D9) (ci := 2) (C := R_Ga) (T := F_Ga) (N := 11) hx hb hts i_Ga hown hK hP 19 ww_19 rfl 0 (by decide) (hts _ g_60) (fun _ h9 => h9) rfl d_Re_takeOwner_29 ?_
    refine va_getN (D := D9) (ci := 0) (C := R_By) (T := F_By) (N := 2) hx hb hts i_By hown hK hP 3 ww_3 rfl 1 (by decide) (hts _ g_39) (fun _ h9 => h9) rfl d_Re_takeOwner_32 ?_
    refine lv_topq (y := nI ((L ++ nm1).length)) (z31) ?_
    refine lv_iload_n hx hb d_Re_takeOwner_35 rfl (lv_at hl 1 rfl) ?_
    refine lv_isub hx hb d_Re_takeOwner_36 ?_
    refine lv_topq (y := nI nm1.length) ((pk_sub (by omega)).trans (congrArg nI (by omega))) ?_
    refine va_put (D := D9) (ty := .int) (ci := 4) (C := R_Re) (T := F_Re) (N := 8) hx hb hts i_Re t_Re t_Re_ok n_Re hown hK hP hD hS 17 ww_17 rfl 6 (by decide) (hts _ g_128) (fun _ h9 => h9) rfl (by decide +kernel) rfl rfl (Nat.le_of_ble_eq_true rfl) d_Re_takeOwner_37 (fun H locs hP hD hS => ?_)
    obtain ⟨I4, aI4, sI4, hP, hD⟩ := fx (P := fun z => va_P D9 cls9 (WW a cB cI cJ cG z _ O) H ∧ va_D A0 (WW a cB cI cJ cG z _ O)) ⟨wp_8 hP, wd_8 hD⟩
    refine lv_iload_n hx hb d_Re_takeOwner_40 rfl (lv_at hl 0 rfl) ?_
    exact hret _ _ _ _ _ _ _ hS hP hD d_Re_takeOwner_41 (nr_z (Or.inr rfl)) (Or.inl ⟨nm1, e1, c_1, hr1, rfl, (sm_tr (sm_mo sn1 (by decide)) (sm_mo sI4 (by decide))), ((sI4 3 (by decide)).trans z31), ((sI4 6 (by decide)).trans z61), ((sI4 7 (by decide)).trans z71), aI4, (sm_mo sG1 (by decide)), wB1⟩)
  · refine lv_istore_n (lv' := [(3, _), (2, _), (0, _), (1, _)]) hx hb d_Re_takeOwner_23 rfl hl (by decide) rfl (fun ls hl => ?_)
    refine lv_aload_n hx hb d_Re_takeOwner_24 rfl (lv_at hl 2 rfl) ?_
    refine lv_aload_n hx hb d_Re_takeOwner_25 rfl (lv_at hl 2 rfl) ?_
    refine va_get (D := D9) (ci := 4) (C := R_Re) (T := F_Re) (N := 8) hx hb hts i_Re hown hK hP 17 ww_17 rfl 1 (by decide) (hts _ g_121) (fun _ h9 => h9) rfl d_Re_takeOwner_26 ?_
    refine va_getN (D := D9) (ci := 2) (C := R_Ga) (T := F_Ga) (N := 11) hx hb hts i_Ga hown hK hP 19 ww_19 rfl 0 (by decide) (hts _ g_60) (fun _ h9 => h9) rfl d_Re_takeOwner_29 ?_
    refine va_getN (D := D9) (ci := 0) (C := R_By) (T := F_By) (N := 2) hx hb hts i_By hown hK hP 3 ww_3 rfl 1 (by decide) (hts _ g_39) (fun _ h9 => h9) rfl d_Re_takeOwner_32 ?_
    refine lv_iload_n hx hb d_Re_takeOwner_35 rfl (lv_at hl 1 rfl) ?_
    refine lv_isub hx hb d_Re_takeOwner_36 ?_
    refine va_put (D := D9) (ty := .int) (ci := 4) (C := R_Re) (T := F_Re) (N := 8) hx hb hts i_Re t_Re t_Re_ok n_Re hown hK hP hD hS 17 ww_17 rfl 6 (by decide) (hts _ g_128) (fun _ h9 => h9) rfl (by decide +kernel) rfl rfl (Nat.le_of_ble_eq_true rfl) d_Re_takeOwner_37 (fun H locs hP hD hS => ?_)
    obtain ⟨I5, aI5, sI5, hP, hD⟩ := fx (P := fun z => va_P D9 cls9 (WW a cB cI cJ cG z _ O) H ∧ va_D A0 (WW a cB cI cJ cG z _ O)) ⟨wp_8 hP, wd_8 hD⟩
    refine lv_iload_n hx hb d_Re_takeOwner_40 rfl (lv_at hl 0 rfl) ?_
    exact hret _ _ _ _ _ _ _ hS hP hD d_Re_takeOwner_41 (nr_z (Or.inl rfl)) (Or.inr ⟨hr1, rfl, (sm_tr (sm_mo sn1 (by decide)) (sm_mo sI5 (by decide))), (by rw [(sI5 4 (by decide))]; exact z31), (sm_mo sG1 (by decide)), wB1⟩)
set_option maxHeartbeats 4000000 in
set_option maxRecDepth 100000 in
/-- Reader.takeBackTo -/
theorem m_Re_takeBackTo (l : Launch) (D9 : va_G) (cB cI cJ cG : ClassId) (a : Nat → Nat) (O : Nat → Int64) (I : Nat → Int32) (F : Nat → Nat → Int32) (x : Int32) : MC l D9 cB cI cJ cG a O y_Re_takeBackTo b_Re_takeBackTo 2 (some .boolean) 0 [.ref (a 17), .int (x)] I F (fun v I' F' => v = some (.int (nI 0)) ∧ sm [3] I I' ∧ I' 3 = x ∧ F = F') := by
  refine mc_of (by decide) (Nat.le_of_ble_eq_true rfl) ?_
  intro p e s m below meth c ls A0 Q C0 hP hD hA hS hl hret
  obtain ⟨hx, hb, hml, hr, hlocks, hown, hts, hK⟩ := id C0
  have hl : lv_has ls 2 [(0, .ref (a 17)), (1, .int (x))] := hl
  refine lv_aload_n hx hb d_Re_takeBackTo_0 rfl (lv_at hl 0 rfl) ?_
  refine va_get (D := D9) (ci := 4) (C := R_Re) (T := F_Re) (N := 8) hx hb hts i_Re hown hK hP 17 ww_17 rfl 1 (by decide) (hts _ g_121) (fun _ h9 => h9) rfl d_Re_takeBackTo_1 ?_
  refine va_getN (D := D9) (ci := 2) (C := R_Ga) (T := F_Ga) (N := 11) hx hb hts i_Ga hown hK hP 19 ww_19 rfl 0 (by decide) (hts _ g_60) (fun _ h9 => h9) rfl d_Re_takeBackTo_4 ?_
  refine lv_iload_n hx hb d_Re_takeBackTo_7 rfl (lv_at hl 1 rfl) ?_
  refine va_putN (D := D9) (ty := .int) (ci := 0) (C := R_By) (T := F_By) (N := 2) hx hb hts i_By t_By t_By_ok n_By hown hK hP hD hS 3 ww_3 rfl 1 (by decide) (hts _ g_39) (fun _ h9 => h9) rfl (by decide +kernel) rfl rfl (Nat.le_of_ble_eq_true rfl) d_Re_takeBackTo_8 (fun H locs hP hD hS => ?_)
  obtain ⟨I1, aI1, sI1, hP, hD⟩ := fx (P := fun z => va_P D9 cls9 (WW a cB cI cJ cG z _ O) H ∧ va_D A0 (WW a cB cI cJ cG z _ O)) ⟨wp_3 hP, wd_3 hD⟩
  refine lv_iconst (v := 0) hx hb d_Re_takeBackTo_11 (by decide) ?_
  refine lv_topq (y := nI 0) (rfl) ?_
  exact hret _ _ _ _ _ _ _ hS hP hD d_Re_takeBackTo_12 (nr_z (Or.inl rfl)) (⟨rfl, (sm_mo sI1 (by decide)), aI1, rfl⟩)
set_option maxHeartbeats 4000000 in
set_option maxRecDepth 100000 in
/-- Reader.areStrings -/
theorem m_Re_areStrings (l : Launch) (D9 : va_G) (cB cI cJ cG : ClassId) (a : Nat → Nat) (O : Nat → Int64) (I : Nat → Int32) (F : Nat → Nat → Int32) (t : List Nat) (hT2 : I 2 = nI t.length) (htl : t.length ≤ 65536) (hT : BR 0 65536 (F 2) t) (fr to : Nat) (hfr : fr ≤ 65536) (hto : to ≤ t.length) : MC l D9 cB cI cJ cG a O y_Re_areStrings b_Re_areStrings 4 (some .boolean) 1 [.ref (a 17), .int (nI fr), .int (nI to)] I F (fun v I' F' => v = some (.int (bI (strs t fr to))) ∧ I = I' ∧ F = F') := by
  refine mc_of (by decide) (Nat.le_of_ble_eq_true rfl) ?_
  intro p e s m below meth c ls A0 Q C0 hP hD hA hS hl hret
  obtain ⟨hx, hb, hml, hr, hlocks, hown, hts, hK⟩ := id C0
  have hl : lv_has ls 4 [(0, .ref (a 17)), (1, .int (nI fr)), (2, .int (nI to))] := hl
  refine lv_iload_n hx hb d_Re_areStrings_0 rfl (lv_at hl 1 rfl) ?_
  refine lv_istore_n (lv' := [(3, _), (0, _), (1, _), (2, _)]) hx hb d_Re_areStrings_1 rfl hl (by decide) rfl (fun ls hl => ?_)
  have loop1 : ∀ (n9 : Nat) (ap : Nat) (f9 : Nat) (I9 : Nat → Int32) (F9 : Nat → Nat → Int32) (H : Heap) (locs : List Loc) (ls : Array Slot), (I = I9) → (F = F9) → (to - ap = n9) → (to - ap < f9) → (ap ≤ 70000) → (se (to - fr + 1) t fr to = se f9 t ap to) → va_P D9 cls9 (WW a cB cI cJ cG I9 F9 O) H → va_D A0 (WW a cB cI cJ cG I9 F9 O) → va_S A0 s.heap H locs → lv_has ls 4 [(0, .ref (a 17)), (1, .int (nI fr)), (2, .int (nI to)), (3, .int (nI ap))] → W p l e (rm9 1 0 0) s m ([.ref (a 17), .int (nI fr), .int (nI to)] : List Value).toArray below meth c H locs 0 0 Q (F0 m 2 ls []) := by
    intro n9
    induction n9 using Nat.strongRecOn with
    | ind n9 ih =>
      intro ap f9 I9 F9 H locs ls hsI hsF hn9 hf hap hE hP hD hS hl
      subst hsI
      subst hsF
      obtain ⟨g9, rfl⟩ : ∃ g9, f9 = g9 + 1 := ⟨f9 - 1, by omega⟩
      have hE2 : se (g9 + 1) t ap to = if ap < to then se g9 t (ap + (1 + tb t ap)) to else decide (ap = to) := rfl
      rw [hE2] at hE
      refine lv_iload_n hx hb d_Re_areStrings_2 rfl (lv_at hl 3 rfl) ?_
      refine lv_iload_n hx hb d_Re_areStrings_3 rfl (lv_at hl 2 rfl) ?_
      refine lv_icmp_ge (tgt := 23) hx hb d_Re_areStrings_4 (by decide) (fun c1 => ?_) (fun c1 => ?_)
      · have c1 : to ≤ ap := (nI_leI (a := to) (b := ap) (by omega) (by omega)).mp c1
        rw [if_neg (by omega)] at hE
        refine lv_iload_n hx hb d_Re_areStrings_23 rfl (lv_at hl 1 rfl) ?_
        refine lv_iload_n hx hb d_Re_areStrings_24 rfl (lv_at hl 2 rfl) ?_
        refine lv_icmp_ge (tgt := 37) hx hb d_Re_areStrings_25 (by decide) (fun c2 => ?_) (fun c2 => ?_)
        · have c2 : to ≤ fr := (nI_leI (a := to) (b := fr) (by omega) (by omega)).mp c2
          refine lv_iconst (v := 0) hx hb d_Re_areStrings_37 (by decide) ?_
          refine lv_topq (y := nI 0) (rfl) ?_
          exact hret _ _ _ _ _ _ _ hS hP hD d_Re_areStrings_38 (nr_z (Or.inl rfl)) (by have e9 : strs t fr to = false := (by unfold strs; rw [hE]; simp <;> omega); rw [e9]; exact ⟨rfl, rfl, rfl⟩)
        · have c2 : ¬ (to ≤ fr) := fun z9 => c2 ((nI_leI (a := to) (b := fr) (by omega) (by omega)).mpr z9)
          refine lv_iload_n hx hb d_Re_areStrings_28 rfl (lv_at hl 3 rfl) ?_
          refine lv_iload_n hx hb d_Re_areStrings_29 rfl (lv_at hl 2 rfl) ?_
          refine lv_icmp_ne (tgt := 37) hx hb d_Re_areStrings_30 (by decide) (fun c3 => ?_) (fun c3 => ?_)
          · have c3 : ¬ (ap = to) := fun z9 => c3 ((nI_eq (a := ap) (b := to) (by omega) (by omega)).mpr z9)
            refine lv_iconst (v := 0) hx hb d_Re_areStrings_37 (by decide) ?_
            refine lv_topq (y := nI 0) (rfl) ?_
            exact hret _ _ _ _ _ _ _ hS hP hD d_Re_areStrings_38 (nr_z (Or.inl rfl)) (by have e9 : strs t fr to = false := (by unfold strs; rw [hE]; simp <;> omega); rw [e9]; exact ⟨rfl, rfl, rfl⟩)
          · have c3 : ap = to := (nI_eq (a := ap) (b := to) (by omega) (by omega)).mp c3
            refine lv_iconst (v := 1) hx hb d_Re_areStrings_33 (by decide) ?_
            refine lv_topq (y := nI 1) (rfl) ?_
            refine lv_goto (tgt := 38) hx hb d_Re_areStrings_34 (by decide) ?_
            exact hret _ _ _ _ _ _ _ hS hP hD d_Re_areStrings_38 (nr_z (Or.inr rfl)) (by have e9 : strs t fr to = true := (by unfold strs; rw [hE]; simp <;> omega); rw [e9]; exact ⟨rfl, rfl, rfl⟩)
      · have c1 : ¬ (to ≤ ap) := fun z9 => c1 ((nI_leI (a := to) (b := ap) (by omega) (by omega)).mpr z9)
        rw [if_pos (by omega)] at hE
        have hby : tb t ap < 256 := BR_lt hT (by omega) (by omega) (by omega)
        refine lv_iload_n hx hb d_Re_areStrings_7 rfl (lv_at hl 3 rfl) ?_
        refine lv_iconst (v := 1) hx hb d_Re_areStrings_8 (by decide) ?_
        refine lv_topq (y := nI 1) (rfl) ?_
        refine lv_aload_n hx hb d_Re_areStrings_9 rfl (lv_at hl 0 rfl) ?_
        refine va_get (D := D9) (ci := 4) (C := R_Re) (T := F_Re) (N := 8) hx hb hts i_Re hown hK hP 17 ww_17 rfl 0 (by decide) (hts _ g_120) (fun _ h9 => h9) rfl d_Re_areStrings_10 ?_
        refine lv_iload_n hx hb d_Re_areStrings_13 rfl (lv_at hl 3 rfl) ?_
        refine mw_cVN (ci := 0) (k := 1) C0 (m_By_atL_tp l D9 cB cI cJ cG a O _ _ t ap hT htl (by omega)) g_259 g_2 g_280 g_258 gs_By_at ⟨by decide +kernel, by decide +kernel, show Option.map (fun d => d.parameters.length) (parseMethodDescriptor y_By_at.desc) = some 1 by decide +kernel⟩ ⟨by decide, by decide⟩ rfl rfl hP hD hS hA rfl ww_1 hl.1 (Nat.le_of_ble_eq_true rfl) rfl d_Re_areStrings_14 ⟨by decide, by decide⟩ (fun v9 w9 H locs hq hP hD hS => ?_)
        obtain ⟨I4, F5, hw9, q6⟩ := hq
        subst hw9
        obtain ⟨rfl, rfl, rfl⟩ := q6
        refine lv_iadd hx hb d_Re_areStrings_17 ?_
        refine lv_topq (y := nI (1 + (tb t ap))) (nI_add _ _) ?_
        refine lv_iadd hx hb d_Re_areStrings_18 ?_
        refine lv_topq (y := nI (ap + (1 + (tb t ap)))) (nI_add _ _) ?_
        refine lv_istore_n (lv' := [(3, _), (0, _), (1, _), (2, _)]) hx hb d_Re_areStrings_19 rfl hl (by decide) rfl (fun ls hl => ?_)
        refine lv_goto (tgt := 2) hx hb d_Re_areStrings_20 (by decide) ?_
        exact ih _ (by omega) (ap + (1 + tb t ap)) g9 _ _ _ _ _ rfl rfl rfl (by omega) (by omega) hE hP hD hS (lv_pk hl [1, 2, 3, 0] rfl)
  exact loop1 _ fr (to - fr + 1) _ _ _ _ _ rfl rfl rfl (by omega) (by omega) rfl hP hD hS (lv_pk hl [1, 2, 3, 0] rfl)
set_option maxHeartbeats 4000000 in
set_option maxRecDepth 100000 in
/-- Reader.isAsItsType -/
theorem m_Re_isAsItsType (l : Launch) (D9 : va_G) (cB cI cJ cG : ClassId) (a : Nat → Nat) (O : Nat → Int64) (I : Nat → Int32) (F : Nat → Nat → Int32) (t : List Nat) (hT2 : I 2 = nI t.length) (htl : t.length ≤ 65536) (hT : BR 0 65536 (F 2) t) (ty fr to ol : Nat) (hty : ty < 65536) (hfr : fr ≤ to) (hto : to ≤ t.length) (hol : I 8 = nI ol) (hob : ol < 1000000) : MC l D9 cB cI cJ cG a O y_Re_isAsItsType b_Re_isAsItsType 5 (some .boolean) 2 [.ref (a 17), .int (nI ty), .int (nI fr), .int (nI to)] I F (fun v I' F' => v = some (.int (bI (asT t ty fr to ol))) ∧ I = I' ∧ F = F') := by
  refine mc_of (by decide) (Nat.le_of_ble_eq_true rfl) ?_
  intro p e s m below meth c ls A0 Q C0 hP hD hA hS hl hret
  obtain ⟨hx, hb, hml, hr, hlocks, hown, hts, hK⟩ := id C0
  have hl : lv_has ls 5 [(0, .ref (a 17)), (1, .int (nI ty)), (2, .int (nI fr)), (3, .int (nI to))] := hl
  refine lv_iload_n hx hb d_Re_isAsItsType_0 rfl (lv_at hl 1 rfl) ?_
  refine lv_bipush (v := 16) hx hb d_Re_isAsItsType_1 (by decide) ?_
  refine lv_topq (y := nI 16) (rfl) ?_
  refine lv_icmp_ne (tgt := 13) hx hb d_Re_isAsItsType_3 (by decide) (fun c1 => ?_) (fun c1 => ?_)
  · have c1 : ¬ (ty = 16) := fun z9 => c1 ((nI_eq (a := ty) (b := 16) (by omega) (by omega)).mpr z9)
    refine lv_iload_n hx hb d_Re_isAsItsType_13 rfl (lv_at hl 1 rfl) ?_
    refine lv_bipush (v := 41) hx hb d_Re_isAsItsType_14 (by decide) ?_
    refine lv_topq (y := nI 41) (rfl) ?_
    refine lv_icmp_ne (tgt := 33) hx hb d_Re_isAsItsType_16 (by decide) (fun c2 => ?_) (fun c2 => ?_)
    · have c2 : ¬ (ty = 41) := fun z9 => c2 ((nI_eq (a := ty) (b := 41) (by omega) (by omega)).mpr z9)
      refine lv_iload_n hx hb d_Re_isAsItsType_33 rfl (lv_at hl 1 rfl) ?_
      refine mw_cSN C0 (m_Ki_fixedSize l D9 cB cI cJ cG a O _ _ ty hty) g_355 g_16 g_353 g_354 ⟨by decide +kernel, by decide +kernel, show Option.map (fun d => d.parameters.length) (parseMethodDescriptor y_Ki_fixedSize.desc) = some 1 by decide +kernel⟩ ⟨by decide, by decide⟩ rfl rfl hP hD hS hA hl.1 (Nat.le_of_ble_eq_true rfl) rfl d_Re_isAsItsType_34 ⟨by decide, by decide⟩ (fun v9 w9 H locs hq hP hD hS => ?_)
      obtain ⟨I3, F4, hw9, q5⟩ := hq
      subst hw9
      obtain ⟨rfl, rfl, rfl⟩ := q5
      by_cases ty1 : ty = 1
      · refine lv_topq (y := nI 4) (by unfold k_fx; rw [if_pos ty1]; rfl) ?_
        refine lv_istore (lv' := [(4, _), (0, _), (1, _), (2, _), (3, _)]) hx hb d_Re_isAsItsType_37 hl (by decide) rfl (fun ls hl => ?_)
        refine lv_iload hx hb d_Re_isAsItsType_39 (lv_at hl 0 rfl) ?_
        refine lv_if_lt (tgt := 52) hx hb d_Re_isAsItsType_41 (by decide) (fun c6 => ?_) (fun c6 => ?_)
        · exact absurd c6 (by decide)
        · refine lv_iload hx hb d_Re_isAsItsType_44 (lv_at hl 0 rfl) ?_
          refine lv_iload_n hx hb d_Re_isAsItsType_46 rfl (lv_at hl 4 rfl) ?_
          refine lv_iload_n hx hb d_Re_isAsItsType_47 rfl (lv_at hl 3 rfl) ?_
          refine lv_isub hx hb d_Re_isAsItsType_48 ?_
          refine lv_topq (y := nI (to - fr)) (pk_sub (by omega)) ?_
          refine lv_icmp_ne (tgt := 56) hx hb d_Re_isAsItsType_49 (by decide) (fun c7 => ?_) (fun c7 => ?_)
          · have c7 : ¬ (4 = to - fr) := fun z9 => c7 ((nI_eq (a := 4) (b := to - fr) (by omega) (by omega)).mpr z9)
            refine lv_iconst (v := 0) hx hb d_Re_isAsItsType_56 (by decide) ?_
            refine lv_topq (y := nI 0) (rfl) ?_
            exact hret _ _ _ _ _ _ _ hS hP hD d_Re_isAsItsType_57 (nr_z (Or.inl rfl)) (by have e9 : asT t ty fr to ol = false := (by unfold asT fxo; repeat (first | rw [if_pos (by omega)] | rw [if_neg (by omega)] | (simp; omega) | simp)); rw [e9]; exact ⟨rfl, rfl, rfl⟩)
          · have c7 : 4 = to - fr := (nI_eq (a := 4) (b := to - fr) (by omega) (by omega)).mp c7
            refine lv_iconst (v := 1) hx hb d_Re_isAsItsType_52 (by decide) ?_
            refine lv_topq (y := nI 1) (rfl) ?_
            refine lv_goto (tgt := 57) hx hb d_Re_isAsItsType_53 (by decide) ?_
            exact hret _ _ _ _ _ _ _ hS hP hD d_Re_isAsItsType_57 (nr_z (Or.inr rfl)) (by have e9 : asT t ty fr to ol = true := (by unfold asT fxo; repeat (first | rw [if_pos (by omega)] | rw [if_neg (by omega)] | (simp; omega) | simp)); rw [e9]; exact ⟨rfl, rfl, rfl⟩)
      · by_cases ty28 : ty = 28
        · refine lv_topq (y := nI 16) (by unfold k_fx; rw [if_neg ty1, if_pos ty28]; rfl) ?_
          refine lv_istore (lv' := [(4, _), (0, _), (1, _), (2, _), (3, _)]) hx hb d_Re_isAsItsType_37 hl (by decide) rfl (fun ls hl => ?_)
          refine lv_iload hx hb d_Re_isAsItsType_39 (lv_at hl 0 rfl) ?_
          refine lv_if_lt (tgt := 52) hx hb d_Re_isAsItsType_41 (by decide) (fun c8 => ?_) (fun c8 => ?_)
          · exact absurd c8 (by decide)
          · refine lv_iload hx hb d_Re_isAsItsType_44 (lv_at hl 0 rfl) ?_
            refine lv_iload_n hx hb d_Re_isAsItsType_46 rfl (lv_at hl 4 rfl) ?_
            refine lv_iload_n hx hb d_Re_isAsItsType_47 rfl (lv_at hl 3 rfl) ?_
            refine lv_isub hx hb d_Re_isAsItsType_48 ?_
            refine lv_topq (y := nI (to - fr)) (pk_sub (by omega)) ?_
            refine lv_icmp_ne (tgt := 56) hx hb d_Re_isAsItsType_49 (by decide) (fun c9 => ?_) (fun c9 => ?_)
            · have c9 : ¬ (16 = to - fr) := fun z9 => c9 ((nI_eq (a := 16) (b := to - fr) (by omega) (by omega)).mpr z9)
              refine lv_iconst (v := 0) hx hb d_Re_isAsItsType_56 (by decide) ?_
              refine lv_topq (y := nI 0) (rfl) ?_
              exact hret _ _ _ _ _ _ _ hS hP hD d_Re_isAsItsType_57 (nr_z (Or.inl rfl)) (by have e9 : asT t ty fr to ol = false := (by unfold asT fxo; repeat (first | rw [if_pos (by omega)] | rw [if_neg (by omega)] | (simp; omega) | simp)); rw [e9]; exact ⟨rfl, rfl, rfl⟩)
            · have c9 : 16 = to - fr := (nI_eq (a := 16) (b := to - fr) (by omega) (by omega)).mp c9
              refine lv_iconst (v := 1) hx hb d_Re_isAsItsType_52 (by decide) ?_
              refine lv_topq (y := nI 1) (rfl) ?_
              refine lv_goto (tgt := 57) hx hb d_Re_isAsItsType_53 (by decide) ?_
              exact hret _ _ _ _ _ _ _ hS hP hD d_Re_isAsItsType_57 (nr_z (Or.inr rfl)) (by have e9 : asT t ty fr to ol = true := (by unfold asT fxo; repeat (first | rw [if_pos (by omega)] | rw [if_neg (by omega)] | (simp; omega) | simp)); rw [e9]; exact ⟨rfl, rfl, rfl⟩)
        · refine lv_topq (y := (-1 : Int32)) (by unfold k_fx; rw [if_neg ty1, if_neg ty28]) ?_
          refine lv_istore (lv' := [(4, _), (0, _), (1, _), (2, _), (3, _)]) hx hb d_Re_isAsItsType_37 hl (by decide) rfl (fun ls hl => ?_)
          refine lv_iload hx hb d_Re_isAsItsType_39 (lv_at hl 0 rfl) ?_
          refine lv_if_lt (tgt := 52) hx hb d_Re_isAsItsType_41 (by decide) (fun c10 => ?_) (fun c10 => ?_)
          · refine lv_iconst (v := 1) hx hb d_Re_isAsItsType_52 (by decide) ?_
            refine lv_topq (y := nI 1) (rfl) ?_
            refine lv_goto (tgt := 57) hx hb d_Re_isAsItsType_53 (by decide) ?_
            exact hret _ _ _ _ _ _ _ hS hP hD d_Re_isAsItsType_57 (nr_z (Or.inr rfl)) (by have e9 : asT t ty fr to ol = true := (by unfold asT fxo; repeat (first | rw [if_pos (by omega)] | rw [if_neg (by omega)] | (simp; omega) | simp)); rw [e9]; exact ⟨rfl, rfl, rfl⟩)
          · exact absurd c10 (by decide)
    · have c2 : ty = 41 := (nI_eq (a := ty) (b := 41) (by omega) (by omega)).mp c2
      refine lv_aload_n hx hb d_Re_isAsItsType_19 rfl (lv_at hl 0 rfl) ?_
      refine va_get (D := D9) (ci := 4) (C := R_Re) (T := F_Re) (N := 8) hx hb hts i_Re hown hK hP 17 ww_17 rfl 6 (by decide) (hts _ g_128) (fun _ h9 => h9) rfl d_Re_isAsItsType_20 ?_
      refine lv_topq (y := nI ol) (hol) ?_
      refine lv_iconst (v := 1) hx hb d_Re_isAsItsType_23 (by decide) ?_
      refine lv_topq (y := nI 1) (rfl) ?_
      refine lv_icmp_ne (tgt := 31) hx hb d_Re_isAsItsType_24 (by decide) (fun c11 => ?_) (fun c11 => ?_)
      · have c11 : ¬ (ol = 1) := fun z9 => c11 ((nI_eq (a := ol) (b := 1) (by omega) (by omega)).mpr z9)
        refine lv_iconst (v := 0) hx hb d_Re_isAsItsType_31 (by decide) ?_
        refine lv_topq (y := nI 0) (rfl) ?_
        exact hret _ _ _ _ _ _ _ hS hP hD d_Re_isAsItsType_32 (nr_z (Or.inl rfl)) (by have e9 : asT t ty fr to ol = false := (by unfold asT fxo; repeat (first | rw [if_pos (by omega)] | rw [if_neg (by omega)] | (simp; omega) | simp)); rw [e9]; exact ⟨rfl, rfl, rfl⟩)
      · have c11 : ol = 1 := (nI_eq (a := ol) (b := 1) (by omega) (by omega)).mp c11
        refine lv_iconst (v := 1) hx hb d_Re_isAsItsType_27 (by decide) ?_
        refine lv_topq (y := nI 1) (rfl) ?_
        refine lv_goto (tgt := 32) hx hb d_Re_isAsItsType_28 (by decide) ?_
        exact hret _ _ _ _ _ _ _ hS hP hD d_Re_isAsItsType_32 (nr_z (Or.inr rfl)) (by have e9 : asT t ty fr to ol = true := (by unfold asT fxo; repeat (first | rw [if_pos (by omega)] | rw [if_neg (by omega)] | (simp; omega) | simp)); rw [e9]; exact ⟨rfl, rfl, rfl⟩)
  · have c1 : ty = 16 := (nI_eq (a := ty) (b := 16) (by omega) (by omega)).mp c1
    refine lv_aload_n hx hb d_Re_isAsItsType_6 rfl (lv_at hl 0 rfl) ?_
    refine lv_iload_n hx hb d_Re_isAsItsType_7 rfl (lv_at hl 2 rfl) ?_
    refine lv_iload_n hx hb d_Re_isAsItsType_8 rfl (lv_at hl 3 rfl) ?_
    refine mw_cV (ci := 4) (k := 17) C0 (m_Re_areStrings l D9 cB cI cJ cG a O _ _ t hT2 htl hT fr to (by omega) hto) g_352 g_4 g_349 g_351 gs_Re_areStrings ⟨by decide +kernel, by decide +kernel, show Option.map (fun d => d.parameters.length) (parseMethodDescriptor y_Re_areStrings.desc) = some 2 by decide +kernel⟩ ⟨by decide, by decide⟩ rfl rfl hP hD hS hA rfl ww_17 hl.1 (Nat.le_of_ble_eq_true rfl) rfl d_Re_isAsItsType_9 ⟨by decide, by decide⟩ (fun v9 w9 H locs hq hP hD hS => ?_)
    obtain ⟨I12, F13, hw9, q14⟩ := hq
    subst hw9
    obtain ⟨rfl, rfl, rfl⟩ := q14
    exact hret _ _ _ _ _ _ _ hS hP hD d_Re_isAsItsType_12 (nr_z (bI_01 _)) (by have e9 : asT t ty fr to ol = strs t fr to := (by unfold asT; rw [if_pos (by omega)]); rw [e9]; exact ⟨rfl, rfl, rfl⟩)
set_option maxHeartbeats 4000000 in
set_option maxRecDepth 100000 in
/-- Reader.takeDataWithNames -/
theorem m_Re_takeDataWithNames (l : Launch) (D9 : va_G) (cB cI cJ cG : ClassId) (a : Nat → Nat) (O : Nat → Int64) (I : Nat → Int32) (F : Nat → Nat → Int32) (t : List Nat) (hT2 : I 2 = nI t.length) (htl : t.length ≤ 65536) (hT : BR 0 65536 (F 2) t) (L : List Nat) (ty fr to fw : Nat) (hL3 : I 3 = nI L.length) (hLb : L.length < 300000) (hBL : BR 0 65536 (F 4) L) (hty : ty < 65536) (hfr : fr ≤ to) (hto : to ≤ t.length) (hfw : I 7 = nI fw) (hfb : fw < 100000000) (hnm : 0 < k_nm ty) : MC l D9 cB cI cJ cG a O y_Re_takeDataWithNames b_Re_takeDataWithNames 9 (some .boolean) 4 [.ref (a 17), .int (nI ty), .int (nI fr), .int (nI to)] I F (fun v I' F' => (∃ d c, rdN t ty fr to = some (d, c) ∧ v = some (.int (nI 1)) ∧ sm [3, 6, 7, 9] I I' ∧ I' 3 = nI (L ++ d).length ∧ I' 7 = nI (fw + c) ∧ sm [4] F F' ∧ BR 0 65536 (F' 4) (L ++ d)) ∨ (rdN t ty fr to = none ∧ v = some (.int (nI 0)) ∧ sm [3, 4, 5, 6, 7, 9] I I' ∧ ¬ I' 4 = 0 ∧ sm [4] F F' ∧ BR 0 65536 (F' 4) L)) := by
  refine mc_of (by decide) (Nat.le_of_ble_eq_true rfl) ?_
  intro p e s m below meth c ls A0 Q C0 hP hD hA hS hl hret
  obtain ⟨hx, hb, hml, hr, hlocks, hown, hts, hK⟩ := id C0
  have hl : lv_has ls 9 [(0, .ref (a 17)), (1, .int (nI ty)), (2, .int (nI fr)), (3, .int (nI to))] := hl
  have kbf := k_bf_le ty
  have kbh := k_bh_le ty
  refine lv_iload_n hx hb d_Re_takeDataWithNames_0 rfl (lv_at hl 1 rfl) ?_
  refine mw_cSN C0 (m_Ki_bytesBeforeNames l D9 cB cI cJ cG a O _ _ ty hty) g_337 g_16 g_335 g_336 ⟨by decide +kernel, by decide +kernel, show Option.map (fun d => d.parameters.length) (parseMethodDescriptor y_Ki_bytesBeforeNames.desc) = some 1 by decide +kernel⟩ ⟨by decide, by decide⟩ rfl rfl hP hD hS hA hl.1 (Nat.le_of_ble_eq_true rfl) rfl d_Re_takeDataWithNames_1 ⟨by decide, by decide⟩ (fun v9 w9 H locs hq hP hD hS => ?_)
  obtain ⟨I1, F2, hw9, q3⟩ := hq
  subst hw9
  obtain ⟨rfl, rfl, rfl⟩ := q3
  refine lv_istore (lv' := [(4, _), (0, _), (1, _), (2, _), (3, _)]) hx hb d_Re_takeDataWithNames_4 hl (by decide) rfl (fun ls hl => ?_)
  refine lv_iload_n hx hb d_Re_takeDataWithNames_6 rfl (lv_at hl 2 rfl) ?_
  refine mw_cSN C0 (m_Ki_bytesBehindNames l D9 cB cI cJ cG a O _ _ ty hty) g_340 g_16 g_338 g_339 ⟨by decide +kernel, by decide +kernel, show Option.map (fun d => d.parameters.length) (parseMethodDescriptor y_Ki_bytesBehindNames.desc) = some 1 by decide +kernel⟩ ⟨by decide, by decide⟩ rfl rfl hP hD hS hA hl.1 (Nat.le_of_ble_eq_true rfl) rfl d_Re_takeDataWithNames_7 ⟨by decide, by decide⟩ (fun v9 w9 H locs hq hP hD hS => ?_)
  obtain ⟨I4, F5, hw9, q6⟩ := hq
  subst hw9
  obtain ⟨rfl, rfl, rfl⟩ := q6
  refine lv_istore (lv' := [(5, _), (4, _), (0, _), (1, _), (2, _), (3, _)]) hx hb d_Re_takeDataWithNames_10 hl (by decide) rfl (fun ls hl => ?_)
  refine lv_iload_n hx hb d_Re_takeDataWithNames_12 rfl (lv_at hl 3 rfl) ?_
  refine mw_cSN C0 (m_Ki_namesIn l D9 cB cI cJ cG a O _ _ ty hty) g_330 g_16 g_328 g_329 ⟨by decide +kernel, by decide +kernel, show Option.map (fun d => d.parameters.length) (parseMethodDescriptor y_Ki_namesIn.desc) = some 1 by decide +kernel⟩ ⟨by decide, by decide⟩ rfl rfl hP hD hS hA hl.1 (Nat.le_of_ble_eq_true rfl) rfl d_Re_takeDataWithNames_13 ⟨by decide, by decide⟩ (fun v9 w9 H locs hq hP hD hS => ?_)
  obtain ⟨I7, F8, hw9, q9⟩ := hq
  subst hw9
  obtain ⟨rfl, rfl, rfl⟩ := q9
  rcases k_nm_12 hnm with hk | hk
  · refine lv_topq (y := nI 1) (congrArg nI hk) ?_
    refine lv_istore (lv' := [(6, _), (5, _), (4, _), (0, _), (1, _), (2, _), (3, _)]) hx hb d_Re_takeDataWithNames_16 hl (by decide) rfl (fun ls hl => ?_)
    refine lv_aload_n hx hb d_Re_takeDataWithNames_18 rfl (lv_at hl 3 rfl) ?_
    refine va_get (D := D9) (ci := 4) (C := R_Re) (T := F_Re) (N := 8) hx hb hts i_Re hown hK hP 17 ww_17 rfl 5 (by decide) (hts _ g_126) (fun _ h9 => h9) rfl d_Re_takeDataWithNames_19 ?_
    refine lv_topq (y := nI fw) (hfw) ?_
    refine lv_istore (lv' := [(7, _), (6, _), (5, _), (4, _), (0, _), (1, _), (2, _), (3, _)]) hx hb d_Re_takeDataWithNames_22 hl (by decide) rfl (fun ls hl => ?_)
    refine lv_iload_n hx hb d_Re_takeDataWithNames_24 rfl (lv_at hl 6 rfl) ?_
    refine lv_iload hx hb d_Re_takeDataWithNames_25 (lv_at hl 3 rfl) ?_
    refine lv_iadd hx hb d_Re_takeDataWithNames_27 ?_
    refine lv_topq (y := nI (fr + (k_bf ty))) (nI_add _ _) ?_
    refine lv_iload_n hx hb d_Re_takeDataWithNames_28 rfl (lv_at hl 7 rfl) ?_
    refine lv_icmp_le (tgt := 39) hx hb d_Re_takeDataWithNames_29 (by decide) (fun c10 => ?_) (fun c10 => ?_)
    · have c10 : fr + (k_bf ty) ≤ to := (nI_leI (a := fr + (k_bf ty)) (b := to) (by omega) (by omega)).mp c10
      have hsh : ¬ to < fr + k_bf ty := by omega
      refine lv_aload_n hx hb d_Re_takeDataWithNames_39 rfl (lv_at hl 4 rfl) ?_
      refine va_get (D := D9) (ci := 4) (C := R_Re) (T := F_Re) (N := 8) hx hb hts i_Re hown hK hP 17 ww_17 rfl 1 (by decide) (hts _ g_121) (fun _ h9 => h9) rfl d_Re_takeDataWithNames_40 ?_
      refine va_getN (D := D9) (ci := 2) (C := R_Ga) (T := F_Ga) (N := 11) hx hb hts i_Ga hown hK hP 19 ww_19 rfl 0 (by decide) (hts _ g_60) (fun _ h9 => h9) rfl d_Re_takeDataWithNames_43 ?_
      refine lv_aload_n hx hb d_Re_takeDataWithNames_46 rfl (lv_at hl 4 rfl) ?_
      refine va_get (D := D9) (ci := 4) (C := R_Re) (T := F_Re) (N := 8) hx hb hts i_Re hown hK hP 17 ww_17 rfl 0 (by decide) (hts _ g_120) (fun _ h9 => h9) rfl d_Re_takeDataWithNames_47 ?_
      refine lv_iload_n hx hb d_Re_takeDataWithNames_50 rfl (lv_at hl 6 rfl) ?_
      refine lv_iload hx hb d_Re_takeDataWithNames_51 (lv_at hl 3 rfl) ?_
      refine mw_cVN (ci := 0) (k := 3) C0 (m_By_putFrom_gb_tp l D9 cB cI cJ cG a O _ _ L t 0 fr (k_bf ty) hBL hT hL3 htl (by omega) (by omega)) g_300 g_2 g_297 g_299 gs_By_putFrom ⟨by decide +kernel, by decide +kernel, show Option.map (fun d => d.parameters.length) (parseMethodDescriptor y_By_putFrom.desc) = some 3 by decide +kernel⟩ ⟨by decide, by decide⟩ rfl rfl hP hD hS hA rfl ww_3 hl.1 (Nat.le_of_ble_eq_true rfl) rfl d_Re_takeDataWithNames_53 ⟨by decide, by decide⟩ (fun v9 w9 H locs hq hP hD hS => ?_)
      obtain ⟨I11, F12, hw9, q13⟩ := hq
      subst hw9
      obtain ⟨rfl, sfa, y3a, tFa, vBa⟩ := q13
      have hlma : (L ++ sl9 t fr (k_bf ty)).length = L.length + (k_bf ty) := by rw [List.length_append, sl9_len (by omega)]
      rw [← hlma] at y3a
      refine lv_aload_n hx hb d_Re_takeDataWithNames_56 rfl (lv_at hl 4 rfl) ?_
      refine lv_iload_n hx hb d_Re_takeDataWithNames_57 rfl (lv_at hl 6 rfl) ?_
      refine lv_iload hx hb d_Re_takeDataWithNames_58 (lv_at hl 3 rfl) ?_
      refine lv_iadd hx hb d_Re_takeDataWithNames_60 ?_
      refine lv_topq (y := nI (fr + (k_bf ty))) (nI_add _ _) ?_
      refine va_put (D := D9) (ty := .int) (ci := 4) (C := R_Re) (T := F_Re) (N := 8) hx hb hts i_Re t_Re t_Re_ok n_Re hown hK hP hD hS 17 ww_17 rfl 4 (by decide) (hts _ g_125) (fun _ h9 => h9) rfl (by decide +kernel) rfl rfl (Nat.le_of_ble_eq_true rfl) d_Re_takeDataWithNames_61 (fun H locs hP hD hS => ?_)
      obtain ⟨I14, aI14, sI14, hP, hD⟩ := fx (P := fun z => va_P D9 cls9 (WW a cB cI cJ cG z _ O) H ∧ va_D A0 (WW a cB cI cJ cG z _ O)) ⟨wp_6 hP, wd_6 hD⟩
      refine lv_iconst (v := 0) hx hb d_Re_takeDataWithNames_64 (by decide) ?_
      refine lv_topq (y := nI 0) (rfl) ?_
      refine lv_istore (lv' := [(8, _), (7, _), (6, _), (5, _), (4, _), (0, _), (1, _), (2, _), (3, _)]) hx hb d_Re_takeDataWithNames_65 hl (by decide) rfl (fun ls hl => ?_)
      refine lv_iload hx hb d_Re_takeDataWithNames_67 (lv_at hl 0 rfl) ?_
      refine lv_iload hx hb d_Re_takeDataWithNames_69 (lv_at hl 2 rfl) ?_
      refine lv_icmp_ge (tgt := 94) hx hb d_Re_takeDataWithNames_71 (by decide) (fun c15 => ?_) (fun c15 => ?_)
      · exact absurd c15 (by decide)
      · refine lv_aload_n hx hb d_Re_takeDataWithNames_74 rfl (lv_at hl 5 rfl) ?_
        refine lv_aload_n hx hb d_Re_takeDataWithNames_75 rfl (lv_at hl 5 rfl) ?_
        refine va_get (D := D9) (ci := 4) (C := R_Re) (T := F_Re) (N := 8) hx hb hts i_Re hown hK hP 17 ww_17 rfl 4 (by decide) (hts _ g_125) (fun _ h9 => h9) rfl d_Re_takeDataWithNames_76 ?_
        refine lv_topq (y := nI (fr + (k_bf ty))) (aI14) ?_
        refine lv_iload_n hx hb d_Re_takeDataWithNames_79 rfl (lv_at hl 8 rfl) ?_
        refine mw_cV (ci := 4) (k := 17) C0 (m_Re_takeName l D9 cB cI cJ cG a O _ _ t (((sI14 2 (by decide)).trans (sfa 2 (by decide))).trans hT2) htl (BR_eq hT (tFa 2 (by decide))) (L ++ sl9 t fr (k_bf ty)) to (fr + (k_bf ty)) fw ((sI14 3 (by decide)).trans y3a) (by omega) vBa (by omega) (by omega) ((sI14 7 (by decide)).trans ((sfa 7 (by decide)).trans hfw))) g_279 g_4 g_276 g_278 gs_Re_takeName ⟨by decide +kernel, by decide +kernel, show Option.map (fun d => d.parameters.length) (parseMethodDescriptor y_Re_takeName.desc) = some 2 by decide +kernel⟩ ⟨by decide, by decide⟩ rfl rfl hP hD hS hA rfl ww_17 hl.1 (Nat.le_of_ble_eq_true rfl) rfl d_Re_takeDataWithNames_80 ⟨by decide, by decide⟩ (fun v9 w9 H locs hq hP hD hS => ?_)
        obtain ⟨I16, F17, hw9, q18⟩ := hq
        subst hw9
        rcases q18 with ⟨nm1, e1, c_1, hr1, rfl, sn1, z31, z61, z71, sG1, wB1⟩ | ⟨hr1, rfl, sn1, z31, sG1, wB1⟩
        · have hbd1 := rn_bd hr1 (by decide)
          have hln1 : (L ++ sl9 t fr (k_bf ty) ++ nm1).length = (L ++ sl9 t fr (k_bf ty)).length + nm1.length := List.length_append
          refine lv_if_ne (tgt := 88) hx hb d_Re_takeDataWithNames_83 (by decide) (fun c19 => ?_) (fun c19 => ?_)
          · refine lv_iinc (lv' := [(8, .int (nI 1)), (7, _), (6, _), (5, _), (4, _), (0, _), (1, _), (2, _), (3, _)]) hx hb d_Re_takeDataWithNames_88 hl (k := 0) rfl rfl (by decide) rfl (fun ls hl => ?_)
            refine lv_goto (tgt := 67) hx hb d_Re_takeDataWithNames_91 (by decide) ?_
            refine lv_iload hx hb d_Re_takeDataWithNames_67 (lv_at hl 0 rfl) ?_
            refine lv_iload hx hb d_Re_takeDataWithNames_69 (lv_at hl 2 rfl) ?_
            refine lv_icmp_ge (tgt := 94) hx hb d_Re_takeDataWithNames_71 (by decide) (fun c20 => ?_) (fun c20 => ?_)
            · refine lv_aload_n hx hb d_Re_takeDataWithNames_94 rfl (lv_at hl 5 rfl) ?_
              refine va_get (D := D9) (ci := 4) (C := R_Re) (T := F_Re) (N := 8) hx hb hts i_Re hown hK hP 17 ww_17 rfl 5 (by decide) (hts _ g_126) (fun _ h9 => h9) rfl d_Re_takeDataWithNames_95 ?_
              refine lv_topq (y := nI (fw + c_1)) (z71) ?_
              refine lv_iload hx hb d_Re_takeDataWithNames_98 (lv_at hl 1 rfl) ?_
              refine lv_icmp_le (tgt := 114) hx hb d_Re_takeDataWithNames_100 (by decide) (fun c21 => ?_) (fun c21 => ?_)
              · have c21 : fw + c_1 ≤ fw := (nI_leI (a := fw + c_1) (b := fw) (by omega) (by omega)).mp c21
                refine lv_iconst (v := 0) hx hb d_Re_takeDataWithNames_114 (by decide) ?_
                refine lv_topq (y := nI 0) (rfl) ?_
                refine lv_istore (lv' := [(8, _), (7, _), (6, _), (5, _), (4, _), (0, _), (1, _), (2, _), (3, _)]) hx hb d_Re_takeDataWithNames_115 hl (by decide) rfl (fun ls hl => ?_)
                refine lv_iload hx hb d_Re_takeDataWithNames_117 (lv_at hl 0 rfl) ?_
                refine lv_if_ne (tgt := 133) hx hb d_Re_takeDataWithNames_119 (by decide) (fun c22 => ?_) (fun c22 => ?_)
                · exact absurd c22 (by decide)
                · refine lv_aload_n hx hb d_Re_takeDataWithNames_122 rfl (lv_at hl 5 rfl) ?_
                  refine va_get (D := D9) (ci := 4) (C := R_Re) (T := F_Re) (N := 8) hx hb hts i_Re hown hK hP 17 ww_17 rfl 4 (by decide) (hts _ g_125) (fun _ h9 => h9) rfl d_Re_takeDataWithNames_123 ?_
                  refine lv_topq (y := nI e1) (z61) ?_
                  refine lv_iload hx hb d_Re_takeDataWithNames_126 (lv_at hl 3 rfl) ?_
                  refine lv_iadd hx hb d_Re_takeDataWithNames_128 ?_
                  refine lv_topq (y := nI (e1 + (k_bh ty))) (nI_add _ _) ?_
                  refine lv_iload_n hx hb d_Re_takeDataWithNames_129 rfl (lv_at hl 8 rfl) ?_
                  refine lv_icmp_eq (tgt := 140) hx hb d_Re_takeDataWithNames_130 (by decide) (fun c23 => ?_) (fun c23 => ?_)
                  · have c23 : e1 + (k_bh ty) = to := (nI_eq (a := e1 + (k_bh ty)) (b := to) (by omega) (by omega)).mp c23
                    refine lv_aload_n hx hb d_Re_takeDataWithNames_140 rfl (lv_at hl 5 rfl) ?_
                    refine va_get (D := D9) (ci := 4) (C := R_Re) (T := F_Re) (N := 8) hx hb hts i_Re hown hK hP 17 ww_17 rfl 1 (by decide) (hts _ g_121) (fun _ h9 => h9) rfl d_Re_takeDataWithNames_141 ?_
                    refine va_getN (D := D9) (ci := 2) (C := R_Ga) (T := F_Ga) (N := 11) hx hb hts i_Ga hown hK hP 19 ww_19 rfl 0 (by decide) (hts _ g_60) (fun _ h9 => h9) rfl d_Re_takeDataWithNames_144 ?_
                    refine lv_aload_n hx hb d_Re_takeDataWithNames_147 rfl (lv_at hl 5 rfl) ?_
                    refine va_get (D := D9) (ci := 4) (C := R_Re) (T := F_Re) (N := 8) hx hb hts i_Re hown hK hP 17 ww_17 rfl 0 (by decide) (hts _ g_120) (fun _ h9 => h9) rfl d_Re_takeDataWithNames_148 ?_
                    refine lv_aload_n hx hb d_Re_takeDataWithNames_151 rfl (lv_at hl 5 rfl) ?_
                    refine va_get (D := D9) (ci := 4) (C := R_Re) (T := F_Re) (N := 8) hx hb hts i_Re hown hK hP 17 ww_17 rfl 4 (by decide) (hts _ g_125) (fun _ h9 => h9) rfl d_Re_takeDataWithNames_152 ?_
                    refine lv_topq (y := nI e1) (z61) ?_
                    refine lv_iload hx hb d_Re_takeDataWithNames_155 (lv_at hl 3 rfl) ?_
                    refine mw_cVN (ci := 0) (k := 3) C0 (m_By_putFrom_gb_tp l D9 cB cI cJ cG a O _ _ (L ++ sl9 t fr (k_bf ty) ++ nm1) t 0 e1 (k_bh ty) wB1 (BR_eq hT ((sG1 2 (by decide)).trans (tFa 2 (by decide)))) z31 htl (by omega) (by omega)) g_300 g_2 g_297 g_299 gs_By_putFrom ⟨by decide +kernel, by decide +kernel, show Option.map (fun d => d.parameters.length) (parseMethodDescriptor y_By_putFrom.desc) = some 3 by decide +kernel⟩ ⟨by decide, by decide⟩ rfl rfl hP hD hS hA rfl ww_3 hl.1 (Nat.le_of_ble_eq_true rfl) rfl d_Re_takeDataWithNames_157 ⟨by decide, by decide⟩ (fun v9 w9 H locs hq hP hD hS => ?_)
                    obtain ⟨I24, F25, hw9, q26⟩ := hq
                    subst hw9
                    obtain ⟨rfl, sfb, y3b, tFb, vBb⟩ := q26
                    have hlmb : (L ++ sl9 t fr (k_bf ty) ++ nm1 ++ sl9 t e1 (k_bh ty)).length = (L ++ sl9 t fr (k_bf ty) ++ nm1).length + (k_bh ty) := by rw [List.length_append, sl9_len (by omega)]
                    rw [← hlmb] at y3b
                    refine lv_iconst (v := 1) hx hb d_Re_takeDataWithNames_160 (by decide) ?_
                    refine lv_topq (y := nI 1) (rfl) ?_
                    exact hret _ _ _ _ _ _ _ hS hP hD d_Re_takeDataWithNames_161 (nr_z (Or.inr rfl)) (Or.inl ⟨_, _, by rw [rdN_1 hsh hr1 hk]; unfold rdF; rw [if_neg (by rintro (⟨z1, z2⟩ | z1) <;> first | omega | (rw [z2] at hsh9; cases hsh9))], rfl, (sm_tr (sm_tr (sm_tr (sm_mo sfa (by decide)) (sm_mo sI14 (by decide))) (sm_mo sn1 (by decide))) (sm_mo sfb (by decide))), (y3b).trans (congrArg nI (by simp only [List.append_assoc])), (((sfb 7 (by decide)).trans z71)).trans (congrArg nI (by omega)), (sm_tr (sm_tr (sm_mo tFa (by decide)) (sm_mo sG1 (by decide))) (sm_mo tFb (by decide))), by simpa only [List.append_assoc] using vBb⟩)
                  · have c23 : ¬ (e1 + (k_bh ty) = to) := fun z9 => c23 ((nI_eq (a := e1 + (k_bh ty)) (b := to) (by omega) (by omega)).mpr z9)
                    refine lv_aload_n hx hb d_Re_takeDataWithNames_133 rfl (lv_at hl 5 rfl) ?_
                    refine lv_iconst (v := 5) hx hb d_Re_takeDataWithNames_134 (by decide) ?_
                    refine lv_topq (y := nI 5) (rfl) ?_
                    refine lv_iload_n hx hb d_Re_takeDataWithNames_135 rfl (lv_at hl 7 rfl) ?_
                    refine mw_cV (ci := 4) (k := 17) C0 (m_Re_fail l D9 cB cI cJ cG a O _ _ (nI 5) _) g_267 g_4 g_264 g_266 gs_Re_fail ⟨by decide +kernel, by decide +kernel, show Option.map (fun d => d.parameters.length) (parseMethodDescriptor y_Re_fail.desc) = some 2 by decide +kernel⟩ ⟨by decide, by decide⟩ rfl rfl hP hD hS hA rfl ww_17 hl.1 (Nat.le_of_ble_eq_true rfl) rfl d_Re_takeDataWithNames_136 ⟨by decide, by decide⟩ (fun v9 w9 H locs hq hP hD hS => ?_)
                    obtain ⟨I27, F28, hw9, q29⟩ := hq
                    subst hw9
                    obtain ⟨rfl, sI27, zI27, rfl⟩ := q29
                    exact hret _ _ _ _ _ _ _ hS hP hD d_Re_takeDataWithNames_139 (nr_z (Or.inl rfl)) (Or.inr ⟨by rw [rdN_1 hsh hr1 hk]; unfold rdF; rw [if_pos (by first | exact Or.inl ⟨by omega, hsh9⟩ | exact Or.inr (by omega))], rfl, (sm_tr (sm_tr (sm_tr (sm_mo sfa (by decide)) (sm_mo sI14 (by decide))) (sm_mo sn1 (by decide))) (sm_mo sI27 (by decide))), (by rw [zI27]; decide), (sm_tr (sm_mo tFa (by decide)) (sm_mo sG1 (by decide))), BR_pre (BR_pre (wB1))⟩)
              · have c21 : ¬ (fw + c_1 ≤ fw) := fun z9 => c21 ((nI_leI (a := fw + c_1) (b := fw) (by omega) (by omega)).mpr z9)
                refine lv_iload_n hx hb d_Re_takeDataWithNames_103 rfl (lv_at hl 6 rfl) ?_
                refine mw_cSN C0 (m_Ki_sharesNames l D9 cB cI cJ cG a O _ _ ty hty) g_343 g_16 g_341 g_342 ⟨by decide +kernel, by decide +kernel, show Option.map (fun d => d.parameters.length) (parseMethodDescriptor y_Ki_sharesNames.desc) = some 1 by decide +kernel⟩ ⟨by decide, by decide⟩ rfl rfl hP hD hS hA hl.1 (Nat.le_of_ble_eq_true rfl) rfl d_Re_takeDataWithNames_104 ⟨by decide, by decide⟩ (fun v9 w9 H locs hq hP hD hS => ?_)
                obtain ⟨I30, F31, hw9, q32⟩ := hq
                subst hw9
                obtain ⟨rfl, rfl, rfl⟩ := q32
                refine lv_topq (y := bI (k_sh ty)) (rfl) ?_
                refine lv_if_ne (tgt := 114) hx hb d_Re_takeDataWithNames_107 (by decide) (fun c33 => ?_) (fun c33 => ?_)
                · have c33 : k_sh ty = true := bI_t c33
                  have hsh9 := c33
                  refine lv_iconst (v := 0) hx hb d_Re_takeDataWithNames_114 (by decide) ?_
                  refine lv_topq (y := nI 0) (rfl) ?_
                  refine lv_istore (lv' := [(8, _), (7, _), (6, _), (5, _), (4, _), (0, _), (1, _), (2, _), (3, _)]) hx hb d_Re_takeDataWithNames_115 hl (by decide) rfl (fun ls hl => ?_)
                  refine lv_iload hx hb d_Re_takeDataWithNames_117 (lv_at hl 0 rfl) ?_
                  refine lv_if_ne (tgt := 133) hx hb d_Re_takeDataWithNames_119 (by decide) (fun c34 => ?_) (fun c34 => ?_)
                  · exact absurd c34 (by decide)
                  · refine lv_aload_n hx hb d_Re_takeDataWithNames_122 rfl (lv_at hl 5 rfl) ?_
                    refine va_get (D := D9) (ci := 4) (C := R_Re) (T := F_Re) (N := 8) hx hb hts i_Re hown hK hP 17 ww_17 rfl 4 (by decide) (hts _ g_125) (fun _ h9 => h9) rfl d_Re_takeDataWithNames_123 ?_
                    refine lv_topq (y := nI e1) (z61) ?_
                    refine lv_iload hx hb d_Re_takeDataWithNames_126 (lv_at hl 3 rfl) ?_
                    refine lv_iadd hx hb d_Re_takeDataWithNames_128 ?_
                    refine lv_topq (y := nI (e1 + (k_bh ty))) (nI_add _ _) ?_
                    refine lv_iload_n hx hb d_Re_takeDataWithNames_129 rfl (lv_at hl 8 rfl) ?_
                    refine lv_icmp_eq (tgt := 140) hx hb d_Re_takeDataWithNames_130 (by decide) (fun c35 => ?_) (fun c35 => ?_)
                    · have c35 : e1 + (k_bh ty) = to := (nI_eq (a := e1 + (k_bh ty)) (b := to) (by omega) (by omega)).mp c35
                      refine lv_aload_n hx hb d_Re_takeDataWithNames_140 rfl (lv_at hl 5 rfl) ?_
                      refine va_get (D := D9) (ci := 4) (C := R_Re) (T := F_Re) (N := 8) hx hb hts i_Re hown hK hP 17 ww_17 rfl 1 (by decide) (hts _ g_121) (fun _ h9 => h9) rfl d_Re_takeDataWithNames_141 ?_
                      refine va_getN (D := D9) (ci := 2) (C := R_Ga) (T := F_Ga) (N := 11) hx hb hts i_Ga hown hK hP 19 ww_19 rfl 0 (by decide) (hts _ g_60) (fun _ h9 => h9) rfl d_Re_takeDataWithNames_144 ?_
                      refine lv_aload_n hx hb d_Re_takeDataWithNames_147 rfl (lv_at hl 5 rfl) ?_
                      refine va_get (D := D9) (ci := 4) (C := R_Re) (T := F_Re) (N := 8) hx hb hts i_Re hown hK hP 17 ww_17 rfl 0 (by decide) (hts _ g_120) (fun _ h9 => h9) rfl d_Re_takeDataWithNames_148 ?_
                      refine lv_aload_n hx hb d_Re_takeDataWithNames_151 rfl (lv_at hl 5 rfl) ?_
                      refine va_get (D := D9) (ci := 4) (C := R_Re) (T := F_Re) (N := 8) hx hb hts i_Re hown hK hP 17 ww_17 rfl 4 (by decide) (hts _ g_125) (fun _ h9 => h9) rfl d_Re_takeDataWithNames_152 ?_
                      refine lv_topq (y := nI e1) (z61) ?_
                      refine lv_iload hx hb d_Re_takeDataWithNames_155 (lv_at hl 3 rfl) ?_
                      refine mw_cVN (ci := 0) (k := 3) C0 (m_By_putFrom_gb_tp l D9 cB cI cJ cG a O _ _ (L ++ sl9 t fr (k_bf ty) ++ nm1) t 0 e1 (k_bh ty) wB1 (BR_eq hT ((sG1 2 (by decide)).trans (tFa 2 (by decide)))) z31 htl (by omega) (by omega)) g_300 g_2 g_297 g_299 gs_By_putFrom ⟨by decide +kernel, by decide +kernel, show Option.map (fun d => d.parameters.length) (parseMethodDescriptor y_By_putFrom.desc) = some 3 by decide +kernel⟩ ⟨by decide, by decide⟩ rfl rfl hP hD hS hA rfl ww_3 hl.1 (Nat.le_of_ble_eq_true rfl) rfl d_Re_takeDataWithNames_157 ⟨by decide, by decide⟩ (fun v9 w9 H locs hq hP hD hS => ?_)
                      obtain ⟨I36, F37, hw9, q38⟩ := hq
                      subst hw9
                      obtain ⟨rfl, sfb, y3b, tFb, vBb⟩ := q38
                      have hlmb : (L ++ sl9 t fr (k_bf ty) ++ nm1 ++ sl9 t e1 (k_bh ty)).length = (L ++ sl9 t fr (k_bf ty) ++ nm1).length + (k_bh ty) := by rw [List.length_append, sl9_len (by omega)]
                      rw [← hlmb] at y3b
                      refine lv_iconst (v := 1) hx hb d_Re_takeDataWithNames_160 (by decide) ?_
                      refine lv_topq (y := nI 1) (rfl) ?_
                      exact hret _ _ _ _ _ _ _ hS hP hD d_Re_takeDataWithNames_161 (nr_z (Or.inr rfl)) (Or.inl ⟨_, _, by rw [rdN_1 hsh hr1 hk]; unfold rdF; rw [if_neg (by rintro (⟨z1, z2⟩ | z1) <;> first | omega | (rw [z2] at hsh9; cases hsh9))], rfl, (sm_tr (sm_tr (sm_tr (sm_mo sfa (by decide)) (sm_mo sI14 (by decide))) (sm_mo sn1 (by decide))) (sm_mo sfb (by decide))), (y3b).trans (congrArg nI (by simp only [List.append_assoc])), (((sfb 7 (by decide)).trans z71)).trans (congrArg nI (by omega)), (sm_tr (sm_tr (sm_mo tFa (by decide)) (sm_mo sG1 (by decide))) (sm_mo tFb (by decide))), by simpa only [List.append_assoc] using vBb⟩)
                    · have c35 : ¬ (e1 + (k_bh ty) = to) := fun z9 => c35 ((nI_eq (a := e1 + (k_bh ty)) (b := to) (by omega) (by omega)).mpr z9)
                      refine lv_aload_n hx hb d_Re_takeDataWithNames_133 rfl (lv_at hl 5 rfl) ?_
                      refine lv_iconst (v := 5) hx hb d_Re_takeDataWithNames_134 (by decide) ?_
                      refine lv_topq (y := nI 5) (rfl) ?_
                      refine lv_iload_n hx hb d_Re_takeDataWithNames_135 rfl (lv_at hl 7 rfl) ?_
                      refine mw_cV (ci := 4) (k := 17) C0 (m_Re_fail l D9 cB cI cJ cG a O _ _ (nI 5) _) g_267 g_4 g_264 g_266 gs_Re_fail ⟨by decide +kernel, by decide +kernel, show Option.map (fun d => d.parameters.length) (parseMethodDescriptor y_Re_fail.desc) = some 2 by decide +kernel⟩ ⟨by decide, by decide⟩ rfl rfl hP hD hS hA rfl ww_17 hl.1 (Nat.le_of_ble_eq_true rfl) rfl d_Re_takeDataWithNames_136 ⟨by decide, by decide⟩ (fun v9 w9 H locs hq hP hD hS => ?_)
                      obtain ⟨I39, F40, hw9, q41⟩ := hq
                      subst hw9
                      obtain ⟨rfl, sI39, zI39, rfl⟩ := q41
                      exact hret _ _ _ _ _ _ _ hS hP hD d_Re_takeDataWithNames_139 (nr_z (Or.inl rfl)) (Or.inr ⟨by rw [rdN_1 hsh hr1 hk]; unfold rdF; rw [if_pos (by first | exact Or.inl ⟨by omega, hsh9⟩ | exact Or.inr (by omega))], rfl, (sm_tr (sm_tr (sm_tr (sm_mo sfa (by decide)) (sm_mo sI14 (by decide))) (sm_mo sn1 (by decide))) (sm_mo sI39 (by decide))), (by rw [zI39]; decide), (sm_tr (sm_mo tFa (by decide)) (sm_mo sG1 (by decide))), BR_pre (BR_pre (wB1))⟩)
                · have c33 : k_sh ty = false := bI_f c33
                  have hsh9 := c33
                  refine lv_iconst (v := 1) hx hb d_Re_takeDataWithNames_110 (by decide) ?_
                  refine lv_topq (y := nI 1) (rfl) ?_
                  refine lv_goto (tgt := 115) hx hb d_Re_takeDataWithNames_111 (by decide) ?_
                  refine lv_istore (lv' := [(8, _), (7, _), (6, _), (5, _), (4, _), (0, _), (1, _), (2, _), (3, _)]) hx hb d_Re_takeDataWithNames_115 hl (by decide) rfl (fun ls hl => ?_)
                  refine lv_iload hx hb d_Re_takeDataWithNames_117 (lv_at hl 0 rfl) ?_
                  refine lv_if_ne (tgt := 133) hx hb d_Re_takeDataWithNames_119 (by decide) (fun c42 => ?_) (fun c42 => ?_)
                  · refine lv_aload_n hx hb d_Re_takeDataWithNames_133 rfl (lv_at hl 5 rfl) ?_
                    refine lv_iconst (v := 5) hx hb d_Re_takeDataWithNames_134 (by decide) ?_
                    refine lv_topq (y := nI 5) (rfl) ?_
                    refine lv_iload_n hx hb d_Re_takeDataWithNames_135 rfl (lv_at hl 7 rfl) ?_
                    refine mw_cV (ci := 4) (k := 17) C0 (m_Re_fail l D9 cB cI cJ cG a O _ _ (nI 5) _) g_267 g_4 g_264 g_266 gs_Re_fail ⟨by decide +kernel, by decide +kernel, show Option.map (fun d => d.parameters.length) (parseMethodDescriptor y_Re_fail.desc) = some 2 by decide +kernel⟩ ⟨by decide, by decide⟩ rfl rfl hP hD hS hA rfl ww_17 hl.1 (Nat.le_of_ble_eq_true rfl) rfl d_Re_takeDataWithNames_136 ⟨by decide, by decide⟩ (fun v9 w9 H locs hq hP hD hS => ?_)
                    obtain ⟨I43, F44, hw9, q45⟩ := hq
                    subst hw9
                    obtain ⟨rfl, sI43, zI43, rfl⟩ := q45
                    exact hret _ _ _ _ _ _ _ hS hP hD d_Re_takeDataWithNames_139 (nr_z (Or.inl rfl)) (Or.inr ⟨by rw [rdN_1 hsh hr1 hk]; unfold rdF; rw [if_pos (by first | exact Or.inl ⟨by omega, hsh9⟩ | exact Or.inr (by omega))], rfl, (sm_tr (sm_tr (sm_tr (sm_mo sfa (by decide)) (sm_mo sI14 (by decide))) (sm_mo sn1 (by decide))) (sm_mo sI43 (by decide))), (by rw [zI43]; decide), (sm_tr (sm_mo tFa (by decide)) (sm_mo sG1 (by decide))), BR_pre (BR_pre (wB1))⟩)
                  · exact absurd c42 (by decide)
            · exact absurd c20 (by decide)
          · exact absurd c19 (by decide)
        · refine lv_if_ne (tgt := 88) hx hb d_Re_takeDataWithNames_83 (by decide) (fun c46 => ?_) (fun c46 => ?_)
          · exact absurd c46 (by decide)
          · refine lv_iconst (v := 0) hx hb d_Re_takeDataWithNames_86 (by decide) ?_
            refine lv_topq (y := nI 0) (rfl) ?_
            exact hret _ _ _ _ _ _ _ hS hP hD d_Re_takeDataWithNames_87 (nr_z (Or.inl rfl)) (Or.inr ⟨rdN_n1 hsh hr1, rfl, (sm_tr (sm_tr (sm_mo sfa (by decide)) (sm_mo sI14 (by decide))) (sm_mo sn1 (by decide))), z31, (sm_tr (sm_mo tFa (by decide)) (sm_mo sG1 (by decide))), BR_pre wB1⟩)
    · have c10 : ¬ (fr + (k_bf ty) ≤ to) := fun z9 => c10 ((nI_leI (a := fr + (k_bf ty)) (b := to) (by omega) (by omega)).mpr z9)
      refine lv_aload_n hx hb d_Re_takeDataWithNames_32 rfl (lv_at hl 4 rfl) ?_
      refine lv_iconst (v := 5) hx hb d_Re_takeDataWithNames_33 (by decide) ?_
      refine lv_topq (y := nI 5) (rfl) ?_
      refine lv_iload_n hx hb d_Re_takeDataWithNames_34 rfl (lv_at hl 6 rfl) ?_
      refine mw_cV (ci := 4) (k := 17) C0 (m_Re_fail l D9 cB cI cJ cG a O _ _ (nI 5) _) g_267 g_4 g_264 g_266 gs_Re_fail ⟨by decide +kernel, by decide +kernel, show Option.map (fun d => d.parameters.length) (parseMethodDescriptor y_Re_fail.desc) = some 2 by decide +kernel⟩ ⟨by decide, by decide⟩ rfl rfl hP hD hS hA rfl ww_17 hl.1 (Nat.le_of_ble_eq_true rfl) rfl d_Re_takeDataWithNames_35 ⟨by decide, by decide⟩ (fun v9 w9 H locs hq hP hD hS => ?_)
      obtain ⟨I47, F48, hw9, q49⟩ := hq
      subst hw9
      obtain ⟨rfl, sI47, zI47, rfl⟩ := q49
      exact hret _ _ _ _ _ _ _ hS hP hD d_Re_takeDataWithNames_38 (nr_z (Or.inl rfl)) (Or.inr ⟨rdN_short (by omega), rfl, (sm_mo sI47 (by decide)), (by rw [zI47]; decide), sm_rf, hBL⟩)
  · refine lv_topq (y := nI 2) (congrArg nI hk) ?_
    refine lv_istore (lv' := [(6, _), (5, _), (4, _), (0, _), (1, _), (2, _), (3, _)]) hx hb d_Re_takeDataWithNames_16 hl (by decide) rfl (fun ls hl => ?_)
    refine lv_aload_n hx hb d_Re_takeDataWithNames_18 rfl (lv_at hl 3 rfl) ?_
    refine va_get (D := D9) (ci := 4) (C := R_Re) (T := F_Re) (N := 8) hx hb hts i_Re hown hK hP 17 ww_17 rfl 5 (by decide) (hts _ g_126) (fun _ h9 => h9) rfl d_Re_takeDataWithNames_19 ?_
    refine lv_topq (y := nI fw) (hfw) ?_
    refine lv_istore (lv' := [(7, _), (6, _), (5, _), (4, _), (0, _), (1, _), (2, _), (3, _)]) hx hb d_Re_takeDataWithNames_22 hl (by decide) rfl (fun ls hl => ?_)
    refine lv_iload_n hx hb d_Re_takeDataWithNames_24 rfl (lv_at hl 6 rfl) ?_
    refine lv_iload hx hb d_Re_takeDataWithNames_25 (lv_at hl 3 rfl) ?_
    refine lv_iadd hx hb d_Re_takeDataWithNames_27 ?_
    refine lv_topq (y := nI (fr + (k_bf ty))) (nI_add _ _) ?_
    refine lv_iload_n hx hb d_Re_takeDataWithNames_28 rfl (lv_at hl 7 rfl) ?_
    refine lv_icmp_le (tgt := 39) hx hb d_Re_takeDataWithNames_29 (by decide) (fun c50 => ?_) (fun c50 => ?_)
    · have c50 : fr + (k_bf ty) ≤ to := (nI_leI (a := fr + (k_bf ty)) (b := to) (by omega) (by omega)).mp c50
      have hsh : ¬ to < fr + k_bf ty := by omega
      refine lv_aload_n hx hb d_Re_takeDataWithNames_39 rfl (lv_at hl 4 rfl) ?_
      refine va_get (D := D9) (ci := 4) (C := R_Re) (T := F_Re) (N := 8) hx hb hts i_Re hown hK hP 17 ww_17 rfl 1 (by decide) (hts _ g_121) (fun _ h9 => h9) rfl d_Re_takeDataWithNames_40 ?_
      refine va_getN (D := D9) (ci := 2) (C := R_Ga) (T := F_Ga) (N := 11) hx hb hts i_Ga hown hK hP 19 ww_19 rfl 0 (by decide) (hts _ g_60) (fun _ h9 => h9) rfl d_Re_takeDataWithNames_43 ?_
      refine lv_aload_n hx hb d_Re_takeDataWithNames_46 rfl (lv_at hl 4 rfl) ?_
      refine va_get (D := D9) (ci := 4) (C := R_Re) (T := F_Re) (N := 8) hx hb hts i_Re hown hK hP 17 ww_17 rfl 0 (by decide) (hts _ g_120) (fun _ h9 => h9) rfl d_Re_takeDataWithNames_47 ?_
      refine lv_iload_n hx hb d_Re_takeDataWithNames_50 rfl (lv_at hl 6 rfl) ?_
      refine lv_iload hx hb d_Re_takeDataWithNames_51 (lv_at hl 3 rfl) ?_
      refine mw_cVN (ci := 0) (k := 3) C0 (m_By_putFrom_gb_tp l D9 cB cI cJ cG a O _ _ L t 0 fr (k_bf ty) hBL hT hL3 htl (by omega) (by omega)) g_300 g_2 g_297 g_299 gs_By_putFrom ⟨by decide +kernel, by decide +kernel, show Option.map (fun d => d.parameters.length) (parseMethodDescriptor y_By_putFrom.desc) = some 3 by decide +kernel⟩ ⟨by decide, by decide⟩ rfl rfl hP hD hS hA rfl ww_3 hl.1 (Nat.le_of_ble_eq_true rfl) rfl d_Re_takeDataWithNames_53 ⟨by decide, by decide⟩ (fun v9 w9 H locs hq hP hD hS => ?_)
      obtain ⟨I51, F52, hw9, q53⟩ := hq
      subst hw9
      obtain ⟨rfl, sfa, y3a, tFa, vBa⟩ := q53
      have hlma : (L ++ sl9 t fr (k_bf ty)).length = L.length + (k_bf ty) := by rw [List.length_append, sl9_len (by omega)]
      rw [← hlma] at y3a
      refine lv_aload_n hx hb d_Re_takeDataWithNames_56 rfl (lv_at hl 4 rfl) ?_
      refine lv_iload_n hx hb d_Re_takeDataWithNames_57 rfl (lv_at hl 6 rfl) ?_
      refine lv_iload hx hb d_Re_takeDataWithNames_58 (lv_at hl 3 rfl) ?_
      refine lv_iadd hx hb d_Re_takeDataWithNames_60 ?_
      refine lv_topq (y := nI (fr + (k_bf ty))) (nI_add _ _) ?_
      refine va_put (D := D9) (ty := .int) (ci := 4) (C := R_Re) (T := F_Re) (N := 8) hx hb hts i_Re t_Re t_Re_ok n_Re hown hK hP hD hS 17 ww_17 rfl 4 (by decide) (hts _ g_125) (fun _ h9 => h9) rfl (by decide +kernel) rfl rfl (Nat.le_of_ble_eq_true rfl) d_Re_takeDataWithNames_61 (fun H locs hP hD hS => ?_)
      obtain ⟨I54, aI54, sI54, hP, hD⟩ := fx (P := fun z => va_P D9 cls9 (WW a cB cI cJ cG z _ O) H ∧ va_D A0 (WW a cB cI cJ cG z _ O)) ⟨wp_6 hP, wd_6 hD⟩
      refine lv_iconst (v := 0) hx hb d_Re_takeDataWithNames_64 (by decide) ?_
      refine lv_topq (y := nI 0) (rfl) ?_
      refine lv_istore (lv' := [(8, _), (7, _), (6, _), (5, _), (4, _), (0, _), (1, _), (2, _), (3, _)]) hx hb d_Re_takeDataWithNames_65 hl (by decide) rfl (fun ls hl => ?_)
      refine lv_iload hx hb d_Re_takeDataWithNames_67 (lv_at hl 0 rfl) ?_
      refine lv_iload hx hb d_Re_takeDataWithNames_69 (lv_at hl 2 rfl) ?_
      refine lv_icmp_ge (tgt := 94) hx hb d_Re_takeDataWithNames_71 (by decide) (fun c55 => ?_) (fun c55 => ?_)
      · exact absurd c55 (by decide)
      · refine lv_aload_n hx hb d_Re_takeDataWithNames_74 rfl (lv_at hl 5 rfl) ?_
        refine lv_aload_n hx hb d_Re_takeDataWithNames_75 rfl (lv_at hl 5 rfl) ?_
        refine va_get (D := D9) (ci := 4) (C := R_Re) (T := F_Re) (N := 8) hx hb hts i_Re hown hK hP 17 ww_17 rfl 4 (by decide) (hts _ g_125) (fun _ h9 => h9) rfl d_Re_takeDataWithNames_76 ?_
        refine lv_topq (y := nI (fr + (k_bf ty))) (aI54) ?_
        refine lv_iload_n hx hb d_Re_takeDataWithNames_79 rfl (lv_at hl 8 rfl) ?_
        refine mw_cV (ci := 4) (k := 17) C0 (m_Re_takeName l D9 cB cI cJ cG a O _ _ t (((sI54 2 (by decide)).trans (sfa 2 (by decide))).trans hT2) htl (BR_eq hT (tFa 2 (by decide))) (L ++ sl9 t fr (k_bf ty)) to (fr + (k_bf ty)) fw ((sI54 3 (by decide)).trans y3a) (by omega) vBa (by omega) (by omega) ((sI54 7 (by decide)).trans ((sfa 7 (by decide)).trans hfw))) g_279 g_4 g_276 g_278 gs_Re_takeName ⟨by decide +kernel, by decide +kernel, show Option.map (fun d => d.parameters.length) (parseMethodDescriptor y_Re_takeName.desc) = some 2 by decide +kernel⟩ ⟨by decide, by decide⟩ rfl rfl hP hD hS hA rfl ww_17 hl.1 (Nat.le_of_ble_eq_true rfl) rfl d_Re_takeDataWithNames_80 ⟨by decide, by decide⟩ (fun v9 w9 H locs hq hP hD hS => ?_)
        obtain ⟨I56, F57, hw9, q58⟩ := hq
        subst hw9
        rcases q58 with ⟨nm1, e1, c_1, hr1, rfl, sn1, z31, z61, z71, sG1, wB1⟩ | ⟨hr1, rfl, sn1, z31, sG1, wB1⟩
        · have hbd1 := rn_bd hr1 (by decide)
          have hln1 : (L ++ sl9 t fr (k_bf ty) ++ nm1).length = (L ++ sl9 t fr (k_bf ty)).length + nm1.length := List.length_append
          refine lv_if_ne (tgt := 88) hx hb d_Re_takeDataWithNames_83 (by decide) (fun c59 => ?_) (fun c59 => ?_)
          · refine lv_iinc (lv' := [(8, .int (nI 1)), (7, _), (6, _), (5, _), (4, _), (0, _), (1, _), (2, _), (3, _)]) hx hb d_Re_takeDataWithNames_88 hl (k := 0) rfl rfl (by decide) rfl (fun ls hl => ?_)
            refine lv_goto (tgt := 67) hx hb d_Re_takeDataWithNames_91 (by decide) ?_
            refine lv_iload hx hb d_Re_takeDataWithNames_67 (lv_at hl 0 rfl) ?_
            refine lv_iload hx hb d_Re_takeDataWithNames_69 (lv_at hl 2 rfl) ?_
            refine lv_icmp_ge (tgt := 94) hx hb d_Re_takeDataWithNames_71 (by decide) (fun c60 => ?_) (fun c60 => ?_)
            · exact absurd c60 (by decide)
            · refine lv_aload_n hx hb d_Re_takeDataWithNames_74 rfl (lv_at hl 5 rfl) ?_
              refine lv_aload_n hx hb d_Re_takeDataWithNames_75 rfl (lv_at hl 5 rfl) ?_
              refine va_get (D := D9) (ci := 4) (C := R_Re) (T := F_Re) (N := 8) hx hb hts i_Re hown hK hP 17 ww_17 rfl 4 (by decide) (hts _ g_125) (fun _ h9 => h9) rfl d_Re_takeDataWithNames_76 ?_
              refine lv_topq (y := nI e1) (z61) ?_
              refine lv_iload_n hx hb d_Re_takeDataWithNames_79 rfl (lv_at hl 8 rfl) ?_
              refine mw_cV (ci := 4) (k := 17) C0 (m_Re_takeName l D9 cB cI cJ cG a O _ _ t (((sn1 2 (by decide)).trans ((sI54 2 (by decide)).trans (sfa 2 (by decide)))).trans hT2) htl (BR_eq hT ((sG1 2 (by decide)).trans (tFa 2 (by decide)))) (L ++ sl9 t fr (k_bf ty) ++ nm1) to e1 (fw + c_1) z31 (by omega) wB1 (by omega) (by omega) z71) g_279 g_4 g_276 g_278 gs_Re_takeName ⟨by decide +kernel, by decide +kernel, show Option.map (fun d => d.parameters.length) (parseMethodDescriptor y_Re_takeName.desc) = some 2 by decide +kernel⟩ ⟨by decide, by decide⟩ rfl rfl hP hD hS hA rfl ww_17 hl.1 (Nat.le_of_ble_eq_true rfl) rfl d_Re_takeDataWithNames_80 ⟨by decide, by decide⟩ (fun v9 w9 H locs hq hP hD hS => ?_)
              obtain ⟨I61, F62, hw9, q63⟩ := hq
              subst hw9
              rcases q63 with ⟨nm2, e2, c_2, hr2, rfl, sn2, z32, z62, z72, sG2, wB2⟩ | ⟨hr2, rfl, sn2, z32, sG2, wB2⟩
              · have hbd2 := rn_bd hr2 (by decide)
                have hln2 : (L ++ sl9 t fr (k_bf ty) ++ nm1 ++ nm2).length = (L ++ sl9 t fr (k_bf ty) ++ nm1).length + nm2.length := List.length_append
                refine lv_if_ne (tgt := 88) hx hb d_Re_takeDataWithNames_83 (by decide) (fun c64 => ?_) (fun c64 => ?_)
                · refine lv_iinc (lv' := [(8, .int (nI 2)), (7, _), (6, _), (5, _), (4, _), (0, _), (1, _), (2, _), (3, _)]) hx hb d_Re_takeDataWithNames_88 hl (k := 0) rfl rfl (by decide) rfl (fun ls hl => ?_)
                  refine lv_goto (tgt := 67) hx hb d_Re_takeDataWithNames_91 (by decide) ?_
                  refine lv_iload hx hb d_Re_takeDataWithNames_67 (lv_at hl 0 rfl) ?_
                  refine lv_iload hx hb d_Re_takeDataWithNames_69 (lv_at hl 2 rfl) ?_
                  refine lv_icmp_ge (tgt := 94) hx hb d_Re_takeDataWithNames_71 (by decide) (fun c65 => ?_) (fun c65 => ?_)
                  · refine lv_aload_n hx hb d_Re_takeDataWithNames_94 rfl (lv_at hl 5 rfl) ?_
                    refine va_get (D := D9) (ci := 4) (C := R_Re) (T := F_Re) (N := 8) hx hb hts i_Re hown hK hP 17 ww_17 rfl 5 (by decide) (hts _ g_126) (fun _ h9 => h9) rfl d_Re_takeDataWithNames_95 ?_
                    refine lv_topq (y := nI (fw + c_1 + c_2)) (z72) ?_
                    refine lv_iload hx hb d_Re_takeDataWithNames_98 (lv_at hl 1 rfl) ?_
                    refine lv_icmp_le (tgt := 114) hx hb d_Re_takeDataWithNames_100 (by decide) (fun c66 => ?_) (fun c66 => ?_)
                    · have c66 : fw + c_1 + c_2 ≤ fw := (nI_leI (a := fw + c_1 + c_2) (b := fw) (by omega) (by omega)).mp c66
                      refine lv_iconst (v := 0) hx hb d_Re_takeDataWithNames_114 (by decide) ?_
                      refine lv_topq (y := nI 0) (rfl) ?_
                      refine lv_istore (lv' := [(8, _), (7, _), (6, _), (5, _), (4, _), (0, _), (1, _), (2, _), (3, _)]) hx hb d_Re_takeDataWithNames_115 hl (by decide) rfl (fun ls hl => ?_)
                      refine lv_iload hx hb d_Re_takeDataWithNames_117 (lv_at hl 0 rfl) ?_
                      refine lv_if_ne (tgt := 133) hx hb d_Re_takeDataWithNames_119 (by decide) (fun c67 => ?_) (fun c67 => ?_)
                      · exact absurd c67 (by decide)
                      · refine lv_aload_n hx hb d_Re_takeDataWithNames_122 rfl (lv_at hl 5 rfl) ?_
                        refine va_get (D := D9) (ci := 4) (C := R_Re) (T := F_Re) (N := 8) hx hb hts i_Re hown hK hP 17 ww_17 rfl 4 (by decide) (hts _ g_125) (fun _ h9 => h9) rfl d_Re_takeDataWithNames_123 ?_
                        refine lv_topq (y := nI e2) (z62) ?_
                        refine lv_iload hx hb d_Re_takeDataWithNames_126 (lv_at hl 3 rfl) ?_
                        refine lv_iadd hx hb d_Re_takeDataWithNames_128 ?_
                        refine lv_topq (y := nI (e2 + (k_bh ty))) (nI_add _ _) ?_
                        refine lv_iload_n hx hb d_Re_takeDataWithNames_129 rfl (lv_at hl 8 rfl) ?_
                        refine lv_icmp_eq (tgt := 140) hx hb d_Re_takeDataWithNames_130 (by decide) (fun c68 => ?_) (fun c68 => ?_)
                        · have c68 : e2 + (k_bh ty) = to := (nI_eq (a := e2 + (k_bh ty)) (b := to) (by omega) (by omega)).mp c68
                          refine lv_aload_n hx hb d_Re_takeDataWithNames_140 rfl (lv_at hl 5 rfl) ?_
                          refine va_get (D := D9) (ci := 4) (C := R_Re) (T := F_Re) (N := 8) hx hb hts i_Re hown hK hP 17 ww_17 rfl 1 (by decide) (hts _ g_121) (fun _ h9 => h9) rfl d_Re_takeDataWithNames_141 ?_
                          refine va_getN (D := D9) (ci := 2) (C := R_Ga) (T := F_Ga) (N := 11) hx hb hts i_Ga hown hK hP 19 ww_19 rfl 0 (by decide) (hts _ g_60) (fun _ h9 => h9) rfl d_Re_takeDataWithNames_144 ?_
                          refine lv_aload_n hx hb d_Re_takeDataWithNames_147 rfl (lv_at hl 5 rfl) ?_
                          refine va_get (D := D9) (ci := 4) (C := R_Re) (T := F_Re) (N := 8) hx hb hts i_Re hown hK hP 17 ww_17 rfl 0 (by decide) (hts _ g_120) (fun _ h9 => h9) rfl d_Re_takeDataWithNames_148 ?_
                          refine lv_aload_n hx hb d_Re_takeDataWithNames_151 rfl (lv_at hl 5 rfl) ?_
                          refine va_get (D := D9) (ci := 4) (C := R_Re) (T := F_Re) (N := 8) hx hb hts i_Re hown hK hP 17 ww_17 rfl 4 (by decide) (hts _ g_125) (fun _ h9 => h9) rfl d_Re_takeDataWithNames_152 ?_
                          refine lv_topq (y := nI e2) (z62) ?_
                          refine lv_iload hx hb d_Re_takeDataWithNames_155 (lv_at hl 3 rfl) ?_
                          refine mw_cVN (ci := 0) (k := 3) C0 (m_By_putFrom_gb_tp l D9 cB cI cJ cG a O _ _ (L ++ sl9 t fr (k_bf ty) ++ nm1 ++ nm2) t 0 e2 (k_bh ty) wB2 (BR_eq hT ((sG2 2 (by decide)).trans ((sG1 2 (by decide)).trans (tFa 2 (by decide))))) z32 htl (by omega) (by omega)) g_300 g_2 g_297 g_299 gs_By_putFrom ⟨by decide +kernel, by decide +kernel, show Option.map (fun d => d.parameters.length) (parseMethodDescriptor y_By_putFrom.desc) = some 3 by decide +kernel⟩ ⟨by decide, by decide⟩ rfl rfl hP hD hS hA rfl ww_3 hl.1 (Nat.le_of_ble_eq_true rfl) rfl d_Re_takeDataWithNames_157 ⟨by decide, by decide⟩ (fun v9 w9 H locs hq hP hD hS => ?_)
                          obtain ⟨I69, F70, hw9, q71⟩ := hq
                          subst hw9
                          obtain ⟨rfl, sfb, y3b, tFb, vBb⟩ := q71
                          have hlmb : (L ++ sl9 t fr (k_bf ty) ++ nm1 ++ nm2 ++ sl9 t e2 (k_bh ty)).length = (L ++ sl9 t fr (k_bf ty) ++ nm1 ++ nm2).length + (k_bh ty) := by rw [List.length_append, sl9_len (by omega)]
                          rw [← hlmb] at y3b
                          refine lv_iconst (v := 1) hx hb d_Re_takeDataWithNames_160 (by decide) ?_
                          refine lv_topq (y := nI 1) (rfl) ?_
                          exact hret _ _ _ _ _ _ _ hS hP hD d_Re_takeDataWithNames_161 (nr_z (Or.inr rfl)) (Or.inl ⟨_, _, by rw [rdN_2 hsh hr1 hk hr2]; unfold rdF; rw [if_neg (by rintro (⟨z1, z2⟩ | z1) <;> first | omega | (rw [z2] at hsh9; cases hsh9))], rfl, (sm_tr (sm_tr (sm_tr (sm_tr (sm_mo sfa (by decide)) (sm_mo sI54 (by decide))) (sm_mo sn1 (by decide))) (sm_mo sn2 (by decide))) (sm_mo sfb (by decide))), (y3b).trans (congrArg nI (by simp only [List.append_assoc])), (((sfb 7 (by decide)).trans z72)).trans (congrArg nI (by omega)), (sm_tr (sm_tr (sm_tr (sm_mo tFa (by decide)) (sm_mo sG1 (by decide))) (sm_mo sG2 (by decide))) (sm_mo tFb (by decide))), by simpa only [List.append_assoc] using vBb⟩)
                        · have c68 : ¬ (e2 + (k_bh ty) = to) := fun z9 => c68 ((nI_eq (a := e2 + (k_bh ty)) (b := to) (by omega) (by omega)).mpr z9)
                          refine lv_aload_n hx hb d_Re_takeDataWithNames_133 rfl (lv_at hl 5 rfl) ?_
                          refine lv_iconst (v := 5) hx hb d_Re_takeDataWithNames_134 (by decide) ?_
                          refine lv_topq (y := nI 5) (rfl) ?_
                          refine lv_iload_n hx hb d_Re_takeDataWithNames_135 rfl (lv_at hl 7 rfl) ?_
                          refine mw_cV (ci := 4) (k := 17) C0 (m_Re_fail l D9 cB cI cJ cG a O _ _ (nI 5) _) g_267 g_4 g_264 g_266 gs_Re_fail ⟨by decide +kernel, by decide +kernel, show Option.map (fun d => d.parameters.length) (parseMethodDescriptor y_Re_fail.desc) = some 2 by decide +kernel⟩ ⟨by decide, by decide⟩ rfl rfl hP hD hS hA rfl ww_17 hl.1 (Nat.le_of_ble_eq_true rfl) rfl d_Re_takeDataWithNames_136 ⟨by decide, by decide⟩ (fun v9 w9 H locs hq hP hD hS => ?_)
                          obtain ⟨I72, F73, hw9, q74⟩ := hq
                          subst hw9
                          obtain ⟨rfl, sI72, zI72, rfl⟩ := q74
                          exact hret _ _ _ _ _ _ _ hS hP hD d_Re_takeDataWithNames_139 (nr_z (Or.inl rfl)) (Or.inr ⟨by rw [rdN_2 hsh hr1 hk hr2]; unfold rdF; rw [if_pos (by first | exact Or.inl ⟨by omega, hsh9⟩ | exact Or.inr (by omega))], rfl, (sm_tr (sm_tr (sm_tr (sm_tr (sm_mo sfa (by decide)) (sm_mo sI54 (by decide))) (sm_mo sn1 (by decide))) (sm_mo sn2 (by decide))) (sm_mo sI72 (by decide))), (by rw [zI72]; decide), (sm_tr (sm_tr (sm_mo tFa (by decide)) (sm_mo sG1 (by decide))) (sm_mo sG2 (by decide))), BR_pre (BR_pre (BR_pre (wB2)))⟩)
                    · have c66 : ¬ (fw + c_1 + c_2 ≤ fw) := fun z9 => c66 ((nI_leI (a := fw + c_1 + c_2) (b := fw) (by omega) (by omega)).mpr z9)
                      refine lv_iload_n hx hb d_Re_takeDataWithNames_103 rfl (lv_at hl 6 rfl) ?_
                      refine mw_cSN C0 (m_Ki_sharesNames l D9 cB cI cJ cG a O _ _ ty hty) g_343 g_16 g_341 g_342 ⟨by decide +kernel, by decide +kernel, show Option.map (fun d => d.parameters.length) (parseMethodDescriptor y_Ki_sharesNames.desc) = some 1 by decide +kernel⟩ ⟨by decide, by decide⟩ rfl rfl hP hD hS hA hl.1 (Nat.le_of_ble_eq_true rfl) rfl d_Re_takeDataWithNames_104 ⟨by decide, by decide⟩ (fun v9 w9 H locs hq hP hD hS => ?_)
                      obtain ⟨I75, F76, hw9, q77⟩ := hq
                      subst hw9
                      obtain ⟨rfl, rfl, rfl⟩ := q77
                      refine lv_topq (y := bI (k_sh ty)) (rfl) ?_
                      refine lv_if_ne (tgt := 114) hx hb d_Re_takeDataWithNames_107 (by decide) (fun c78 => ?_) (fun c78 => ?_)
                      · have c78 : k_sh ty = true := bI_t c78
                        have hsh9 := c78
                        refine lv_iconst (v := 0) hx hb d_Re_takeDataWithNames_114 (by decide) ?_
                        refine lv_topq (y := nI 0) (rfl) ?_
                        refine lv_istore (lv' := [(8, _), (7, _), (6, _), (5, _), (4, _), (0, _), (1, _), (2, _), (3, _)]) hx hb d_Re_takeDataWithNames_115 hl (by decide) rfl (fun ls hl => ?_)
                        refine lv_iload hx hb d_Re_takeDataWithNames_117 (lv_at hl 0 rfl) ?_
                        refine lv_if_ne (tgt := 133) hx hb d_Re_takeDataWithNames_119 (by decide) (fun c79 => ?_) (fun c79 => ?_)
                        · exact absurd c79 (by decide)
                        · refine lv_aload_n hx hb d_Re_takeDataWithNames_122 rfl (lv_at hl 5 rfl) ?_
                          refine va_get (D := D9) (ci := 4) (C := R_Re) (T := F_Re) (N := 8) hx hb hts i_Re hown hK hP 17 ww_17 rfl 4 (by decide) (hts _ g_125) (fun _ h9 => h9) rfl d_Re_takeDataWithNames_123 ?_
                          refine lv_topq (y := nI e2) (z62) ?_
                          refine lv_iload hx hb d_Re_takeDataWithNames_126 (lv_at hl 3 rfl) ?_
                          refine lv_iadd hx hb d_Re_takeDataWithNames_128 ?_
                          refine lv_topq (y := nI (e2 + (k_bh ty))) (nI_add _ _) ?_
                          refine lv_iload_n hx hb d_Re_takeDataWithNames_129 rfl (lv_at hl 8 rfl) ?_
                          refine lv_icmp_eq (tgt := 140) hx hb d_Re_takeDataWithNames_130 (by decide) (fun c80 => ?_) (fun c80 => ?_)
                          · have c80 : e2 + (k_bh ty) = to := (nI_eq (a := e2 + (k_bh ty)) (b := to) (by omega) (by omega)).mp c80
                            refine lv_aload_n hx hb d_Re_takeDataWithNames_140 rfl (lv_at hl 5 rfl) ?_
                            refine va_get (D := D9) (ci := 4) (C := R_Re) (T := F_Re) (N := 8) hx hb hts i_Re hown hK hP 17 ww_17 rfl 1 (by decide) (hts _ g_121) (fun _ h9 => h9) rfl d_Re_takeDataWithNames_141 ?_
                            refine va_getN (D := D9) (ci := 2) (C := R_Ga) (T := F_Ga) (N := 11) hx hb hts i_Ga hown hK hP 19 ww_19 rfl 0 (by decide) (hts _ g_60) (fun _ h9 => h9) rfl d_Re_takeDataWithNames_144 ?_
                            refine lv_aload_n hx hb d_Re_takeDataWithNames_147 rfl (lv_at hl 5 rfl) ?_
                            refine va_get (D := D9) (ci := 4) (C := R_Re) (T := F_Re) (N := 8) hx hb hts i_Re hown hK hP 17 ww_17 rfl 0 (by decide) (hts _ g_120) (fun _ h9 => h9) rfl d_Re_takeDataWithNames_148 ?_
                            refine lv_aload_n hx hb d_Re_takeDataWithNames_151 rfl (lv_at hl 5 rfl) ?_
                            refine va_get (D := D9) (ci := 4) (C := R_Re) (T := F_Re) (N := 8) hx hb hts i_Re hown hK hP 17 ww_17 rfl 4 (by decide) (hts _ g_125) (fun _ h9 => h9) rfl d_Re_takeDataWithNames_152 ?_
                            refine lv_topq (y := nI e2) (z62) ?_
                            refine lv_iload hx hb d_Re_takeDataWithNames_155 (lv_at hl 3 rfl) ?_
                            refine mw_cVN (ci := 0) (k := 3) C0 (m_By_putFrom_gb_tp l D9 cB cI cJ cG a O _ _ (L ++ sl9 t fr (k_bf ty) ++ nm1 ++ nm2) t 0 e2 (k_bh ty) wB2 (BR_eq hT ((sG2 2 (by decide)).trans ((sG1 2 (by decide)).trans (tFa 2 (by decide))))) z32 htl (by omega) (by omega)) g_300 g_2 g_297 g_299 gs_By_putFrom ⟨by decide +kernel, by decide +kernel, show Option.map (fun d => d.parameters.length) (parseMethodDescriptor y_By_putFrom.desc) = some 3 by decide +kernel⟩ ⟨by decide, by decide⟩ rfl rfl hP hD hS hA rfl ww_3 hl.1 (Nat.le_of_ble_eq_true rfl) rfl d_Re_takeDataWithNames_157 ⟨by decide, by decide⟩ (fun v9 w9 H locs hq hP hD hS => ?_)
                            obtain ⟨I81, F82, hw9, q83⟩ := hq
                            subst hw9
                            obtain ⟨rfl, sfb, y3b, tFb, vBb⟩ := q83
                            have hlmb : (L ++ sl9 t fr (k_bf ty) ++ nm1 ++ nm2 ++ sl9 t e2 (k_bh ty)).length = (L ++ sl9 t fr (k_bf ty) ++ nm1 ++ nm2).length + (k_bh ty) := by rw [List.length_append, sl9_len (by omega)]
                            rw [← hlmb] at y3b
                            refine lv_iconst (v := 1) hx hb d_Re_takeDataWithNames_160 (by decide) ?_
                            refine lv_topq (y := nI 1) (rfl) ?_
                            exact hret _ _ _ _ _ _ _ hS hP hD d_Re_takeDataWithNames_161 (nr_z (Or.inr rfl)) (Or.inl ⟨_, _, by rw [rdN_2 hsh hr1 hk hr2]; unfold rdF; rw [if_neg (by rintro (⟨z1, z2⟩ | z1) <;> first | omega | (rw [z2] at hsh9; cases hsh9))], rfl, (sm_tr (sm_tr (sm_tr (sm_tr (sm_mo sfa (by decide)) (sm_mo sI54 (by decide))) (sm_mo sn1 (by decide))) (sm_mo sn2 (by decide))) (sm_mo sfb (by decide))), (y3b).trans (congrArg nI (by simp only [List.append_assoc])), (((sfb 7 (by decide)).trans z72)).trans (congrArg nI (by omega)), (sm_tr (sm_tr (sm_tr (sm_mo tFa (by decide)) (sm_mo sG1 (by decide))) (sm_mo sG2 (by decide))) (sm_mo tFb (by decide))), by simpa only [List.append_assoc] using vBb⟩)
                          · have c80 : ¬ (e2 + (k_bh ty) = to) := fun z9 => c80 ((nI_eq (a := e2 + (k_bh ty)) (b := to) (by omega) (by omega)).mpr z9)
                            refine lv_aload_n hx hb d_Re_takeDataWithNames_133 rfl (lv_at hl 5 rfl) ?_
                            refine lv_iconst (v := 5) hx hb d_Re_takeDataWithNames_134 (by decide) ?_
                            refine lv_topq (y := nI 5) (rfl) ?_
                            refine lv_iload_n hx hb d_Re_takeDataWithNames_135 rfl (lv_at hl 7 rfl) ?_
                            refine mw_cV (ci := 4) (k := 17) C0 (m_Re_fail l D9 cB cI cJ cG a O _ _ (nI 5) _) g_267 g_4 g_264 g_266 gs_Re_fail ⟨by decide +kernel, by decide +kernel, show Option.map (fun d => d.parameters.length) (parseMethodDescriptor y_Re_fail.desc) = some 2 by decide +kernel⟩ ⟨by decide, by decide⟩ rfl rfl hP hD hS hA rfl ww_17 hl.1 (Nat.le_of_ble_eq_true rfl) rfl d_Re_takeDataWithNames_136 ⟨by decide, by decide⟩ (fun v9 w9 H locs hq hP hD hS => ?_)
                            obtain ⟨I84, F85, hw9, q86⟩ := hq
                            subst hw9
                            obtain ⟨rfl, sI84, zI84, rfl⟩ := q86
                            exact hret _ _ _ _ _ _ _ hS hP hD d_Re_takeDataWithNames_139 (nr_z (Or.inl rfl)) (Or.inr ⟨by rw [rdN_2 hsh hr1 hk hr2]; unfold rdF; rw [if_pos (by first | exact Or.inl ⟨by omega, hsh9⟩ | exact Or.inr (by omega))], rfl, (sm_tr (sm_tr (sm_tr (sm_tr (sm_mo sfa (by decide)) (sm_mo sI54 (by decide))) (sm_mo sn1 (by decide))) (sm_mo sn2 (by decide))) (sm_mo sI84 (by decide))), (by rw [zI84]; decide), (sm_tr (sm_tr (sm_mo tFa (by decide)) (sm_mo sG1 (by decide))) (sm_mo sG2 (by decide))), BR_pre (BR_pre (BR_pre (wB2)))⟩)
                      · have c78 : k_sh ty = false := bI_f c78
                        have hsh9 := c78
                        refine lv_iconst (v := 1) hx hb d_Re_takeDataWithNames_110 (by decide) ?_
                        refine lv_topq (y := nI 1) (rfl) ?_
                        refine lv_goto (tgt := 115) hx hb d_Re_takeDataWithNames_111 (by decide) ?_
                        refine lv_istore (lv' := [(8, _), (7, _), (6, _), (5, _), (4, _), (0, _), (1, _), (2, _), (3, _)]) hx hb d_Re_takeDataWithNames_115 hl (by decide) rfl (fun ls hl => ?_)
                        refine lv_iload hx hb d_Re_takeDataWithNames_117 (lv_at hl 0 rfl) ?_
                        refine lv_if_ne (tgt := 133) hx hb d_Re_takeDataWithNames_119 (by decide) (fun c87 => ?_) (fun c87 => ?_)
                        · refine lv_aload_n hx hb d_Re_takeDataWithNames_133 rfl (lv_at hl 5 rfl) ?_
                          refine lv_iconst (v := 5) hx hb d_Re_takeDataWithNames_134 (by decide) ?_
                          refine lv_topq (y := nI 5) (rfl) ?_
                          refine lv_iload_n hx hb d_Re_takeDataWithNames_135 rfl (lv_at hl 7 rfl) ?_
                          refine mw_cV (ci := 4) (k := 17) C0 (m_Re_fail l D9 cB cI cJ cG a O _ _ (nI 5) _) g_267 g_4 g_264 g_266 gs_Re_fail ⟨by decide +kernel, by decide +kernel, show Option.map (fun d => d.parameters.length) (parseMethodDescriptor y_Re_fail.desc) = some 2 by decide +kernel⟩ ⟨by decide, by decide⟩ rfl rfl hP hD hS hA rfl ww_17 hl.1 (Nat.le_of_ble_eq_true rfl) rfl d_Re_takeDataWithNames_136 ⟨by decide, by decide⟩ (fun v9 w9 H locs hq hP hD hS => ?_)
                          obtain ⟨I88, F89, hw9, q90⟩ := hq
                          subst hw9
                          obtain ⟨rfl, sI88, zI88, rfl⟩ := q90
                          exact hret _ _ _ _ _ _ _ hS hP hD d_Re_takeDataWithNames_139 (nr_z (Or.inl rfl)) (Or.inr ⟨by rw [rdN_2 hsh hr1 hk hr2]; unfold rdF; rw [if_pos (by first | exact Or.inl ⟨by omega, hsh9⟩ | exact Or.inr (by omega))], rfl, (sm_tr (sm_tr (sm_tr (sm_tr (sm_mo sfa (by decide)) (sm_mo sI54 (by decide))) (sm_mo sn1 (by decide))) (sm_mo sn2 (by decide))) (sm_mo sI88 (by decide))), (by rw [zI88]; decide), (sm_tr (sm_tr (sm_mo tFa (by decide)) (sm_mo sG1 (by decide))) (sm_mo sG2 (by decide))), BR_pre (BR_pre (BR_pre (wB2)))⟩)
                        · exact absurd c87 (by decide)
                  · exact absurd c65 (by decide)
                · exact absurd c64 (by decide)
              · refine lv_if_ne (tgt := 88) hx hb d_Re_takeDataWithNames_83 (by decide) (fun c91 => ?_) (fun c91 => ?_)
                · exact absurd c91 (by decide)
                · refine lv_iconst (v := 0) hx hb d_Re_takeDataWithNames_86 (by decide) ?_
                  refine lv_topq (y := nI 0) (rfl) ?_
                  exact hret _ _ _ _ _ _ _ hS hP hD d_Re_takeDataWithNames_87 (nr_z (Or.inl rfl)) (Or.inr ⟨rdN_n2 hsh hr1 hk hr2, rfl, (sm_tr (sm_tr (sm_tr (sm_mo sfa (by decide)) (sm_mo sI54 (by decide))) (sm_mo sn1 (by decide))) (sm_mo sn2 (by decide))), z32, (sm_tr (sm_tr (sm_mo tFa (by decide)) (sm_mo sG1 (by decide))) (sm_mo sG2 (by decide))), BR_pre (BR_pre wB2)⟩)
          · exact absurd c59 (by decide)
        · refine lv_if_ne (tgt := 88) hx hb d_Re_takeDataWithNames_83 (by decide) (fun c92 => ?_) (fun c92 => ?_)
          · exact absurd c92 (by decide)
          · refine lv_iconst (v := 0) hx hb d_Re_takeDataWithNames_86 (by decide) ?_
            refine lv_topq (y := nI 0) (rfl) ?_
            exact hret _ _ _ _ _ _ _ hS hP hD d_Re_takeDataWithNames_87 (nr_z (Or.inl rfl)) (Or.inr ⟨rdN_n1 hsh hr1, rfl, (sm_tr (sm_tr (sm_mo sfa (by decide)) (sm_mo sI54 (by decide))) (sm_mo sn1 (by decide))), z31, (sm_tr (sm_mo tFa (by decide)) (sm_mo sG1 (by decide))), BR_pre wB1⟩)
    · have c50 : ¬ (fr + (k_bf ty) ≤ to) := fun z9 => c50 ((nI_leI (a := fr + (k_bf ty)) (b := to) (by omega) (by omega)).mpr z9)
      refine lv_aload_n hx hb d_Re_takeDataWithNames_32 rfl (lv_at hl 4 rfl) ?_
      refine lv_iconst (v := 5) hx hb d_Re_takeDataWithNames_33 (by decide) ?_
      refine lv_topq (y := nI 5) (rfl) ?_
      refine lv_iload_n hx hb d_Re_takeDataWithNames_34 rfl (lv_at hl 6 rfl) ?_
      refine mw_cV (ci := 4) (k := 17) C0 (m_Re_fail l D9 cB cI cJ cG a O _ _ (nI 5) _) g_267 g_4 g_264 g_266 gs_Re_fail ⟨by decide +kernel, by decide +kernel, show Option.map (fun d => d.parameters.length) (parseMethodDescriptor y_Re_fail.desc) = some 2 by decide +kernel⟩ ⟨by decide, by decide⟩ rfl rfl hP hD hS hA rfl ww_17 hl.1 (Nat.le_of_ble_eq_true rfl) rfl d_Re_takeDataWithNames_35 ⟨by decide, by decide⟩ (fun v9 w9 H locs hq hP hD hS => ?_)
      obtain ⟨I93, F94, hw9, q95⟩ := hq
      subst hw9
      obtain ⟨rfl, sI93, zI93, rfl⟩ := q95
      exact hret _ _ _ _ _ _ _ hS hP hD d_Re_takeDataWithNames_38 (nr_z (Or.inl rfl)) (Or.inr ⟨rdN_short (by omega), rfl, (sm_mo sI93 (by decide)), (by rw [zI93]; decide), sm_rf, hBL⟩)
set_option maxHeartbeats 4000000 in
set_option maxRecDepth 100000 in
/-- Reader.takeData -/
theorem m_Re_takeData (l : Launch) (D9 : va_G) (cB cI cJ cG : ClassId) (a : Nat → Nat) (O : Nat → Int64) (I : Nat → Int32) (F : Nat → Nat → Int32) (t : List Nat) (hT2 : I 2 = nI t.length) (htl : t.length ≤ 65536) (hT : BR 0 65536 (F 2) t) (L : List Nat) (ty fr to fw : Nat) (hL3 : I 3 = nI L.length) (hLb : L.length < 300000) (hBL : BR 0 65536 (F 4) L) (hty : ty < 65536) (hfr : fr ≤ to) (hto : to ≤ t.length) (hfw : I 7 = nI fw) (hfb : fw < 100000000) (ol : Nat) (hol : I 8 = nI ol) (hob : ol < 1000000) : MC l D9 cB cI cJ cG a O y_Re_takeData b_Re_takeData 4 (some .boolean) 5 [.ref (a 17), .int (nI ty), .int (nI fr), .int (nI to)] I F (fun v I' F' => (∃ d c, rdD t ty fr to ol = some (d, c) ∧ v = some (.int (nI 1)) ∧ sm [3, 6, 7, 9] I I' ∧ I' 3 = nI (L ++ d).length ∧ I' 7 = nI (fw + c) ∧ sm [4] F F' ∧ BR 0 65536 (F' 4) (L ++ d)) ∨ (rdD t ty fr to ol = none ∧ v = some (.int (nI 0)) ∧ sm [3, 4, 5, 6, 7, 9] I I' ∧ ¬ I' 4 = 0 ∧ sm [4] F F' ∧ BR 0 65536 (F' 4) L)) := by
  refine mc_of (by decide) (Nat.le_of_ble_eq_true rfl) ?_
  intro p e s m below meth c ls A0 Q C0 hP hD hA hS hl hret
  obtain ⟨hx, hb, hml, hr, hlocks, hown, hts, hK⟩ := id C0
  have hl : lv_has ls 4 [(0, .ref (a 17)), (1, .int (nI ty)), (2, .int (nI fr)), (3, .int (nI to))] := hl
  have knm := k_nm_lt ty
  refine lv_aload_n hx hb d_Re_takeData_0 rfl (lv_at hl 0 rfl) ?_
  refine lv_iload_n hx hb d_Re_takeData_1 rfl (lv_at hl 2 rfl) ?_
  refine va_put (D := D9) (ty := .int) (ci := 4) (C := R_Re) (T := F_Re) (N := 8) hx hb hts i_Re t_Re t_Re_ok n_Re hown hK hP hD hS 17 ww_17 rfl 7 (by decide) (hts _ g_130) (fun _ h9 => h9) rfl (by decide +kernel) rfl rfl (Nat.le_of_ble_eq_true rfl) d_Re_takeData_2 (fun H locs hP hD hS => ?_)
  obtain ⟨I1, aI1, sI1, hP, hD⟩ := fx (P := fun z => va_P D9 cls9 (WW a cB cI cJ cG z _ O) H ∧ va_D A0 (WW a cB cI cJ cG z _ O)) ⟨wp_9 hP, wd_9 hD⟩
  refine lv_iload_n hx hb d_Re_takeData_5 rfl (lv_at hl 1 rfl) ?_
  refine mw_cSN C0 (m_Ki_namesIn l D9 cB cI cJ cG a O _ _ ty hty) g_330 g_16 g_328 g_329 ⟨by decide +kernel, by decide +kernel, show Option.map (fun d => d.parameters.length) (parseMethodDescriptor y_Ki_namesIn.desc) = some 1 by decide +kernel⟩ ⟨by decide, by decide⟩ rfl rfl hP hD hS hA hl.1 (Nat.le_of_ble_eq_true rfl) rfl d_Re_takeData_6 ⟨by decide, by decide⟩ (fun v9 w9 H locs hq hP hD hS => ?_)
  obtain ⟨I2, F3, hw9, q4⟩ := hq
  subst hw9
  obtain ⟨rfl, rfl, rfl⟩ := q4
  refine lv_if_le (tgt := 20) hx hb d_Re_takeData_9 (by decide) (fun c5 => ?_) (fun c5 => ?_)
  · have c5 : k_nm ty ≤ 0 := (nI_leI (a := k_nm ty) (b := 0) (by omega) (by omega)).mp c5
    refine lv_aload_n hx hb d_Re_takeData_20 rfl (lv_at hl 0 rfl) ?_
    refine lv_iload_n hx hb d_Re_takeData_21 rfl (lv_at hl 1 rfl) ?_
    refine lv_iload_n hx hb d_Re_takeData_22 rfl (lv_at hl 2 rfl) ?_
    refine lv_iload_n hx hb d_Re_takeData_23 rfl (lv_at hl 3 rfl) ?_
    refine mw_cV (ci := 4) (k := 17) C0 (m_Re_isAsItsType l D9 cB cI cJ cG a O _ _ t ((sI1 2 (by decide)).trans hT2) htl hT ty fr to ol hty hfr hto ((sI1 8 (by decide)).trans hol) hob) g_348 g_4 g_345 g_347 gs_Re_isAsItsType ⟨by decide +kernel, by decide +kernel, show Option.map (fun d => d.parameters.length) (parseMethodDescriptor y_Re_isAsItsType.desc) = some 3 by decide +kernel⟩ ⟨by decide, by decide⟩ rfl rfl hP hD hS hA rfl ww_17 hl.1 (Nat.le_of_ble_eq_true rfl) rfl d_Re_takeData_24 ⟨by decide, by decide⟩ (fun v9 w9 H locs hq hP hD hS => ?_)
    obtain ⟨I6, F7, hw9, q8⟩ := hq
    subst hw9
    obtain ⟨rfl, rfl, rfl⟩ := q8
    refine lv_if_ne (tgt := 37) hx hb d_Re_takeData_27 (by decide) (fun c9 => ?_) (fun c9 => ?_)
    · have c9 : asT t ty fr to ol = true := bI_t c9
      refine lv_aload_n hx hb d_Re_takeData_37 rfl (lv_at hl 0 rfl) ?_
      refine va_get (D := D9) (ci := 4) (C := R_Re) (T := F_Re) (N := 8) hx hb hts i_Re hown hK hP 17 ww_17 rfl 1 (by decide) (hts _ g_121) (fun _ h9 => h9) rfl d_Re_takeData_38 ?_
      refine va_getN (D := D9) (ci := 2) (C := R_Ga) (T := F_Ga) (N := 11) hx hb hts i_Ga hown hK hP 19 ww_19 rfl 0 (by decide) (hts _ g_60) (fun _ h9 => h9) rfl d_Re_takeData_41 ?_
      refine lv_aload_n hx hb d_Re_takeData_44 rfl (lv_at hl 0 rfl) ?_
      refine va_get (D := D9) (ci := 4) (C := R_Re) (T := F_Re) (N := 8) hx hb hts i_Re hown hK hP 17 ww_17 rfl 0 (by decide) (hts _ g_120) (fun _ h9 => h9) rfl d_Re_takeData_45 ?_
      refine lv_iload_n hx hb d_Re_takeData_48 rfl (lv_at hl 2 rfl) ?_
      refine lv_iload_n hx hb d_Re_takeData_49 rfl (lv_at hl 3 rfl) ?_
      refine lv_iload_n hx hb d_Re_takeData_50 rfl (lv_at hl 2 rfl) ?_
      refine lv_isub hx hb d_Re_takeData_51 ?_
      refine lv_topq (y := nI (to - fr)) (pk_sub (by omega)) ?_
      refine mw_cVN (ci := 0) (k := 3) C0 (m_By_putFrom_gb_tp l D9 cB cI cJ cG a O _ _ L t 0 fr (to - fr) hBL hT ((sI1 3 (by decide)).trans hL3) htl (by omega) (by omega)) g_300 g_2 g_297 g_299 gs_By_putFrom ⟨by decide +kernel, by decide +kernel, show Option.map (fun d => d.parameters.length) (parseMethodDescriptor y_By_putFrom.desc) = some 3 by decide +kernel⟩ ⟨by decide, by decide⟩ rfl rfl hP hD hS hA rfl ww_3 hl.1 (Nat.le_of_ble_eq_true rfl) rfl d_Re_takeData_52 ⟨by decide, by decide⟩ (fun v9 w9 H locs hq hP hD hS => ?_)
      obtain ⟨I10, F11, hw9, q12⟩ := hq
      subst hw9
      obtain ⟨rfl, sfa, y3a, tFa, vBa⟩ := q12
      have hlma : (L ++ sl9 t fr (to - fr)).length = L.length + (to - fr) := by rw [List.length_append, sl9_len (by omega)]
      rw [← hlma] at y3a
      refine lv_iconst (v := 1) hx hb d_Re_takeData_55 (by decide) ?_
      refine lv_topq (y := nI 1) (rfl) ?_
      exact hret _ _ _ _ _ _ _ hS hP hD d_Re_takeData_56 (nr_z (Or.inr rfl)) (Or.inl ⟨_, 0, by unfold rdD; rw [if_neg (by omega), if_pos c9], rfl, (sm_tr (sm_mo sI1 (by decide)) (sm_mo sfa (by decide))), y3a, ((sfa 7 (by decide)).trans ((sI1 7 (by decide)).trans hfw)), (sm_mo tFa (by decide)), vBa⟩)
    · have c9 : asT t ty fr to ol = false := bI_f c9
      refine lv_aload_n hx hb d_Re_takeData_30 rfl (lv_at hl 0 rfl) ?_
      refine lv_iconst (v := 5) hx hb d_Re_takeData_31 (by decide) ?_
      refine lv_topq (y := nI 5) (rfl) ?_
      refine lv_iload_n hx hb d_Re_takeData_32 rfl (lv_at hl 2 rfl) ?_
      refine mw_cV (ci := 4) (k := 17) C0 (m_Re_fail l D9 cB cI cJ cG a O _ _ (nI 5) _) g_267 g_4 g_264 g_266 gs_Re_fail ⟨by decide +kernel, by decide +kernel, show Option.map (fun d => d.parameters.length) (parseMethodDescriptor y_Re_fail.desc) = some 2 by decide +kernel⟩ ⟨by decide, by decide⟩ rfl rfl hP hD hS hA rfl ww_17 hl.1 (Nat.le_of_ble_eq_true rfl) rfl d_Re_takeData_33 ⟨by decide, by decide⟩ (fun v9 w9 H locs hq hP hD hS => ?_)
      obtain ⟨I13, F14, hw9, q15⟩ := hq
      subst hw9
      obtain ⟨rfl, sI13, zI13, rfl⟩ := q15
      exact hret _ _ _ _ _ _ _ hS hP hD d_Re_takeData_36 (nr_z (Or.inl rfl)) (Or.inr ⟨by unfold rdD; rw [if_neg (by omega), if_neg (by rw [c9]; decide)], rfl, (sm_tr (sm_mo sI1 (by decide)) (sm_mo sI13 (by decide))), (by rw [zI13]; decide), sm_rf, hBL⟩)
  · have c5 : ¬ (k_nm ty ≤ 0) := fun z9 => c5 ((nI_leI (a := k_nm ty) (b := 0) (by omega) (by omega)).mpr z9)
    refine lv_aload_n hx hb d_Re_takeData_12 rfl (lv_at hl 0 rfl) ?_
    refine lv_iload_n hx hb d_Re_takeData_13 rfl (lv_at hl 1 rfl) ?_
    refine lv_iload_n hx hb d_Re_takeData_14 rfl (lv_at hl 2 rfl) ?_
    refine lv_iload_n hx hb d_Re_takeData_15 rfl (lv_at hl 3 rfl) ?_
    refine mw_cV (ci := 4) (k := 17) C0 (m_Re_takeDataWithNames l D9 cB cI cJ cG a O _ _ t ((sI1 2 (by decide)).trans hT2) htl hT L ty fr to fw ((sI1 3 (by decide)).trans hL3) (by omega) hBL hty hfr hto ((sI1 7 (by decide)).trans hfw) hfb (by omega)) g_334 g_4 g_331 g_333 gs_Re_takeDataWithNames ⟨by decide +kernel, by decide +kernel, show Option.map (fun d => d.parameters.length) (parseMethodDescriptor y_Re_takeDataWithNames.desc) = some 3 by decide +kernel⟩ ⟨by decide, by decide⟩ rfl rfl hP hD hS hA rfl ww_17 hl.1 (Nat.le_of_ble_eq_true rfl) rfl d_Re_takeData_16 ⟨by decide, by decide⟩ (fun v9 w9 H locs hq hP hD hS => ?_)
    obtain ⟨I16, F17, hw9, q18⟩ := hq
    subst hw9
    rcases q18 with ⟨d9, c8, hr9, rfl, sd1, zd3, zd7, sdF, wd9⟩ | ⟨hr9, rfl, sd1, zd4, sdF, wd9⟩
    · exact hret _ _ _ _ _ _ _ hS hP hD d_Re_takeData_19 (nr_z (Or.inr rfl)) (Or.inl ⟨d9, c8, by unfold rdD; rw [if_pos (by omega)]; exact hr9, rfl, (sm_tr (sm_mo sI1 (by decide)) (sm_mo sd1 (by decide))), zd3, zd7, (sm_mo sdF (by decide)), wd9⟩)
    · exact hret _ _ _ _ _ _ _ hS hP hD d_Re_takeData_19 (nr_z (Or.inl rfl)) (Or.inr ⟨by unfold rdD; rw [if_pos (by omega)]; exact hr9, rfl, (sm_tr (sm_mo sI1 (by decide)) (sm_mo sd1 (by decide))), zd4, (sm_mo sdF (by decide)), wd9⟩)
