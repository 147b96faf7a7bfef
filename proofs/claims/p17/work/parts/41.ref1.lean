/-! THE REFERENCE: numbers and rows -/
theorem nar_b (x : Int32) : vp_nar .byte x = x.toInt8.toInt32 := rfl
theorem cn_next {s : Nat} {es : List En9} {k : Nat} {e : En9} (h : es[k]? = some e) : cn s (es.take (k + 1)) = cn s (es.take k) + (if eS e = s then 1 else 0) := by rw [take_get h, cn_app, cn_one]
theorem sl9_s {t : List Nat} {p k : Nat} (h : p + k < t.length) : sl9 t p (k + 1) = sl9 t p k ++ [tb t (p + k)] := by
  unfold sl9
  rw [List.take_add_one, List.getElem?_drop, tb_in h]; rfl
theorem get_tk {es : List En9} {k : Nat} (h : k < es.length) : ∃ e, es[k]? = some e := ⟨es[k], List.getElem?_eq_getElem h⟩
theorem pl_step {es : List En9} {k n j t9 : Nat} {e : En9} {x : Int32} {n' : Nat} (he : es[k]? = some e) (h : (nI (eS e) = x ∧ n' = n - 1) ∨ (¬ nI (eS e) = x ∧ n' = n)) (hx : x = nI t9) (h4 : t9 < 4) (he4 : eS e < 4) (hP : n + cn t9 (es.take k) = j ∧ ∀ r, ix t9 j es = some r → k ≤ r) (hn : (nI (eS e) = x → 0 < n)) : n' + cn t9 (es.take (k + 1)) = j ∧ ∀ r, ix t9 j es = some r → k + 1 ≤ r := by
  have h1 := cn_next (s := t9) he
  subst hx
  rw [nI_eq (by omega) (by omega)] at h hn
  rcases h with ⟨h, rfl⟩ | ⟨h, rfl⟩
  · rw [if_pos h] at h1
    have := hn h
    refine ⟨by omega, fun r hr => ?_⟩
    have := hP.2 r hr
    rcases Nat.lt_or_eq_of_le this with z | z
    · omega
    · subst z
      obtain ⟨e2, a1, a2, a3⟩ := ix_some hr
      omega
  · rw [if_neg h] at h1
    refine ⟨by omega, fun r hr => ?_⟩
    have := hP.2 r hr
    rcases Nat.lt_or_eq_of_le this with z | z
    · omega
    · subst z
      obtain ⟨e2, a1, a2, a3⟩ := ix_some hr
      rw [a1, Option.some.injEq] at he
      subst he
      exact absurd a2 h
theorem pl_hit {es : List En9} {k n j : Nat} {e : En9} {x : Int32} (he : es[k]? = some e) (h : nI (eS e) = x) (he4 : eS e < 4) (hj : j < 2 ^ 31) (hP : ∀ t9 : Nat, x = nI t9 → t9 < 4 → (n + cn t9 (es.take k) = j ∧ ∀ r, ix t9 j es = some r → k ≤ r)) (hn : n = 0) : rI x (nI j) es = some k := by
  subst h
  rw [rI_n he4 hj]
  have := (hP _ rfl he4).1
  exact ix_of he rfl (by omega)
theorem pl_miss {es : List En9} {k n j : Nat} {x : Int32} (hO : okE es) (hk : es.length ≤ k) (hj9 : j < 2 ^ 31) (hP : ∀ t9 : Nat, x = nI t9 → t9 < 4 → (n + cn t9 (es.take k) = j ∧ ∀ r, ix t9 j es = some r → k ≤ r)) : rI x (nI j) es = none := by
  unfold rI
  split
  · rfl
  · rename_i h
    rcases pk_ix x (n := 4) (by decide) with z | z | ⟨t9, h4, rfl⟩
    · exact absurd (Or.inl z) h
    · exact absurd (Or.inr (Or.inl z)) h
    · by_cases hj : nI j < 0
      · exact absurd (Or.inr (Or.inr hj)) h
      · rw [nI_clamp (by omega)]
        cases hi : ix t9 (nI j).toNatClampNeg es with
        | none => rfl
        | some r =>
          have h1 := ix_lt hi
          have h2 := cn_le t9 es
          have hp := hP t9 rfl h4
          rw [List.take_of_length_le hk] at hp
          have h3 : (nI j).toNatClampNeg = j := nI_clamp hj9
          rw [h3] at hi h1
          have := hp.2 r hi
          omega
theorem g_8 : (Cond.initialized "WireMessagesModel") ∈ GT := gt_mem 8 (by decide +kernel) rfl
theorem g_722 : (Cond.fieldLink "WireMessagesModel" (61 : Nat) "WireMessagesModel" "thrown" "I") ∈ GT := gt_mem 722 (by decide +kernel) rfl
theorem g_724 : (Cond.fieldLink "WireMessagesModel" (86 : Nat) "WireMessagesModel" "tapes" "I") ∈ GT := gt_mem 724 (by decide +kernel) rfl
theorem g_726 : (Cond.fieldLink "WireMessagesModel" (64 : Nat) "WireMessagesModel" "stored" "I") ∈ GT := gt_mem 726 (by decide +kernel) rfl
theorem g_727 : (Cond.fieldLink "WireMessagesModel" (67 : Nat) "WireMessagesModel" "entries" "I") ∈ GT := gt_mem 727 (by decide +kernel) rfl
theorem g_728 : (Cond.fieldLink "WireMessagesModel" (70 : Nat) "WireMessagesModel" "id" "I") ∈ GT := gt_mem 728 (by decide +kernel) rfl
theorem g_729 : (Cond.fieldLink "WireMessagesModel" (73 : Nat) "WireMessagesModel" "flags" "I") ∈ GT := gt_mem 729 (by decide +kernel) rfl
theorem g_741 : (Cond.fieldLink "WireMessagesModel" (80 : Nat) "WireMessagesModel" "fault" "I") ∈ GT := gt_mem 741 (by decide +kernel) rfl
theorem g_743 : (Cond.fieldLink "WireMessagesModel" (96 : Nat) "WireMessagesModel" "dataBegin" "I") ∈ GT := gt_mem 743 (by decide +kernel) rfl
theorem g_744 : (Cond.fieldLink "WireMessagesModel" (93 : Nat) "WireMessagesModel" "dataEnd" "I") ∈ GT := gt_mem 744 (by decide +kernel) rfl
theorem g_821 : (Cond.methodLink "WireMessagesModel" (89 : Nat) ({ cls := "WireMessagesModel", name := "wrong", desc := "(II)V" } : MethodName)) ∈ GT := gt_mem 821 (by decide +kernel) rfl
theorem g_823 : (Cond.instanceMethod ({ cls := "WireMessagesModel", name := "wrong", desc := "(II)V" } : MethodName)) ∈ GT := gt_mem 823 (by decide +kernel) rfl
theorem g_824 : (Cond.code ({ cls := "WireMessagesModel", name := "wrong", desc := "(II)V" } : MethodName) prog_10_method_8_code (3 : Nat) (Option.none : Option FieldType)) ∈ GT := gt_mem 824 (by decide +kernel) rfl
theorem g_829 : (Cond.methodLink "WireMessagesModel" (83 : Nat) ({ cls := "WireMessagesModel", name := "here", desc := "(I)I" } : MethodName)) ∈ GT := gt_mem 829 (by decide +kernel) rfl
theorem g_831 : (Cond.instanceMethod ({ cls := "WireMessagesModel", name := "here", desc := "(I)I" } : MethodName)) ∈ GT := gt_mem 831 (by decide +kernel) rfl
theorem g_832 : (Cond.code ({ cls := "WireMessagesModel", name := "here", desc := "(I)I" } : MethodName) prog_10_method_9_code (2 : Nat) (Option.some FieldType.int)) ∈ GT := gt_mem 832 (by decide +kernel) rfl
theorem g_853 : (Cond.methodLink "WireMessagesModel" (76 : Nat) ({ cls := "WireMessagesModel", name := "countOf", desc := "(I)I" } : MethodName)) ∈ GT := gt_mem 853 (by decide +kernel) rfl
theorem g_855 : (Cond.instanceMethod ({ cls := "WireMessagesModel", name := "countOf", desc := "(I)I" } : MethodName)) ∈ GT := gt_mem 855 (by decide +kernel) rfl
theorem g_856 : (Cond.code ({ cls := "WireMessagesModel", name := "countOf", desc := "(I)I" } : MethodName) prog_10_method_5_code (4 : Nat) (Option.some FieldType.int)) ∈ GT := gt_mem 856 (by decide +kernel) rfl
theorem gs_Mo_countOf : Cond.selects R_Mo y_Mo_countOf y_Mo_countOf ∈ GT := gt_sel (q := (⟨"WireMessagesModel", "countOf", "(I)I"⟩, 30)) (by decide +kernel)
theorem gs_Mo_here : Cond.selects R_Mo y_Mo_here y_Mo_here ∈ GT := gt_sel (q := (⟨"WireMessagesModel", "here", "(I)I"⟩, 30)) (by decide +kernel)
theorem gs_Mo_wrong : Cond.selects R_Mo y_Mo_wrong y_Mo_wrong ∈ GT := gt_sel (q := (⟨"WireMessagesModel", "wrong", "(II)V"⟩, 30)) (by decide +kernel)
theorem d_Mo_countOf_0 : decode b_Mo_countOf 0 = .ok (.iconst 0, 1) := by decide +kernel
theorem d_Mo_countOf_1 : decode b_Mo_countOf 1 = .ok (.istore_n 2, 1) := by decide +kernel
theorem d_Mo_countOf_2 : decode b_Mo_countOf 2 = .ok (.iconst 0, 1) := by decide +kernel
theorem d_Mo_countOf_3 : decode b_Mo_countOf 3 = .ok (.istore_n 3, 1) := by decide +kernel
theorem d_Mo_countOf_4 : decode b_Mo_countOf 4 = .ok (.iload_n 3, 1) := by decide +kernel
theorem d_Mo_countOf_5 : decode b_Mo_countOf 5 = .ok (.aload_n 0, 1) := by decide +kernel
theorem d_Mo_countOf_6 : decode b_Mo_countOf 6 = .ok (.getfield 67, 3) := by decide +kernel
theorem d_Mo_countOf_9 : decode b_Mo_countOf 9 = .ok (.if_icmp .ge 22, 3) := by decide +kernel
theorem d_Mo_countOf_12 : decode b_Mo_countOf 12 = .ok (.aload_n 0, 1) := by decide +kernel
theorem d_Mo_countOf_13 : decode b_Mo_countOf 13 = .ok (.getfield 18, 3) := by decide +kernel
theorem d_Mo_countOf_16 : decode b_Mo_countOf 16 = .ok (.iload_n 3, 1) := by decide +kernel
theorem d_Mo_countOf_17 : decode b_Mo_countOf 17 = .ok (.iaload, 1) := by decide +kernel
theorem d_Mo_countOf_18 : decode b_Mo_countOf 18 = .ok (.iload_n 1, 1) := by decide +kernel
theorem d_Mo_countOf_19 : decode b_Mo_countOf 19 = .ok (.if_icmp .ne 6, 3) := by decide +kernel
theorem d_Mo_countOf_22 : decode b_Mo_countOf 22 = .ok (.iinc 2 1, 3) := by decide +kernel
theorem d_Mo_countOf_25 : decode b_Mo_countOf 25 = .ok (.iinc 3 1, 3) := by decide +kernel
theorem d_Mo_countOf_28 : decode b_Mo_countOf 28 = .ok (.goto (-24), 3) := by decide +kernel
theorem d_Mo_countOf_31 : decode b_Mo_countOf 31 = .ok (.iload_n 2, 1) := by decide +kernel
theorem d_Mo_countOf_32 : decode b_Mo_countOf 32 = .ok (.ireturn, 1) := by decide +kernel
theorem d_Mo_fail_0 : decode b_Mo_fail 0 = .ok (.aload_n 0, 1) := by decide +kernel
theorem d_Mo_fail_1 : decode b_Mo_fail 1 = .ok (.iload_n 1, 1) := by decide +kernel
theorem d_Mo_fail_2 : decode b_Mo_fail 2 = .ok (.putfield 61, 3) := by decide +kernel
theorem d_Mo_fail_5 : decode b_Mo_fail 5 = .ok (.iconst 0, 1) := by decide +kernel
theorem d_Mo_fail_6 : decode b_Mo_fail 6 = .ok (.ireturn, 1) := by decide +kernel
theorem d_Mo_here_0 : decode b_Mo_here 0 = .ok (.aload_n 0, 1) := by decide +kernel
theorem d_Mo_here_1 : decode b_Mo_here 1 = .ok (.getfield 8, 3) := by decide +kernel
theorem d_Mo_here_4 : decode b_Mo_here 4 = .ok (.iload_n 1, 1) := by decide +kernel
theorem d_Mo_here_5 : decode b_Mo_here 5 = .ok (.baload, 1) := by decide +kernel
theorem d_Mo_here_6 : decode b_Mo_here 6 = .ok (.sipush 255, 3) := by decide +kernel
theorem d_Mo_here_9 : decode b_Mo_here 9 = .ok (.iand, 1) := by decide +kernel
theorem d_Mo_here_10 : decode b_Mo_here 10 = .ok (.ireturn, 1) := by decide +kernel
theorem d_Mo_none_0 : decode b_Mo_none 0 = .ok (.aload_n 0, 1) := by decide +kernel
theorem d_Mo_none_1 : decode b_Mo_none 1 = .ok (.iconst 0, 1) := by decide +kernel
theorem d_Mo_none_2 : decode b_Mo_none 2 = .ok (.putfield 64, 3) := by decide +kernel
theorem d_Mo_none_5 : decode b_Mo_none 5 = .ok (.aload_n 0, 1) := by decide +kernel
theorem d_Mo_none_6 : decode b_Mo_none 6 = .ok (.iconst 0, 1) := by decide +kernel
theorem d_Mo_none_7 : decode b_Mo_none 7 = .ok (.putfield 67, 3) := by decide +kernel
theorem d_Mo_none_10 : decode b_Mo_none 10 = .ok (.aload_n 0, 1) := by decide +kernel
theorem d_Mo_none_11 : decode b_Mo_none 11 = .ok (.iconst 0, 1) := by decide +kernel
theorem d_Mo_none_12 : decode b_Mo_none 12 = .ok (.putfield 70, 3) := by decide +kernel
theorem d_Mo_none_15 : decode b_Mo_none 15 = .ok (.aload_n 0, 1) := by decide +kernel
theorem d_Mo_none_16 : decode b_Mo_none 16 = .ok (.iconst 0, 1) := by decide +kernel
theorem d_Mo_none_17 : decode b_Mo_none 17 = .ok (.putfield 73, 3) := by decide +kernel
theorem d_Mo_none_20 : decode b_Mo_none 20 = .ok (.return_, 1) := by decide +kernel
theorem d_Mo_place_0 : decode b_Mo_place 0 = .ok (.iload_n 2, 1) := by decide +kernel
theorem d_Mo_place_1 : decode b_Mo_place 1 = .ok (.istore_n 3, 1) := by decide +kernel
theorem d_Mo_place_2 : decode b_Mo_place 2 = .ok (.iload_n 2, 1) := by decide +kernel
theorem d_Mo_place_3 : decode b_Mo_place 3 = .ok (.ifCond .ge 5, 3) := by decide +kernel
theorem d_Mo_place_6 : decode b_Mo_place 6 = .ok (.iconst (-1), 1) := by decide +kernel
theorem d_Mo_place_7 : decode b_Mo_place 7 = .ok (.ireturn, 1) := by decide +kernel
theorem d_Mo_place_8 : decode b_Mo_place 8 = .ok (.iconst 0, 1) := by decide +kernel
theorem d_Mo_place_9 : decode b_Mo_place 9 = .ok (.istore 4, 2) := by decide +kernel
theorem d_Mo_place_11 : decode b_Mo_place 11 = .ok (.iload 4, 2) := by decide +kernel
theorem d_Mo_place_13 : decode b_Mo_place 13 = .ok (.aload_n 0, 1) := by decide +kernel
theorem d_Mo_place_14 : decode b_Mo_place 14 = .ok (.getfield 67, 3) := by decide +kernel
theorem d_Mo_place_17 : decode b_Mo_place 17 = .ok (.if_icmp .ge 33, 3) := by decide +kernel
theorem d_Mo_place_20 : decode b_Mo_place 20 = .ok (.aload_n 0, 1) := by decide +kernel
theorem d_Mo_place_21 : decode b_Mo_place 21 = .ok (.getfield 18, 3) := by decide +kernel
theorem d_Mo_place_24 : decode b_Mo_place 24 = .ok (.iload 4, 2) := by decide +kernel
theorem d_Mo_place_26 : decode b_Mo_place 26 = .ok (.iaload, 1) := by decide +kernel
theorem d_Mo_place_27 : decode b_Mo_place 27 = .ok (.iload_n 1, 1) := by decide +kernel
theorem d_Mo_place_28 : decode b_Mo_place 28 = .ok (.if_icmp .eq 6, 3) := by decide +kernel
theorem d_Mo_place_31 : decode b_Mo_place 31 = .ok (.goto 13, 3) := by decide +kernel
theorem d_Mo_place_34 : decode b_Mo_place 34 = .ok (.iload_n 3, 1) := by decide +kernel
theorem d_Mo_place_35 : decode b_Mo_place 35 = .ok (.ifCond .ne 6, 3) := by decide +kernel
theorem d_Mo_place_38 : decode b_Mo_place 38 = .ok (.iload 4, 2) := by decide +kernel
theorem d_Mo_place_40 : decode b_Mo_place 40 = .ok (.ireturn, 1) := by decide +kernel
theorem d_Mo_place_41 : decode b_Mo_place 41 = .ok (.iinc 3 (-1), 3) := by decide +kernel
theorem d_Mo_place_44 : decode b_Mo_place 44 = .ok (.iinc 4 1, 3) := by decide +kernel
theorem d_Mo_place_47 : decode b_Mo_place 47 = .ok (.goto (-36), 3) := by decide +kernel
theorem d_Mo_place_50 : decode b_Mo_place 50 = .ok (.iconst (-1), 1) := by decide +kernel
theorem d_Mo_place_51 : decode b_Mo_place 51 = .ok (.ireturn, 1) := by decide +kernel
theorem d_Mo_records_0 : decode b_Mo_records 0 = .ok (.aload_n 0, 1) := by decide +kernel
theorem d_Mo_records_1 : decode b_Mo_records 1 = .ok (.getfield 67, 3) := by decide +kernel
theorem d_Mo_records_4 : decode b_Mo_records 4 = .ok (.aload_n 0, 1) := by decide +kernel
theorem d_Mo_records_5 : decode b_Mo_records 5 = .ok (.iconst 0, 1) := by decide +kernel
theorem d_Mo_records_6 : decode b_Mo_records 6 = .ok (.invokevirtual 76, 3) := by decide +kernel
theorem d_Mo_records_9 : decode b_Mo_records 9 = .ok (.isub, 1) := by decide +kernel
theorem d_Mo_records_10 : decode b_Mo_records 10 = .ok (.ireturn, 1) := by decide +kernel
theorem d_Mo_there_0 : decode b_Mo_there 0 = .ok (.iload_n 1, 1) := by decide +kernel
theorem d_Mo_there_1 : decode b_Mo_there 1 = .ok (.iload_n 2, 1) := by decide +kernel
theorem d_Mo_there_2 : decode b_Mo_there 2 = .ok (.iadd, 1) := by decide +kernel
theorem d_Mo_there_3 : decode b_Mo_there 3 = .ok (.aload_n 0, 1) := by decide +kernel
theorem d_Mo_there_4 : decode b_Mo_there 4 = .ok (.getfield 86, 3) := by decide +kernel
theorem d_Mo_there_7 : decode b_Mo_there 7 = .ok (.if_icmp .le 11, 3) := by decide +kernel
theorem d_Mo_there_10 : decode b_Mo_there 10 = .ok (.aload_n 0, 1) := by decide +kernel
theorem d_Mo_there_11 : decode b_Mo_there 11 = .ok (.iconst 1, 1) := by decide +kernel
theorem d_Mo_there_12 : decode b_Mo_there 12 = .ok (.iload_n 1, 1) := by decide +kernel
theorem d_Mo_there_13 : decode b_Mo_there 13 = .ok (.invokevirtual 89, 3) := by decide +kernel
theorem d_Mo_there_16 : decode b_Mo_there 16 = .ok (.iconst 0, 1) := by decide +kernel
theorem d_Mo_there_17 : decode b_Mo_there 17 = .ok (.ireturn, 1) := by decide +kernel
theorem d_Mo_there_18 : decode b_Mo_there 18 = .ok (.iload_n 3, 1) := by decide +kernel
theorem d_Mo_there_19 : decode b_Mo_there 19 = .ok (.ifCond .eq 29, 3) := by decide +kernel
theorem d_Mo_there_22 : decode b_Mo_there 22 = .ok (.iload 4, 2) := by decide +kernel
theorem d_Mo_there_24 : decode b_Mo_there 24 = .ok (.ifCond .ne 24, 3) := by decide +kernel
theorem d_Mo_there_27 : decode b_Mo_there 27 = .ok (.iload_n 1, 1) := by decide +kernel
theorem d_Mo_there_28 : decode b_Mo_there 28 = .ok (.iload_n 2, 1) := by decide +kernel
theorem d_Mo_there_29 : decode b_Mo_there 29 = .ok (.iadd, 1) := by decide +kernel
theorem d_Mo_there_30 : decode b_Mo_there 30 = .ok (.aload_n 0, 1) := by decide +kernel
theorem d_Mo_there_31 : decode b_Mo_there 31 = .ok (.getfield 93, 3) := by decide +kernel
theorem d_Mo_there_34 : decode b_Mo_there 34 = .ok (.if_icmp .le 14, 3) := by decide +kernel
theorem d_Mo_there_37 : decode b_Mo_there 37 = .ok (.aload_n 0, 1) := by decide +kernel
theorem d_Mo_there_38 : decode b_Mo_there 38 = .ok (.iconst 5, 1) := by decide +kernel
theorem d_Mo_there_39 : decode b_Mo_there 39 = .ok (.aload_n 0, 1) := by decide +kernel
theorem d_Mo_there_40 : decode b_Mo_there 40 = .ok (.getfield 96, 3) := by decide +kernel
theorem d_Mo_there_43 : decode b_Mo_there 43 = .ok (.invokevirtual 89, 3) := by decide +kernel
theorem d_Mo_there_46 : decode b_Mo_there 46 = .ok (.iconst 0, 1) := by decide +kernel
theorem d_Mo_there_47 : decode b_Mo_there 47 = .ok (.ireturn, 1) := by decide +kernel
theorem d_Mo_there_48 : decode b_Mo_there 48 = .ok (.iconst 1, 1) := by decide +kernel
theorem d_Mo_there_49 : decode b_Mo_there 49 = .ok (.ireturn, 1) := by decide +kernel
theorem d_Mo_two_0 : decode b_Mo_two 0 = .ok (.aload_n 0, 1) := by decide +kernel
theorem d_Mo_two_1 : decode b_Mo_two 1 = .ok (.iload_n 1, 1) := by decide +kernel
theorem d_Mo_two_2 : decode b_Mo_two 2 = .ok (.invokevirtual 83, 3) := by decide +kernel
theorem d_Mo_two_5 : decode b_Mo_two 5 = .ok (.bipush 8, 2) := by decide +kernel
theorem d_Mo_two_7 : decode b_Mo_two 7 = .ok (.ishl, 1) := by decide +kernel
theorem d_Mo_two_8 : decode b_Mo_two 8 = .ok (.aload_n 0, 1) := by decide +kernel
theorem d_Mo_two_9 : decode b_Mo_two 9 = .ok (.iload_n 1, 1) := by decide +kernel
theorem d_Mo_two_10 : decode b_Mo_two 10 = .ok (.iconst 1, 1) := by decide +kernel
theorem d_Mo_two_11 : decode b_Mo_two 11 = .ok (.iadd, 1) := by decide +kernel
theorem d_Mo_two_12 : decode b_Mo_two 12 = .ok (.invokevirtual 83, 3) := by decide +kernel
theorem d_Mo_two_15 : decode b_Mo_two 15 = .ok (.ior, 1) := by decide +kernel
theorem d_Mo_two_16 : decode b_Mo_two 16 = .ok (.ireturn, 1) := by decide +kernel
theorem d_Mo_wrong_0 : decode b_Mo_wrong 0 = .ok (.aload_n 0, 1) := by decide +kernel
theorem d_Mo_wrong_1 : decode b_Mo_wrong 1 = .ok (.getfield 80, 3) := by decide +kernel
theorem d_Mo_wrong_4 : decode b_Mo_wrong 4 = .ok (.ifCond .le 4, 3) := by decide +kernel
theorem d_Mo_wrong_7 : decode b_Mo_wrong 7 = .ok (.return_, 1) := by decide +kernel
theorem d_Mo_wrong_8 : decode b_Mo_wrong 8 = .ok (.aload_n 0, 1) := by decide +kernel
theorem d_Mo_wrong_9 : decode b_Mo_wrong 9 = .ok (.iload_n 1, 1) := by decide +kernel
theorem d_Mo_wrong_10 : decode b_Mo_wrong 10 = .ok (.putfield 80, 3) := by decide +kernel
theorem d_Mo_wrong_13 : decode b_Mo_wrong 13 = .ok (.aload_n 0, 1) := by decide +kernel
theorem d_Mo_wrong_14 : decode b_Mo_wrong 14 = .ok (.iload_n 2, 1) := by decide +kernel
theorem d_Mo_wrong_15 : decode b_Mo_wrong 15 = .ok (.putfield 43, 3) := by decide +kernel
theorem d_Mo_wrong_18 : decode b_Mo_wrong 18 = .ok (.return_, 1) := by decide +kernel
set_option maxHeartbeats 4000000 in
set_option maxRecDepth 100000 in
/-- the reference: fail -/
theorem m_Mo_fail (l : Launch) (D9 : va_G) (cB cI cJ cG : ClassId) (a : Nat → Nat) (O : Nat → Int64) (I : Nat → Int32) (F : Nat → Nat → Int32) (x : Int32) : MC l D9 cB cI cJ cG a O y_Mo_fail b_Mo_fail 2 (some .int) 0 [.ref (a 33), .int (x)] I F (fun v I' F' => v = some (.int (nI 0)) ∧ sm [15] I I' ∧ I' 15 = x ∧ F = F') := by
  refine mc_of (by decide) (Nat.le_of_ble_eq_true rfl) ?_
  intro p e s m below meth c ls A0 Q C0 hP hD hA hS hl hret
  obtain ⟨hx, hb, hml, hr, hlocks, hown, hts, hK⟩ := id C0
  have hl : lv_has ls 2 [(0, .ref (a 33)), (1, .int (x))] := hl
  refine lv_aload_n hx hb d_Mo_fail_0 rfl (lv_at hl 0 rfl) ?_
  refine lv_iload_n hx hb d_Mo_fail_1 rfl (lv_at hl 1 rfl) ?_
  refine va_put (D := D9) (ty := .int) (ci := 7) (C := R_Mo) (T := F_Mo) (N := 30) hx hb hts i_Mo t_Mo t_Mo_ok n_Mo hown hK hP hD hS 33 ww_33 rfl 0 (by decide) (hts _ g_722) (fun _ h9 => h9) rfl (by decide +kernel) rfl rfl (Nat.le_of_ble_eq_true rfl) d_Mo_fail_2 (fun H locs hP hD hS => ?_)
  obtain ⟨I1, aI1, sI1, hP, hD⟩ := fx (P := fun z => va_P D9 cls9 (WW a cB cI cJ cG z _ O) H ∧ va_D A0 (WW a cB cI cJ cG z _ O)) ⟨wp_15 hP, wd_15 hD⟩
  refine lv_iconst (v := 0) hx hb d_Mo_fail_5 (by decide) ?_
  refine lv_topq (y := nI 0) (rfl) ?_
  exact hret _ _ _ _ _ _ _ hS hP hD d_Mo_fail_6 nr_i (⟨rfl, (sm_mo sI1 (by decide)), aI1, rfl⟩)
set_option maxHeartbeats 4000000 in
set_option maxRecDepth 100000 in
/-- the reference: none -/
theorem m_Mo_none (l : Launch) (D9 : va_G) (cB cI cJ cG : ClassId) (a : Nat → Nat) (O : Nat → Int64) (I : Nat → Int32) (F : Nat → Nat → Int32)  : MC l D9 cB cI cJ cG a O y_Mo_none b_Mo_none 1 (none) 0 [.ref (a 33)] I F (fun v I' F' => v = none ∧ sm [17, 18, 19, 20] I I' ∧ I' 17 = nI 0 ∧ I' 18 = nI 0 ∧ I' 19 = nI 0 ∧ I' 20 = nI 0 ∧ F = F') := by
  refine mc_ofv (by decide) (Nat.le_of_ble_eq_true rfl) ?_
  intro p e s m below meth c ls A0 Q C0 hP hD hA hS hl hret
  obtain ⟨hx, hb, hml, hr, hlocks, hown, hts, hK⟩ := id C0
  have hl : lv_has ls 1 [(0, .ref (a 33))] := hl
  refine lv_aload_n hx hb d_Mo_none_0 rfl (lv_at hl 0 rfl) ?_
  refine lv_iconst (v := 0) hx hb d_Mo_none_1 (by decide) ?_
  refine lv_topq (y := nI 0) (rfl) ?_
  refine va_put (D := D9) (ty := .int) (ci := 7) (C := R_Mo) (T := F_Mo) (N := 30) hx hb hts i_Mo t_Mo t_Mo_ok n_Mo hown hK hP hD hS 33 ww_33 rfl 4 (by decide) (hts _ g_726) (fun _ h9 => h9) rfl (by decide +kernel) rfl rfl (Nat.le_of_ble_eq_true rfl) d_Mo_none_2 (fun H locs hP hD hS => ?_)
  obtain ⟨I1, aI1, sI1, hP, hD⟩ := fx (P := fun z => va_P D9 cls9 (WW a cB cI cJ cG z _ O) H ∧ va_D A0 (WW a cB cI cJ cG z _ O)) ⟨wp_17 hP, wd_17 hD⟩
  refine lv_aload_n hx hb d_Mo_none_5 rfl (lv_at hl 0 rfl) ?_
  refine lv_iconst (v := 0) hx hb d_Mo_none_6 (by decide) ?_
  refine lv_topq (y := nI 0) (rfl) ?_
  refine va_put (D := D9) (ty := .int) (ci := 7) (C := R_Mo) (T := F_Mo) (N := 30) hx hb hts i_Mo t_Mo t_Mo_ok n_Mo hown hK hP hD hS 33 ww_33 rfl 5 (by decide) (hts _ g_727) (fun _ h9 => h9) rfl (by decide +kernel) rfl rfl (Nat.le_of_ble_eq_true rfl) d_Mo_none_7 (fun H locs hP hD hS => ?_)
  obtain ⟨I2, aI2, sI2, hP, hD⟩ := fx (P := fun z => va_P D9 cls9 (WW a cB cI cJ cG z _ O) H ∧ va_D A0 (WW a cB cI cJ cG z _ O)) ⟨wp_18 hP, wd_18 hD⟩
  refine lv_aload_n hx hb d_Mo_none_10 rfl (lv_at hl 0 rfl) ?_
  refine lv_iconst (v := 0) hx hb d_Mo_none_11 (by decide) ?_
  refine lv_topq (y := nI 0) (rfl) ?_
  refine va_put (D := D9) (ty := .int) (ci := 7) (C := R_Mo) (T := F_Mo) (N := 30) hx hb hts i_Mo t_Mo t_Mo_ok n_Mo hown hK hP hD hS 33 ww_33 rfl 6 (by decide) (hts _ g_728) (fun _ h9 => h9) rfl (by decide +kernel) rfl rfl (Nat.le_of_ble_eq_true rfl) d_Mo_none_12 (fun H locs hP hD hS => ?_)
  obtain ⟨I3, aI3, sI3, hP, hD⟩ := fx (P := fun z => va_P D9 cls9 (WW a cB cI cJ cG z _ O) H ∧ va_D A0 (WW a cB cI cJ cG z _ O)) ⟨wp_19 hP, wd_19 hD⟩
  refine lv_aload_n hx hb d_Mo_none_15 rfl (lv_at hl 0 rfl) ?_
  refine lv_iconst (v := 0) hx hb d_Mo_none_16 (by decide) ?_
  refine lv_topq (y := nI 0) (rfl) ?_
  refine va_put (D := D9) (ty := .int) (ci := 7) (C := R_Mo) (T := F_Mo) (N := 30) hx hb hts i_Mo t_Mo t_Mo_ok n_Mo hown hK hP hD hS 33 ww_33 rfl 7 (by decide) (hts _ g_729) (fun _ h9 => h9) rfl (by decide +kernel) rfl rfl (Nat.le_of_ble_eq_true rfl) d_Mo_none_17 (fun H locs hP hD hS => ?_)
  obtain ⟨I4, aI4, sI4, hP, hD⟩ := fx (P := fun z => va_P D9 cls9 (WW a cB cI cJ cG z _ O) H ∧ va_D A0 (WW a cB cI cJ cG z _ O)) ⟨wp_20 hP, wd_20 hD⟩
  exact hret _ _ _ _ _ _ hS hP hD d_Mo_none_20 (⟨rfl, (sm_tr (sm_tr (sm_tr (sm_mo sI1 (by decide)) (sm_mo sI2 (by decide))) (sm_mo sI3 (by decide))) (sm_mo sI4 (by decide))), ((sI4 17 (by decide)).trans ((sI3 17 (by decide)).trans ((sI2 17 (by decide)).trans aI1))), ((sI4 18 (by decide)).trans ((sI3 18 (by decide)).trans aI2)), ((sI4 19 (by decide)).trans aI3), aI4, rfl⟩)
set_option maxHeartbeats 4000000 in
set_option maxRecDepth 100000 in
/-- the reference: countOf -/
theorem m_Mo_countOf (l : Launch) (D9 : va_G) (cB cI cJ cG : ClassId) (a : Nat → Nat) (O : Nat → Int64) (I : Nat → Int32) (F : Nat → Nat → Int32) (es : List En9) (hR : MoR F es) (h18 : I 18 = nI es.length) (hel : es.length ≤ 1102) (heS : ∀ e ∈ es, eS e < 4) (sc : Nat) (hsc : sc < 1000000) : MC l D9 cB cI cJ cG a O y_Mo_countOf b_Mo_countOf 4 (some .int) 0 [.ref (a 33), .int (nI sc)] I F (fun v I' F' => v = some (.int (nI (cn sc es))) ∧ I = I' ∧ F = F') := by
  refine mc_of (by decide) (Nat.le_of_ble_eq_true rfl) ?_
  intro p e s m below meth c ls A0 Q C0 hP hD hA hS hl hret
  obtain ⟨hx, hb, hml, hr, hlocks, hown, hts, hK⟩ := id C0
  have hl : lv_has ls 4 [(0, .ref (a 33)), (1, .int (nI sc))] := hl
  refine lv_iconst (v := 0) hx hb d_Mo_countOf_0 (by decide) ?_
  refine lv_topq (y := nI 0) (rfl) ?_
  refine lv_istore_n (lv' := [(2, _), (0, _), (1, _)]) hx hb d_Mo_countOf_1 rfl hl (by decide) rfl (fun ls hl => ?_)
  refine lv_iconst (v := 0) hx hb d_Mo_countOf_2 (by decide) ?_
  refine lv_topq (y := nI 0) (rfl) ?_
  refine lv_istore_n (lv' := [(3, _), (2, _), (0, _), (1, _)]) hx hb d_Mo_countOf_3 rfl hl (by decide) rfl (fun ls hl => ?_)
  have loop1 : ∀ (n9 : Nat) (k : Nat) (I9 : Nat → Int32) (F9 : Nat → Nat → Int32) (H : Heap) (locs : List Loc) (ls : Array Slot), (I = I9) → (F = F9) → (es.length - k = n9) → (k ≤ es.length) → va_P D9 cls9 (WW a cB cI cJ cG I9 F9 O) H → va_D A0 (WW a cB cI cJ cG I9 F9 O) → va_S A0 s.heap H locs → lv_has ls 4 [(0, .ref (a 33)), (1, .int (nI sc)), (2, .int (nI (cn sc (es.take k)))), (3, .int (nI k))] → W p l e (rm9 0 0 0) s m ([.ref (a 33), .int (nI sc)] : List Value).toArray below meth c H locs 0 0 Q (F0 m 4 ls []) := by
    intro n9
    induction n9 using Nat.strongRecOn with
    | ind n9 ih =>
      intro k I9 F9 H locs ls hsI hsF hn9 hk hP hD hS hl
      subst hsI
      subst hsF
      refine lv_iload_n hx hb d_Mo_countOf_4 rfl (lv_at hl 3 rfl) ?_
      refine lv_aload_n hx hb d_Mo_countOf_5 rfl (lv_at hl 0 rfl) ?_
      refine va_get (D := D9) (ci := 7) (C := R_Mo) (T := F_Mo) (N := 30) hx hb hts i_Mo hown hK hP 33 ww_33 rfl 5 (by decide) (hts _ g_727) (fun _ h9 => h9) rfl d_Mo_countOf_6 ?_
      refine lv_topq (y := nI es.length) (h18) ?_
      refine lv_icmp_ge (tgt := 31) hx hb d_Mo_countOf_9 (by decide) (fun c1 => ?_) (fun c1 => ?_)
      · have c1 : es.length ≤ k := (nI_leI (a := es.length) (b := k) (by omega) (by omega)).mp c1
        refine lv_iload_n hx hb d_Mo_countOf_31 rfl (lv_at hl 2 rfl) ?_
        exact hret _ _ _ _ _ _ _ hS hP hD d_Mo_countOf_32 nr_i (⟨by rw [List.take_of_length_le (by omega)], rfl, rfl⟩)
      · have c1 : ¬ (es.length ≤ k) := fun z9 => c1 ((nI_leI (a := es.length) (b := k) (by omega) (by omega)).mpr z9)
        obtain ⟨e9, he9⟩ := get_tk (show k < es.length by omega)
        have hcn := cn_next (s := sc) he9
        have hm := (hR.1 k e9 he9).1
        have he4 := heS e9 (List.mem_of_getElem? he9)
        refine lv_aload_n hx hb d_Mo_countOf_12 rfl (lv_at hl 0 rfl) ?_
        refine va_get (D := D9) (ci := 7) (C := R_Mo) (T := F_Mo) (N := 30) hx hb hts i_Mo hown hK hP 33 ww_33 rfl 8 (by decide) (hts _ g_730) (fun _ h9 => h9) rfl d_Mo_countOf_13 ?_
        refine lv_iload_n hx hb d_Mo_countOf_16 rfl (lv_at hl 3 rfl) ?_
        refine va_iald (D := D9) hx hb hK hP 36 1 ww_36 rfl (vp_in_nI (by omega) (by decide)) d_Mo_countOf_17 ?_
        refine lv_topq (y := nI (eS e9)) (by rw [nI_clamp (by omega)]; exact hm) ?_
        refine lv_iload_n hx hb d_Mo_countOf_18 rfl (lv_at hl 1 rfl) ?_
        refine lv_icmp_ne (tgt := 25) hx hb d_Mo_countOf_19 (by decide) (fun c2 => ?_) (fun c2 => ?_)
        · have c2 : ¬ (eS e9 = sc) := fun z9 => c2 ((nI_eq (a := eS e9) (b := sc) (by omega) (by omega)).mpr z9)
          rw [if_neg c2] at hcn
          rw [show cn sc (es.take k) = cn sc (es.take (k + 1)) by omega] at hl
          refine lv_iinc (lv' := [(3, .int (nI (k + 1))), (0, _), (1, _), (2, _)]) hx hb d_Mo_countOf_25 hl (k := 3) rfl (nI_add _ 1) (by decide) rfl (fun ls hl => ?_)
          refine lv_goto (tgt := 4) hx hb d_Mo_countOf_28 (by decide) ?_
          exact ih _ (by omega) (k + 1) _ _ _ _ _ rfl rfl rfl (by omega) hP hD hS (lv_pk hl [1, 2, 3, 0] rfl)
        · have c2 : eS e9 = sc := (nI_eq (a := eS e9) (b := sc) (by omega) (by omega)).mp c2
          rw [if_pos c2] at hcn
          refine lv_iinc (lv' := [(2, .int (nI (cn sc (es.take k) + 1))), (0, _), (1, _), (3, _)]) hx hb d_Mo_countOf_22 hl (k := 2) rfl (nI_add _ 1) (by decide) rfl (fun ls hl => ?_)
          rw [show cn sc (es.take k) + 1 = cn sc (es.take (k + 1)) by omega] at hl
          refine lv_iinc (lv' := [(3, .int (nI (k + 1))), (2, _), (0, _), (1, _)]) hx hb d_Mo_countOf_25 hl (k := 3) rfl (nI_add _ 1) (by decide) rfl (fun ls hl => ?_)
          refine lv_goto (tgt := 4) hx hb d_Mo_countOf_28 (by decide) ?_
          exact ih _ (by omega) (k + 1) _ _ _ _ _ rfl rfl rfl (by omega) hP hD hS (lv_pk hl [2, 3, 1, 0] rfl)
  exact loop1 _ 0 _ _ _ _ _ rfl rfl rfl (Nat.zero_le _) hP hD hS (lv_pk hl [2, 3, 1, 0] rfl)
set_option maxHeartbeats 4000000 in
set_option maxRecDepth 100000 in
/-- the reference: records -/
theorem m_Mo_records (l : Launch) (D9 : va_G) (cB cI cJ cG : ClassId) (a : Nat → Nat) (O : Nat → Int64) (I : Nat → Int32) (F : Nat → Nat → Int32) (es : List En9) (hR : MoR F es) (h18 : I 18 = nI es.length) (hel : es.length ≤ 1102) (heS : ∀ e ∈ es, eS e < 4) : MC l D9 cB cI cJ cG a O y_Mo_records b_Mo_records 1 (some .int) 1 [.ref (a 33)] I F (fun v I' F' => v = some (.int (nI (es.length - cn 0 es))) ∧ I = I' ∧ F = F') := by
  refine mc_of (by decide) (Nat.le_of_ble_eq_true rfl) ?_
  intro p e s m below meth c ls A0 Q C0 hP hD hA hS hl hret
  obtain ⟨hx, hb, hml, hr, hlocks, hown, hts, hK⟩ := id C0
  have hl : lv_has ls 1 [(0, .ref (a 33))] := hl
  have hc := cn_le 0 es
  refine lv_aload_n hx hb d_Mo_records_0 rfl (lv_at hl 0 rfl) ?_
  refine va_get (D := D9) (ci := 7) (C := R_Mo) (T := F_Mo) (N := 30) hx hb hts i_Mo hown hK hP 33 ww_33 rfl 5 (by decide) (hts _ g_727) (fun _ h9 => h9) rfl d_Mo_records_1 ?_
  refine lv_topq (y := nI es.length) (h18) ?_
  refine lv_aload_n hx hb d_Mo_records_4 rfl (lv_at hl 0 rfl) ?_
  refine lv_iconst (v := 0) hx hb d_Mo_records_5 (by decide) ?_
  refine lv_topq (y := nI 0) (rfl) ?_
  refine mw_cV (ci := 7) (k := 33) C0 (m_Mo_countOf l D9 cB cI cJ cG a O _ _ es hR h18 hel heS 0 (by decide)) g_856 g_8 g_853 g_855 gs_Mo_countOf ⟨by decide +kernel, by decide +kernel, show Option.map (fun d => d.parameters.length) (parseMethodDescriptor y_Mo_countOf.desc) = some 1 by decide +kernel⟩ ⟨by decide, by decide⟩ rfl rfl hP hD hS hA rfl ww_33 hl.1 (Nat.le_of_ble_eq_true rfl) rfl d_Mo_records_6 ⟨by decide, by decide⟩ (fun v9 w9 H locs hq hP hD hS => ?_)
  obtain ⟨I1, F2, hw9, q3⟩ := hq
  subst hw9
  obtain ⟨rfl, rfl, rfl⟩ := q3
  refine lv_isub hx hb d_Mo_records_9 ?_
  refine lv_topq (y := nI (es.length - (cn 0 es))) (pk_sub (by omega)) ?_
  exact hret _ _ _ _ _ _ _ hS hP hD d_Mo_records_10 nr_i (⟨rfl, rfl, rfl⟩)
set_option maxHeartbeats 4000000 in
set_option maxRecDepth 100000 in
/-- the reference: place -/
theorem m_Mo_place (l : Launch) (D9 : va_G) (cB cI cJ cG : ClassId) (a : Nat → Nat) (O : Nat → Int64) (I : Nat → Int32) (F : Nat → Nat → Int32) (es : List En9) (hR : MoR F es) (h18 : I 18 = nI es.length) (hO : okE es) (x y : Int32) : MC l D9 cB cI cJ cG a O y_Mo_place b_Mo_place 5 (some .int) 0 [.ref (a 33), .int (x), .int (y)] I F (fun v I' F' => v = some (.int (oI (rI x y es))) ∧ I = I' ∧ F = F') := by
  refine mc_of (by decide) (Nat.le_of_ble_eq_true rfl) ?_
  intro p e s m below meth c ls A0 Q C0 hP hD hA hS hl hret
  obtain ⟨hx, hb, hml, hr, hlocks, hown, hts, hK⟩ := id C0
  have hl : lv_has ls 5 [(0, .ref (a 33)), (1, .int (x)), (2, .int (y))] := hl
  have hln := okE_len hO
  refine lv_iload_n hx hb d_Mo_place_0 rfl (lv_at hl 2 rfl) ?_
  refine lv_istore_n (lv' := [(3, _), (0, _), (1, _), (2, _)]) hx hb d_Mo_place_1 rfl hl (by decide) rfl (fun ls hl => ?_)
  refine lv_iload_n hx hb d_Mo_place_2 rfl (lv_at hl 3 rfl) ?_
  refine lv_if_ge (tgt := 8) hx hb d_Mo_place_3 (by decide) (fun c1 => ?_) (fun c1 => ?_)
  · obtain ⟨j, hjb, rfl⟩ := nI_of (x := y) (fun z9 => absurd c1 (Int32.not_le.mpr z9))
    refine lv_iconst (v := 0) hx hb d_Mo_place_8 (by decide) ?_
    refine lv_topq (y := nI 0) (rfl) ?_
    refine lv_istore (lv' := [(4, _), (3, _), (0, _), (1, _), (2, _)]) hx hb d_Mo_place_9 hl (by decide) rfl (fun ls hl => ?_)
    have loop1 : ∀ (n9 : Nat) (k : Nat) (n : Nat) (I9 : Nat → Int32) (F9 : Nat → Nat → Int32) (H : Heap) (locs : List Loc) (ls : Array Slot), (I = I9) → (F = F9) → (es.length - k = n9) → (k ≤ es.length) → (n ≤ j) → (∀ t9 : Nat, x = nI t9 → t9 < 4 → (n + cn t9 (es.take k) = j ∧ ∀ r, ix t9 j es = some r → k ≤ r)) → va_P D9 cls9 (WW a cB cI cJ cG I9 F9 O) H → va_D A0 (WW a cB cI cJ cG I9 F9 O) → va_S A0 s.heap H locs → lv_has ls 5 [(0, .ref (a 33)), (1, .int (x)), (2, .int (nI j)), (3, .int (nI n)), (4, .int (nI k))] → W p l e (rm9 0 0 0) s m ([.ref (a 33), .int (x), .int (nI j)] : List Value).toArray below meth c H locs 0 0 Q (F0 m 11 ls []) := by
      intro n9
      induction n9 using Nat.strongRecOn with
      | ind n9 ih =>
        intro k n I9 F9 H locs ls hsI hsF hn9 hk hnj hP9 hP hD hS hl
        subst hsI
        subst hsF
        refine lv_iload hx hb d_Mo_place_11 (lv_at hl 4 rfl) ?_
        refine lv_aload_n hx hb d_Mo_place_13 rfl (lv_at hl 0 rfl) ?_
        refine va_get (D := D9) (ci := 7) (C := R_Mo) (T := F_Mo) (N := 30) hx hb hts i_Mo hown hK hP 33 ww_33 rfl 5 (by decide) (hts _ g_727) (fun _ h9 => h9) rfl d_Mo_place_14 ?_
        refine lv_topq (y := nI es.length) (h18) ?_
        refine lv_icmp_ge (tgt := 50) hx hb d_Mo_place_17 (by decide) (fun c2 => ?_) (fun c2 => ?_)
        · have c2 : es.length ≤ k := (nI_leI (a := es.length) (b := k) (by omega) (by omega)).mp c2
          refine lv_iconst (v := -1) hx hb d_Mo_place_50 (by decide) ?_
          refine lv_topq (y := (-1 : Int32)) rfl ?_
          exact hret _ _ _ _ _ _ _ hS hP hD d_Mo_place_51 nr_i (⟨by rw [pl_miss hO (by omega) hjb hP9]; rfl, rfl, rfl⟩)
        · have c2 : ¬ (es.length ≤ k) := fun z9 => c2 ((nI_leI (a := es.length) (b := k) (by omega) (by omega)).mpr z9)
          obtain ⟨e9, he9⟩ := get_tk (show k < es.length by omega)
          have hm := (hR.1 k e9 he9).1
          have he4 := (hO.2.2.2 e9 (List.mem_of_getElem? he9)).1
          refine lv_aload_n hx hb d_Mo_place_20 rfl (lv_at hl 0 rfl) ?_
          refine va_get (D := D9) (ci := 7) (C := R_Mo) (T := F_Mo) (N := 30) hx hb hts i_Mo hown hK hP 33 ww_33 rfl 8 (by decide) (hts _ g_730) (fun _ h9 => h9) rfl d_Mo_place_21 ?_
          refine lv_iload hx hb d_Mo_place_24 (lv_at hl 4 rfl) ?_
          refine va_iald (D := D9) hx hb hK hP 36 1 ww_36 rfl (vp_in_nI (by omega) (by decide)) d_Mo_place_26 ?_
          refine lv_topq (y := nI (eS e9)) (by rw [nI_clamp (by omega)]; exact hm) ?_
          refine lv_iload_n hx hb d_Mo_place_27 rfl (lv_at hl 1 rfl) ?_
          refine lv_icmp_eq (tgt := 34) hx hb d_Mo_place_28 (by decide) (fun c3 => ?_) (fun c3 => ?_)
          · refine lv_iload_n hx hb d_Mo_place_34 rfl (lv_at hl 3 rfl) ?_
            refine lv_if_ne (tgt := 41) hx hb d_Mo_place_35 (by decide) (fun c4 => ?_) (fun c4 => ?_)
            · have c4 : ¬ (n = 0) := fun z9 => c4 ((nI_eq (a := n) (b := 0) (by omega) (by omega)).mpr z9)
              refine lv_iinc (lv' := [(3, .int (nI (n - 1))), (0, _), (1, _), (2, _), (4, _)]) hx hb d_Mo_place_41 hl (k := 3) rfl (ii_d (by omega)) (by decide) rfl (fun ls hl => ?_)
              refine lv_iinc (lv' := [(4, .int (nI (k + 1))), (3, _), (0, _), (1, _), (2, _)]) hx hb d_Mo_place_44 hl (k := 4) rfl (nI_add _ 1) (by decide) rfl (fun ls hl => ?_)
              refine lv_goto (tgt := 11) hx hb d_Mo_place_47 (by decide) ?_
              exact ih _ (by omega) (k + 1) (n - 1) _ _ _ _ _ rfl rfl rfl (by omega) (by omega) (fun t9 hx9 h4 => pl_step (n := n) he9 (Or.inl ⟨c3, rfl⟩) hx9 h4 he4 (hP9 t9 hx9 h4) (fun _ => by omega)) hP hD hS (lv_pk hl [2, 3, 4, 1, 0] rfl)
            · have c4 : n = 0 := (nI_eq (a := n) (b := 0) (by omega) (by omega)).mp c4
              refine lv_iload hx hb d_Mo_place_38 (lv_at hl 4 rfl) ?_
              exact hret _ _ _ _ _ _ _ hS hP hD d_Mo_place_40 nr_i (⟨by rw [pl_hit he9 c3 he4 hjb hP9 c4]; rfl, rfl, rfl⟩)
          · refine lv_goto (tgt := 44) hx hb d_Mo_place_31 (by decide) ?_
            refine lv_iinc (lv' := [(4, .int (nI (k + 1))), (0, _), (1, _), (2, _), (3, _)]) hx hb d_Mo_place_44 hl (k := 4) rfl (nI_add _ 1) (by decide) rfl (fun ls hl => ?_)
            refine lv_goto (tgt := 11) hx hb d_Mo_place_47 (by decide) ?_
            exact ih _ (by omega) (k + 1) n _ _ _ _ _ rfl rfl rfl (by omega) (by omega) (fun t9 hx9 h4 => pl_step (n := n) he9 (Or.inr ⟨c3, rfl⟩) hx9 h4 he4 (hP9 t9 hx9 h4) (fun z9 => absurd z9 c3)) hP hD hS (lv_pk hl [1, 2, 3, 4, 0] rfl)
    exact loop1 _ 0 j _ _ _ _ _ rfl rfl rfl (Nat.zero_le _) (Nat.le_refl _) (fun t9 _ _ => ⟨rfl, fun r _ => Nat.zero_le _⟩) hP hD hS (lv_pk hl [2, 3, 4, 1, 0] rfl)
  · refine lv_iconst (v := -1) hx hb d_Mo_place_6 (by decide) ?_
    refine lv_topq (y := (-1 : Int32)) rfl ?_
    exact hret _ _ _ _ _ _ _ hS hP hD d_Mo_place_7 nr_i (⟨by unfold rI; rw [if_pos (Or.inr (Or.inr (Int32.not_le.mp c1)))]; rfl, rfl, rfl⟩)
set_option maxHeartbeats 4000000 in
set_option maxRecDepth 100000 in
/-- the reference: wrong -/
theorem m_Mo_wrong (l : Launch) (D9 : va_G) (cB cI cJ cG : ClassId) (a : Nat → Nat) (O : Nat → Int64) (I : Nat → Int32) (F : Nat → Nat → Int32) (x y : Int32) (h24 : I 24 = nI 0) : MC l D9 cB cI cJ cG a O y_Mo_wrong b_Mo_wrong 3 (none) 0 [.ref (a 33), .int (x), .int (y)] I F (fun v I' F' => v = none ∧ sm [21, 24] I I' ∧ I' 24 = x ∧ F = F') := by
  refine mc_ofv (by decide) (Nat.le_of_ble_eq_true rfl) ?_
  intro p e s m below meth c ls A0 Q C0 hP hD hA hS hl hret
  obtain ⟨hx, hb, hml, hr, hlocks, hown, hts, hK⟩ := id C0
  have hl : lv_has ls 3 [(0, .ref (a 33)), (1, .int (x)), (2, .int (y))] := hl
  refine lv_aload_n hx hb d_Mo_wrong_0 rfl (lv_at hl 0 rfl) ?_
  refine va_get (D := D9) (ci := 7) (C := R_Mo) (T := F_Mo) (N := 30) hx hb hts i_Mo hown hK hP 33 ww_33 rfl 19 (by decide) (hts _ g_741) (fun _ h9 => h9) rfl d_Mo_wrong_1 ?_
  refine lv_topq (y := nI 0) (h24) ?_
  refine lv_if_le (tgt := 8) hx hb d_Mo_wrong_4 (by decide) (fun c1 => ?_) (fun c1 => ?_)
  · refine lv_aload_n hx hb d_Mo_wrong_8 rfl (lv_at hl 0 rfl) ?_
    refine lv_iload_n hx hb d_Mo_wrong_9 rfl (lv_at hl 1 rfl) ?_
    refine va_put (D := D9) (ty := .int) (ci := 7) (C := R_Mo) (T := F_Mo) (N := 30) hx hb hts i_Mo t_Mo t_Mo_ok n_Mo hown hK hP hD hS 33 ww_33 rfl 19 (by decide) (hts _ g_741) (fun _ h9 => h9) rfl (by decide +kernel) rfl rfl (Nat.le_of_ble_eq_true rfl) d_Mo_wrong_10 (fun H locs hP hD hS => ?_)
    obtain ⟨I2, aI2, sI2, hP, hD⟩ := fx (P := fun z => va_P D9 cls9 (WW a cB cI cJ cG z _ O) H ∧ va_D A0 (WW a cB cI cJ cG z _ O)) ⟨wp_24 hP, wd_24 hD⟩
    refine lv_aload_n hx hb d_Mo_wrong_13 rfl (lv_at hl 0 rfl) ?_
    refine lv_iload_n hx hb d_Mo_wrong_14 rfl (lv_at hl 2 rfl) ?_
    refine va_put (D := D9) (ty := .int) (ci := 7) (C := R_Mo) (T := F_Mo) (N := 30) hx hb hts i_Mo t_Mo t_Mo_ok n_Mo hown hK hP hD hS 33 ww_33 rfl 16 (by decide) (hts _ g_738) (fun _ h9 => h9) rfl (by decide +kernel) rfl rfl (Nat.le_of_ble_eq_true rfl) d_Mo_wrong_15 (fun H locs hP hD hS => ?_)
    obtain ⟨I3, aI3, sI3, hP, hD⟩ := fx (P := fun z => va_P D9 cls9 (WW a cB cI cJ cG z _ O) H ∧ va_D A0 (WW a cB cI cJ cG z _ O)) ⟨wp_21 hP, wd_21 hD⟩
    exact hret _ _ _ _ _ _ hS hP hD d_Mo_wrong_18 (⟨rfl, (sm_tr (sm_mo sI2 (by decide)) (sm_mo sI3 (by decide))), ((sI3 24 (by decide)).trans aI2), rfl⟩)
  · exact absurd c1 (by decide)
set_option maxHeartbeats 4000000 in
set_option maxRecDepth 100000 in
/-- the reference: here -/
theorem m_Mo_here (l : Launch) (D9 : va_G) (cB cI cJ cG : ClassId) (a : Nat → Nat) (O : Nat → Int64) (I : Nat → Int32) (F : Nat → Nat → Int32) (t : List Nat) (hT : BR 0 65536 (F 34) t) (h16 : I 16 = nI t.length) (htl : t.length ≤ 65536) (q : Nat) (hq : q < t.length) : MC l D9 cB cI cJ cG a O y_Mo_here b_Mo_here 2 (some .int) 0 [.ref (a 33), .int (nI q)] I F (fun v I' F' => v = some (.int (nI (tb t q))) ∧ I = I' ∧ F = F') := by
  refine mc_of (by decide) (Nat.le_of_ble_eq_true rfl) ?_
  intro p e s m below meth c ls A0 Q C0 hP hD hA hS hl hret
  obtain ⟨hx, hb, hml, hr, hlocks, hown, hts, hK⟩ := id C0
  have hl : lv_has ls 2 [(0, .ref (a 33)), (1, .int (nI q))] := hl
  refine lv_aload_n hx hb d_Mo_here_0 rfl (lv_at hl 0 rfl) ?_
  refine va_get (D := D9) (ci := 7) (C := R_Mo) (T := F_Mo) (N := 30) hx hb hts i_Mo hown hK hP 33 ww_33 rfl 1 (by decide) (hts _ g_723) (fun _ h9 => h9) rfl d_Mo_here_1 ?_
  refine lv_iload_n hx hb d_Mo_here_4 rfl (lv_at hl 1 rfl) ?_
  refine va_bald (D := D9) hx hb hK hP 34 0 ww_34 rfl (vp_in_nI (by omega) (by decide)) d_Mo_here_5 ?_
  refine lv_topq (y := F 34 q) ((by rw [nI_clamp (by omega)])) ?_
  refine lv_sipush (v := 255) hx hb d_Mo_here_6 (by decide) ?_
  refine lv_topq (y := nI 255) (rfl) ?_
  refine lv_iand hx hb d_Mo_here_9 ?_
  refine lv_topq (y := nI (tb t q)) ((ub_and _).trans (congrArg nI (BR_tb hT hq (by omega) (by omega)))) ?_
  exact hret _ _ _ _ _ _ _ hS hP hD d_Mo_here_10 nr_i (⟨rfl, rfl, rfl⟩)
set_option maxHeartbeats 4000000 in
set_option maxRecDepth 100000 in
/-- the reference: two -/
theorem m_Mo_two (l : Launch) (D9 : va_G) (cB cI cJ cG : ClassId) (a : Nat → Nat) (O : Nat → Int64) (I : Nat → Int32) (F : Nat → Nat → Int32) (t : List Nat) (hT : BR 0 65536 (F 34) t) (h16 : I 16 = nI t.length) (htl : t.length ≤ 65536) (q : Nat) (hq : q + 1 < t.length) : MC l D9 cB cI cJ cG a O y_Mo_two b_Mo_two 2 (some .int) 1 [.ref (a 33), .int (nI q)] I F (fun v I' F' => v = some (.int (nI (t2 t q))) ∧ I = I' ∧ F = F') := by
  refine mc_of (by decide) (Nat.le_of_ble_eq_true rfl) ?_
  intro p e s m below meth c ls A0 Q C0 hP hD hA hS hl hret
  obtain ⟨hx, hb, hml, hr, hlocks, hown, hts, hK⟩ := id C0
  have hl : lv_has ls 2 [(0, .ref (a 33)), (1, .int (nI q))] := hl
  refine lv_aload_n hx hb d_Mo_two_0 rfl (lv_at hl 0 rfl) ?_
  refine lv_iload_n hx hb d_Mo_two_1 rfl (lv_at hl 1 rfl) ?_
  refine mw_cV (ci := 7) (k := 33) C0 (m_Mo_here l D9 cB cI cJ cG a O _ _ t hT h16 htl q (by omega)) g_832 g_8 g_829 g_831 gs_Mo_here ⟨by decide +kernel, by decide +kernel, show Option.map (fun d => d.parameters.length) (parseMethodDescriptor y_Mo_here.desc) = some 1 by decide +kernel⟩ ⟨by decide, by decide⟩ rfl rfl hP hD hS hA rfl ww_33 hl.1 (Nat.le_of_ble_eq_true rfl) rfl d_Mo_two_2 ⟨by decide, by decide⟩ (fun v9 w9 H locs hq hP hD hS => ?_)
  obtain ⟨I1, F2, hw9, q3⟩ := hq
  subst hw9
  obtain ⟨rfl, rfl, rfl⟩ := q3
  refine lv_bipush (v := 8) hx hb d_Mo_two_5 (by decide) ?_
  refine lv_topq (y := nI 8) (rfl) ?_
  refine lv_ishl hx hb d_Mo_two_7 ?_
  refine lv_topq (y := nI (tb t q) <<< ((8 : Int32) &&& 31)) (rfl) ?_
  refine lv_aload_n hx hb d_Mo_two_8 rfl (lv_at hl 0 rfl) ?_
  refine lv_iload_n hx hb d_Mo_two_9 rfl (lv_at hl 1 rfl) ?_
  refine lv_iconst (v := 1) hx hb d_Mo_two_10 (by decide) ?_
  refine lv_topq (y := nI 1) (rfl) ?_
  refine lv_iadd hx hb d_Mo_two_11 ?_
  refine lv_topq (y := nI (q + 1)) (nI_add _ _) ?_
  refine mw_cV (ci := 7) (k := 33) C0 (m_Mo_here l D9 cB cI cJ cG a O _ _ t hT h16 htl (q + 1) (by omega)) g_832 g_8 g_829 g_831 gs_Mo_here ⟨by decide +kernel, by decide +kernel, show Option.map (fun d => d.parameters.length) (parseMethodDescriptor y_Mo_here.desc) = some 1 by decide +kernel⟩ ⟨by decide, by decide⟩ rfl rfl hP hD hS hA rfl ww_33 hl.1 (Nat.le_of_ble_eq_true rfl) rfl d_Mo_two_12 ⟨by decide, by decide⟩ (fun v9 w9 H locs hq hP hD hS => ?_)
  obtain ⟨I4, F5, hw9, q6⟩ := hq
  subst hw9
  obtain ⟨rfl, rfl, rfl⟩ := q6
  refine lv_ior hx hb d_Mo_two_15 ?_
  refine lv_topq (y := nI (t2 t q)) (two_nI (BR_lt hT (by omega) (by omega) (by omega)) (BR_lt hT (by omega) (by omega) (by omega))) ?_
  exact hret _ _ _ _ _ _ _ hS hP hD d_Mo_two_16 nr_i (⟨rfl, rfl, rfl⟩)
set_option maxHeartbeats 4000000 in
set_option maxRecDepth 100000 in
/-- the reference: there -/
theorem m_Mo_there (l : Launch) (D9 : va_G) (cB cI cJ cG : ClassId) (a : Nat → Nat) (O : Nat → Int64) (I : Nat → Int32) (F : Nat → Nat → Int32) (t : List Nat) (hT : BR 0 65536 (F 34) t) (h16 : I 16 = nI t.length) (htl : t.length ≤ 65536) (q n b : Nat) (ind jm : Bool) (hbe : ind = true → I 27 = nI b) (h24 : I 24 = nI 0) (hq : q < 1000000) (hn : n < 1000000) (hb9 : b < 1000000) : MC l D9 cB cI cJ cG a O y_Mo_there b_Mo_there 5 (some .boolean) 1 [.ref (a 33), .int (nI q), .int (nI n), .int (bI ind), .int (bI jm)] I F (fun v I' F' => ((q + n ≤ t.length ∧ (ind = true ∧ jm = false → q + n ≤ b)) ∧ v = some (.int (nI 1)) ∧ I = I' ∧ F = F') ∨ (¬ (q + n ≤ t.length ∧ (ind = true ∧ jm = false → q + n ≤ b)) ∧ v = some (.int (nI 0)) ∧ sm [21, 24] I I' ∧ (∃ z : Nat, (0 < z ∧ z < 100) ∧ I' 24 = nI z) ∧ F = F')) := by
  refine mc_of (by decide) (Nat.le_of_ble_eq_true rfl) ?_
  intro p e s m below meth c ls A0 Q C0 hP hD hA hS hl hret
  obtain ⟨hx, hb, hml, hr, hlocks, hown, hts, hK⟩ := id C0
  have hl : lv_has ls 5 [(0, .ref (a 33)), (1, .int (nI q)), (2, .int (nI n)), (3, .int (bI ind)), (4, .int (bI jm))] := hl
  refine lv_iload_n hx hb d_Mo_there_0 rfl (lv_at hl 1 rfl) ?_
  refine lv_iload_n hx hb d_Mo_there_1 rfl (lv_at hl 2 rfl) ?_
  refine lv_iadd hx hb d_Mo_there_2 ?_
  refine lv_topq (y := nI (q + n)) (nI_add _ _) ?_
  refine lv_aload_n hx hb d_Mo_there_3 rfl (lv_at hl 0 rfl) ?_
  refine va_get (D := D9) (ci := 7) (C := R_Mo) (T := F_Mo) (N := 30) hx hb hts i_Mo hown hK hP 33 ww_33 rfl 2 (by decide) (hts _ g_724) (fun _ h9 => h9) rfl d_Mo_there_4 ?_
  refine lv_topq (y := nI t.length) (h16) ?_
  refine lv_icmp_le (tgt := 18) hx hb d_Mo_there_7 (by decide) (fun c1 => ?_) (fun c1 => ?_)
  · have c1 : q + n ≤ t.length := (nI_leI (a := q + n) (b := t.length) (by omega) (by omega)).mp c1
    refine lv_iload_n hx hb d_Mo_there_18 rfl (lv_at hl 3 rfl) ?_
    refine lv_if_eq (tgt := 48) hx hb d_Mo_there_19 (by decide) (fun c2 => ?_) (fun c2 => ?_)
    · have c2 : ind = false := bI_f c2
      refine lv_iconst (v := 1) hx hb d_Mo_there_48 (by decide) ?_
      refine lv_topq (y := nI 1) (rfl) ?_
      exact hret _ _ _ _ _ _ _ hS hP hD d_Mo_there_49 (nr_z (Or.inr rfl)) (Or.inl ⟨⟨by omega, by intro z9; rw [c2] at z9; exact absurd z9.1 (by decide)⟩, rfl, rfl, rfl⟩)
    · have c2 : ind = true := bI_t c2
      have h27 := hbe c2
      refine lv_iload hx hb d_Mo_there_22 (lv_at hl 4 rfl) ?_
      refine lv_if_ne (tgt := 48) hx hb d_Mo_there_24 (by decide) (fun c3 => ?_) (fun c3 => ?_)
      · have c3 : jm = true := bI_t c3
        refine lv_iconst (v := 1) hx hb d_Mo_there_48 (by decide) ?_
        refine lv_topq (y := nI 1) (rfl) ?_
        exact hret _ _ _ _ _ _ _ hS hP hD d_Mo_there_49 (nr_z (Or.inr rfl)) (Or.inl ⟨⟨by omega, by intro z9; rw [c3] at z9; exact absurd z9.2 (by decide)⟩, rfl, rfl, rfl⟩)
      · have c3 : jm = false := bI_f c3
        refine lv_iload_n hx hb d_Mo_there_27 rfl (lv_at hl 1 rfl) ?_
        refine lv_iload_n hx hb d_Mo_there_28 rfl (lv_at hl 2 rfl) ?_
        refine lv_iadd hx hb d_Mo_there_29 ?_
        refine lv_topq (y := nI (q + n)) (nI_add _ _) ?_
        refine lv_aload_n hx hb d_Mo_there_30 rfl (lv_at hl 0 rfl) ?_
        refine va_get (D := D9) (ci := 7) (C := R_Mo) (T := F_Mo) (N := 30) hx hb hts i_Mo hown hK hP 33 ww_33 rfl 22 (by decide) (hts _ g_744) (fun _ h9 => h9) rfl d_Mo_there_31 ?_
        refine lv_topq (y := nI b) (h27) ?_
        refine lv_icmp_le (tgt := 48) hx hb d_Mo_there_34 (by decide) (fun c4 => ?_) (fun c4 => ?_)
        · have c4 : q + n ≤ b := (nI_leI (a := q + n) (b := b) (by omega) (by omega)).mp c4
          refine lv_iconst (v := 1) hx hb d_Mo_there_48 (by decide) ?_
          refine lv_topq (y := nI 1) (rfl) ?_
          exact hret _ _ _ _ _ _ _ hS hP hD d_Mo_there_49 (nr_z (Or.inr rfl)) (Or.inl ⟨⟨by omega, by intro z9; omega⟩, rfl, rfl, rfl⟩)
        · have c4 : ¬ (q + n ≤ b) := fun z9 => c4 ((nI_leI (a := q + n) (b := b) (by omega) (by omega)).mpr z9)
          refine lv_aload_n hx hb d_Mo_there_37 rfl (lv_at hl 0 rfl) ?_
          refine lv_iconst (v := 5) hx hb d_Mo_there_38 (by decide) ?_
          refine lv_topq (y := nI 5) (rfl) ?_
          refine lv_aload_n hx hb d_Mo_there_39 rfl (lv_at hl 0 rfl) ?_
          refine va_get (D := D9) (ci := 7) (C := R_Mo) (T := F_Mo) (N := 30) hx hb hts i_Mo hown hK hP 33 ww_33 rfl 21 (by decide) (hts _ g_743) (fun _ h9 => h9) rfl d_Mo_there_40 ?_
          refine mw_cV (ci := 7) (k := 33) C0 (m_Mo_wrong l D9 cB cI cJ cG a O _ _ (nI 5) _ h24) g_824 g_8 g_821 g_823 gs_Mo_wrong ⟨by decide +kernel, by decide +kernel, show Option.map (fun d => d.parameters.length) (parseMethodDescriptor y_Mo_wrong.desc) = some 2 by decide +kernel⟩ ⟨by decide, by decide⟩ rfl rfl hP hD hS hA rfl ww_33 hl.1 (Nat.le_of_ble_eq_true rfl) rfl d_Mo_there_43 ⟨by decide, by decide⟩ (fun v9 w9 H locs hq hP hD hS => ?_)
          obtain ⟨I5, F6, hw9, q7⟩ := hq
          subst hw9
          obtain ⟨rfl, sI5, zI5, rfl⟩ := q7
          refine lv_iconst (v := 0) hx hb d_Mo_there_46 (by decide) ?_
          refine lv_topq (y := nI 0) (rfl) ?_
          exact hret _ _ _ _ _ _ _ hS hP hD d_Mo_there_47 (nr_z (Or.inl rfl)) (Or.inr ⟨fun z9 => by have z8 := z9.1; have z7 := z9.2; have z6 := z7 ⟨c2, c3⟩; omega, rfl, (sm_mo sI5 (by decide)), ⟨_, by decide, zI5⟩, rfl⟩)
  · have c1 : ¬ (q + n ≤ t.length) := fun z9 => c1 ((nI_leI (a := q + n) (b := t.length) (by omega) (by omega)).mpr z9)
    refine lv_aload_n hx hb d_Mo_there_10 rfl (lv_at hl 0 rfl) ?_
    refine lv_iconst (v := 1) hx hb d_Mo_there_11 (by decide) ?_
    refine lv_topq (y := nI 1) (rfl) ?_
    refine lv_iload_n hx hb d_Mo_there_12 rfl (lv_at hl 1 rfl) ?_
    refine mw_cV (ci := 7) (k := 33) C0 (m_Mo_wrong l D9 cB cI cJ cG a O _ _ (nI 1) _ h24) g_824 g_8 g_821 g_823 gs_Mo_wrong ⟨by decide +kernel, by decide +kernel, show Option.map (fun d => d.parameters.length) (parseMethodDescriptor y_Mo_wrong.desc) = some 2 by decide +kernel⟩ ⟨by decide, by decide⟩ rfl rfl hP hD hS hA rfl ww_33 hl.1 (Nat.le_of_ble_eq_true rfl) rfl d_Mo_there_13 ⟨by decide, by decide⟩ (fun v9 w9 H locs hq hP hD hS => ?_)
    obtain ⟨I8, F9, hw9, q10⟩ := hq
    subst hw9
    obtain ⟨rfl, sI8, zI8, rfl⟩ := q10
    refine lv_iconst (v := 0) hx hb d_Mo_there_16 (by decide) ?_
    refine lv_topq (y := nI 0) (rfl) ?_
    exact hret _ _ _ _ _ _ _ hS hP hD d_Mo_there_17 (nr_z (Or.inl rfl)) (Or.inr ⟨fun z9 => by have z8 := z9.1; have z7 := z9.2; omega, rfl, (sm_mo sI8 (by decide)), ⟨_, by decide, zI8⟩, rfl⟩)
