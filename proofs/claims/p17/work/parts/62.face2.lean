/-! THE CLASS'S OWN METHODS: question, record, write, back -/
theorem GaR_cn {F : Nat → Nat → Int32} {es : List En9} (h : GaR F es) {s : Nat} (hs : s < 4) : F 16 s = nI (cn s es) := h.2.1 s hs
theorem qD_bd {t : List Nat} {ty : Nat} {nm d : List Nat} (h : qD t ty = some (nm, d)) (htl : t.length ≤ 65536) : nm.length ≤ 255 ∧ d.length ≤ 70000 := by
  unfold qD at h
  split at h
  · cases h
  · rename_i n1 e1 c1 h1
    have b1 := rn_bd h1 (by decide)
    split at h
    · cases h
    · rename_i d1 c2 h2
      have b2 := rdD_bd h2
      split at h
      · simp only [Option.some.injEq, Prod.mk.injEq] at h
        obtain ⟨rfl, rfl⟩ := h
        omega
      · cases h
theorem g_17 : (Cond.initialized "java/util/NoSuchElementException") ∈ GT := gt_mem 17 (by decide +kernel) rfl
theorem g_18 : (Cond.initialized "java/lang/UnsupportedOperationException") ∈ GT := gt_mem 18 (by decide +kernel) rfl
theorem g_83 : (Cond.fieldLinkNest "WireMessages" (100 : Nat) "WireMessages$Gathered" "sizes" "[I" "WireMessages") ∈ GT := gt_mem 83 (by decide +kernel) rfl
theorem g_129 : (Cond.fieldLinkNest "WireMessages" (93 : Nat) "WireMessages$Reader" "ownerLength" "I" "WireMessages") ∈ GT := gt_mem 129 (by decide +kernel) rfl
theorem g_187 : (Cond.fieldLinkNest "WireMessages" (120 : Nat) "WireMessages$Writer" "message" "LWireMessages$Bytes;" "WireMessages") ∈ GT := gt_mem 187 (by decide +kernel) rfl
theorem g_488 : (Cond.methodLinkNest "WireMessages" (89 : Nat) ({ cls := "WireMessages$Reader", name := "takeTapeAsName", desc := "()Z" } : MethodName) "WireMessages") ∈ GT := gt_mem 488 (by decide +kernel) rfl
theorem g_490 : (Cond.instanceMethod ({ cls := "WireMessages$Reader", name := "takeTapeAsName", desc := "()Z" } : MethodName)) ∈ GT := gt_mem 490 (by decide +kernel) rfl
theorem g_491 : (Cond.code ({ cls := "WireMessages$Reader", name := "takeTapeAsName", desc := "()Z" } : MethodName) prog_7_method_6_code (3 : Nat) (Option.some FieldType.boolean)) ∈ GT := gt_mem 491 (by decide +kernel) rfl
theorem g_496 : (Cond.methodLinkNest "WireMessages" (96 : Nat) ({ cls := "WireMessages$Gathered", name := "keep", desc := "(IIIIII)Z" } : MethodName) "WireMessages") ∈ GT := gt_mem 496 (by decide +kernel) rfl
theorem g_505 : (Cond.classLink "WireMessages" (104 : Nat) "java/util/NoSuchElementException") ∈ GT := gt_mem 505 (by decide +kernel) rfl
theorem g_520 : (Cond.methodLinkNest "WireMessages" (107 : Nat) ({ cls := "WireMessages$Reader", name := "takeTapeAsNameAndData", desc := "(I)Z" } : MethodName) "WireMessages") ∈ GT := gt_mem 520 (by decide +kernel) rfl
theorem g_522 : (Cond.instanceMethod ({ cls := "WireMessages$Reader", name := "takeTapeAsNameAndData", desc := "(I)Z" } : MethodName)) ∈ GT := gt_mem 522 (by decide +kernel) rfl
theorem g_523 : (Cond.code ({ cls := "WireMessages$Reader", name := "takeTapeAsNameAndData", desc := "(I)Z" } : MethodName) prog_7_method_7_code (4 : Nat) (Option.some FieldType.boolean)) ∈ GT := gt_mem 523 (by decide +kernel) rfl
theorem g_532 : (Cond.methodLinkNest "WireMessages" (111 : Nat) ({ cls := "WireMessages$Gathered", name := "bytesNeverLeftOut", desc := "()I" } : MethodName) "WireMessages") ∈ GT := gt_mem 532 (by decide +kernel) rfl
theorem g_544 : (Cond.classLink "WireMessages" (114 : Nat) "java/lang/UnsupportedOperationException") ∈ GT := gt_mem 544 (by decide +kernel) rfl
theorem g_559 : (Cond.methodLinkNest "WireMessages" (117 : Nat) ({ cls := "WireMessages$Writer", name := "compose", desc := "(I)V" } : MethodName) "WireMessages") ∈ GT := gt_mem 559 (by decide +kernel) rfl
theorem g_561 : (Cond.instanceMethod ({ cls := "WireMessages$Writer", name := "compose", desc := "(I)V" } : MethodName)) ∈ GT := gt_mem 561 (by decide +kernel) rfl
theorem g_562 : (Cond.code ({ cls := "WireMessages$Writer", name := "compose", desc := "(I)V" } : MethodName) prog_8_method_2_code (9 : Nat) (Option.none : Option FieldType)) ∈ GT := gt_mem 562 (by decide +kernel) rfl
theorem gs_Re_takeTapeAsName : Cond.selects R_Re y_Re_takeTapeAsName y_Re_takeTapeAsName ∈ GT := gt_sel (q := (⟨"WireMessages$Reader", "takeTapeAsName", "()Z"⟩, 8)) (by decide +kernel)
theorem gs_Re_takeTapeAsNameAndData : Cond.selects R_Re y_Re_takeTapeAsNameAndData y_Re_takeTapeAsNameAndData ∈ GT := gt_sel (q := (⟨"WireMessages$Reader", "takeTapeAsNameAndData", "(I)Z"⟩, 8)) (by decide +kernel)
theorem gs_Wr_compose : Cond.selects R_Wr y_Wr_compose y_Wr_compose ∈ GT := gt_sel (q := (⟨"WireMessages$Writer", "compose", "(I)V"⟩, 6)) (by decide +kernel)
theorem at_Wm_106 : ∀ w ∈ (Bundle.ownAtoms0 R_Wm 106 "java/util/NoSuchElementException" ["java/lang/RuntimeException", "java/lang/Exception"]).filter tx_tab, w ∈ GT := gt_all _ (by decide +kernel) (by decide +kernel)
theorem at_Wm_116 : ∀ w ∈ (Bundle.ownAtoms0 R_Wm 116 "java/lang/UnsupportedOperationException" ["java/lang/RuntimeException", "java/lang/Exception"]).filter tx_tab, w ∈ GT := gt_all _ (by decide +kernel) (by decide +kernel)
theorem d_Wm_question_0 : decode b_Wm_question 0 = .ok (.aload_n 0, 1) := by decide +kernel
theorem d_Wm_question_1 : decode b_Wm_question 1 = .ok (.getfield 19, 3) := by decide +kernel
theorem d_Wm_question_4 : decode b_Wm_question 4 = .ok (.getfield 43, 3) := by decide +kernel
theorem d_Wm_question_7 : decode b_Wm_question 7 = .ok (.getfield 60, 3) := by decide +kernel
theorem d_Wm_question_10 : decode b_Wm_question 10 = .ok (.istore_n 3, 1) := by decide +kernel
theorem d_Wm_question_11 : decode b_Wm_question 11 = .ok (.aload_n 0, 1) := by decide +kernel
theorem d_Wm_question_12 : decode b_Wm_question 12 = .ok (.getfield 28, 3) := by decide +kernel
theorem d_Wm_question_15 : decode b_Wm_question 15 = .ok (.invokevirtual 89, 3) := by decide +kernel
theorem d_Wm_question_18 : decode b_Wm_question 18 = .ok (.ifCond .ne 11, 3) := by decide +kernel
theorem d_Wm_question_21 : decode b_Wm_question 21 = .ok (.new 71, 3) := by decide +kernel
theorem d_Wm_question_24 : decode b_Wm_question 24 = .ok (.dup, 1) := by decide +kernel
theorem d_Wm_question_25 : decode b_Wm_question 25 = .ok (.invokespecial 73, 3) := by decide +kernel
theorem d_Wm_question_28 : decode b_Wm_question 28 = .ok (.athrow, 1) := by decide +kernel
theorem d_Wm_question_29 : decode b_Wm_question 29 = .ok (.aload_n 0, 1) := by decide +kernel
theorem d_Wm_question_30 : decode b_Wm_question 30 = .ok (.getfield 19, 3) := by decide +kernel
theorem d_Wm_question_33 : decode b_Wm_question 33 = .ok (.iconst 0, 1) := by decide +kernel
theorem d_Wm_question_34 : decode b_Wm_question 34 = .ok (.iload_n 3, 1) := by decide +kernel
theorem d_Wm_question_35 : decode b_Wm_question 35 = .ok (.aload_n 0, 1) := by decide +kernel
theorem d_Wm_question_36 : decode b_Wm_question 36 = .ok (.getfield 28, 3) := by decide +kernel
theorem d_Wm_question_39 : decode b_Wm_question 39 = .ok (.getfield 93, 3) := by decide +kernel
theorem d_Wm_question_42 : decode b_Wm_question 42 = .ok (.iload_n 1, 1) := by decide +kernel
theorem d_Wm_question_43 : decode b_Wm_question 43 = .ok (.ldc 84, 2) := by decide +kernel
theorem d_Wm_question_45 : decode b_Wm_question 45 = .ok (.iand, 1) := by decide +kernel
theorem d_Wm_question_46 : decode b_Wm_question 46 = .ok (.iload_n 2, 1) := by decide +kernel
theorem d_Wm_question_47 : decode b_Wm_question 47 = .ok (.ldc 84, 2) := by decide +kernel
theorem d_Wm_question_49 : decode b_Wm_question 49 = .ok (.iand, 1) := by decide +kernel
theorem d_Wm_question_50 : decode b_Wm_question 50 = .ok (.iconst 0, 1) := by decide +kernel
theorem d_Wm_question_51 : decode b_Wm_question 51 = .ok (.invokevirtual 96, 3) := by decide +kernel
theorem d_Wm_question_54 : decode b_Wm_question 54 = .ok (.ifCond .ne 11, 3) := by decide +kernel
theorem d_Wm_question_57 : decode b_Wm_question 57 = .ok (.new 64, 3) := by decide +kernel
theorem d_Wm_question_60 : decode b_Wm_question 60 = .ok (.dup, 1) := by decide +kernel
theorem d_Wm_question_61 : decode b_Wm_question 61 = .ok (.invokespecial 66, 3) := by decide +kernel
theorem d_Wm_question_64 : decode b_Wm_question 64 = .ok (.athrow, 1) := by decide +kernel
theorem d_Wm_question_65 : decode b_Wm_question 65 = .ok (.aload_n 0, 1) := by decide +kernel
theorem d_Wm_question_66 : decode b_Wm_question 66 = .ok (.getfield 10, 3) := by decide +kernel
theorem d_Wm_question_69 : decode b_Wm_question 69 = .ok (.iconst 0, 1) := by decide +kernel
theorem d_Wm_question_70 : decode b_Wm_question 70 = .ok (.putfield 60, 3) := by decide +kernel
theorem d_Wm_question_73 : decode b_Wm_question 73 = .ok (.aload_n 0, 1) := by decide +kernel
theorem d_Wm_question_74 : decode b_Wm_question 74 = .ok (.getfield 19, 3) := by decide +kernel
theorem d_Wm_question_77 : decode b_Wm_question 77 = .ok (.getfield 100, 3) := by decide +kernel
theorem d_Wm_question_80 : decode b_Wm_question 80 = .ok (.iconst 0, 1) := by decide +kernel
theorem d_Wm_question_81 : decode b_Wm_question 81 = .ok (.iaload, 1) := by decide +kernel
theorem d_Wm_question_82 : decode b_Wm_question 82 = .ok (.ireturn, 1) := by decide +kernel
theorem d_Wm_record_0 : decode b_Wm_record 0 = .ok (.iload_n 1, 1) := by decide +kernel
theorem d_Wm_record_1 : decode b_Wm_record 1 = .ok (.ifCond .le 8, 3) := by decide +kernel
theorem d_Wm_record_4 : decode b_Wm_record 4 = .ok (.iload_n 1, 1) := by decide +kernel
theorem d_Wm_record_5 : decode b_Wm_record 5 = .ok (.iconst 4, 1) := by decide +kernel
theorem d_Wm_record_6 : decode b_Wm_record 6 = .ok (.if_icmp .lt 11, 3) := by decide +kernel
theorem d_Wm_record_9 : decode b_Wm_record 9 = .ok (.new 104, 3) := by decide +kernel
theorem d_Wm_record_12 : decode b_Wm_record 12 = .ok (.dup, 1) := by decide +kernel
theorem d_Wm_record_13 : decode b_Wm_record 13 = .ok (.invokespecial 106, 3) := by decide +kernel
theorem d_Wm_record_16 : decode b_Wm_record 16 = .ok (.athrow, 1) := by decide +kernel
theorem d_Wm_record_17 : decode b_Wm_record 17 = .ok (.aload_n 0, 1) := by decide +kernel
theorem d_Wm_record_18 : decode b_Wm_record 18 = .ok (.getfield 19, 3) := by decide +kernel
theorem d_Wm_record_21 : decode b_Wm_record 21 = .ok (.getfield 43, 3) := by decide +kernel
theorem d_Wm_record_24 : decode b_Wm_record 24 = .ok (.getfield 60, 3) := by decide +kernel
theorem d_Wm_record_27 : decode b_Wm_record 27 = .ok (.istore 5, 2) := by decide +kernel
theorem d_Wm_record_29 : decode b_Wm_record 29 = .ok (.aload_n 0, 1) := by decide +kernel
theorem d_Wm_record_30 : decode b_Wm_record 30 = .ok (.getfield 28, 3) := by decide +kernel
theorem d_Wm_record_33 : decode b_Wm_record 33 = .ok (.iload_n 2, 1) := by decide +kernel
theorem d_Wm_record_34 : decode b_Wm_record 34 = .ok (.ldc 84, 2) := by decide +kernel
theorem d_Wm_record_36 : decode b_Wm_record 36 = .ok (.iand, 1) := by decide +kernel
theorem d_Wm_record_37 : decode b_Wm_record 37 = .ok (.invokevirtual 107, 3) := by decide +kernel
theorem d_Wm_record_40 : decode b_Wm_record 40 = .ok (.ifCond .ne 11, 3) := by decide +kernel
theorem d_Wm_record_43 : decode b_Wm_record 43 = .ok (.new 71, 3) := by decide +kernel
theorem d_Wm_record_46 : decode b_Wm_record 46 = .ok (.dup, 1) := by decide +kernel
theorem d_Wm_record_47 : decode b_Wm_record 47 = .ok (.invokespecial 73, 3) := by decide +kernel
theorem d_Wm_record_50 : decode b_Wm_record 50 = .ok (.athrow, 1) := by decide +kernel
theorem d_Wm_record_51 : decode b_Wm_record 51 = .ok (.aload_n 0, 1) := by decide +kernel
theorem d_Wm_record_52 : decode b_Wm_record 52 = .ok (.getfield 19, 3) := by decide +kernel
theorem d_Wm_record_55 : decode b_Wm_record 55 = .ok (.iload_n 1, 1) := by decide +kernel
theorem d_Wm_record_56 : decode b_Wm_record 56 = .ok (.iload 5, 2) := by decide +kernel
theorem d_Wm_record_58 : decode b_Wm_record 58 = .ok (.aload_n 0, 1) := by decide +kernel
theorem d_Wm_record_59 : decode b_Wm_record 59 = .ok (.getfield 28, 3) := by decide +kernel
theorem d_Wm_record_62 : decode b_Wm_record 62 = .ok (.getfield 93, 3) := by decide +kernel
theorem d_Wm_record_65 : decode b_Wm_record 65 = .ok (.iload_n 2, 1) := by decide +kernel
theorem d_Wm_record_66 : decode b_Wm_record 66 = .ok (.ldc 84, 2) := by decide +kernel
theorem d_Wm_record_68 : decode b_Wm_record 68 = .ok (.iand, 1) := by decide +kernel
theorem d_Wm_record_69 : decode b_Wm_record 69 = .ok (.iload_n 3, 1) := by decide +kernel
theorem d_Wm_record_70 : decode b_Wm_record 70 = .ok (.ldc 84, 2) := by decide +kernel
theorem d_Wm_record_72 : decode b_Wm_record 72 = .ok (.iand, 1) := by decide +kernel
theorem d_Wm_record_73 : decode b_Wm_record 73 = .ok (.iload 4, 2) := by decide +kernel
theorem d_Wm_record_75 : decode b_Wm_record 75 = .ok (.invokevirtual 96, 3) := by decide +kernel
theorem d_Wm_record_78 : decode b_Wm_record 78 = .ok (.ifCond .ne 11, 3) := by decide +kernel
theorem d_Wm_record_81 : decode b_Wm_record 81 = .ok (.new 64, 3) := by decide +kernel
theorem d_Wm_record_84 : decode b_Wm_record 84 = .ok (.dup, 1) := by decide +kernel
theorem d_Wm_record_85 : decode b_Wm_record 85 = .ok (.invokespecial 66, 3) := by decide +kernel
theorem d_Wm_record_88 : decode b_Wm_record 88 = .ok (.athrow, 1) := by decide +kernel
theorem d_Wm_record_89 : decode b_Wm_record 89 = .ok (.aload_n 0, 1) := by decide +kernel
theorem d_Wm_record_90 : decode b_Wm_record 90 = .ok (.getfield 10, 3) := by decide +kernel
theorem d_Wm_record_93 : decode b_Wm_record 93 = .ok (.iconst 0, 1) := by decide +kernel
theorem d_Wm_record_94 : decode b_Wm_record 94 = .ok (.putfield 60, 3) := by decide +kernel
theorem d_Wm_record_97 : decode b_Wm_record 97 = .ok (.aload_n 0, 1) := by decide +kernel
theorem d_Wm_record_98 : decode b_Wm_record 98 = .ok (.getfield 19, 3) := by decide +kernel
theorem d_Wm_record_101 : decode b_Wm_record 101 = .ok (.getfield 100, 3) := by decide +kernel
theorem d_Wm_record_104 : decode b_Wm_record 104 = .ok (.iload_n 1, 1) := by decide +kernel
theorem d_Wm_record_105 : decode b_Wm_record 105 = .ok (.iaload, 1) := by decide +kernel
theorem d_Wm_record_106 : decode b_Wm_record 106 = .ok (.ireturn, 1) := by decide +kernel
theorem d_Wm_write_0 : decode b_Wm_write 0 = .ok (.iload_n 1, 1) := by decide +kernel
theorem d_Wm_write_1 : decode b_Wm_write 1 = .ok (.bipush 12, 2) := by decide +kernel
theorem d_Wm_write_3 : decode b_Wm_write 3 = .ok (.if_icmp .lt 9, 3) := by decide +kernel
theorem d_Wm_write_6 : decode b_Wm_write 6 = .ok (.iload_n 1, 1) := by decide +kernel
theorem d_Wm_write_7 : decode b_Wm_write 7 = .ok (.ldc 84, 2) := by decide +kernel
theorem d_Wm_write_9 : decode b_Wm_write 9 = .ok (.if_icmp .le 11, 3) := by decide +kernel
theorem d_Wm_write_12 : decode b_Wm_write 12 = .ok (.new 71, 3) := by decide +kernel
theorem d_Wm_write_15 : decode b_Wm_write 15 = .ok (.dup, 1) := by decide +kernel
theorem d_Wm_write_16 : decode b_Wm_write 16 = .ok (.invokespecial 73, 3) := by decide +kernel
theorem d_Wm_write_19 : decode b_Wm_write 19 = .ok (.athrow, 1) := by decide +kernel
theorem d_Wm_write_20 : decode b_Wm_write 20 = .ok (.bipush 12, 2) := by decide +kernel
theorem d_Wm_write_22 : decode b_Wm_write 22 = .ok (.aload_n 0, 1) := by decide +kernel
theorem d_Wm_write_23 : decode b_Wm_write 23 = .ok (.getfield 19, 3) := by decide +kernel
theorem d_Wm_write_26 : decode b_Wm_write 26 = .ok (.invokevirtual 111, 3) := by decide +kernel
theorem d_Wm_write_29 : decode b_Wm_write 29 = .ok (.iadd, 1) := by decide +kernel
theorem d_Wm_write_30 : decode b_Wm_write 30 = .ok (.iload_n 1, 1) := by decide +kernel
theorem d_Wm_write_31 : decode b_Wm_write 31 = .ok (.if_icmp .le 11, 3) := by decide +kernel
theorem d_Wm_write_34 : decode b_Wm_write 34 = .ok (.new 114, 3) := by decide +kernel
theorem d_Wm_write_37 : decode b_Wm_write 37 = .ok (.dup, 1) := by decide +kernel
theorem d_Wm_write_38 : decode b_Wm_write 38 = .ok (.invokespecial 116, 3) := by decide +kernel
theorem d_Wm_write_41 : decode b_Wm_write 41 = .ok (.athrow, 1) := by decide +kernel
theorem d_Wm_write_42 : decode b_Wm_write 42 = .ok (.aload_n 0, 1) := by decide +kernel
theorem d_Wm_write_43 : decode b_Wm_write 43 = .ok (.getfield 37, 3) := by decide +kernel
theorem d_Wm_write_46 : decode b_Wm_write 46 = .ok (.iload_n 1, 1) := by decide +kernel
theorem d_Wm_write_47 : decode b_Wm_write 47 = .ok (.invokevirtual 117, 3) := by decide +kernel
theorem d_Wm_write_50 : decode b_Wm_write 50 = .ok (.aload_n 0, 1) := by decide +kernel
theorem d_Wm_write_51 : decode b_Wm_write 51 = .ok (.getfield 37, 3) := by decide +kernel
theorem d_Wm_write_54 : decode b_Wm_write 54 = .ok (.getfield 120, 3) := by decide +kernel
theorem d_Wm_write_57 : decode b_Wm_write 57 = .ok (.getfield 60, 3) := by decide +kernel
theorem d_Wm_write_60 : decode b_Wm_write 60 = .ok (.ireturn, 1) := by decide +kernel
set_option maxHeartbeats 4000000 in
set_option maxRecDepth 100000 in
/-- question -/
theorem m_Wm_question (l : Launch) (D9 : va_G) (cB cI cJ cG : ClassId) (a : Nat → Nat) (O : Nat → Int64) (I : Nat → Int32) (F : Nat → Nat → Int32) (hfl : l.flags = pinnedFlags ++ [noTraceFlag]) (t : List Nat) (hT2 : I 2 = nI t.length) (htl : t.length ≤ 65536) (hT : BR 0 65536 (F 2) t) (es : List En9) (hG : GaR F es) (hO : okE es) (hL3 : I 3 = nI (fl es).length) (v1 v2 : Int32) : MZW l D9 cB cI cJ cG a O y_Wm_question b_Wm_question 4 (some .int) 7 [.ref (a 0), .int (v1), .int (v2)] I F (fun v I' F' => ∃ nm, qN t = some nm ∧ okB es ((0, un v1 % 65536, un v2 % 65536, nI 0, nm, ([] : List Nat)) : En9) = true ∧ okE (es ++ [((0, un v1 % 65536, un v2 % 65536, nI 0, nm, ([] : List Nat)) : En9)]) ∧ v = some (.int (nI (cn 0 (es ++ [((0, un v1 % 65536, un v2 % 65536, nI 0, nm, ([] : List Nat)) : En9)])))) ∧ sm [2, 3, 6, 7, 8] I I' ∧ I' 2 = nI 0 ∧ I' 3 = nI (fl (es ++ [((0, un v1 % 65536, un v2 % 65536, nI 0, nm, ([] : List Nat)) : En9)])).length ∧ sm [4, 5, 6, 7, 8, 9, 10, 12, 13, 14, 15, 16] F F' ∧ GaR F' (es ++ [((0, un v1 % 65536, un v2 % 65536, nI 0, nm, ([] : List Nat)) : En9)])) (fun E I' F' => (E = "java/lang/IllegalArgumentException" ∧ qN t = none ∧ sm [3, 4, 5, 6, 7, 8] I I' ∧ I' 3 = nI (fl es).length ∧ sm [4] F F' ∧ BR 0 65536 (F' 4) (fl es)) ∨ (E = "java/lang/IllegalStateException" ∧ ∃ nm, qN t = some nm ∧ okB es ((0, un v1 % 65536, un v2 % 65536, nI 0, nm, ([] : List Nat)) : En9) = false ∧ sm [3, 4, 5, 6, 7, 8] I I' ∧ I' 3 = nI (fl es).length ∧ sm [4] F F' ∧ BR 0 65536 (F' 4) (fl es))) := by
  refine mzw_of hfl (by decide) (Nat.le_of_ble_eq_true rfl) (by decide) ?_
  intro p e s m below meth c ls A0 Q C0 hP hD hA hS hZ hl hret hthr hlv
  obtain ⟨hx, hb, hml, hr, hlocks, hown, hts, hK⟩ := id C0
  have hl : lv_has ls 4 [(0, .ref (a 0)), (1, .int (v1)), (2, .int (v2))] := hl
  have hln := okE_len hO
  have k2 := hO.2.2.1
  have hBL := hG.2.2
  refine lv_aload_n hx hb d_Wm_question_0 rfl (lv_at hl 0 rfl) ?_
  refine va_get (D := D9) (ci := 6) (C := R_Wm) (T := F_Wm) (N := 7) hx hb hts i_Wm hown hK hP 0 ww_0 rfl 1 (by decide) (hts _ g_223) (fun _ h9 => h9) rfl d_Wm_question_1 ?_
  refine va_getN (D := D9) (ci := 2) (C := R_Ga) (T := F_Ga) (N := 11) hx hb hts i_Ga hown hK hP 19 ww_19 rfl 0 (by decide) (hts _ g_59) (fun _ h9 => h9) rfl d_Wm_question_4 ?_
  refine va_getN (D := D9) (ci := 0) (C := R_By) (T := F_By) (N := 2) hx hb hts i_By hown hK hP 3 ww_3 rfl 1 (by decide) (hts _ g_36) (fun _ h9 => h9) rfl d_Wm_question_7 ?_
  refine lv_topq (y := nI ((fl es).length)) (hL3) ?_
  refine lv_istore_n (lv' := [(3, _), (0, _), (1, _), (2, _)]) hx hb d_Wm_question_10 rfl hl (by decide) rfl (fun ls hl => ?_)
  refine lv_aload_n hx hb d_Wm_question_11 rfl (lv_at hl 1 rfl) ?_
  refine va_get (D := D9) (ci := 6) (C := R_Wm) (T := F_Wm) (N := 7) hx hb hts i_Wm hown hK hP 0 ww_0 rfl 2 (by decide) (hts _ g_224) (fun _ h9 => h9) rfl d_Wm_question_12 ?_
  refine mw_cVN (ci := 4) (k := 17) C0 (m_Re_takeTapeAsName l D9 cB cI cJ cG a O _ _ t hT2 htl hT (fl es) hL3 (by omega) hBL) g_491 g_4 g_488 g_490 gs_Re_takeTapeAsName ⟨by decide +kernel, by decide +kernel, show Option.map (fun d => d.parameters.length) (parseMethodDescriptor y_Re_takeTapeAsName.desc) = some 0 by decide +kernel⟩ ⟨by decide, by decide⟩ rfl rfl hP hD hS hA rfl ww_17 hl.1 (Nat.le_of_ble_eq_true rfl) rfl d_Wm_question_15 ⟨by decide, by decide⟩ (fun v9 w9 H locs hq hP hD hS => ?_)
  obtain ⟨I1, F2, hw9, q3⟩ := hq
  subst hw9
  rcases q3 with ⟨nm, hq9, rfl, sJx, h3, h8, sGx, hB9⟩ | ⟨hq9, rfl, sJx, h3, sGx, hB9⟩
  · have hBk : BR 0 65536 (F2 4) (fl es ++ (nm ++ ([] : List Nat))) := by simpa only [List.append_nil] using hB9
    have hGk : GaR F2 es := GaR_sm (M := [4]) hG sGx (by decide) (BR_pre hBk) hO
    have hLk : I1 3 = nI ((fl es).length + (nm.length + ([] : List Nat).length)) := h3.trans (congrArg nI (by first | (simp only [List.length_append, List.length_nil]; done) | (simp only [List.length_append, List.length_nil]; omega)))
    have hxS : eS ((0, un v1 % 65536, un v2 % 65536, nI 0, nm, ([] : List Nat)) : En9) < 4 := by show 0 < 4; omega
    have hxT : eT ((0, un v1 % 65536, un v2 % 65536, nI 0, nm, ([] : List Nat)) : En9) < 65536 := lo16_lt v1
    have hxK : eK ((0, un v1 % 65536, un v2 % 65536, nI 0, nm, ([] : List Nat)) : En9) < 65536 := lo16_lt v2
    have hok0 := okB_iff hO hxS hxT hxK
    obtain ⟨-, -, hbn, -⟩ := qN_len hq9
    have hbn : nm.length ≤ 255 := by rw [(qN_len hq9).1]; exact hbn
    refine lv_if_ne (tgt := 29) hx hb d_Wm_question_18 (by decide) (fun c4 => ?_) (fun c4 => ?_)
    · refine lv_aload_n hx hb d_Wm_question_29 rfl (lv_at hl 1 rfl) ?_
      refine va_get (D := D9) (ci := 6) (C := R_Wm) (T := F_Wm) (N := 7) hx hb hts i_Wm hown hK hP 0 ww_0 rfl 1 (by decide) (hts _ g_223) (fun _ h9 => h9) rfl d_Wm_question_30 ?_
      refine lv_iconst (v := 0) hx hb d_Wm_question_33 (by decide) ?_
      refine lv_topq (y := nI 0) (rfl) ?_
      refine lv_iload_n hx hb d_Wm_question_34 rfl (lv_at hl 0 rfl) ?_
      refine lv_aload_n hx hb d_Wm_question_35 rfl (lv_at hl 1 rfl) ?_
      refine va_get (D := D9) (ci := 6) (C := R_Wm) (T := F_Wm) (N := 7) hx hb hts i_Wm hown hK hP 0 ww_0 rfl 2 (by decide) (hts _ g_224) (fun _ h9 => h9) rfl d_Wm_question_36 ?_
      refine va_getN (D := D9) (ci := 4) (C := R_Re) (T := F_Re) (N := 8) hx hb hts i_Re hown hK hP 17 ww_17 rfl 6 (by decide) (hts _ g_129) (fun _ h9 => h9) rfl d_Wm_question_39 ?_
      refine lv_topq (y := nI nm.length) (h8) ?_
      refine lv_iload_n hx hb d_Wm_question_42 rfl (lv_at hl 2 rfl) ?_
      refine lv_ldc hx hb hown (hts _ g_369) d_Wm_question_43 ?_
      refine lv_topq (y := nI 65535) (rfl) ?_
      refine lv_iand hx hb d_Wm_question_45 ?_
      refine lv_topq (y := nI (un v1 % 65536)) (lo16 _ rfl) ?_
      refine lv_iload_n hx hb d_Wm_question_46 rfl (lv_at hl 3 rfl) ?_
      refine lv_ldc hx hb hown (hts _ g_369) d_Wm_question_47 ?_
      refine lv_topq (y := nI 65535) (rfl) ?_
      refine lv_iand hx hb d_Wm_question_49 ?_
      refine lv_topq (y := nI (un v2 % 65536)) (lo16 _ rfl) ?_
      refine lv_iconst (v := 0) hx hb d_Wm_question_50 (by decide) ?_
      refine lv_topq (y := nI 0) (rfl) ?_
      refine mw_cVN (ci := 2) (k := 19) C0 (m_Ga_keep l D9 cB cI cJ cG a O _ _ es ((0, un v1 % 65536, un v2 % 65536, nI 0, nm, ([] : List Nat)) : En9) hxS hxT hxK hGk hO hBk hLk (by show nm.length + ([] : List Nat).length < _; first | omega | (simp only [List.length_nil]; omega))) g_310 g_3 g_496 g_309 gs_Ga_keep ⟨by decide +kernel, by decide +kernel, show Option.map (fun d => d.parameters.length) (parseMethodDescriptor y_Ga_keep.desc) = some 6 by decide +kernel⟩ ⟨by decide, by decide⟩ rfl rfl hP hD hS hA rfl ww_19 hl.1 (Nat.le_of_ble_eq_true rfl) rfl d_Wm_question_51 ⟨by decide, by decide⟩ (fun v9 w9 H locs hq hP hD hS => ?_)
      obtain ⟨I5, F6, hw9, q7⟩ := hq
      subst hw9
      rcases q7 with ⟨hok, rfl, rfl, hGn, sK⟩ | ⟨hok, rfl, sK, zK, rfl⟩
      · refine lv_if_ne (tgt := 65) hx hb d_Wm_question_54 (by decide) (fun c8 => ?_) (fun c8 => ?_)
        · refine lv_aload_n hx hb d_Wm_question_65 rfl (lv_at hl 1 rfl) ?_
          refine va_get (D := D9) (ci := 6) (C := R_Wm) (T := F_Wm) (N := 7) hx hb hts i_Wm hown hK hP 0 ww_0 rfl 0 (by decide) (hts _ g_222) (fun _ h9 => h9) rfl d_Wm_question_66 ?_
          refine lv_iconst (v := 0) hx hb d_Wm_question_69 (by decide) ?_
          refine lv_topq (y := nI 0) (rfl) ?_
          refine va_putN (D := D9) (ty := .int) (ci := 0) (C := R_By) (T := F_By) (N := 2) hx hb hts i_By t_By t_By_ok n_By hown hK hP hD hS 1 ww_1 rfl 1 (by decide) (hts _ g_36) (fun _ h9 => h9) rfl (by decide +kernel) rfl rfl (Nat.le_of_ble_eq_true rfl) d_Wm_question_70 (fun H locs hP hD hS => ?_)
          obtain ⟨I9, aI9, sI9, hP, hD⟩ := fx (P := fun z => va_P D9 cls9 (WW a cB cI cJ cG z _ O) H ∧ va_D A0 (WW a cB cI cJ cG z _ O)) ⟨wp_2 hP, wd_2 hD⟩
          refine lv_aload_n hx hb d_Wm_question_73 rfl (lv_at hl 1 rfl) ?_
          refine va_get (D := D9) (ci := 6) (C := R_Wm) (T := F_Wm) (N := 7) hx hb hts i_Wm hown hK hP 0 ww_0 rfl 1 (by decide) (hts _ g_223) (fun _ h9 => h9) rfl d_Wm_question_74 ?_
          refine va_getN (D := D9) (ci := 2) (C := R_Ga) (T := F_Ga) (N := 11) hx hb hts i_Ga hown hK hP 19 ww_19 rfl 8 (by decide) (hts _ g_83) (fun _ h9 => h9) rfl d_Wm_question_77 ?_
          refine lv_iconst (v := 0) hx hb d_Wm_question_80 (by decide) ?_
          refine lv_topq (y := nI 0) (rfl) ?_
          refine va_iald (D := D9) hx hb hK hP 16 1 ww_16 rfl (vp_in_nI (by omega) (by decide)) d_Wm_question_81 ?_
          refine lv_topq (y := nI (cn 0 (es ++ [((0, un v1 % 65536, un v2 % 65536, nI 0, nm, ([] : List Nat)) : En9)]))) (by rw [nI_clamp (by omega)]; exact (GaR_cn hGn (by decide))) ?_
          exact hret _ _ _ _ _ _ _ hS hP hD d_Wm_question_82 nr_i (⟨nm, hq9, hok0.mp hok, hok, rfl, (sm_tr (sm_mo sJx (by decide)) (sm_mo sI9 (by decide))), aI9, ((sI9 3 (by decide)).trans hLk).trans (congrArg nI (by rw [fl_add, List.length_append, List.length_append]; rfl)), (sm_tr (sm_mo sGx (by decide)) (sm_mo sK (by decide))), hGn⟩)
        · exact absurd c8 (by decide)
      · refine lv_if_ne (tgt := 65) hx hb d_Wm_question_54 (by decide) (fun c10 => ?_) (fun c10 => ?_)
        · exact absurd c10 (by decide)
        · exact hthr "java/lang/IllegalStateException" 64 66 _ _ _ _ _ _ _ (by decide +kernel) at_Wm_66 g_384 g_12 hS hP hD hl.1 (Nat.le_of_ble_eq_true rfl) d_Wm_question_57 d_Wm_question_60 d_Wm_question_61 d_Wm_question_64 (Or.inr ⟨rfl, nm, hq9, by cases hb9 : okB es _ with | false => rfl | true => exact absurd (hok0.mpr hb9) hok, (sm_tr (sm_mo sJx (by decide)) (sm_mo sK (by decide))), zK, (sm_mo sGx (by decide)), BR_pre hBk⟩)
    · exact absurd c4 (by decide)
  · refine lv_if_ne (tgt := 29) hx hb d_Wm_question_18 (by decide) (fun c11 => ?_) (fun c11 => ?_)
    · exact absurd c11 (by decide)
    · exact hthr "java/lang/IllegalArgumentException" 71 73 _ _ _ _ _ _ _ (by decide +kernel) at_Wm_73 g_466 g_13 hS hP hD hl.1 (Nat.le_of_ble_eq_true rfl) d_Wm_question_21 d_Wm_question_24 d_Wm_question_25 d_Wm_question_28 (Or.inl ⟨rfl, hq9, (sm_mo sJx (by decide)), h3, (sm_mo sGx (by decide)), hB9⟩)
set_option maxHeartbeats 4000000 in
set_option maxRecDepth 100000 in
/-- record -/
theorem m_Wm_record (l : Launch) (D9 : va_G) (cB cI cJ cG : ClassId) (a : Nat → Nat) (O : Nat → Int64) (I : Nat → Int32) (F : Nat → Nat → Int32) (hfl : l.flags = pinnedFlags ++ [noTraceFlag]) (t : List Nat) (hT2 : I 2 = nI t.length) (htl : t.length ≤ 65536) (hT : BR 0 65536 (F 2) t) (es : List En9) (hG : GaR F es) (hO : okE es) (hL3 : I 3 = nI (fl es).length) (v0 v1 v2 v4 : Int32) : MZW l D9 cB cI cJ cG a O y_Wm_record b_Wm_record 6 (some .int) 7 [.ref (a 0), .int (v0), .int (v1), .int (v2), .int (v4)] I F (fun v I' F' => ∃ sc : Nat, (1 ≤ sc ∧ sc < 4) ∧ v0 = nI sc ∧ ∃ nm dd, qD t (un v1 % 65536) = some (nm, dd) ∧ okB es ((sc, un v1 % 65536, un v2 % 65536, v4, nm, dd) : En9) = true ∧ okE (es ++ [((sc, un v1 % 65536, un v2 % 65536, v4, nm, dd) : En9)]) ∧ v = some (.int (nI (cn sc (es ++ [((sc, un v1 % 65536, un v2 % 65536, v4, nm, dd) : En9)])))) ∧ sm [2, 3, 6, 7, 8, 9] I I' ∧ I' 2 = nI 0 ∧ I' 3 = nI (fl (es ++ [((sc, un v1 % 65536, un v2 % 65536, v4, nm, dd) : En9)])).length ∧ sm [4, 5, 6, 7, 8, 9, 10, 12, 13, 14, 15, 16] F F' ∧ GaR F' (es ++ [((sc, un v1 % 65536, un v2 % 65536, v4, nm, dd) : En9)])) (fun E I' F' => (E = "java/util/NoSuchElementException" ∧ (∀ sc : Nat, 1 ≤ sc → sc < 4 → v0 ≠ nI sc) ∧ I = I' ∧ F = F') ∨ (∃ sc : Nat, (1 ≤ sc ∧ sc < 4) ∧ v0 = nI sc ∧ ((E = "java/lang/IllegalArgumentException" ∧ qD t (un v1 % 65536) = none ∧ sm [3, 4, 5, 6, 7, 8, 9] I I' ∧ I' 3 = nI (fl es).length ∧ sm [4] F F' ∧ BR 0 65536 (F' 4) (fl es)) ∨ (E = "java/lang/IllegalStateException" ∧ ∃ nm dd, qD t (un v1 % 65536) = some (nm, dd) ∧ okB es ((sc, un v1 % 65536, un v2 % 65536, v4, nm, dd) : En9) = false ∧ sm [3, 4, 5, 6, 7, 8, 9] I I' ∧ I' 3 = nI (fl es).length ∧ sm [4] F F' ∧ BR 0 65536 (F' 4) (fl es))))) := by
  refine mzw_of hfl (by decide) (Nat.le_of_ble_eq_true rfl) (by decide) ?_
  intro p e s m below meth c ls A0 Q C0 hP hD hA hS hZ hl hret hthr hlv
  obtain ⟨hx, hb, hml, hr, hlocks, hown, hts, hK⟩ := id C0
  have hl : lv_has ls 6 [(0, .ref (a 0)), (1, .int (v0)), (2, .int (v1)), (3, .int (v2)), (4, .int (v4))] := hl
  have hln := okE_len hO
  have k2 := hO.2.2.1
  have hBL := hG.2.2
  rcases pk_ix v0 (n := 4) (by decide) with h9 | h9 | ⟨sc, hsc, rfl⟩
  · refine lv_iload_n hx hb d_Wm_record_0 rfl (lv_at hl 1 rfl) ?_
    refine lv_if_le (tgt := 9) hx hb d_Wm_record_1 (by decide) (fun c1 => ?_) (fun c1 => ?_)
    · exact hthr "java/util/NoSuchElementException" 104 106 _ _ _ _ _ _ _ (by decide +kernel) at_Wm_106 g_505 g_17 hS hP hD hl.1 (Nat.le_of_ble_eq_true rfl) d_Wm_record_9 d_Wm_record_12 d_Wm_record_13 d_Wm_record_16 (Or.inl ⟨rfl, fun s4 h1 h4 z9 => by rw [z9] at h9; exact nI_pos (by omega) h9, rfl, rfl⟩)
    · exact absurd (Int32.le_of_lt h9) c1
  · refine lv_iload_n hx hb d_Wm_record_0 rfl (lv_at hl 1 rfl) ?_
    refine lv_if_le (tgt := 9) hx hb d_Wm_record_1 (by decide) (fun c2 => ?_) (fun c2 => ?_)
    · exact absurd (Int32.lt_of_lt_of_le (show (0 : Int32) < nI 4 by decide) (Int32.le_trans h9 c2)) (by decide)
    · refine lv_iload_n hx hb d_Wm_record_4 rfl (lv_at hl 1 rfl) ?_
      refine lv_iconst (v := 4) hx hb d_Wm_record_5 (by decide) ?_
      refine lv_topq (y := nI 4) (rfl) ?_
      refine lv_icmp_lt (tgt := 17) hx hb d_Wm_record_6 (by decide) (fun c3 => ?_) (fun c3 => ?_)
      · exact absurd (Int32.lt_of_le_of_lt h9 c3) (by simp)
      · exact hthr "java/util/NoSuchElementException" 104 106 _ _ _ _ _ _ _ (by decide +kernel) at_Wm_106 g_505 g_17 hS hP hD hl.1 (Nat.le_of_ble_eq_true rfl) d_Wm_record_9 d_Wm_record_12 d_Wm_record_13 d_Wm_record_16 (Or.inl ⟨rfl, fun s4 h1 h4 z9 => by rw [z9] at h9; exact nI_ge (b := 4) h4 (by decide) h9, rfl, rfl⟩)
  · refine lv_iload_n hx hb d_Wm_record_0 rfl (lv_at hl 1 rfl) ?_
    refine lv_if_le (tgt := 9) hx hb d_Wm_record_1 (by decide) (fun c4 => ?_) (fun c4 => ?_)
    · have c4 : sc ≤ 0 := (nI_leI (a := sc) (b := 0) (by omega) (by omega)).mp c4
      exact hthr "java/util/NoSuchElementException" 104 106 _ _ _ _ _ _ _ (by decide +kernel) at_Wm_106 g_505 g_17 hS hP hD hl.1 (Nat.le_of_ble_eq_true rfl) d_Wm_record_9 d_Wm_record_12 d_Wm_record_13 d_Wm_record_16 (Or.inl ⟨rfl, fun s4 h1 h4 z9 => by have := (nI_eq (a := sc) (b := s4) (by omega) (by omega)).mp z9; omega, rfl, rfl⟩)
    · have c4 : ¬ (sc ≤ 0) := fun z9 => c4 ((nI_leI (a := sc) (b := 0) (by omega) (by omega)).mpr z9)
      refine lv_iload_n hx hb d_Wm_record_4 rfl (lv_at hl 1 rfl) ?_
      refine lv_iconst (v := 4) hx hb d_Wm_record_5 (by decide) ?_
      refine lv_topq (y := nI 4) (rfl) ?_
      refine lv_icmp_lt (tgt := 17) hx hb d_Wm_record_6 (by decide) (fun c5 => ?_) (fun c5 => ?_)
      · have c5 : sc < 4 := (nI_ltI (a := sc) (b := 4) (by omega) (by omega)).mp c5
        refine lv_aload_n hx hb d_Wm_record_17 rfl (lv_at hl 0 rfl) ?_
        refine va_get (D := D9) (ci := 6) (C := R_Wm) (T := F_Wm) (N := 7) hx hb hts i_Wm hown hK hP 0 ww_0 rfl 1 (by decide) (hts _ g_223) (fun _ h9 => h9) rfl d_Wm_record_18 ?_
        refine va_getN (D := D9) (ci := 2) (C := R_Ga) (T := F_Ga) (N := 11) hx hb hts i_Ga hown hK hP 19 ww_19 rfl 0 (by decide) (hts _ g_59) (fun _ h9 => h9) rfl d_Wm_record_21 ?_
        refine va_getN (D := D9) (ci := 0) (C := R_By) (T := F_By) (N := 2) hx hb hts i_By hown hK hP 3 ww_3 rfl 1 (by decide) (hts _ g_36) (fun _ h9 => h9) rfl d_Wm_record_24 ?_
        refine lv_topq (y := nI ((fl es).length)) (hL3) ?_
        refine lv_istore (lv' := [(5, _), (0, _), (1, _), (2, _), (3, _), (4, _)]) hx hb d_Wm_record_27 hl (by decide) rfl (fun ls hl => ?_)
        refine lv_aload_n hx hb d_Wm_record_29 rfl (lv_at hl 1 rfl) ?_
        refine va_get (D := D9) (ci := 6) (C := R_Wm) (T := F_Wm) (N := 7) hx hb hts i_Wm hown hK hP 0 ww_0 rfl 2 (by decide) (hts _ g_224) (fun _ h9 => h9) rfl d_Wm_record_30 ?_
        refine lv_iload_n hx hb d_Wm_record_33 rfl (lv_at hl 3 rfl) ?_
        refine lv_ldc hx hb hown (hts _ g_369) d_Wm_record_34 ?_
        refine lv_topq (y := nI 65535) (rfl) ?_
        refine lv_iand hx hb d_Wm_record_36 ?_
        refine lv_topq (y := nI (un v1 % 65536)) (lo16 _ rfl) ?_
        refine mw_cVN (ci := 4) (k := 17) C0 (m_Re_takeTapeAsNameAndData l D9 cB cI cJ cG a O _ _ t hT2 htl hT (fl es) hL3 (by omega) hBL (un v1 % 65536) (lo16_lt v1)) g_523 g_4 g_520 g_522 gs_Re_takeTapeAsNameAndData ⟨by decide +kernel, by decide +kernel, show Option.map (fun d => d.parameters.length) (parseMethodDescriptor y_Re_takeTapeAsNameAndData.desc) = some 1 by decide +kernel⟩ ⟨by decide, by decide⟩ rfl rfl hP hD hS hA rfl ww_17 hl.1 (Nat.le_of_ble_eq_true rfl) rfl d_Wm_record_37 ⟨by decide, by decide⟩ (fun v9 w9 H locs hq hP hD hS => ?_)
        obtain ⟨I6, F7, hw9, q8⟩ := hq
        subst hw9
        rcases q8 with ⟨nm, dd, hq9, rfl, sJx, h3, h8, sGx, hB9⟩ | ⟨hq9, rfl, sJx, h3, sGx, hB9⟩
        · have hBk : BR 0 65536 (F7 4) (fl es ++ (nm ++ dd)) := by simpa only [List.append_nil] using hB9
          have hGk : GaR F7 es := GaR_sm (M := [4]) hG sGx (by decide) (BR_pre hBk) hO
          have hLk : I6 3 = nI ((fl es).length + (nm.length + dd.length)) := h3.trans (congrArg nI (by first | (simp only [List.length_append, List.length_nil]; done) | (simp only [List.length_append, List.length_nil]; omega)))
          have hxS : eS ((sc, un v1 % 65536, un v2 % 65536, v4, nm, dd) : En9) < 4 := by show sc < 4; omega
          have hxT : eT ((sc, un v1 % 65536, un v2 % 65536, v4, nm, dd) : En9) < 65536 := lo16_lt v1
          have hxK : eK ((sc, un v1 % 65536, un v2 % 65536, v4, nm, dd) : En9) < 65536 := lo16_lt v2
          have hok0 := okB_iff hO hxS hxT hxK
          obtain ⟨hbn, hbn2⟩ : nm.length ≤ 255 ∧ dd.length ≤ 70000 := qD_bd hq9 htl
          refine lv_if_ne (tgt := 51) hx hb d_Wm_record_40 (by decide) (fun c9 => ?_) (fun c9 => ?_)
          · refine lv_aload_n hx hb d_Wm_record_51 rfl (lv_at hl 1 rfl) ?_
            refine va_get (D := D9) (ci := 6) (C := R_Wm) (T := F_Wm) (N := 7) hx hb hts i_Wm hown hK hP 0 ww_0 rfl 1 (by decide) (hts _ g_223) (fun _ h9 => h9) rfl d_Wm_record_52 ?_
            refine lv_iload_n hx hb d_Wm_record_55 rfl (lv_at hl 2 rfl) ?_
            refine lv_iload hx hb d_Wm_record_56 (lv_at hl 0 rfl) ?_
            refine lv_aload_n hx hb d_Wm_record_58 rfl (lv_at hl 1 rfl) ?_
            refine va_get (D := D9) (ci := 6) (C := R_Wm) (T := F_Wm) (N := 7) hx hb hts i_Wm hown hK hP 0 ww_0 rfl 2 (by decide) (hts _ g_224) (fun _ h9 => h9) rfl d_Wm_record_59 ?_
            refine va_getN (D := D9) (ci := 4) (C := R_Re) (T := F_Re) (N := 8) hx hb hts i_Re hown hK hP 17 ww_17 rfl 6 (by decide) (hts _ g_129) (fun _ h9 => h9) rfl d_Wm_record_62 ?_
            refine lv_topq (y := nI nm.length) (h8) ?_
            refine lv_iload_n hx hb d_Wm_record_65 rfl (lv_at hl 3 rfl) ?_
            refine lv_ldc hx hb hown (hts _ g_369) d_Wm_record_66 ?_
            refine lv_topq (y := nI 65535) (rfl) ?_
            refine lv_iand hx hb d_Wm_record_68 ?_
            refine lv_topq (y := nI (un v1 % 65536)) (lo16 _ rfl) ?_
            refine lv_iload_n hx hb d_Wm_record_69 rfl (lv_at hl 4 rfl) ?_
            refine lv_ldc hx hb hown (hts _ g_369) d_Wm_record_70 ?_
            refine lv_topq (y := nI 65535) (rfl) ?_
            refine lv_iand hx hb d_Wm_record_72 ?_
            refine lv_topq (y := nI (un v2 % 65536)) (lo16 _ rfl) ?_
            refine lv_iload hx hb d_Wm_record_73 (lv_at hl 5 rfl) ?_
            refine mw_cVN (ci := 2) (k := 19) C0 (m_Ga_keep l D9 cB cI cJ cG a O _ _ es ((sc, un v1 % 65536, un v2 % 65536, v4, nm, dd) : En9) hxS hxT hxK hGk hO hBk hLk (by show nm.length + dd.length < _; first | omega | (simp only [List.length_nil]; omega))) g_310 g_3 g_496 g_309 gs_Ga_keep ⟨by decide +kernel, by decide +kernel, show Option.map (fun d => d.parameters.length) (parseMethodDescriptor y_Ga_keep.desc) = some 6 by decide +kernel⟩ ⟨by decide, by decide⟩ rfl rfl hP hD hS hA rfl ww_19 hl.1 (Nat.le_of_ble_eq_true rfl) rfl d_Wm_record_75 ⟨by decide, by decide⟩ (fun v9 w9 H locs hq hP hD hS => ?_)
            obtain ⟨I10, F11, hw9, q12⟩ := hq
            subst hw9
            rcases q12 with ⟨hok, rfl, rfl, hGn, sK⟩ | ⟨hok, rfl, sK, zK, rfl⟩
            · refine lv_if_ne (tgt := 89) hx hb d_Wm_record_78 (by decide) (fun c13 => ?_) (fun c13 => ?_)
              · refine lv_aload_n hx hb d_Wm_record_89 rfl (lv_at hl 1 rfl) ?_
                refine va_get (D := D9) (ci := 6) (C := R_Wm) (T := F_Wm) (N := 7) hx hb hts i_Wm hown hK hP 0 ww_0 rfl 0 (by decide) (hts _ g_222) (fun _ h9 => h9) rfl d_Wm_record_90 ?_
                refine lv_iconst (v := 0) hx hb d_Wm_record_93 (by decide) ?_
                refine lv_topq (y := nI 0) (rfl) ?_
                refine va_putN (D := D9) (ty := .int) (ci := 0) (C := R_By) (T := F_By) (N := 2) hx hb hts i_By t_By t_By_ok n_By hown hK hP hD hS 1 ww_1 rfl 1 (by decide) (hts _ g_36) (fun _ h9 => h9) rfl (by decide +kernel) rfl rfl (Nat.le_of_ble_eq_true rfl) d_Wm_record_94 (fun H locs hP hD hS => ?_)
                obtain ⟨I14, aI14, sI14, hP, hD⟩ := fx (P := fun z => va_P D9 cls9 (WW a cB cI cJ cG z _ O) H ∧ va_D A0 (WW a cB cI cJ cG z _ O)) ⟨wp_2 hP, wd_2 hD⟩
                refine lv_aload_n hx hb d_Wm_record_97 rfl (lv_at hl 1 rfl) ?_
                refine va_get (D := D9) (ci := 6) (C := R_Wm) (T := F_Wm) (N := 7) hx hb hts i_Wm hown hK hP 0 ww_0 rfl 1 (by decide) (hts _ g_223) (fun _ h9 => h9) rfl d_Wm_record_98 ?_
                refine va_getN (D := D9) (ci := 2) (C := R_Ga) (T := F_Ga) (N := 11) hx hb hts i_Ga hown hK hP 19 ww_19 rfl 8 (by decide) (hts _ g_83) (fun _ h9 => h9) rfl d_Wm_record_101 ?_
                refine lv_iload_n hx hb d_Wm_record_104 rfl (lv_at hl 2 rfl) ?_
                refine va_iald (D := D9) hx hb hK hP 16 1 ww_16 rfl (vp_in_nI (by omega) (by decide)) d_Wm_record_105 ?_
                refine lv_topq (y := nI (cn sc (es ++ [((sc, un v1 % 65536, un v2 % 65536, v4, nm, dd) : En9)]))) (by rw [nI_clamp (by omega)]; exact (GaR_cn hGn hsc)) ?_
                exact hret _ _ _ _ _ _ _ hS hP hD d_Wm_record_106 nr_i (⟨sc, ⟨by omega, hsc⟩, rfl, nm, dd, hq9, hok0.mp hok, hok, rfl, (sm_tr (sm_mo sJx (by decide)) (sm_mo sI14 (by decide))), aI14, ((sI14 3 (by decide)).trans hLk).trans (congrArg nI (by rw [fl_add, List.length_append, List.length_append]; rfl)), (sm_tr (sm_mo sGx (by decide)) (sm_mo sK (by decide))), hGn⟩)
              · exact absurd c13 (by decide)
            · refine lv_if_ne (tgt := 89) hx hb d_Wm_record_78 (by decide) (fun c15 => ?_) (fun c15 => ?_)
              · exact absurd c15 (by decide)
              · exact hthr "java/lang/IllegalStateException" 64 66 _ _ _ _ _ _ _ (by decide +kernel) at_Wm_66 g_384 g_12 hS hP hD hl.1 (Nat.le_of_ble_eq_true rfl) d_Wm_record_81 d_Wm_record_84 d_Wm_record_85 d_Wm_record_88 (Or.inr ⟨sc, ⟨by omega, hsc⟩, rfl, Or.inr ⟨rfl, nm, dd, hq9, by cases hb9 : okB es _ with | false => rfl | true => exact absurd (hok0.mpr hb9) hok, (sm_tr (sm_mo sJx (by decide)) (sm_mo sK (by decide))), zK, (sm_mo sGx (by decide)), BR_pre hBk⟩⟩)
          · exact absurd c9 (by decide)
        · refine lv_if_ne (tgt := 51) hx hb d_Wm_record_40 (by decide) (fun c16 => ?_) (fun c16 => ?_)
          · exact absurd c16 (by decide)
          · exact hthr "java/lang/IllegalArgumentException" 71 73 _ _ _ _ _ _ _ (by decide +kernel) at_Wm_73 g_466 g_13 hS hP hD hl.1 (Nat.le_of_ble_eq_true rfl) d_Wm_record_43 d_Wm_record_46 d_Wm_record_47 d_Wm_record_50 (Or.inr ⟨sc, ⟨by omega, hsc⟩, rfl, Or.inl ⟨rfl, hq9, (sm_mo sJx (by decide)), h3, (sm_mo sGx (by decide)), hB9⟩⟩)
      · have c5 : ¬ (sc < 4) := fun z9 => c5 ((nI_ltI (a := sc) (b := 4) (by omega) (by omega)).mpr z9)
        exfalso; omega
set_option maxHeartbeats 4000000 in
set_option maxRecDepth 100000 in
/-- write -/
theorem m_Wm_write (l : Launch) (D9 : va_G) (cB cI cJ cG : ClassId) (a : Nat → Nat) (O : Nat → Int64) (I : Nat → Int32) (F : Nat → Nat → Int32) (hfl : l.flags = pinnedFlags ++ [noTraceFlag]) (es : List En9) (hG : GaR F es) (hO : okE es) (v0 : Int32) (id9 fg n0 : Nat) (hEk : ∀ r e, es[r]? = some e → eOk (fl es) (of9 es r) e) (h11 : I 11 = nI id9) (h12 : I 12 = nI fg) (hid : id9 < 65536) (hfg : fg < 65536) (hF21 : sb_Fit (F 21)) (hS9 : EnS F n0) (h14 : I 14 = nI n0) (hn0 : n0 ≤ 8192) : MZW l D9 cB cI cJ cG a O y_Wm_write b_Wm_write 2 (some .int) 7 [.ref (a 0), .int (v0)] I F (fun v I' F' => ∃ lim : Nat, 12 ≤ lim ∧ lim ≤ 65535 ∧ v0 = nI lim ∧ 12 + mu3 (fil 3 es) ≤ lim ∧ v = some (.int (nI (wMs es id9 fg lim).length)) ∧ sm [10, 13, 14] I I' ∧ I' 13 = nI (wMs es id9 fg lim).length ∧ I' 10 = nI (wIt es lim 4).2.2.1 ∧ sm [21, 22, 23, 25, 26, 27, 28, 29] F F' ∧ BR 0 65536 (F' 21) (wMs es id9 fg lim) ∧ (wMs es id9 fg lim).length ≤ lim ∧ ∃ n, n ≤ 8192 ∧ I' 14 = nI n ∧ EnS F' n) (fun E I' F' => (E = "java/lang/IllegalArgumentException" ∧ (∀ lim : Nat, 12 ≤ lim → lim ≤ 65535 → v0 ≠ nI lim) ∧ I = I' ∧ F = F') ∨ (E = "java/lang/UnsupportedOperationException" ∧ ∃ lim : Nat, 12 ≤ lim ∧ lim ≤ 65535 ∧ v0 = nI lim ∧ lim < 12 + mu3 (fil 3 es) ∧ I = I' ∧ F = F')) := by
  refine mzw_of hfl (by decide) (Nat.le_of_ble_eq_true rfl) (by decide) ?_
  intro p e s m below meth c ls A0 Q C0 hP hD hA hS hZ hl hret hthr hlv
  obtain ⟨hx, hb, hml, hr, hlocks, hown, hts, hK⟩ := id C0
  have hl : lv_has ls 2 [(0, .ref (a 0)), (1, .int (v0))] := hl
  have hmb := mu3_bd hO
  rcases pk_ix v0 (n := 65536) (by decide) with h9 | h9 | ⟨lim, hlim, rfl⟩
  · have hbad : ∀ lim : Nat, 12 ≤ lim → lim ≤ 65535 → v0 ≠ nI lim := fun lim _ h2 z9 => by rw [z9] at h9; exact nI_pos (by omega) h9
    refine lv_iload_n hx hb d_Wm_write_0 rfl (lv_at hl 1 rfl) ?_
    refine lv_bipush (v := 12) hx hb d_Wm_write_1 (by decide) ?_
    refine lv_topq (y := nI 12) (rfl) ?_
    refine lv_icmp_lt (tgt := 12) hx hb d_Wm_write_3 (by decide) (fun c1 => ?_) (fun c1 => ?_)
    · exact hthr "java/lang/IllegalArgumentException" 71 73 _ _ _ _ _ _ _ (by decide +kernel) at_Wm_73 g_466 g_13 hS hP hD hl.1 (Nat.le_of_ble_eq_true rfl) d_Wm_write_12 d_Wm_write_15 d_Wm_write_16 d_Wm_write_19 (Or.inl ⟨rfl, hbad, rfl, rfl⟩)
    · exact absurd (Int32.lt_trans h9 (show (0 : Int32) < nI 12 by decide)) c1
  · have hbad : ∀ lim : Nat, 12 ≤ lim → lim ≤ 65535 → v0 ≠ nI lim := fun lim _ h2 z9 => by rw [z9] at h9; exact nI_ge (b := 65536) (by omega) (by decide) h9
    refine lv_iload_n hx hb d_Wm_write_0 rfl (lv_at hl 1 rfl) ?_
    refine lv_bipush (v := 12) hx hb d_Wm_write_1 (by decide) ?_
    refine lv_topq (y := nI 12) (rfl) ?_
    refine lv_icmp_lt (tgt := 12) hx hb d_Wm_write_3 (by decide) (fun c2 => ?_) (fun c2 => ?_)
    · exact absurd (Int32.lt_of_le_of_lt (Int32.le_trans (show nI 12 ≤ nI 65536 by decide) h9) c2) (by simp)
    · refine lv_iload_n hx hb d_Wm_write_6 rfl (lv_at hl 1 rfl) ?_
      refine lv_ldc hx hb hown (hts _ g_369) d_Wm_write_7 ?_
      refine lv_topq (y := nI 65535) (rfl) ?_
      refine lv_icmp_le (tgt := 20) hx hb d_Wm_write_9 (by decide) (fun c3 => ?_) (fun c3 => ?_)
      · exact absurd (Int32.lt_of_le_of_lt c3 (show nI 65535 < nI 65536 by decide)) (Int32.not_lt.mpr h9)
      · exact hthr "java/lang/IllegalArgumentException" 71 73 _ _ _ _ _ _ _ (by decide +kernel) at_Wm_73 g_466 g_13 hS hP hD hl.1 (Nat.le_of_ble_eq_true rfl) d_Wm_write_12 d_Wm_write_15 d_Wm_write_16 d_Wm_write_19 (Or.inl ⟨rfl, hbad, rfl, rfl⟩)
  · refine lv_iload_n hx hb d_Wm_write_0 rfl (lv_at hl 1 rfl) ?_
    refine lv_bipush (v := 12) hx hb d_Wm_write_1 (by decide) ?_
    refine lv_topq (y := nI 12) (rfl) ?_
    refine lv_icmp_lt (tgt := 12) hx hb d_Wm_write_3 (by decide) (fun c4 => ?_) (fun c4 => ?_)
    · have c4 : lim < 12 := (nI_ltI (a := lim) (b := 12) (by omega) (by omega)).mp c4
      have hbad : ∀ l9 : Nat, 12 ≤ l9 → l9 ≤ 65535 → nI lim ≠ nI l9 := fun l9 h1 h2 z9 => by have := (nI_eq (a := lim) (b := l9) (by omega) (by omega)).mp z9; omega
      exact hthr "java/lang/IllegalArgumentException" 71 73 _ _ _ _ _ _ _ (by decide +kernel) at_Wm_73 g_466 g_13 hS hP hD hl.1 (Nat.le_of_ble_eq_true rfl) d_Wm_write_12 d_Wm_write_15 d_Wm_write_16 d_Wm_write_19 (Or.inl ⟨rfl, hbad, rfl, rfl⟩)
    · have c4 : ¬ (lim < 12) := fun z9 => c4 ((nI_ltI (a := lim) (b := 12) (by omega) (by omega)).mpr z9)
      refine lv_iload_n hx hb d_Wm_write_6 rfl (lv_at hl 1 rfl) ?_
      refine lv_ldc hx hb hown (hts _ g_369) d_Wm_write_7 ?_
      refine lv_topq (y := nI 65535) (rfl) ?_
      refine lv_icmp_le (tgt := 20) hx hb d_Wm_write_9 (by decide) (fun c5 => ?_) (fun c5 => ?_)
      · have c5 : lim ≤ 65535 := (nI_leI (a := lim) (b := 65535) (by omega) (by omega)).mp c5
        refine lv_bipush (v := 12) hx hb d_Wm_write_20 (by decide) ?_
        refine lv_topq (y := nI 12) (rfl) ?_
        refine lv_aload_n hx hb d_Wm_write_22 rfl (lv_at hl 0 rfl) ?_
        refine va_get (D := D9) (ci := 6) (C := R_Wm) (T := F_Wm) (N := 7) hx hb hts i_Wm hown hK hP 0 ww_0 rfl 1 (by decide) (hts _ g_223) (fun _ h9 => h9) rfl d_Wm_write_23 ?_
        refine mw_cVN (ci := 2) (k := 19) C0 (m_Ga_bytesNeverLeftOut l D9 cB cI cJ cG a O _ _ es hG hO) g_535 g_3 g_532 g_534 gs_Ga_bytesNeverLeftOut ⟨by decide +kernel, by decide +kernel, show Option.map (fun d => d.parameters.length) (parseMethodDescriptor y_Ga_bytesNeverLeftOut.desc) = some 0 by decide +kernel⟩ ⟨by decide, by decide⟩ rfl rfl hP hD hS hA rfl ww_19 hl.1 (Nat.le_of_ble_eq_true rfl) rfl d_Wm_write_26 ⟨by decide, by decide⟩ (fun v9 w9 H locs hq hP hD hS => ?_)
        obtain ⟨I6, F7, hw9, q8⟩ := hq
        subst hw9
        obtain ⟨rfl, rfl, rfl⟩ := q8
        refine lv_iadd hx hb d_Wm_write_29 ?_
        refine lv_topq (y := nI (12 + (mu3 (fil 3 es)))) (nI_add _ _) ?_
        refine lv_iload_n hx hb d_Wm_write_30 rfl (lv_at hl 1 rfl) ?_
        refine lv_icmp_le (tgt := 42) hx hb d_Wm_write_31 (by decide) (fun c9 => ?_) (fun c9 => ?_)
        · have c9 : 12 + (mu3 (fil 3 es)) ≤ lim := (nI_leI (a := 12 + (mu3 (fil 3 es))) (b := lim) (by omega) (by omega)).mp c9
          refine lv_aload_n hx hb d_Wm_write_42 rfl (lv_at hl 0 rfl) ?_
          refine va_get (D := D9) (ci := 6) (C := R_Wm) (T := F_Wm) (N := 7) hx hb hts i_Wm hown hK hP 0 ww_0 rfl 3 (by decide) (hts _ g_225) (fun _ h9 => h9) rfl d_Wm_write_43 ?_
          refine lv_iload_n hx hb d_Wm_write_46 rfl (lv_at hl 1 rfl) ?_
          refine mw_cVN (ci := 5) (k := 18) C0 (m_Wr_compose l D9 cB cI cJ cG a O _ _ es id9 fg lim n0 hG hO hEk h11 h12 hid hfg hF21 hS9 h14 hn0 (by omega) (by omega)) g_562 g_5 g_559 g_561 gs_Wr_compose ⟨by decide +kernel, by decide +kernel, show Option.map (fun d => d.parameters.length) (parseMethodDescriptor y_Wr_compose.desc) = some 1 by decide +kernel⟩ ⟨by decide, by decide⟩ rfl rfl hP hD hS hA rfl ww_18 hl.1 (Nat.le_of_ble_eq_true rfl) rfl d_Wm_write_47 ⟨by decide, by decide⟩ (fun v9 w9 H locs hq hP hD hS => ?_)
          obtain ⟨I10, F11, hw9, q12⟩ := hq
          subst hw9
          obtain ⟨rfl, sJx, h13, h10, sGx, hBm, hlen9, n9, hn9, h14n, hSn⟩ := q12
          refine lv_aload_n hx hb d_Wm_write_50 rfl (lv_at hl 0 rfl) ?_
          refine va_get (D := D9) (ci := 6) (C := R_Wm) (T := F_Wm) (N := 7) hx hb hts i_Wm hown hK hP 0 ww_0 rfl 3 (by decide) (hts _ g_225) (fun _ h9 => h9) rfl d_Wm_write_51 ?_
          refine va_getN (D := D9) (ci := 5) (C := R_Wr) (T := F_Wr) (N := 6) hx hb hts i_Wr hown hK hP 18 ww_18 rfl 1 (by decide) (hts _ g_187) (fun _ h9 => h9) rfl d_Wm_write_54 ?_
          refine va_getN (D := D9) (ci := 0) (C := R_By) (T := F_By) (N := 2) hx hb hts i_By hown hK hP 20 ww_20 rfl 1 (by decide) (hts _ g_36) (fun _ h9 => h9) rfl d_Wm_write_57 ?_
          refine lv_topq (y := nI ((wMs es id9 fg lim).length)) (h13) ?_
          exact hret _ _ _ _ _ _ _ hS hP hD d_Wm_write_60 nr_i (⟨lim, by omega, by omega, rfl, by omega, rfl, (sm_mo sJx (by decide)), h13, h10, (sm_mo sGx (by decide)), hBm, hlen9, n9, hn9, h14n, hSn⟩)
        · have c9 : ¬ (12 + (mu3 (fil 3 es)) ≤ lim) := fun z9 => c9 ((nI_leI (a := 12 + (mu3 (fil 3 es))) (b := lim) (by omega) (by omega)).mpr z9)
          exact hthr "java/lang/UnsupportedOperationException" 114 116 _ _ _ _ _ _ _ (by decide +kernel) at_Wm_116 g_544 g_18 hS hP hD hl.1 (Nat.le_of_ble_eq_true rfl) d_Wm_write_34 d_Wm_write_37 d_Wm_write_38 d_Wm_write_41 (Or.inr ⟨rfl, lim, by omega, by omega, rfl, by omega, rfl, rfl⟩)
      · have c5 : ¬ (lim ≤ 65535) := fun z9 => c5 ((nI_leI (a := lim) (b := 65535) (by omega) (by omega)).mpr z9)
        exfalso; omega
