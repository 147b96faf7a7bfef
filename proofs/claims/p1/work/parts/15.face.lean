theorem g_1 : (Cond.initialized "WireMessages") ∈ GT := gt_mem 1 (by decide +kernel) rfl
theorem g_17 : (Cond.initialized "java/util/NoSuchElementException") ∈ GT := gt_mem 17 (by decide +kernel) rfl
theorem g_60 : (Cond.fieldLinkNest "WireMessages$Reader" (59 : Nat) "WireMessages$Gathered" "bytes" "LWireMessages$Bytes;" "WireMessages") ∈ GT := gt_mem 60 (by decide +kernel) rfl
theorem g_128 : (Cond.fieldLink "WireMessages$Reader" (65 : Nat) "WireMessages$Reader" "ownerLength" "I") ∈ GT := gt_mem 128 (by decide +kernel) rfl
theorem g_272 : (Cond.methodLink "WireMessages$Reader" (62 : Nat) ({ cls := "WireMessages$Reader", name := "takeOwner", desc := "(I)Z" } : MethodName)) ∈ GT := gt_mem 272 (by decide +kernel) rfl
theorem g_274 : (Cond.instanceMethod ({ cls := "WireMessages$Reader", name := "takeOwner", desc := "(I)Z" } : MethodName)) ∈ GT := gt_mem 274 (by decide +kernel) rfl
theorem g_275 : (Cond.code ({ cls := "WireMessages$Reader", name := "takeOwner", desc := "(I)Z" } : MethodName) prog_7_method_9_code (4 : Nat) (Option.some FieldType.boolean)) ∈ GT := gt_mem 275 (by decide +kernel) rfl
theorem g_276 : (Cond.methodLink "WireMessages$Reader" (82 : Nat) ({ cls := "WireMessages$Reader", name := "takeName", desc := "(II)Z" } : MethodName)) ∈ GT := gt_mem 276 (by decide +kernel) rfl
theorem g_278 : (Cond.instanceMethod ({ cls := "WireMessages$Reader", name := "takeName", desc := "(II)Z" } : MethodName)) ∈ GT := gt_mem 278 (by decide +kernel) rfl
theorem g_279 : (Cond.code ({ cls := "WireMessages$Reader", name := "takeName", desc := "(II)Z" } : MethodName) prog_7_method_10_code (11 : Nat) (Option.some FieldType.boolean)) ∈ GT := gt_mem 279 (by decide +kernel) rfl
theorem g_488 : (Cond.methodLinkNest "WireMessages" (89 : Nat) ({ cls := "WireMessages$Reader", name := "takeTapeAsName", desc := "()Z" } : MethodName) "WireMessages") ∈ GT := gt_mem 488 (by decide +kernel) rfl
theorem g_490 : (Cond.instanceMethod ({ cls := "WireMessages$Reader", name := "takeTapeAsName", desc := "()Z" } : MethodName)) ∈ GT := gt_mem 490 (by decide +kernel) rfl
theorem g_491 : (Cond.code ({ cls := "WireMessages$Reader", name := "takeTapeAsName", desc := "()Z" } : MethodName) prog_7_method_6_code (3 : Nat) (Option.some FieldType.boolean)) ∈ GT := gt_mem 491 (by decide +kernel) rfl
theorem g_492 : (Cond.methodLink "WireMessages$Reader" (79 : Nat) ({ cls := "WireMessages$Reader", name := "takeBackTo", desc := "(I)Z" } : MethodName)) ∈ GT := gt_mem 492 (by decide +kernel) rfl
theorem g_494 : (Cond.instanceMethod ({ cls := "WireMessages$Reader", name := "takeBackTo", desc := "(I)Z" } : MethodName)) ∈ GT := gt_mem 494 (by decide +kernel) rfl
theorem g_495 : (Cond.code ({ cls := "WireMessages$Reader", name := "takeBackTo", desc := "(I)Z" } : MethodName) prog_7_method_8_code (2 : Nat) (Option.some FieldType.boolean)) ∈ GT := gt_mem 495 (by decide +kernel) rfl
theorem g_505 : (Cond.classLink "WireMessages" (104 : Nat) "java/util/NoSuchElementException") ∈ GT := gt_mem 505 (by decide +kernel) rfl
theorem g_520 : (Cond.methodLinkNest "WireMessages" (107 : Nat) ({ cls := "WireMessages$Reader", name := "takeTapeAsNameAndData", desc := "(I)Z" } : MethodName) "WireMessages") ∈ GT := gt_mem 520 (by decide +kernel) rfl
theorem g_522 : (Cond.instanceMethod ({ cls := "WireMessages$Reader", name := "takeTapeAsNameAndData", desc := "(I)Z" } : MethodName)) ∈ GT := gt_mem 522 (by decide +kernel) rfl
theorem g_523 : (Cond.code ({ cls := "WireMessages$Reader", name := "takeTapeAsNameAndData", desc := "(I)Z" } : MethodName) prog_7_method_7_code (4 : Nat) (Option.some FieldType.boolean)) ∈ GT := gt_mem 523 (by decide +kernel) rfl
theorem g_667 : (Cond.methodLink "WireMessages" (143 : Nat) ({ cls := "WireMessages", name := "rowThatIs", desc := "(II)I" } : MethodName)) ∈ GT := gt_mem 667 (by decide +kernel) rfl
theorem g_669 : (Cond.instanceMethod ({ cls := "WireMessages", name := "rowThatIs", desc := "(II)I" } : MethodName)) ∈ GT := gt_mem 669 (by decide +kernel) rfl
theorem g_670 : (Cond.code ({ cls := "WireMessages", name := "rowThatIs", desc := "(II)I" } : MethodName) prog_1_method_18_code (4 : Nat) (Option.some FieldType.int)) ∈ GT := gt_mem 670 (by decide +kernel) rfl
theorem g_671 : (Cond.methodLinkNest "WireMessages" (171 : Nat) ({ cls := "WireMessages$Gathered", name := "rowOf", desc := "(II)I" } : MethodName) "WireMessages") ∈ GT := gt_mem 671 (by decide +kernel) rfl
theorem g_673 : (Cond.instanceMethod ({ cls := "WireMessages$Gathered", name := "rowOf", desc := "(II)I" } : MethodName)) ∈ GT := gt_mem 673 (by decide +kernel) rfl
theorem g_674 : (Cond.code ({ cls := "WireMessages$Gathered", name := "rowOf", desc := "(II)I" } : MethodName) prog_4_method_6_code (3 : Nat) (Option.some FieldType.int)) ∈ GT := gt_mem 674 (by decide +kernel) rfl
theorem gs_Ga_rowOf : Cond.selects R_Ga y_Ga_rowOf y_Ga_rowOf ∈ GT := gt_sel (q := (⟨"WireMessages$Gathered", "rowOf", "(II)I"⟩, 11)) (by decide +kernel)
theorem gs_Wm_rowThatIs : Cond.selects R_Wm y_Wm_rowThatIs y_Wm_rowThatIs ∈ GT := gt_sel (q := (⟨"WireMessages", "rowThatIs", "(II)I"⟩, 7)) (by decide +kernel)
theorem gs_Re_takeName : Cond.selects R_Re y_Re_takeName y_Re_takeName ∈ GT := gt_sel (q := (⟨"WireMessages$Reader", "takeName", "(II)Z"⟩, 8)) (by decide +kernel)
theorem gs_Re_takeOwner : Cond.selects R_Re y_Re_takeOwner y_Re_takeOwner ∈ GT := gt_sel (q := (⟨"WireMessages$Reader", "takeOwner", "(I)Z"⟩, 8)) (by decide +kernel)
theorem gs_Re_takeBackTo : Cond.selects R_Re y_Re_takeBackTo y_Re_takeBackTo ∈ GT := gt_sel (q := (⟨"WireMessages$Reader", "takeBackTo", "(I)Z"⟩, 8)) (by decide +kernel)
theorem gs_Re_takeTapeAsName : Cond.selects R_Re y_Re_takeTapeAsName y_Re_takeTapeAsName ∈ GT := gt_sel (q := (⟨"WireMessages$Reader", "takeTapeAsName", "()Z"⟩, 8)) (by decide +kernel)
theorem gs_Re_takeTapeAsNameAndData : Cond.selects R_Re y_Re_takeTapeAsNameAndData y_Re_takeTapeAsNameAndData ∈ GT := gt_sel (q := (⟨"WireMessages$Reader", "takeTapeAsNameAndData", "(I)Z"⟩, 8)) (by decide +kernel)
theorem at_Wm_106 : ∀ w ∈ (Bundle.ownAtoms0 R_Wm 106 "java/util/NoSuchElementException" ["java/lang/RuntimeException", "java/lang/Exception"]).filter tx_tab, w ∈ GT := gt_all _ (by decide +kernel) (by decide +kernel)
theorem d_Wm_rowThatIs_0 : decode b_Wm_rowThatIs 0 = .ok (.aload_n 0, 1) := by decide +kernel
theorem d_Wm_rowThatIs_1 : decode b_Wm_rowThatIs 1 = .ok (.getfield 19, 3) := by decide +kernel
theorem d_Wm_rowThatIs_4 : decode b_Wm_rowThatIs 4 = .ok (.iload_n 1, 1) := by decide +kernel
theorem d_Wm_rowThatIs_5 : decode b_Wm_rowThatIs 5 = .ok (.iload_n 2, 1) := by decide +kernel
theorem d_Wm_rowThatIs_6 : decode b_Wm_rowThatIs 6 = .ok (.invokevirtual 171, 3) := by decide +kernel
theorem d_Wm_rowThatIs_9 : decode b_Wm_rowThatIs 9 = .ok (.istore_n 3, 1) := by decide +kernel
theorem d_Wm_rowThatIs_10 : decode b_Wm_rowThatIs 10 = .ok (.iload_n 3, 1) := by decide +kernel
theorem d_Wm_rowThatIs_11 : decode b_Wm_rowThatIs 11 = .ok (.ifCond .ge 11, 3) := by decide +kernel
theorem d_Wm_rowThatIs_14 : decode b_Wm_rowThatIs 14 = .ok (.new 104, 3) := by decide +kernel
theorem d_Wm_rowThatIs_17 : decode b_Wm_rowThatIs 17 = .ok (.dup, 1) := by decide +kernel
theorem d_Wm_rowThatIs_18 : decode b_Wm_rowThatIs 18 = .ok (.invokespecial 106, 3) := by decide +kernel
theorem d_Wm_rowThatIs_21 : decode b_Wm_rowThatIs 21 = .ok (.athrow, 1) := by decide +kernel
theorem d_Wm_rowThatIs_22 : decode b_Wm_rowThatIs 22 = .ok (.iload_n 3, 1) := by decide +kernel
theorem d_Wm_rowThatIs_23 : decode b_Wm_rowThatIs 23 = .ok (.ireturn, 1) := by decide +kernel
theorem d_Wm_told_0 : decode b_Wm_told 0 = .ok (.aload_n 0, 1) := by decide +kernel
theorem d_Wm_told_1 : decode b_Wm_told 1 = .ok (.iload_n 1, 1) := by decide +kernel
theorem d_Wm_told_2 : decode b_Wm_told 2 = .ok (.iload_n 2, 1) := by decide +kernel
theorem d_Wm_told_3 : decode b_Wm_told 3 = .ok (.invokevirtual 143, 3) := by decide +kernel
theorem d_Wm_told_6 : decode b_Wm_told 6 = .ok (.istore 4, 2) := by decide +kernel
theorem d_Wm_told_8 : decode b_Wm_told 8 = .ok (.iload_n 3, 1) := by decide +kernel
theorem d_Wm_told_9 : decode b_Wm_told 9 = .ok (.ifCond .lt 17, 3) := by decide +kernel
theorem d_Wm_told_12 : decode b_Wm_told 12 = .ok (.iload_n 3, 1) := by decide +kernel
theorem d_Wm_told_13 : decode b_Wm_told 13 = .ok (.iconst 4, 1) := by decide +kernel
theorem d_Wm_told_14 : decode b_Wm_told 14 = .ok (.if_icmp .gt 12, 3) := by decide +kernel
theorem d_Wm_told_17 : decode b_Wm_told 17 = .ok (.iload_n 1, 1) := by decide +kernel
theorem d_Wm_told_18 : decode b_Wm_told 18 = .ok (.ifCond .ne 16, 3) := by decide +kernel
theorem d_Wm_told_21 : decode b_Wm_told 21 = .ok (.iload_n 3, 1) := by decide +kernel
theorem d_Wm_told_22 : decode b_Wm_told 22 = .ok (.iconst 2, 1) := by decide +kernel
theorem d_Wm_told_23 : decode b_Wm_told 23 = .ok (.if_icmp .le 11, 3) := by decide +kernel
theorem d_Wm_told_26 : decode b_Wm_told 26 = .ok (.new 71, 3) := by decide +kernel
theorem d_Wm_told_29 : decode b_Wm_told 29 = .ok (.dup, 1) := by decide +kernel
theorem d_Wm_told_30 : decode b_Wm_told 30 = .ok (.invokespecial 73, 3) := by decide +kernel
theorem d_Wm_told_33 : decode b_Wm_told 33 = .ok (.athrow, 1) := by decide +kernel
theorem d_Wm_told_34 : decode b_Wm_told 34 = .ok (.iload_n 3, 1) := by decide +kernel
theorem d_Wm_told_35 : decode b_Wm_told 35 = .ok (.tableswitch 73 0 3 #[29, 40, 51, 62], 29) := by decide +kernel
theorem d_Wm_told_64 : decode b_Wm_told 64 = .ok (.aload_n 0, 1) := by decide +kernel
theorem d_Wm_told_65 : decode b_Wm_told 65 = .ok (.getfield 19, 3) := by decide +kernel
theorem d_Wm_told_68 : decode b_Wm_told 68 = .ok (.getfield 147, 3) := by decide +kernel
theorem d_Wm_told_71 : decode b_Wm_told 71 = .ok (.iload 4, 2) := by decide +kernel
theorem d_Wm_told_73 : decode b_Wm_told 73 = .ok (.iaload, 1) := by decide +kernel
theorem d_Wm_told_74 : decode b_Wm_told 74 = .ok (.ireturn, 1) := by decide +kernel
theorem d_Wm_told_75 : decode b_Wm_told 75 = .ok (.aload_n 0, 1) := by decide +kernel
theorem d_Wm_told_76 : decode b_Wm_told 76 = .ok (.getfield 19, 3) := by decide +kernel
theorem d_Wm_told_79 : decode b_Wm_told 79 = .ok (.getfield 150, 3) := by decide +kernel
theorem d_Wm_told_82 : decode b_Wm_told 82 = .ok (.iload 4, 2) := by decide +kernel
theorem d_Wm_told_84 : decode b_Wm_told 84 = .ok (.iaload, 1) := by decide +kernel
theorem d_Wm_told_85 : decode b_Wm_told 85 = .ok (.ireturn, 1) := by decide +kernel
theorem d_Wm_told_86 : decode b_Wm_told 86 = .ok (.aload_n 0, 1) := by decide +kernel
theorem d_Wm_told_87 : decode b_Wm_told 87 = .ok (.getfield 19, 3) := by decide +kernel
theorem d_Wm_told_90 : decode b_Wm_told 90 = .ok (.getfield 153, 3) := by decide +kernel
theorem d_Wm_told_93 : decode b_Wm_told 93 = .ok (.iload 4, 2) := by decide +kernel
theorem d_Wm_told_95 : decode b_Wm_told 95 = .ok (.iaload, 1) := by decide +kernel
theorem d_Wm_told_96 : decode b_Wm_told 96 = .ok (.ireturn, 1) := by decide +kernel
theorem d_Wm_told_97 : decode b_Wm_told 97 = .ok (.aload_n 0, 1) := by decide +kernel
theorem d_Wm_told_98 : decode b_Wm_told 98 = .ok (.getfield 19, 3) := by decide +kernel
theorem d_Wm_told_101 : decode b_Wm_told 101 = .ok (.getfield 156, 3) := by decide +kernel
theorem d_Wm_told_104 : decode b_Wm_told 104 = .ok (.iload 4, 2) := by decide +kernel
theorem d_Wm_told_106 : decode b_Wm_told 106 = .ok (.iaload, 1) := by decide +kernel
theorem d_Wm_told_107 : decode b_Wm_told 107 = .ok (.ireturn, 1) := by decide +kernel
theorem d_Wm_told_108 : decode b_Wm_told 108 = .ok (.aload_n 0, 1) := by decide +kernel
theorem d_Wm_told_109 : decode b_Wm_told 109 = .ok (.getfield 19, 3) := by decide +kernel
theorem d_Wm_told_112 : decode b_Wm_told 112 = .ok (.getfield 159, 3) := by decide +kernel
theorem d_Wm_told_115 : decode b_Wm_told 115 = .ok (.iload 4, 2) := by decide +kernel
theorem d_Wm_told_117 : decode b_Wm_told 117 = .ok (.iaload, 1) := by decide +kernel
theorem d_Wm_told_118 : decode b_Wm_told 118 = .ok (.ireturn, 1) := by decide +kernel
theorem d_Wm_byteOf_0 : decode b_Wm_byteOf 0 = .ok (.aload_n 0, 1) := by decide +kernel
theorem d_Wm_byteOf_1 : decode b_Wm_byteOf 1 = .ok (.iload_n 1, 1) := by decide +kernel
theorem d_Wm_byteOf_2 : decode b_Wm_byteOf 2 = .ok (.iload_n 2, 1) := by decide +kernel
theorem d_Wm_byteOf_3 : decode b_Wm_byteOf 3 = .ok (.invokevirtual 143, 3) := by decide +kernel
theorem d_Wm_byteOf_6 : decode b_Wm_byteOf 6 = .ok (.istore 4, 2) := by decide +kernel
theorem d_Wm_byteOf_8 : decode b_Wm_byteOf 8 = .ok (.iload_n 3, 1) := by decide +kernel
theorem d_Wm_byteOf_9 : decode b_Wm_byteOf 9 = .ok (.ifCond .lt 28, 3) := by decide +kernel
theorem d_Wm_byteOf_12 : decode b_Wm_byteOf 12 = .ok (.iload_n 3, 1) := by decide +kernel
theorem d_Wm_byteOf_13 : decode b_Wm_byteOf 13 = .ok (.aload_n 0, 1) := by decide +kernel
theorem d_Wm_byteOf_14 : decode b_Wm_byteOf 14 = .ok (.getfield 19, 3) := by decide +kernel
theorem d_Wm_byteOf_17 : decode b_Wm_byteOf 17 = .ok (.getfield 153, 3) := by decide +kernel
theorem d_Wm_byteOf_20 : decode b_Wm_byteOf 20 = .ok (.iload 4, 2) := by decide +kernel
theorem d_Wm_byteOf_22 : decode b_Wm_byteOf 22 = .ok (.iaload, 1) := by decide +kernel
theorem d_Wm_byteOf_23 : decode b_Wm_byteOf 23 = .ok (.aload_n 0, 1) := by decide +kernel
theorem d_Wm_byteOf_24 : decode b_Wm_byteOf 24 = .ok (.getfield 19, 3) := by decide +kernel
theorem d_Wm_byteOf_27 : decode b_Wm_byteOf 27 = .ok (.getfield 156, 3) := by decide +kernel
theorem d_Wm_byteOf_30 : decode b_Wm_byteOf 30 = .ok (.iload 4, 2) := by decide +kernel
theorem d_Wm_byteOf_32 : decode b_Wm_byteOf 32 = .ok (.iaload, 1) := by decide +kernel
theorem d_Wm_byteOf_33 : decode b_Wm_byteOf 33 = .ok (.iadd, 1) := by decide +kernel
theorem d_Wm_byteOf_34 : decode b_Wm_byteOf 34 = .ok (.if_icmp .lt 11, 3) := by decide +kernel
theorem d_Wm_byteOf_37 : decode b_Wm_byteOf 37 = .ok (.new 123, 3) := by decide +kernel
theorem d_Wm_byteOf_40 : decode b_Wm_byteOf 40 = .ok (.dup, 1) := by decide +kernel
theorem d_Wm_byteOf_41 : decode b_Wm_byteOf 41 = .ok (.invokespecial 125, 3) := by decide +kernel
theorem d_Wm_byteOf_44 : decode b_Wm_byteOf 44 = .ok (.athrow, 1) := by decide +kernel
theorem d_Wm_byteOf_45 : decode b_Wm_byteOf 45 = .ok (.aload_n 0, 1) := by decide +kernel
theorem d_Wm_byteOf_46 : decode b_Wm_byteOf 46 = .ok (.getfield 19, 3) := by decide +kernel
theorem d_Wm_byteOf_49 : decode b_Wm_byteOf 49 = .ok (.getfield 43, 3) := by decide +kernel
theorem d_Wm_byteOf_52 : decode b_Wm_byteOf 52 = .ok (.aload_n 0, 1) := by decide +kernel
theorem d_Wm_byteOf_53 : decode b_Wm_byteOf 53 = .ok (.getfield 19, 3) := by decide +kernel
theorem d_Wm_byteOf_56 : decode b_Wm_byteOf 56 = .ok (.getfield 162, 3) := by decide +kernel
theorem d_Wm_byteOf_59 : decode b_Wm_byteOf 59 = .ok (.iload 4, 2) := by decide +kernel
theorem d_Wm_byteOf_61 : decode b_Wm_byteOf 61 = .ok (.iaload, 1) := by decide +kernel
theorem d_Wm_byteOf_62 : decode b_Wm_byteOf 62 = .ok (.iload_n 3, 1) := by decide +kernel
theorem d_Wm_byteOf_63 : decode b_Wm_byteOf 63 = .ok (.iadd, 1) := by decide +kernel
theorem d_Wm_byteOf_64 : decode b_Wm_byteOf 64 = .ok (.invokevirtual 130, 3) := by decide +kernel
theorem d_Wm_byteOf_67 : decode b_Wm_byteOf 67 = .ok (.ireturn, 1) := by decide +kernel
theorem d_Wm_same_0 : decode b_Wm_same 0 = .ok (.aload_n 0, 1) := by decide +kernel
theorem d_Wm_same_1 : decode b_Wm_same 1 = .ok (.iload_n 1, 1) := by decide +kernel
theorem d_Wm_same_2 : decode b_Wm_same 2 = .ok (.iload_n 2, 1) := by decide +kernel
theorem d_Wm_same_3 : decode b_Wm_same 3 = .ok (.invokevirtual 143, 3) := by decide +kernel
theorem d_Wm_same_6 : decode b_Wm_same 6 = .ok (.istore 5, 2) := by decide +kernel
theorem d_Wm_same_8 : decode b_Wm_same 8 = .ok (.aload_n 0, 1) := by decide +kernel
theorem d_Wm_same_9 : decode b_Wm_same 9 = .ok (.iload_n 3, 1) := by decide +kernel
theorem d_Wm_same_10 : decode b_Wm_same 10 = .ok (.iload 4, 2) := by decide +kernel
theorem d_Wm_same_12 : decode b_Wm_same 12 = .ok (.invokevirtual 143, 3) := by decide +kernel
theorem d_Wm_same_15 : decode b_Wm_same 15 = .ok (.istore 6, 2) := by decide +kernel
theorem d_Wm_same_17 : decode b_Wm_same 17 = .ok (.aload_n 0, 1) := by decide +kernel
theorem d_Wm_same_18 : decode b_Wm_same 18 = .ok (.getfield 49, 3) := by decide +kernel
theorem d_Wm_same_21 : decode b_Wm_same 21 = .ok (.aload_n 0, 1) := by decide +kernel
theorem d_Wm_same_22 : decode b_Wm_same 22 = .ok (.getfield 19, 3) := by decide +kernel
theorem d_Wm_same_25 : decode b_Wm_same 25 = .ok (.getfield 162, 3) := by decide +kernel
theorem d_Wm_same_28 : decode b_Wm_same 28 = .ok (.iload 5, 2) := by decide +kernel
theorem d_Wm_same_30 : decode b_Wm_same 30 = .ok (.iaload, 1) := by decide +kernel
theorem d_Wm_same_31 : decode b_Wm_same 31 = .ok (.aload_n 0, 1) := by decide +kernel
theorem d_Wm_same_32 : decode b_Wm_same 32 = .ok (.getfield 19, 3) := by decide +kernel
theorem d_Wm_same_35 : decode b_Wm_same 35 = .ok (.getfield 162, 3) := by decide +kernel
theorem d_Wm_same_38 : decode b_Wm_same 38 = .ok (.iload 6, 2) := by decide +kernel
theorem d_Wm_same_40 : decode b_Wm_same 40 = .ok (.iaload, 1) := by decide +kernel
theorem d_Wm_same_41 : decode b_Wm_same 41 = .ok (.invokevirtual 165, 3) := by decide +kernel
theorem d_Wm_same_44 : decode b_Wm_same 44 = .ok (.ifCond .ne 7, 3) := by decide +kernel
theorem d_Wm_same_47 : decode b_Wm_same 47 = .ok (.iconst 1, 1) := by decide +kernel
theorem d_Wm_same_48 : decode b_Wm_same 48 = .ok (.goto 4, 3) := by decide +kernel
theorem d_Wm_same_51 : decode b_Wm_same 51 = .ok (.iconst 0, 1) := by decide +kernel
theorem d_Wm_same_52 : decode b_Wm_same 52 = .ok (.ireturn, 1) := by decide +kernel
theorem d_Wm_order_0 : decode b_Wm_order 0 = .ok (.aload_n 0, 1) := by decide +kernel
theorem d_Wm_order_1 : decode b_Wm_order 1 = .ok (.iload_n 1, 1) := by decide +kernel
theorem d_Wm_order_2 : decode b_Wm_order 2 = .ok (.iload_n 2, 1) := by decide +kernel
theorem d_Wm_order_3 : decode b_Wm_order 3 = .ok (.invokevirtual 143, 3) := by decide +kernel
theorem d_Wm_order_6 : decode b_Wm_order 6 = .ok (.istore 5, 2) := by decide +kernel
theorem d_Wm_order_8 : decode b_Wm_order 8 = .ok (.aload_n 0, 1) := by decide +kernel
theorem d_Wm_order_9 : decode b_Wm_order 9 = .ok (.iload_n 3, 1) := by decide +kernel
theorem d_Wm_order_10 : decode b_Wm_order 10 = .ok (.iload 4, 2) := by decide +kernel
theorem d_Wm_order_12 : decode b_Wm_order 12 = .ok (.invokevirtual 143, 3) := by decide +kernel
theorem d_Wm_order_15 : decode b_Wm_order 15 = .ok (.istore 6, 2) := by decide +kernel
theorem d_Wm_order_17 : decode b_Wm_order 17 = .ok (.aload_n 0, 1) := by decide +kernel
theorem d_Wm_order_18 : decode b_Wm_order 18 = .ok (.getfield 49, 3) := by decide +kernel
theorem d_Wm_order_21 : decode b_Wm_order 21 = .ok (.aload_n 0, 1) := by decide +kernel
theorem d_Wm_order_22 : decode b_Wm_order 22 = .ok (.getfield 19, 3) := by decide +kernel
theorem d_Wm_order_25 : decode b_Wm_order 25 = .ok (.getfield 162, 3) := by decide +kernel
theorem d_Wm_order_28 : decode b_Wm_order 28 = .ok (.iload 5, 2) := by decide +kernel
theorem d_Wm_order_30 : decode b_Wm_order 30 = .ok (.iaload, 1) := by decide +kernel
theorem d_Wm_order_31 : decode b_Wm_order 31 = .ok (.aload_n 0, 1) := by decide +kernel
theorem d_Wm_order_32 : decode b_Wm_order 32 = .ok (.getfield 19, 3) := by decide +kernel
theorem d_Wm_order_35 : decode b_Wm_order 35 = .ok (.getfield 162, 3) := by decide +kernel
theorem d_Wm_order_38 : decode b_Wm_order 38 = .ok (.iload 6, 2) := by decide +kernel
theorem d_Wm_order_40 : decode b_Wm_order 40 = .ok (.iaload, 1) := by decide +kernel
theorem d_Wm_order_41 : decode b_Wm_order 41 = .ok (.invokevirtual 165, 3) := by decide +kernel
theorem d_Wm_order_44 : decode b_Wm_order 44 = .ok (.ireturn, 1) := by decide +kernel
theorem d_Re_takeName_0 : decode b_Re_takeName 0 = .ok (.iload_n 1, 1) := by decide +kernel
theorem d_Re_takeName_1 : decode b_Re_takeName 1 = .ok (.istore_n 3, 1) := by decide +kernel
theorem d_Re_takeName_2 : decode b_Re_takeName 2 = .ok (.iload_n 1, 1) := by decide +kernel
theorem d_Re_takeName_3 : decode b_Re_takeName 3 = .ok (.istore 4, 2) := by decide +kernel
theorem d_Re_takeName_5 : decode b_Re_takeName 5 = .ok (.iconst 0, 1) := by decide +kernel
theorem d_Re_takeName_6 : decode b_Re_takeName 6 = .ok (.istore 5, 2) := by decide +kernel
theorem d_Re_takeName_8 : decode b_Re_takeName 8 = .ok (.iconst 0, 1) := by decide +kernel
theorem d_Re_takeName_9 : decode b_Re_takeName 9 = .ok (.istore 6, 2) := by decide +kernel
theorem d_Re_takeName_11 : decode b_Re_takeName 11 = .ok (.iconst 0, 1) := by decide +kernel
theorem d_Re_takeName_12 : decode b_Re_takeName 12 = .ok (.istore 7, 2) := by decide +kernel
theorem d_Re_takeName_14 : decode b_Re_takeName 14 = .ok (.iload 7, 2) := by decide +kernel
theorem d_Re_takeName_16 : decode b_Re_takeName 16 = .ok (.sipush 16639, 3) := by decide +kernel
theorem d_Re_takeName_19 : decode b_Re_takeName 19 = .ok (.if_icmp .ge 248, 3) := by decide +kernel
theorem d_Re_takeName_22 : decode b_Re_takeName 22 = .ok (.iload_n 3, 1) := by decide +kernel
theorem d_Re_takeName_23 : decode b_Re_takeName 23 = .ok (.aload_n 0, 1) := by decide +kernel
theorem d_Re_takeName_24 : decode b_Re_takeName 24 = .ok (.getfield 9, 3) := by decide +kernel
theorem d_Re_takeName_27 : decode b_Re_takeName 27 = .ok (.getfield 44, 3) := by decide +kernel
theorem d_Re_takeName_30 : decode b_Re_takeName 30 = .ok (.if_icmp .lt 10, 3) := by decide +kernel
theorem d_Re_takeName_33 : decode b_Re_takeName 33 = .ok (.aload_n 0, 1) := by decide +kernel
theorem d_Re_takeName_34 : decode b_Re_takeName 34 = .ok (.iconst 1, 1) := by decide +kernel
theorem d_Re_takeName_35 : decode b_Re_takeName 35 = .ok (.iload_n 3, 1) := by decide +kernel
theorem d_Re_takeName_36 : decode b_Re_takeName 36 = .ok (.invokevirtual 47, 3) := by decide +kernel
theorem d_Re_takeName_39 : decode b_Re_takeName 39 = .ok (.ireturn, 1) := by decide +kernel
theorem d_Re_takeName_40 : decode b_Re_takeName 40 = .ok (.aload_n 0, 1) := by decide +kernel
theorem d_Re_takeName_41 : decode b_Re_takeName 41 = .ok (.getfield 9, 3) := by decide +kernel
theorem d_Re_takeName_44 : decode b_Re_takeName 44 = .ok (.iload_n 3, 1) := by decide +kernel
theorem d_Re_takeName_45 : decode b_Re_takeName 45 = .ok (.invokevirtual 85, 3) := by decide +kernel
theorem d_Re_takeName_48 : decode b_Re_takeName 48 = .ok (.istore 8, 2) := by decide +kernel
theorem d_Re_takeName_50 : decode b_Re_takeName 50 = .ok (.iload 6, 2) := by decide +kernel
theorem d_Re_takeName_52 : decode b_Re_takeName 52 = .ok (.ifCond .eq 13, 3) := by decide +kernel
theorem d_Re_takeName_55 : decode b_Re_takeName 55 = .ok (.aload_n 0, 1) := by decide +kernel
theorem d_Re_takeName_56 : decode b_Re_takeName 56 = .ok (.getfield 9, 3) := by decide +kernel
theorem d_Re_takeName_59 : decode b_Re_takeName 59 = .ok (.getfield 44, 3) := by decide +kernel
theorem d_Re_takeName_62 : decode b_Re_takeName 62 = .ok (.goto 4, 3) := by decide +kernel
theorem d_Re_takeName_65 : decode b_Re_takeName 65 = .ok (.iload_n 2, 1) := by decide +kernel
theorem d_Re_takeName_66 : decode b_Re_takeName 66 = .ok (.istore 9, 2) := by decide +kernel
theorem d_Re_takeName_68 : decode b_Re_takeName 68 = .ok (.iload 8, 2) := by decide +kernel
theorem d_Re_takeName_70 : decode b_Re_takeName 70 = .ok (.ifCond .ne 59, 3) := by decide +kernel
theorem d_Re_takeName_73 : decode b_Re_takeName 73 = .ok (.aload_n 0, 1) := by decide +kernel
theorem d_Re_takeName_74 : decode b_Re_takeName 74 = .ok (.getfield 15, 3) := by decide +kernel
theorem d_Re_takeName_77 : decode b_Re_takeName 77 = .ok (.getfield 59, 3) := by decide +kernel
theorem d_Re_takeName_80 : decode b_Re_takeName 80 = .ok (.iconst 0, 1) := by decide +kernel
theorem d_Re_takeName_81 : decode b_Re_takeName 81 = .ok (.invokevirtual 88, 3) := by decide +kernel
theorem d_Re_takeName_84 : decode b_Re_takeName 84 = .ok (.aload_n 0, 1) := by decide +kernel
theorem d_Re_takeName_85 : decode b_Re_takeName 85 = .ok (.iload 6, 2) := by decide +kernel
theorem d_Re_takeName_87 : decode b_Re_takeName 87 = .ok (.ifCond .eq 10, 3) := by decide +kernel
theorem d_Re_takeName_90 : decode b_Re_takeName 90 = .ok (.aload_n 0, 1) := by decide +kernel
theorem d_Re_takeName_91 : decode b_Re_takeName 91 = .ok (.getfield 41, 3) := by decide +kernel
theorem d_Re_takeName_94 : decode b_Re_takeName 94 = .ok (.goto 6, 3) := by decide +kernel
theorem d_Re_takeName_97 : decode b_Re_takeName 97 = .ok (.iload_n 3, 1) := by decide +kernel
theorem d_Re_takeName_98 : decode b_Re_takeName 98 = .ok (.iconst 1, 1) := by decide +kernel
theorem d_Re_takeName_99 : decode b_Re_takeName 99 = .ok (.iadd, 1) := by decide +kernel
theorem d_Re_takeName_100 : decode b_Re_takeName 100 = .ok (.putfield 41, 3) := by decide +kernel
theorem d_Re_takeName_103 : decode b_Re_takeName 103 = .ok (.aload_n 0, 1) := by decide +kernel
theorem d_Re_takeName_104 : decode b_Re_takeName 104 = .ok (.getfield 41, 3) := by decide +kernel
theorem d_Re_takeName_107 : decode b_Re_takeName 107 = .ok (.iload_n 2, 1) := by decide +kernel
theorem d_Re_takeName_108 : decode b_Re_takeName 108 = .ok (.if_icmp .le 15, 3) := by decide +kernel
theorem d_Re_takeName_111 : decode b_Re_takeName 111 = .ok (.aload_n 0, 1) := by decide +kernel
theorem d_Re_takeName_112 : decode b_Re_takeName 112 = .ok (.iconst 5, 1) := by decide +kernel
theorem d_Re_takeName_113 : decode b_Re_takeName 113 = .ok (.aload_n 0, 1) := by decide +kernel
theorem d_Re_takeName_114 : decode b_Re_takeName 114 = .ok (.getfield 92, 3) := by decide +kernel
theorem d_Re_takeName_117 : decode b_Re_takeName 117 = .ok (.invokevirtual 47, 3) := by decide +kernel
theorem d_Re_takeName_120 : decode b_Re_takeName 120 = .ok (.ifCond .eq 7, 3) := by decide +kernel
theorem d_Re_takeName_123 : decode b_Re_takeName 123 = .ok (.iconst 1, 1) := by decide +kernel
theorem d_Re_takeName_124 : decode b_Re_takeName 124 = .ok (.goto 4, 3) := by decide +kernel
theorem d_Re_takeName_127 : decode b_Re_takeName 127 = .ok (.iconst 0, 1) := by decide +kernel
theorem d_Re_takeName_128 : decode b_Re_takeName 128 = .ok (.ireturn, 1) := by decide +kernel
theorem d_Re_takeName_129 : decode b_Re_takeName 129 = .ok (.iload 8, 2) := by decide +kernel
theorem d_Re_takeName_131 : decode b_Re_takeName 131 = .ok (.sipush 192, 3) := by decide +kernel
theorem d_Re_takeName_134 : decode b_Re_takeName 134 = .ok (.if_icmp .lt 75, 3) := by decide +kernel
theorem d_Re_takeName_137 : decode b_Re_takeName 137 = .ok (.aload_n 0, 1) := by decide +kernel
theorem d_Re_takeName_138 : decode b_Re_takeName 138 = .ok (.getfield 9, 3) := by decide +kernel
theorem d_Re_takeName_141 : decode b_Re_takeName 141 = .ok (.iload_n 3, 1) := by decide +kernel
theorem d_Re_takeName_142 : decode b_Re_takeName 142 = .ok (.invokevirtual 29, 3) := by decide +kernel
theorem d_Re_takeName_145 : decode b_Re_takeName 145 = .ok (.sipush 16383, 3) := by decide +kernel
theorem d_Re_takeName_148 : decode b_Re_takeName 148 = .ok (.iand, 1) := by decide +kernel
theorem d_Re_takeName_149 : decode b_Re_takeName 149 = .ok (.istore 10, 2) := by decide +kernel
theorem d_Re_takeName_151 : decode b_Re_takeName 151 = .ok (.aload_n 0, 1) := by decide +kernel
theorem d_Re_takeName_152 : decode b_Re_takeName 152 = .ok (.iload_n 3, 1) := by decide +kernel
theorem d_Re_takeName_153 : decode b_Re_takeName 153 = .ok (.iload 9, 2) := by decide +kernel
theorem d_Re_takeName_155 : decode b_Re_takeName 155 = .ok (.iload 10, 2) := by decide +kernel
theorem d_Re_takeName_157 : decode b_Re_takeName 157 = .ok (.iload 4, 2) := by decide +kernel
theorem d_Re_takeName_159 : decode b_Re_takeName 159 = .ok (.invokevirtual 95, 3) := by decide +kernel
theorem d_Re_takeName_162 : decode b_Re_takeName 162 = .ok (.ifCond .ne 5, 3) := by decide +kernel
theorem d_Re_takeName_165 : decode b_Re_takeName 165 = .ok (.iconst 0, 1) := by decide +kernel
theorem d_Re_takeName_166 : decode b_Re_takeName 166 = .ok (.ireturn, 1) := by decide +kernel
theorem d_Re_takeName_167 : decode b_Re_takeName 167 = .ok (.aload_n 0, 1) := by decide +kernel
theorem d_Re_takeName_168 : decode b_Re_takeName 168 = .ok (.iload 6, 2) := by decide +kernel
theorem d_Re_takeName_170 : decode b_Re_takeName 170 = .ok (.ifCond .eq 10, 3) := by decide +kernel
theorem d_Re_takeName_173 : decode b_Re_takeName 173 = .ok (.aload_n 0, 1) := by decide +kernel
theorem d_Re_takeName_174 : decode b_Re_takeName 174 = .ok (.getfield 41, 3) := by decide +kernel
theorem d_Re_takeName_177 : decode b_Re_takeName 177 = .ok (.goto 6, 3) := by decide +kernel
theorem d_Re_takeName_180 : decode b_Re_takeName 180 = .ok (.iload_n 3, 1) := by decide +kernel
theorem d_Re_takeName_181 : decode b_Re_takeName 181 = .ok (.iconst 2, 1) := by decide +kernel
theorem d_Re_takeName_182 : decode b_Re_takeName 182 = .ok (.iadd, 1) := by decide +kernel
theorem d_Re_takeName_183 : decode b_Re_takeName 183 = .ok (.putfield 41, 3) := by decide +kernel
theorem d_Re_takeName_186 : decode b_Re_takeName 186 = .ok (.iconst 1, 1) := by decide +kernel
theorem d_Re_takeName_187 : decode b_Re_takeName 187 = .ok (.istore 6, 2) := by decide +kernel
theorem d_Re_takeName_189 : decode b_Re_takeName 189 = .ok (.aload_n 0, 1) := by decide +kernel
theorem d_Re_takeName_190 : decode b_Re_takeName 190 = .ok (.dup, 1) := by decide +kernel
theorem d_Re_takeName_191 : decode b_Re_takeName 191 = .ok (.getfield 26, 3) := by decide +kernel
theorem d_Re_takeName_194 : decode b_Re_takeName 194 = .ok (.iconst 1, 1) := by decide +kernel
theorem d_Re_takeName_195 : decode b_Re_takeName 195 = .ok (.iadd, 1) := by decide +kernel
theorem d_Re_takeName_196 : decode b_Re_takeName 196 = .ok (.putfield 26, 3) := by decide +kernel
theorem d_Re_takeName_199 : decode b_Re_takeName 199 = .ok (.iload 10, 2) := by decide +kernel
theorem d_Re_takeName_201 : decode b_Re_takeName 201 = .ok (.istore 4, 2) := by decide +kernel
theorem d_Re_takeName_203 : decode b_Re_takeName 203 = .ok (.iload 10, 2) := by decide +kernel
theorem d_Re_takeName_205 : decode b_Re_takeName 205 = .ok (.istore_n 3, 1) := by decide +kernel
theorem d_Re_takeName_206 : decode b_Re_takeName 206 = .ok (.goto 55, 3) := by decide +kernel
theorem d_Re_takeName_209 : decode b_Re_takeName 209 = .ok (.aload_n 0, 1) := by decide +kernel
theorem d_Re_takeName_210 : decode b_Re_takeName 210 = .ok (.iload_n 3, 1) := by decide +kernel
theorem d_Re_takeName_211 : decode b_Re_takeName 211 = .ok (.iload 8, 2) := by decide +kernel
theorem d_Re_takeName_213 : decode b_Re_takeName 213 = .ok (.iload 9, 2) := by decide +kernel
theorem d_Re_takeName_215 : decode b_Re_takeName 215 = .ok (.iload_n 1, 1) := by decide +kernel
theorem d_Re_takeName_216 : decode b_Re_takeName 216 = .ok (.iload 5, 2) := by decide +kernel
theorem d_Re_takeName_218 : decode b_Re_takeName 218 = .ok (.invokevirtual 99, 3) := by decide +kernel
theorem d_Re_takeName_221 : decode b_Re_takeName 221 = .ok (.ifCond .ne 5, 3) := by decide +kernel
theorem d_Re_takeName_224 : decode b_Re_takeName 224 = .ok (.iconst 0, 1) := by decide +kernel
theorem d_Re_takeName_225 : decode b_Re_takeName 225 = .ok (.ireturn, 1) := by decide +kernel
theorem d_Re_takeName_226 : decode b_Re_takeName 226 = .ok (.aload_n 0, 1) := by decide +kernel
theorem d_Re_takeName_227 : decode b_Re_takeName 227 = .ok (.getfield 15, 3) := by decide +kernel
theorem d_Re_takeName_230 : decode b_Re_takeName 230 = .ok (.getfield 59, 3) := by decide +kernel
theorem d_Re_takeName_233 : decode b_Re_takeName 233 = .ok (.aload_n 0, 1) := by decide +kernel
theorem d_Re_takeName_234 : decode b_Re_takeName 234 = .ok (.getfield 9, 3) := by decide +kernel
theorem d_Re_takeName_237 : decode b_Re_takeName 237 = .ok (.iload_n 3, 1) := by decide +kernel
theorem d_Re_takeName_238 : decode b_Re_takeName 238 = .ok (.iload 8, 2) := by decide +kernel
theorem d_Re_takeName_240 : decode b_Re_takeName 240 = .ok (.iconst 1, 1) := by decide +kernel
theorem d_Re_takeName_241 : decode b_Re_takeName 241 = .ok (.iadd, 1) := by decide +kernel
theorem d_Re_takeName_242 : decode b_Re_takeName 242 = .ok (.invokevirtual 103, 3) := by decide +kernel
theorem d_Re_takeName_245 : decode b_Re_takeName 245 = .ok (.iload 5, 2) := by decide +kernel
theorem d_Re_takeName_247 : decode b_Re_takeName 247 = .ok (.iload 8, 2) := by decide +kernel
theorem d_Re_takeName_249 : decode b_Re_takeName 249 = .ok (.iconst 1, 1) := by decide +kernel
theorem d_Re_takeName_250 : decode b_Re_takeName 250 = .ok (.iadd, 1) := by decide +kernel
theorem d_Re_takeName_251 : decode b_Re_takeName 251 = .ok (.iadd, 1) := by decide +kernel
theorem d_Re_takeName_252 : decode b_Re_takeName 252 = .ok (.istore 5, 2) := by decide +kernel
theorem d_Re_takeName_254 : decode b_Re_takeName 254 = .ok (.iload_n 3, 1) := by decide +kernel
theorem d_Re_takeName_255 : decode b_Re_takeName 255 = .ok (.iload 8, 2) := by decide +kernel
theorem d_Re_takeName_257 : decode b_Re_takeName 257 = .ok (.iconst 1, 1) := by decide +kernel
theorem d_Re_takeName_258 : decode b_Re_takeName 258 = .ok (.iadd, 1) := by decide +kernel
theorem d_Re_takeName_259 : decode b_Re_takeName 259 = .ok (.iadd, 1) := by decide +kernel
theorem d_Re_takeName_260 : decode b_Re_takeName 260 = .ok (.istore_n 3, 1) := by decide +kernel
theorem d_Re_takeName_261 : decode b_Re_takeName 261 = .ok (.iinc 7 1, 3) := by decide +kernel
theorem d_Re_takeName_264 : decode b_Re_takeName 264 = .ok (.goto (-250), 3) := by decide +kernel
theorem d_Re_takeName_267 : decode b_Re_takeName 267 = .ok (.aload_n 0, 1) := by decide +kernel
theorem d_Re_takeName_268 : decode b_Re_takeName 268 = .ok (.iconst 3, 1) := by decide +kernel
theorem d_Re_takeName_269 : decode b_Re_takeName 269 = .ok (.iload_n 3, 1) := by decide +kernel
theorem d_Re_takeName_270 : decode b_Re_takeName 270 = .ok (.invokevirtual 47, 3) := by decide +kernel
theorem d_Re_takeName_273 : decode b_Re_takeName 273 = .ok (.ireturn, 1) := by decide +kernel
theorem d_Re_takeOwner_0 : decode b_Re_takeOwner 0 = .ok (.aload_n 0, 1) := by decide +kernel
theorem d_Re_takeOwner_1 : decode b_Re_takeOwner 1 = .ok (.getfield 15, 3) := by decide +kernel
theorem d_Re_takeOwner_4 : decode b_Re_takeOwner 4 = .ok (.getfield 59, 3) := by decide +kernel
theorem d_Re_takeOwner_7 : decode b_Re_takeOwner 7 = .ok (.getfield 44, 3) := by decide +kernel
theorem d_Re_takeOwner_10 : decode b_Re_takeOwner 10 = .ok (.istore_n 2, 1) := by decide +kernel
theorem d_Re_takeOwner_11 : decode b_Re_takeOwner 11 = .ok (.aload_n 0, 1) := by decide +kernel
theorem d_Re_takeOwner_12 : decode b_Re_takeOwner 12 = .ok (.iload_n 1, 1) := by decide +kernel
theorem d_Re_takeOwner_13 : decode b_Re_takeOwner 13 = .ok (.aload_n 0, 1) := by decide +kernel
theorem d_Re_takeOwner_14 : decode b_Re_takeOwner 14 = .ok (.getfield 9, 3) := by decide +kernel
theorem d_Re_takeOwner_17 : decode b_Re_takeOwner 17 = .ok (.getfield 44, 3) := by decide +kernel
theorem d_Re_takeOwner_20 : decode b_Re_takeOwner 20 = .ok (.invokevirtual 82, 3) := by decide +kernel
theorem d_Re_takeOwner_23 : decode b_Re_takeOwner 23 = .ok (.istore_n 3, 1) := by decide +kernel
theorem d_Re_takeOwner_24 : decode b_Re_takeOwner 24 = .ok (.aload_n 0, 1) := by decide +kernel
theorem d_Re_takeOwner_25 : decode b_Re_takeOwner 25 = .ok (.aload_n 0, 1) := by decide +kernel
theorem d_Re_takeOwner_26 : decode b_Re_takeOwner 26 = .ok (.getfield 15, 3) := by decide +kernel
theorem d_Re_takeOwner_29 : decode b_Re_takeOwner 29 = .ok (.getfield 59, 3) := by decide +kernel
theorem d_Re_takeOwner_32 : decode b_Re_takeOwner 32 = .ok (.getfield 44, 3) := by decide +kernel
theorem d_Re_takeOwner_35 : decode b_Re_takeOwner 35 = .ok (.iload_n 2, 1) := by decide +kernel
theorem d_Re_takeOwner_36 : decode b_Re_takeOwner 36 = .ok (.isub, 1) := by decide +kernel
theorem d_Re_takeOwner_37 : decode b_Re_takeOwner 37 = .ok (.putfield 65, 3) := by decide +kernel
theorem d_Re_takeOwner_40 : decode b_Re_takeOwner 40 = .ok (.iload_n 3, 1) := by decide +kernel
theorem d_Re_takeOwner_41 : decode b_Re_takeOwner 41 = .ok (.ireturn, 1) := by decide +kernel
theorem d_Re_takeBackTo_0 : decode b_Re_takeBackTo 0 = .ok (.aload_n 0, 1) := by decide +kernel
theorem d_Re_takeBackTo_1 : decode b_Re_takeBackTo 1 = .ok (.getfield 15, 3) := by decide +kernel
theorem d_Re_takeBackTo_4 : decode b_Re_takeBackTo 4 = .ok (.getfield 59, 3) := by decide +kernel
theorem d_Re_takeBackTo_7 : decode b_Re_takeBackTo 7 = .ok (.iload_n 1, 1) := by decide +kernel
theorem d_Re_takeBackTo_8 : decode b_Re_takeBackTo 8 = .ok (.putfield 44, 3) := by decide +kernel
theorem d_Re_takeBackTo_11 : decode b_Re_takeBackTo 11 = .ok (.iconst 0, 1) := by decide +kernel
theorem d_Re_takeBackTo_12 : decode b_Re_takeBackTo 12 = .ok (.ireturn, 1) := by decide +kernel
theorem d_Re_takeTapeAsName_0 : decode b_Re_takeTapeAsName 0 = .ok (.aload_n 0, 1) := by decide +kernel
theorem d_Re_takeTapeAsName_1 : decode b_Re_takeTapeAsName 1 = .ok (.getfield 15, 3) := by decide +kernel
theorem d_Re_takeTapeAsName_4 : decode b_Re_takeTapeAsName 4 = .ok (.getfield 59, 3) := by decide +kernel
theorem d_Re_takeTapeAsName_7 : decode b_Re_takeTapeAsName 7 = .ok (.getfield 44, 3) := by decide +kernel
theorem d_Re_takeTapeAsName_10 : decode b_Re_takeTapeAsName 10 = .ok (.istore_n 1, 1) := by decide +kernel
theorem d_Re_takeTapeAsName_11 : decode b_Re_takeTapeAsName 11 = .ok (.aload_n 0, 1) := by decide +kernel
theorem d_Re_takeTapeAsName_12 : decode b_Re_takeTapeAsName 12 = .ok (.iconst 0, 1) := by decide +kernel
theorem d_Re_takeTapeAsName_13 : decode b_Re_takeTapeAsName 13 = .ok (.putfield 26, 3) := by decide +kernel
theorem d_Re_takeTapeAsName_16 : decode b_Re_takeTapeAsName 16 = .ok (.aload_n 0, 1) := by decide +kernel
theorem d_Re_takeTapeAsName_17 : decode b_Re_takeTapeAsName 17 = .ok (.iconst 0, 1) := by decide +kernel
theorem d_Re_takeTapeAsName_18 : decode b_Re_takeTapeAsName 18 = .ok (.invokevirtual 62, 3) := by decide +kernel
theorem d_Re_takeTapeAsName_21 : decode b_Re_takeTapeAsName 21 = .ok (.ifCond .eq 28, 3) := by decide +kernel
theorem d_Re_takeTapeAsName_24 : decode b_Re_takeTapeAsName 24 = .ok (.aload_n 0, 1) := by decide +kernel
theorem d_Re_takeTapeAsName_25 : decode b_Re_takeTapeAsName 25 = .ok (.getfield 41, 3) := by decide +kernel
theorem d_Re_takeTapeAsName_28 : decode b_Re_takeTapeAsName 28 = .ok (.aload_n 0, 1) := by decide +kernel
theorem d_Re_takeTapeAsName_29 : decode b_Re_takeTapeAsName 29 = .ok (.getfield 9, 3) := by decide +kernel
theorem d_Re_takeTapeAsName_32 : decode b_Re_takeTapeAsName 32 = .ok (.getfield 44, 3) := by decide +kernel
theorem d_Re_takeTapeAsName_35 : decode b_Re_takeTapeAsName 35 = .ok (.if_icmp .ne 14, 3) := by decide +kernel
theorem d_Re_takeTapeAsName_38 : decode b_Re_takeTapeAsName 38 = .ok (.aload_n 0, 1) := by decide +kernel
theorem d_Re_takeTapeAsName_39 : decode b_Re_takeTapeAsName 39 = .ok (.getfield 26, 3) := by decide +kernel
theorem d_Re_takeTapeAsName_42 : decode b_Re_takeTapeAsName 42 = .ok (.ifCond .ne 7, 3) := by decide +kernel
theorem d_Re_takeTapeAsName_45 : decode b_Re_takeTapeAsName 45 = .ok (.iconst 1, 1) := by decide +kernel
theorem d_Re_takeTapeAsName_46 : decode b_Re_takeTapeAsName 46 = .ok (.goto 4, 3) := by decide +kernel
theorem d_Re_takeTapeAsName_49 : decode b_Re_takeTapeAsName 49 = .ok (.iconst 0, 1) := by decide +kernel
theorem d_Re_takeTapeAsName_50 : decode b_Re_takeTapeAsName 50 = .ok (.istore_n 2, 1) := by decide +kernel
theorem d_Re_takeTapeAsName_51 : decode b_Re_takeTapeAsName 51 = .ok (.iload_n 2, 1) := by decide +kernel
theorem d_Re_takeTapeAsName_52 : decode b_Re_takeTapeAsName 52 = .ok (.ifCond .ne 11, 3) := by decide +kernel
theorem d_Re_takeTapeAsName_55 : decode b_Re_takeTapeAsName 55 = .ok (.aload_n 0, 1) := by decide +kernel
theorem d_Re_takeTapeAsName_56 : decode b_Re_takeTapeAsName 56 = .ok (.iload_n 1, 1) := by decide +kernel
theorem d_Re_takeTapeAsName_57 : decode b_Re_takeTapeAsName 57 = .ok (.invokevirtual 79, 3) := by decide +kernel
theorem d_Re_takeTapeAsName_60 : decode b_Re_takeTapeAsName 60 = .ok (.ifCond .eq 7, 3) := by decide +kernel
theorem d_Re_takeTapeAsName_63 : decode b_Re_takeTapeAsName 63 = .ok (.iconst 1, 1) := by decide +kernel
theorem d_Re_takeTapeAsName_64 : decode b_Re_takeTapeAsName 64 = .ok (.goto 4, 3) := by decide +kernel
theorem d_Re_takeTapeAsName_67 : decode b_Re_takeTapeAsName 67 = .ok (.iconst 0, 1) := by decide +kernel
theorem d_Re_takeTapeAsName_68 : decode b_Re_takeTapeAsName 68 = .ok (.ireturn, 1) := by decide +kernel
theorem d_Re_takeTapeAsNameAndData_0 : decode b_Re_takeTapeAsNameAndData 0 = .ok (.aload_n 0, 1) := by decide +kernel
theorem d_Re_takeTapeAsNameAndData_1 : decode b_Re_takeTapeAsNameAndData 1 = .ok (.getfield 15, 3) := by decide +kernel
theorem d_Re_takeTapeAsNameAndData_4 : decode b_Re_takeTapeAsNameAndData 4 = .ok (.getfield 59, 3) := by decide +kernel
theorem d_Re_takeTapeAsNameAndData_7 : decode b_Re_takeTapeAsNameAndData 7 = .ok (.getfield 44, 3) := by decide +kernel
theorem d_Re_takeTapeAsNameAndData_10 : decode b_Re_takeTapeAsNameAndData 10 = .ok (.istore_n 2, 1) := by decide +kernel
theorem d_Re_takeTapeAsNameAndData_11 : decode b_Re_takeTapeAsNameAndData 11 = .ok (.aload_n 0, 1) := by decide +kernel
theorem d_Re_takeTapeAsNameAndData_12 : decode b_Re_takeTapeAsNameAndData 12 = .ok (.iconst 0, 1) := by decide +kernel
theorem d_Re_takeTapeAsNameAndData_13 : decode b_Re_takeTapeAsNameAndData 13 = .ok (.putfield 26, 3) := by decide +kernel
theorem d_Re_takeTapeAsNameAndData_16 : decode b_Re_takeTapeAsNameAndData 16 = .ok (.aload_n 0, 1) := by decide +kernel
theorem d_Re_takeTapeAsNameAndData_17 : decode b_Re_takeTapeAsNameAndData 17 = .ok (.iconst 0, 1) := by decide +kernel
theorem d_Re_takeTapeAsNameAndData_18 : decode b_Re_takeTapeAsNameAndData 18 = .ok (.invokevirtual 62, 3) := by decide +kernel
theorem d_Re_takeTapeAsNameAndData_21 : decode b_Re_takeTapeAsNameAndData 21 = .ok (.ifCond .eq 33, 3) := by decide +kernel
theorem d_Re_takeTapeAsNameAndData_24 : decode b_Re_takeTapeAsNameAndData 24 = .ok (.aload_n 0, 1) := by decide +kernel
theorem d_Re_takeTapeAsNameAndData_25 : decode b_Re_takeTapeAsNameAndData 25 = .ok (.iload_n 1, 1) := by decide +kernel
theorem d_Re_takeTapeAsNameAndData_26 : decode b_Re_takeTapeAsNameAndData 26 = .ok (.aload_n 0, 1) := by decide +kernel
theorem d_Re_takeTapeAsNameAndData_27 : decode b_Re_takeTapeAsNameAndData 27 = .ok (.getfield 41, 3) := by decide +kernel
theorem d_Re_takeTapeAsNameAndData_30 : decode b_Re_takeTapeAsNameAndData 30 = .ok (.aload_n 0, 1) := by decide +kernel
theorem d_Re_takeTapeAsNameAndData_31 : decode b_Re_takeTapeAsNameAndData 31 = .ok (.getfield 9, 3) := by decide +kernel
theorem d_Re_takeTapeAsNameAndData_34 : decode b_Re_takeTapeAsNameAndData 34 = .ok (.getfield 44, 3) := by decide +kernel
theorem d_Re_takeTapeAsNameAndData_37 : decode b_Re_takeTapeAsNameAndData 37 = .ok (.invokevirtual 72, 3) := by decide +kernel
theorem d_Re_takeTapeAsNameAndData_40 : decode b_Re_takeTapeAsNameAndData 40 = .ok (.ifCond .eq 14, 3) := by decide +kernel
theorem d_Re_takeTapeAsNameAndData_43 : decode b_Re_takeTapeAsNameAndData 43 = .ok (.aload_n 0, 1) := by decide +kernel
theorem d_Re_takeTapeAsNameAndData_44 : decode b_Re_takeTapeAsNameAndData 44 = .ok (.getfield 26, 3) := by decide +kernel
theorem d_Re_takeTapeAsNameAndData_47 : decode b_Re_takeTapeAsNameAndData 47 = .ok (.ifCond .ne 7, 3) := by decide +kernel
theorem d_Re_takeTapeAsNameAndData_50 : decode b_Re_takeTapeAsNameAndData 50 = .ok (.iconst 1, 1) := by decide +kernel
theorem d_Re_takeTapeAsNameAndData_51 : decode b_Re_takeTapeAsNameAndData 51 = .ok (.goto 4, 3) := by decide +kernel
theorem d_Re_takeTapeAsNameAndData_54 : decode b_Re_takeTapeAsNameAndData 54 = .ok (.iconst 0, 1) := by decide +kernel
theorem d_Re_takeTapeAsNameAndData_55 : decode b_Re_takeTapeAsNameAndData 55 = .ok (.istore_n 3, 1) := by decide +kernel
theorem d_Re_takeTapeAsNameAndData_56 : decode b_Re_takeTapeAsNameAndData 56 = .ok (.iload_n 3, 1) := by decide +kernel
theorem d_Re_takeTapeAsNameAndData_57 : decode b_Re_takeTapeAsNameAndData 57 = .ok (.ifCond .ne 11, 3) := by decide +kernel
theorem d_Re_takeTapeAsNameAndData_60 : decode b_Re_takeTapeAsNameAndData 60 = .ok (.aload_n 0, 1) := by decide +kernel
theorem d_Re_takeTapeAsNameAndData_61 : decode b_Re_takeTapeAsNameAndData 61 = .ok (.iload_n 2, 1) := by decide +kernel
theorem d_Re_takeTapeAsNameAndData_62 : decode b_Re_takeTapeAsNameAndData 62 = .ok (.invokevirtual 79, 3) := by decide +kernel
theorem d_Re_takeTapeAsNameAndData_65 : decode b_Re_takeTapeAsNameAndData 65 = .ok (.ifCond .eq 7, 3) := by decide +kernel
theorem d_Re_takeTapeAsNameAndData_68 : decode b_Re_takeTapeAsNameAndData 68 = .ok (.iconst 1, 1) := by decide +kernel
theorem d_Re_takeTapeAsNameAndData_69 : decode b_Re_takeTapeAsNameAndData 69 = .ok (.goto 4, 3) := by decide +kernel
theorem d_Re_takeTapeAsNameAndData_72 : decode b_Re_takeTapeAsNameAndData 72 = .ok (.iconst 0, 1) := by decide +kernel
theorem d_Re_takeTapeAsNameAndData_73 : decode b_Re_takeTapeAsNameAndData 73 = .ok (.ireturn, 1) := by decide +kernel
theorem d_Wm_question_0 : decode b_Wm_question 0 = .ok (.aload_n 0, 1) := by decide +kernel
theorem d_Wm_question_1 : decode b_Wm_question 1 = .ok (.getfield 19, 3) := by decide +kernel
theorem d_Wm_question_4 : decode b_Wm_question 4 = .ok (.getfield 43, 3) := by decide +kernel
theorem d_Wm_question_7 : decode b_Wm_question 7 = .ok (.getfield 60, 3) := by decide +kernel
theorem d_Wm_question_10 : decode b_Wm_question 10 = .ok (.istore_n 3, 1) := by decide +kernel
theorem d_Wm_question_11 : decode b_Wm_question 11 = .ok (.aload_n 0, 1) := by decide +kernel
theorem d_Wm_question_12 : decode b_Wm_question 12 = .ok (.getfield 28, 3) := by decide +kernel
theorem d_Wm_question_15 : decode b_Wm_question 15 = .ok (.invokevirtual 89, 3) := by decide +kernel
theorem d_Wm_question_18 : decode b_Wm_question 18 = .ok (.ifCond .ne 11, 3) := by decide +kernel
theorem d_Wm_question_21 : decode b_Wm_question 21 = .ok (.new 71, 3) := by decide +kernel
theorem d_Wm_question_24 : decode b_Wm_question 24 = .ok (.dup, 1) := by decide +kernel
theorem d_Wm_question_25 : decode b_Wm_question 25 = .ok (.invokespecial 73, 3) := by decide +kernel
theorem d_Wm_question_28 : decode b_Wm_question 28 = .ok (.athrow, 1) := by decide +kernel
theorem d_Wm_question_29 : decode b_Wm_question 29 = .ok (.aload_n 0, 1) := by decide +kernel
theorem d_Wm_question_30 : decode b_Wm_question 30 = .ok (.getfield 19, 3) := by decide +kernel
theorem d_Wm_question_33 : decode b_Wm_question 33 = .ok (.iconst 0, 1) := by decide +kernel
theorem d_Wm_question_34 : decode b_Wm_question 34 = .ok (.iload_n 3, 1) := by decide +kernel
theorem d_Wm_question_35 : decode b_Wm_question 35 = .ok (.aload_n 0, 1) := by decide +kernel
theorem d_Wm_question_36 : decode b_Wm_question 36 = .ok (.getfield 28, 3) := by decide +kernel
theorem d_Wm_question_39 : decode b_Wm_question 39 = .ok (.getfield 93, 3) := by decide +kernel
theorem d_Wm_question_42 : decode b_Wm_question 42 = .ok (.iload_n 1, 1) := by decide +kernel
theorem d_Wm_question_43 : decode b_Wm_question 43 = .ok (.ldc 84, 2) := by decide +kernel
theorem d_Wm_question_45 : decode b_Wm_question 45 = .ok (.iand, 1) := by decide +kernel
theorem d_Wm_question_46 : decode b_Wm_question 46 = .ok (.iload_n 2, 1) := by decide +kernel
theorem d_Wm_question_47 : decode b_Wm_question 47 = .ok (.ldc 84, 2) := by decide +kernel
theorem d_Wm_question_49 : decode b_Wm_question 49 = .ok (.iand, 1) := by decide +kernel
theorem d_Wm_question_50 : decode b_Wm_question 50 = .ok (.iconst 0, 1) := by decide +kernel
theorem d_Wm_question_51 : decode b_Wm_question 51 = .ok (.invokevirtual 96, 3) := by decide +kernel
theorem d_Wm_question_54 : decode b_Wm_question 54 = .ok (.ifCond .ne 11, 3) := by decide +kernel
theorem d_Wm_question_57 : decode b_Wm_question 57 = .ok (.new 64, 3) := by decide +kernel
theorem d_Wm_question_60 : decode b_Wm_question 60 = .ok (.dup, 1) := by decide +kernel
theorem d_Wm_question_61 : decode b_Wm_question 61 = .ok (.invokespecial 66, 3) := by decide +kernel
theorem d_Wm_question_64 : decode b_Wm_question 64 = .ok (.athrow, 1) := by decide +kernel
theorem d_Wm_question_65 : decode b_Wm_question 65 = .ok (.aload_n 0, 1) := by decide +kernel
theorem d_Wm_question_66 : decode b_Wm_question 66 = .ok (.getfield 10, 3) := by decide +kernel
theorem d_Wm_question_69 : decode b_Wm_question 69 = .ok (.iconst 0, 1) := by decide +kernel
theorem d_Wm_question_70 : decode b_Wm_question 70 = .ok (.putfield 60, 3) := by decide +kernel
theorem d_Wm_question_73 : decode b_Wm_question 73 = .ok (.aload_n 0, 1) := by decide +kernel
theorem d_Wm_question_74 : decode b_Wm_question 74 = .ok (.getfield 19, 3) := by decide +kernel
theorem d_Wm_question_77 : decode b_Wm_question 77 = .ok (.getfield 100, 3) := by decide +kernel
theorem d_Wm_question_80 : decode b_Wm_question 80 = .ok (.iconst 0, 1) := by decide +kernel
theorem d_Wm_question_81 : decode b_Wm_question 81 = .ok (.iaload, 1) := by decide +kernel
theorem d_Wm_question_82 : decode b_Wm_question 82 = .ok (.ireturn, 1) := by decide +kernel
theorem d_Wm_record_0 : decode b_Wm_record 0 = .ok (.iload_n 1, 1) := by decide +kernel
theorem d_Wm_record_1 : decode b_Wm_record 1 = .ok (.ifCond .le 8, 3) := by decide +kernel
theorem d_Wm_record_4 : decode b_Wm_record 4 = .ok (.iload_n 1, 1) := by decide +kernel
theorem d_Wm_record_5 : decode b_Wm_record 5 = .ok (.iconst 4, 1) := by decide +kernel
theorem d_Wm_record_6 : decode b_Wm_record 6 = .ok (.if_icmp .lt 11, 3) := by decide +kernel
theorem d_Wm_record_9 : decode b_Wm_record 9 = .ok (.new 104, 3) := by decide +kernel
theorem d_Wm_record_12 : decode b_Wm_record 12 = .ok (.dup, 1) := by decide +kernel
theorem d_Wm_record_13 : decode b_Wm_record 13 = .ok (.invokespecial 106, 3) := by decide +kernel
theorem d_Wm_record_16 : decode b_Wm_record 16 = .ok (.athrow, 1) := by decide +kernel
theorem d_Wm_record_17 : decode b_Wm_record 17 = .ok (.aload_n 0, 1) := by decide +kernel
theorem d_Wm_record_18 : decode b_Wm_record 18 = .ok (.getfield 19, 3) := by decide +kernel
theorem d_Wm_record_21 : decode b_Wm_record 21 = .ok (.getfield 43, 3) := by decide +kernel
theorem d_Wm_record_24 : decode b_Wm_record 24 = .ok (.getfield 60, 3) := by decide +kernel
theorem d_Wm_record_27 : decode b_Wm_record 27 = .ok (.istore 5, 2) := by decide +kernel
theorem d_Wm_record_29 : decode b_Wm_record 29 = .ok (.aload_n 0, 1) := by decide +kernel
theorem d_Wm_record_30 : decode b_Wm_record 30 = .ok (.getfield 28, 3) := by decide +kernel
theorem d_Wm_record_33 : decode b_Wm_record 33 = .ok (.iload_n 2, 1) := by decide +kernel
theorem d_Wm_record_34 : decode b_Wm_record 34 = .ok (.ldc 84, 2) := by decide +kernel
theorem d_Wm_record_36 : decode b_Wm_record 36 = .ok (.iand, 1) := by decide +kernel
theorem d_Wm_record_37 : decode b_Wm_record 37 = .ok (.invokevirtual 107, 3) := by decide +kernel
theorem d_Wm_record_40 : decode b_Wm_record 40 = .ok (.ifCond .ne 11, 3) := by decide +kernel
theorem d_Wm_record_43 : decode b_Wm_record 43 = .ok (.new 71, 3) := by decide +kernel
theorem d_Wm_record_46 : decode b_Wm_record 46 = .ok (.dup, 1) := by decide +kernel
theorem d_Wm_record_47 : decode b_Wm_record 47 = .ok (.invokespecial 73, 3) := by decide +kernel
theorem d_Wm_record_50 : decode b_Wm_record 50 = .ok (.athrow, 1) := by decide +kernel
theorem d_Wm_record_51 : decode b_Wm_record 51 = .ok (.aload_n 0, 1) := by decide +kernel
theorem d_Wm_record_52 : decode b_Wm_record 52 = .ok (.getfield 19, 3) := by decide +kernel
theorem d_Wm_record_55 : decode b_Wm_record 55 = .ok (.iload_n 1, 1) := by decide +kernel
theorem d_Wm_record_56 : decode b_Wm_record 56 = .ok (.iload 5, 2) := by decide +kernel
theorem d_Wm_record_58 : decode b_Wm_record 58 = .ok (.aload_n 0, 1) := by decide +kernel
theorem d_Wm_record_59 : decode b_Wm_record 59 = .ok (.getfield 28, 3) := by decide +kernel
theorem d_Wm_record_62 : decode b_Wm_record 62 = .ok (.getfield 93, 3) := by decide +kernel
theorem d_Wm_record_65 : decode b_Wm_record 65 = .ok (.iload_n 2, 1) := by decide +kernel
theorem d_Wm_record_66 : decode b_Wm_record 66 = .ok (.ldc 84, 2) := by decide +kernel
theorem d_Wm_record_68 : decode b_Wm_record 68 = .ok (.iand, 1) := by decide +kernel
theorem d_Wm_record_69 : decode b_Wm_record 69 = .ok (.iload_n 3, 1) := by decide +kernel
theorem d_Wm_record_70 : decode b_Wm_record 70 = .ok (.ldc 84, 2) := by decide +kernel
theorem d_Wm_record_72 : decode b_Wm_record 72 = .ok (.iand, 1) := by decide +kernel
theorem d_Wm_record_73 : decode b_Wm_record 73 = .ok (.iload 4, 2) := by decide +kernel
theorem d_Wm_record_75 : decode b_Wm_record 75 = .ok (.invokevirtual 96, 3) := by decide +kernel
theorem d_Wm_record_78 : decode b_Wm_record 78 = .ok (.ifCond .ne 11, 3) := by decide +kernel
theorem d_Wm_record_81 : decode b_Wm_record 81 = .ok (.new 64, 3) := by decide +kernel
theorem d_Wm_record_84 : decode b_Wm_record 84 = .ok (.dup, 1) := by decide +kernel
theorem d_Wm_record_85 : decode b_Wm_record 85 = .ok (.invokespecial 66, 3) := by decide +kernel
theorem d_Wm_record_88 : decode b_Wm_record 88 = .ok (.athrow, 1) := by decide +kernel
theorem d_Wm_record_89 : decode b_Wm_record 89 = .ok (.aload_n 0, 1) := by decide +kernel
theorem d_Wm_record_90 : decode b_Wm_record 90 = .ok (.getfield 10, 3) := by decide +kernel
theorem d_Wm_record_93 : decode b_Wm_record 93 = .ok (.iconst 0, 1) := by decide +kernel
theorem d_Wm_record_94 : decode b_Wm_record 94 = .ok (.putfield 60, 3) := by decide +kernel
theorem d_Wm_record_97 : decode b_Wm_record 97 = .ok (.aload_n 0, 1) := by decide +kernel
theorem d_Wm_record_98 : decode b_Wm_record 98 = .ok (.getfield 19, 3) := by decide +kernel
theorem d_Wm_record_101 : decode b_Wm_record 101 = .ok (.getfield 100, 3) := by decide +kernel
theorem d_Wm_record_104 : decode b_Wm_record 104 = .ok (.iload_n 1, 1) := by decide +kernel
theorem d_Wm_record_105 : decode b_Wm_record 105 = .ok (.iaload, 1) := by decide +kernel
theorem d_Wm_record_106 : decode b_Wm_record 106 = .ok (.ireturn, 1) := by decide +kernel
set_option maxHeartbeats 4000000 in
set_option maxRecDepth 100000 in
theorem c_Wm_rowThatIs (l : Launch) (D9 : va_G) (cB cI cJ cG : ClassId) (hfl : l.flags = pinnedFlags ++ [noTraceFlag]) (b tp ga re wr na gb st nl dl ty ki ti rw sz : Nat) (u1 u2 : Int32) : MX l D9 cls9 (ty9 cB cI cJ cG) y_Wm_rowThatIs b_Wm_rowThatIs 4 (some .int) (rm9 6 1 6) [.ref b, .int u1, .int u2] [(b, .inr (6, [.ref tp, .ref ga, .ref re, .ref wr, .ref na, .int (-1), .int 0])), (ga, .inr (2, [.ref gb, .ref st, .ref nl, .ref dl, .ref ty, .ref ki, .ref ti, .ref rw, .ref sz, .int 0, .int 0])), (sz, .inl (cI, 4, .inl (fun _ => 0)))] (fun v8 => False) (fun E => E = "java/util/NoSuchElementException") 1 6 := by
  refine mx_of (by decide) (Nat.le_of_ble_eq_true rfl) ?_
  intro p e s m below meth c ls C0 hout hZ hlc hP hD hA hS hl
  obtain ⟨hx, hb, hml, hr, hlocks, hown, hts, hK⟩ := id C0
  have hl : lv_has ls 4 [(0, .ref b), (1, .int u1), (2, .int u2)] := hl
  refine lv_aload_n hx hb d_Wm_rowThatIs_0 rfl (lv_at hl 0 rfl) ?_
  refine va_get (D := D9) (ci := 6) (C := R_Wm) (T := F_Wm) (N := 7) hx hb hts i_Wm hown hK hP 0 rfl rfl 1 (by decide) (hts _ g_223) (fun _ h9 => h9) rfl d_Wm_rowThatIs_1 ?_
  refine lv_iload_n hx hb d_Wm_rowThatIs_4 rfl (lv_at hl 1 rfl) ?_
  refine lv_iload_n hx hb d_Wm_rowThatIs_5 rfl (lv_at hl 2 rfl) ?_
  refine mf_cVN (wr := [_]) (ci := 2) (k := 0) C0 (c_Ga_rowOf l D9 cB cI cJ cG ga gb st nl dl ty ki ti rw sz _ _) g_674 g_3 g_671 g_673 gs_Ga_rowOf ⟨by decide +kernel, by decide +kernel, show Option.map (fun d => d.parameters.length) (parseMethodDescriptor y_Ga_rowOf.desc) = some 2 by decide +kernel⟩ ⟨by decide, by decide⟩ rfl rfl hP hD hS hA [1, 2] [0] rfl rfl (by decide) (by decide) (by decide) rfl rfl hl.1 (Nat.le_of_ble_eq_true rfl) rfl d_Wm_rowThatIs_6 ⟨by decide, by decide⟩ (fun v9 w9 H locs hq hP hD hS => ?_)
  obtain ⟨rfl, hw9⟩ := hq
  rw [hw9] at hP hD
  have hP : va_P D9 cls9 [(b, .inr (6, [.ref tp, .ref ga, .ref re, .ref wr, .ref na, .int (-1), .int 0])), (ga, .inr (2, [.ref gb, .ref st, .ref nl, .ref dl, .ref ty, .ref ki, .ref ti, .ref rw, .ref sz, .int 0, .int 0])), (sz, .inl (cI, 4, .inl (fun _ => 0)))] H := hP
  have hD : va_D _ [(b, .inr (6, [.ref tp, .ref ga, .ref re, .ref wr, .ref na, .int (-1), .int 0])), (ga, .inr (2, [.ref gb, .ref st, .ref nl, .ref dl, .ref ty, .ref ki, .ref ti, .ref rw, .ref sz, .int 0, .int 0])), (sz, .inl (cI, 4, .inl (fun _ => 0)))] := hD
  refine lv_istore_n (lv' := [(3, _), (0, _), (1, _), (2, _)]) hx hb d_Wm_rowThatIs_9 rfl hl (by decide) rfl (fun ls hl => ?_)
  refine lv_iload_n hx hb d_Wm_rowThatIs_10 rfl (lv_at hl 0 rfl) ?_
  refine lv_if_ge (tgt := 22) hx hb d_Wm_rowThatIs_11 (by decide) (fun c1 => ?_) (fun c1 => ?_)
  · exact absurd c1 (by decide +kernel)
  · exact mx_throw (ic := 106) (names := ["java/lang/RuntimeException", "java/lang/Exception"]) hfl C0 hZ hlc hout (by decide +kernel) (by decide +kernel) at_Wm_106 g_505 g_17 hS hl.1 (by decide) (Nat.le_of_ble_eq_true rfl) (by decide) (by decide) (by decide) (by decide) d_Wm_rowThatIs_14 d_Wm_rowThatIs_17 d_Wm_rowThatIs_18 d_Wm_rowThatIs_21 (rfl)
set_option maxHeartbeats 4000000 in
set_option maxRecDepth 100000 in
theorem c_Wm_told (l : Launch) (D9 : va_G) (cB cI cJ cG : ClassId) (hfl : l.flags = pinnedFlags ++ [noTraceFlag]) (b tp ga re wr na gb st nl dl ty ki ti rw sz : Nat) (u1 u2 u3 : Int32) : MX l D9 cls9 (ty9 cB cI cJ cG) y_Wm_told b_Wm_told 5 (some .int) (rm9 7 1 6) [.ref b, .int u1, .int u2, .int u3] [(b, .inr (6, [.ref tp, .ref ga, .ref re, .ref wr, .ref na, .int (-1), .int 0])), (ga, .inr (2, [.ref gb, .ref st, .ref nl, .ref dl, .ref ty, .ref ki, .ref ti, .ref rw, .ref sz, .int 0, .int 0])), (sz, .inl (cI, 4, .inl (fun _ => 0)))] (fun v8 => False) (fun E => E = "java/util/NoSuchElementException") 1 6 := by
  refine mx_of (by decide) (Nat.le_of_ble_eq_true rfl) ?_
  intro p e s m below meth c ls C0 hout hZ hlc hP hD hA hS hl
  obtain ⟨hx, hb, hml, hr, hlocks, hown, hts, hK⟩ := id C0
  have hl : lv_has ls 5 [(0, .ref b), (1, .int u1), (2, .int u2), (3, .int u3)] := hl
  refine lv_aload_n hx hb d_Wm_told_0 rfl (lv_at hl 0 rfl) ?_
  refine lv_iload_n hx hb d_Wm_told_1 rfl (lv_at hl 1 rfl) ?_
  refine lv_iload_n hx hb d_Wm_told_2 rfl (lv_at hl 2 rfl) ?_
  exact mx_pass (ci := 6) (k := 0) C0 (c_Wm_rowThatIs l D9 cB cI cJ cG hfl b tp ga re wr na gb st nl dl ty ki ti rw sz u1 u2) g_670 g_1 g_667 g_669 gs_Wm_rowThatIs ⟨by decide +kernel, by decide +kernel, show Option.map (fun d => d.parameters.length) (parseMethodDescriptor y_Wm_rowThatIs.desc) = some 2 by decide +kernel⟩ ⟨by decide, by decide⟩ rfl rfl hout hZ hP hD hS rfl rfl hl.1 (Nat.le_of_ble_eq_true rfl) rfl d_Wm_told_3 ⟨by decide, by decide⟩ (fun _ h => h)
set_option maxHeartbeats 4000000 in
set_option maxRecDepth 100000 in
theorem c_Wm_byteOf (l : Launch) (D9 : va_G) (cB cI cJ cG : ClassId) (hfl : l.flags = pinnedFlags ++ [noTraceFlag]) (b tp ga re wr na gb st nl dl ty ki ti rw sz : Nat) (u1 u2 u3 : Int32) : MX l D9 cls9 (ty9 cB cI cJ cG) y_Wm_byteOf b_Wm_byteOf 5 (some .int) (rm9 7 1 6) [.ref b, .int u1, .int u2, .int u3] [(b, .inr (6, [.ref tp, .ref ga, .ref re, .ref wr, .ref na, .int (-1), .int 0])), (ga, .inr (2, [.ref gb, .ref st, .ref nl, .ref dl, .ref ty, .ref ki, .ref ti, .ref rw, .ref sz, .int 0, .int 0])), (sz, .inl (cI, 4, .inl (fun _ => 0)))] (fun v8 => False) (fun E => E = "java/util/NoSuchElementException") 1 6 := by
  refine mx_of (by decide) (Nat.le_of_ble_eq_true rfl) ?_
  intro p e s m below meth c ls C0 hout hZ hlc hP hD hA hS hl
  obtain ⟨hx, hb, hml, hr, hlocks, hown, hts, hK⟩ := id C0
  have hl : lv_has ls 5 [(0, .ref b), (1, .int u1), (2, .int u2), (3, .int u3)] := hl
  refine lv_aload_n hx hb d_Wm_byteOf_0 rfl (lv_at hl 0 rfl) ?_
  refine lv_iload_n hx hb d_Wm_byteOf_1 rfl (lv_at hl 1 rfl) ?_
  refine lv_iload_n hx hb d_Wm_byteOf_2 rfl (lv_at hl 2 rfl) ?_
  exact mx_pass (ci := 6) (k := 0) C0 (c_Wm_rowThatIs l D9 cB cI cJ cG hfl b tp ga re wr na gb st nl dl ty ki ti rw sz u1 u2) g_670 g_1 g_667 g_669 gs_Wm_rowThatIs ⟨by decide +kernel, by decide +kernel, show Option.map (fun d => d.parameters.length) (parseMethodDescriptor y_Wm_rowThatIs.desc) = some 2 by decide +kernel⟩ ⟨by decide, by decide⟩ rfl rfl hout hZ hP hD hS rfl rfl hl.1 (Nat.le_of_ble_eq_true rfl) rfl d_Wm_byteOf_3 ⟨by decide, by decide⟩ (fun _ h => h)
set_option maxHeartbeats 4000000 in
set_option maxRecDepth 100000 in
theorem c_Wm_same (l : Launch) (D9 : va_G) (cB cI cJ cG : ClassId) (hfl : l.flags = pinnedFlags ++ [noTraceFlag]) (b tp ga re wr na gb st nl dl ty ki ti rw sz : Nat) (u1 u2 u3 u4 : Int32) : MX l D9 cls9 (ty9 cB cI cJ cG) y_Wm_same b_Wm_same 7 (some .boolean) (rm9 7 1 6) [.ref b, .int u1, .int u2, .int u3, .int u4] [(b, .inr (6, [.ref tp, .ref ga, .ref re, .ref wr, .ref na, .int (-1), .int 0])), (ga, .inr (2, [.ref gb, .ref st, .ref nl, .ref dl, .ref ty, .ref ki, .ref ti, .ref rw, .ref sz, .int 0, .int 0])), (sz, .inl (cI, 4, .inl (fun _ => 0)))] (fun v8 => False) (fun E => E = "java/util/NoSuchElementException") 1 6 := by
  refine mx_of (by decide) (Nat.le_of_ble_eq_true rfl) ?_
  intro p e s m below meth c ls C0 hout hZ hlc hP hD hA hS hl
  obtain ⟨hx, hb, hml, hr, hlocks, hown, hts, hK⟩ := id C0
  have hl : lv_has ls 7 [(0, .ref b), (1, .int u1), (2, .int u2), (3, .int u3), (4, .int u4)] := hl
  refine lv_aload_n hx hb d_Wm_same_0 rfl (lv_at hl 0 rfl) ?_
  refine lv_iload_n hx hb d_Wm_same_1 rfl (lv_at hl 1 rfl) ?_
  refine lv_iload_n hx hb d_Wm_same_2 rfl (lv_at hl 2 rfl) ?_
  exact mx_pass (ci := 6) (k := 0) C0 (c_Wm_rowThatIs l D9 cB cI cJ cG hfl b tp ga re wr na gb st nl dl ty ki ti rw sz u1 u2) g_670 g_1 g_667 g_669 gs_Wm_rowThatIs ⟨by decide +kernel, by decide +kernel, show Option.map (fun d => d.parameters.length) (parseMethodDescriptor y_Wm_rowThatIs.desc) = some 2 by decide +kernel⟩ ⟨by decide, by decide⟩ rfl rfl hout hZ hP hD hS rfl rfl hl.1 (Nat.le_of_ble_eq_true rfl) rfl d_Wm_same_3 ⟨by decide, by decide⟩ (fun _ h => h)
set_option maxHeartbeats 4000000 in
set_option maxRecDepth 100000 in
theorem c_Wm_order (l : Launch) (D9 : va_G) (cB cI cJ cG : ClassId) (hfl : l.flags = pinnedFlags ++ [noTraceFlag]) (b tp ga re wr na gb st nl dl ty ki ti rw sz : Nat) (u1 u2 u3 u4 : Int32) : MX l D9 cls9 (ty9 cB cI cJ cG) y_Wm_order b_Wm_order 7 (some .int) (rm9 7 1 6) [.ref b, .int u1, .int u2, .int u3, .int u4] [(b, .inr (6, [.ref tp, .ref ga, .ref re, .ref wr, .ref na, .int (-1), .int 0])), (ga, .inr (2, [.ref gb, .ref st, .ref nl, .ref dl, .ref ty, .ref ki, .ref ti, .ref rw, .ref sz, .int 0, .int 0])), (sz, .inl (cI, 4, .inl (fun _ => 0)))] (fun v8 => False) (fun E => E = "java/util/NoSuchElementException") 1 6 := by
  refine mx_of (by decide) (Nat.le_of_ble_eq_true rfl) ?_
  intro p e s m below meth c ls C0 hout hZ hlc hP hD hA hS hl
  obtain ⟨hx, hb, hml, hr, hlocks, hown, hts, hK⟩ := id C0
  have hl : lv_has ls 7 [(0, .ref b), (1, .int u1), (2, .int u2), (3, .int u3), (4, .int u4)] := hl
  refine lv_aload_n hx hb d_Wm_order_0 rfl (lv_at hl 0 rfl) ?_
  refine lv_iload_n hx hb d_Wm_order_1 rfl (lv_at hl 1 rfl) ?_
  refine lv_iload_n hx hb d_Wm_order_2 rfl (lv_at hl 2 rfl) ?_
  exact mx_pass (ci := 6) (k := 0) C0 (c_Wm_rowThatIs l D9 cB cI cJ cG hfl b tp ga re wr na gb st nl dl ty ki ti rw sz u1 u2) g_670 g_1 g_667 g_669 gs_Wm_rowThatIs ⟨by decide +kernel, by decide +kernel, show Option.map (fun d => d.parameters.length) (parseMethodDescriptor y_Wm_rowThatIs.desc) = some 2 by decide +kernel⟩ ⟨by decide, by decide⟩ rfl rfl hout hZ hP hD hS rfl rfl hl.1 (Nat.le_of_ble_eq_true rfl) rfl d_Wm_order_3 ⟨by decide, by decide⟩ (fun _ h => h)
set_option maxHeartbeats 4000000 in
set_option maxRecDepth 100000 in
theorem c_Re_takeName (l : Launch) (D9 : va_G) (cB cI cJ cG : ClassId) (re tp ga tpr : Nat) (a0 a1 a2 a3 a4 a5 u2 : Int32) : MW l D9 cls9 (ty9 cB cI cJ cG) y_Re_takeName b_Re_takeName 11 (some .boolean) (rm9 1 0 0) [.ref re, .int 0, .int u2] [(re, .inr (4, [.ref tp, .ref ga, .int a0, .int a1, .int a2, .int a3, .int a4, .int a5])), (tp, .inr (0, [.ref tpr, .int 0]))] (fun v8 w2 => v8 = some (.int 0) ∧ ∃ (x0 : Int32) (x1 : Int32) (x2 : Int32) (x3 : Int32) (x4 : Int32) (x5 : Int32), w2 = [(tp, .inr (0, [.ref tpr, .int 0])), (re, .inr (4, [.ref tp, .ref ga, .int x0, .int x1, .int x2, .int x3, .int x4, .int x5]))]) 0 0 := by
  refine mw_of (by decide) (Nat.le_of_ble_eq_true rfl) ?_
  intro p e s m below meth c ls C0 hin hP hD hA hS hl
  obtain ⟨hx, hb, hml, hr, hlocks, hown, hts, hK⟩ := id C0
  have hl : lv_has ls 11 [(0, .ref re), (1, .int 0), (2, .int u2)] := hl
  refine lv_iload_n hx hb d_Re_takeName_0 rfl (lv_at hl 1 rfl) ?_
  refine lv_istore_n (lv' := [(3, _), (0, _), (1, _), (2, _)]) hx hb d_Re_takeName_1 rfl hl (by decide) rfl (fun ls hl => ?_)
  refine lv_iload_n hx hb d_Re_takeName_2 rfl (lv_at hl 2 rfl) ?_
  refine lv_istore (lv' := [(4, _), (3, _), (0, _), (1, _), (2, _)]) hx hb d_Re_takeName_3 hl (by decide) rfl (fun ls hl => ?_)
  refine lv_iconst (v := 0) hx hb d_Re_takeName_5 (by decide) ?_
  refine lv_istore (lv' := [(5, _), (4, _), (3, _), (0, _), (1, _), (2, _)]) hx hb d_Re_takeName_6 hl (by decide) rfl (fun ls hl => ?_)
  refine lv_iconst (v := 0) hx hb d_Re_takeName_8 (by decide) ?_
  refine lv_istore (lv' := [(6, _), (5, _), (4, _), (3, _), (0, _), (1, _), (2, _)]) hx hb d_Re_takeName_9 hl (by decide) rfl (fun ls hl => ?_)
  refine lv_iconst (v := 0) hx hb d_Re_takeName_11 (by decide) ?_
  refine lv_istore (lv' := [(7, _), (6, _), (5, _), (4, _), (3, _), (0, _), (1, _), (2, _)]) hx hb d_Re_takeName_12 hl (by decide) rfl (fun ls hl => ?_)
  refine lv_iload hx hb d_Re_takeName_14 (lv_at hl 0 rfl) ?_
  refine lv_sipush (v := 16639) hx hb d_Re_takeName_16 (by decide) ?_
  refine lv_icmp_ge (tgt := 267) hx hb d_Re_takeName_19 (by decide) (fun c1 => ?_) (fun c1 => ?_)
  · exact absurd c1 (by decide +kernel)
  · refine lv_iload_n hx hb d_Re_takeName_22 rfl (lv_at hl 4 rfl) ?_
    refine lv_aload_n hx hb d_Re_takeName_23 rfl (lv_at hl 5 rfl) ?_
    refine va_get (D := D9) (ci := 4) (C := R_Re) (T := F_Re) (N := 8) hx hb hts i_Re hown hK hP 0 rfl rfl 0 (by decide) (hts _ g_120) (fun _ h9 => h9) rfl d_Re_takeName_24 ?_
    refine va_getN (D := D9) (ci := 0) (C := R_By) (T := F_By) (N := 2) hx hb hts i_By hown hK hP 1 rfl rfl 1 (by decide) (hts _ g_39) (fun _ h9 => h9) rfl d_Re_takeName_27 ?_
    refine lv_icmp_lt (tgt := 40) hx hb d_Re_takeName_30 (by decide) (fun c2 => ?_) (fun c2 => ?_)
    · exact absurd c2 (by decide +kernel)
    · refine lv_aload_n hx hb d_Re_takeName_33 rfl (lv_at hl 5 rfl) ?_
      refine lv_iconst (v := 1) hx hb d_Re_takeName_34 (by decide) ?_
      refine lv_iload_n hx hb d_Re_takeName_35 rfl (lv_at hl 4 rfl) ?_
      refine mf_cV (wr := [_]) (ci := 4) (k := 0) C0 (c_Re_fail l D9 cB cI cJ cG re tp ga _ _ _ _ _ _ _ _) g_267 g_4 g_264 g_266 gs_Re_fail ⟨by decide +kernel, by decide +kernel, show Option.map (fun d => d.parameters.length) (parseMethodDescriptor y_Re_fail.desc) = some 2 by decide +kernel⟩ ⟨by decide, by decide⟩ rfl rfl hP hD hS hA [0] [1] rfl rfl (by decide) (by decide) (by decide) rfl rfl hl.1 (Nat.le_of_ble_eq_true rfl) rfl d_Re_takeName_36 ⟨by decide, by decide⟩ (fun v9 w9 H locs hq hP hD hS => ?_)
      obtain ⟨rfl, hw9⟩ := hq
      rw [hw9] at hP hD
      have hP : va_P D9 cls9 [(tp, .inr (0, [.ref tpr, .int 0])), (re, .inr (4, [.ref tp, .ref ga, .int _, .int _, .int _, .int _, .int _, .int _]))] H := hP
      have hD : va_D _ [(tp, .inr (0, [.ref tpr, .int 0])), (re, .inr (4, [.ref tp, .ref ga, .int _, .int _, .int _, .int _, .int _, .int _]))] := hD
      exact mw_zret hx hb hr hlocks hS hP hD (by decide) (by decide) d_Re_takeName_39 (by first | rfl | decide +kernel) (⟨rfl, _, _, _, _, _, _, rfl⟩)
set_option maxHeartbeats 4000000 in
set_option maxRecDepth 100000 in
theorem c_Re_takeOwner (l : Launch) (D9 : va_G) (cB cI cJ cG : ClassId) (re tp tpr ga gbr gb st nl dl ty ki ti rw sz : Nat) (a0 a1 a2 a3 a4 a5 : Int32) : MW l D9 cls9 (ty9 cB cI cJ cG) y_Re_takeOwner b_Re_takeOwner 4 (some .boolean) (rm9 2 0 0) [.ref re, .int 0] [(re, .inr (4, [.ref tp, .ref ga, .int a0, .int a1, .int a2, .int a3, .int a4, .int a5])), (tp, .inr (0, [.ref tpr, .int 0])), (ga, .inr (2, [.ref gb, .ref st, .ref nl, .ref dl, .ref ty, .ref ki, .ref ti, .ref rw, .ref sz, .int 0, .int 0])), (gb, .inr (0, [.ref gbr, .int 0]))] (fun v8 w2 => v8 = some (.int 0) ∧ ∃ (x0 : Int32) (x1 : Int32) (x2 : Int32) (x3 : Int32) (x4 : Int32) (x5 : Int32), w2 = [(ga, .inr (2, [.ref gb, .ref st, .ref nl, .ref dl, .ref ty, .ref ki, .ref ti, .ref rw, .ref sz, .int 0, .int 0])), (gb, .inr (0, [.ref gbr, .int 0])), (tp, .inr (0, [.ref tpr, .int 0])), (re, .inr (4, [.ref tp, .ref ga, .int x0, .int x1, .int x2, .int x3, .int x4, .int x5]))]) 0 0 := by
  refine mw_of (by decide) (Nat.le_of_ble_eq_true rfl) ?_
  intro p e s m below meth c ls C0 hin hP hD hA hS hl
  obtain ⟨hx, hb, hml, hr, hlocks, hown, hts, hK⟩ := id C0
  have hl : lv_has ls 4 [(0, .ref re), (1, .int 0)] := hl
  refine lv_aload_n hx hb d_Re_takeOwner_0 rfl (lv_at hl 0 rfl) ?_
  refine va_get (D := D9) (ci := 4) (C := R_Re) (T := F_Re) (N := 8) hx hb hts i_Re hown hK hP 0 rfl rfl 1 (by decide) (hts _ g_121) (fun _ h9 => h9) rfl d_Re_takeOwner_1 ?_
  refine va_getN (D := D9) (ci := 2) (C := R_Ga) (T := F_Ga) (N := 11) hx hb hts i_Ga hown hK hP 2 rfl rfl 0 (by decide) (hts _ g_60) (fun _ h9 => h9) rfl d_Re_takeOwner_4 ?_
  refine va_getN (D := D9) (ci := 0) (C := R_By) (T := F_By) (N := 2) hx hb hts i_By hown hK hP 3 rfl rfl 1 (by decide) (hts _ g_39) (fun _ h9 => h9) rfl d_Re_takeOwner_7 ?_
  refine lv_istore_n (lv' := [(2, _), (0, _), (1, _)]) hx hb d_Re_takeOwner_10 rfl hl (by decide) rfl (fun ls hl => ?_)
  refine lv_aload_n hx hb d_Re_takeOwner_11 rfl (lv_at hl 1 rfl) ?_
  refine lv_iload_n hx hb d_Re_takeOwner_12 rfl (lv_at hl 2 rfl) ?_
  refine lv_aload_n hx hb d_Re_takeOwner_13 rfl (lv_at hl 1 rfl) ?_
  refine va_get (D := D9) (ci := 4) (C := R_Re) (T := F_Re) (N := 8) hx hb hts i_Re hown hK hP 0 rfl rfl 0 (by decide) (hts _ g_120) (fun _ h9 => h9) rfl d_Re_takeOwner_14 ?_
  refine va_getN (D := D9) (ci := 0) (C := R_By) (T := F_By) (N := 2) hx hb hts i_By hown hK hP 1 rfl rfl 1 (by decide) (hts _ g_39) (fun _ h9 => h9) rfl d_Re_takeOwner_17 ?_
  refine mf_cV (wr := [_, _]) (ci := 4) (k := 0) C0 (c_Re_takeName l D9 cB cI cJ cG re tp ga tpr _ _ _ _ _ _ _) g_279 g_4 g_276 g_278 gs_Re_takeName ⟨by decide +kernel, by decide +kernel, show Option.map (fun d => d.parameters.length) (parseMethodDescriptor y_Re_takeName.desc) = some 2 by decide +kernel⟩ ⟨by decide, by decide⟩ rfl rfl hP hD hS hA [0, 1] [2, 3] rfl rfl (by decide) (by decide) (by decide) rfl rfl hl.1 (Nat.le_of_ble_eq_true rfl) rfl d_Re_takeOwner_20 ⟨by decide, by decide⟩ (fun v9 w9 H locs hq hP hD hS => ?_)
  obtain ⟨rfl, y8_0, y8_1, y8_2, y8_3, y8_4, y8_5, hw9⟩ := hq
  rw [hw9] at hP hD
  have hP : va_P D9 cls9 [(ga, .inr (2, [.ref gb, .ref st, .ref nl, .ref dl, .ref ty, .ref ki, .ref ti, .ref rw, .ref sz, .int 0, .int 0])), (gb, .inr (0, [.ref gbr, .int 0])), (tp, .inr (0, [.ref tpr, .int 0])), (re, .inr (4, [.ref tp, .ref ga, .int y8_0, .int y8_1, .int y8_2, .int y8_3, .int y8_4, .int y8_5]))] H := hP
  have hD : va_D _ [(ga, .inr (2, [.ref gb, .ref st, .ref nl, .ref dl, .ref ty, .ref ki, .ref ti, .ref rw, .ref sz, .int 0, .int 0])), (gb, .inr (0, [.ref gbr, .int 0])), (tp, .inr (0, [.ref tpr, .int 0])), (re, .inr (4, [.ref tp, .ref ga, .int y8_0, .int y8_1, .int y8_2, .int y8_3, .int y8_4, .int y8_5]))] := hD
  refine lv_istore_n (lv' := [(3, _), (2, _), (0, _), (1, _)]) hx hb d_Re_takeOwner_23 rfl hl (by decide) rfl (fun ls hl => ?_)
  refine lv_aload_n hx hb d_Re_takeOwner_24 rfl (lv_at hl 2 rfl) ?_
  refine lv_aload_n hx hb d_Re_takeOwner_25 rfl (lv_at hl 2 rfl) ?_
  refine va_get (D := D9) (ci := 4) (C := R_Re) (T := F_Re) (N := 8) hx hb hts i_Re hown hK hP 3 rfl rfl 1 (by decide) (hts _ g_121) (fun _ h9 => h9) rfl d_Re_takeOwner_26 ?_
  refine va_getN (D := D9) (ci := 2) (C := R_Ga) (T := F_Ga) (N := 11) hx hb hts i_Ga hown hK hP 0 rfl rfl 0 (by decide) (hts _ g_60) (fun _ h9 => h9) rfl d_Re_takeOwner_29 ?_
  refine va_getN (D := D9) (ci := 0) (C := R_By) (T := F_By) (N := 2) hx hb hts i_By hown hK hP 1 rfl rfl 1 (by decide) (hts _ g_39) (fun _ h9 => h9) rfl d_Re_takeOwner_32 ?_
  refine lv_iload_n hx hb d_Re_takeOwner_35 rfl (lv_at hl 1 rfl) ?_
  refine lv_isub hx hb d_Re_takeOwner_36 ?_
  refine va_put (D := D9) (ty := .int) (ci := 4) (C := R_Re) (T := F_Re) (N := 8) hx hb hts i_Re t_Re t_Re_ok n_Re hown hK hP hD hS 3 rfl rfl 6 (by decide) (hts _ g_128) (fun _ h9 => h9) rfl (by decide +kernel) rfl rfl (Nat.le_of_ble_eq_true rfl) d_Re_takeOwner_37 (fun H locs hP hD hS => ?_)
  have hP : va_P D9 cls9 [(ga, .inr (2, [.ref gb, .ref st, .ref nl, .ref dl, .ref ty, .ref ki, .ref ti, .ref rw, .ref sz, .int 0, .int 0])), (gb, .inr (0, [.ref gbr, .int 0])), (tp, .inr (0, [.ref tpr, .int 0])), (re, .inr (4, [.ref tp, .ref ga, .int y8_0, .int y8_1, .int y8_2, .int y8_3, .int _, .int y8_5]))] H := hP
  have hD : va_D _ [(ga, .inr (2, [.ref gb, .ref st, .ref nl, .ref dl, .ref ty, .ref ki, .ref ti, .ref rw, .ref sz, .int 0, .int 0])), (gb, .inr (0, [.ref gbr, .int 0])), (tp, .inr (0, [.ref tpr, .int 0])), (re, .inr (4, [.ref tp, .ref ga, .int y8_0, .int y8_1, .int y8_2, .int y8_3, .int _, .int y8_5]))] := hD
  refine lv_iload_n hx hb d_Re_takeOwner_40 rfl (lv_at hl 0 rfl) ?_
  exact mw_zret hx hb hr hlocks hS hP hD (by decide) (by decide) d_Re_takeOwner_41 (by first | rfl | decide +kernel) (⟨rfl, _, _, _, _, _, _, rfl⟩)
set_option maxHeartbeats 4000000 in
set_option maxRecDepth 100000 in
theorem c_Re_takeBackTo (l : Launch) (D9 : va_G) (cB cI cJ cG : ClassId) (re tp ga gbr gb st nl dl ty ki ti rw sz : Nat) (a0 a1 a2 a3 a4 a5 u1 : Int32) : MW l D9 cls9 (ty9 cB cI cJ cG) y_Re_takeBackTo b_Re_takeBackTo 2 (some .boolean) (rm9 0 0 0) [.ref re, .int u1] [(re, .inr (4, [.ref tp, .ref ga, .int a0, .int a1, .int a2, .int a3, .int a4, .int a5])), (ga, .inr (2, [.ref gb, .ref st, .ref nl, .ref dl, .ref ty, .ref ki, .ref ti, .ref rw, .ref sz, .int 0, .int 0])), (gb, .inr (0, [.ref gbr, .int 0]))] (fun v8 w2 => v8 = some (.int 0) ∧ w2 = [(re, .inr (4, [.ref tp, .ref ga, .int a0, .int a1, .int a2, .int a3, .int a4, .int a5])), (ga, .inr (2, [.ref gb, .ref st, .ref nl, .ref dl, .ref ty, .ref ki, .ref ti, .ref rw, .ref sz, .int 0, .int 0])), (gb, .inr (0, [.ref gbr, .int (u1)]))]) 0 0 := by
  refine mw_of (by decide) (Nat.le_of_ble_eq_true rfl) ?_
  intro p e s m below meth c ls C0 hin hP hD hA hS hl
  obtain ⟨hx, hb, hml, hr, hlocks, hown, hts, hK⟩ := id C0
  have hl : lv_has ls 2 [(0, .ref re), (1, .int u1)] := hl
  refine lv_aload_n hx hb d_Re_takeBackTo_0 rfl (lv_at hl 0 rfl) ?_
  refine va_get (D := D9) (ci := 4) (C := R_Re) (T := F_Re) (N := 8) hx hb hts i_Re hown hK hP 0 rfl rfl 1 (by decide) (hts _ g_121) (fun _ h9 => h9) rfl d_Re_takeBackTo_1 ?_
  refine va_getN (D := D9) (ci := 2) (C := R_Ga) (T := F_Ga) (N := 11) hx hb hts i_Ga hown hK hP 1 rfl rfl 0 (by decide) (hts _ g_60) (fun _ h9 => h9) rfl d_Re_takeBackTo_4 ?_
  refine lv_iload_n hx hb d_Re_takeBackTo_7 rfl (lv_at hl 1 rfl) ?_
  refine va_putN (D := D9) (ty := .int) (ci := 0) (C := R_By) (T := F_By) (N := 2) hx hb hts i_By t_By t_By_ok n_By hown hK hP hD hS 2 rfl rfl 1 (by decide) (hts _ g_39) (fun _ h9 => h9) rfl (by decide +kernel) rfl rfl (Nat.le_of_ble_eq_true rfl) d_Re_takeBackTo_8 (fun H locs hP hD hS => ?_)
  have hP : va_P D9 cls9 [(re, .inr (4, [.ref tp, .ref ga, .int a0, .int a1, .int a2, .int a3, .int a4, .int a5])), (ga, .inr (2, [.ref gb, .ref st, .ref nl, .ref dl, .ref ty, .ref ki, .ref ti, .ref rw, .ref sz, .int 0, .int 0])), (gb, .inr (0, [.ref gbr, .int (u1)]))] H := hP
  have hD : va_D _ [(re, .inr (4, [.ref tp, .ref ga, .int a0, .int a1, .int a2, .int a3, .int a4, .int a5])), (ga, .inr (2, [.ref gb, .ref st, .ref nl, .ref dl, .ref ty, .ref ki, .ref ti, .ref rw, .ref sz, .int 0, .int 0])), (gb, .inr (0, [.ref gbr, .int (u1)]))] := hD
  refine lv_iconst (v := 0) hx hb d_Re_takeBackTo_11 (by decide) ?_
  exact mw_zret hx hb hr hlocks hS hP hD (by decide) (by decide) d_Re_takeBackTo_12 (by first | rfl | decide +kernel) (⟨rfl, rfl⟩)
set_option maxHeartbeats 4000000 in
set_option maxRecDepth 100000 in
theorem c_Re_takeTapeAsName (l : Launch) (D9 : va_G) (cB cI cJ cG : ClassId) (re tp tpr ga gbr gb st nl dl ty ki ti rw sz : Nat) (a0 a1 a2 a3 a4 a5 : Int32) : MW l D9 cls9 (ty9 cB cI cJ cG) y_Re_takeTapeAsName b_Re_takeTapeAsName 3 (some .boolean) (rm9 3 0 0) [.ref re] [(re, .inr (4, [.ref tp, .ref ga, .int a0, .int a1, .int a2, .int a3, .int a4, .int a5])), (tp, .inr (0, [.ref tpr, .int 0])), (ga, .inr (2, [.ref gb, .ref st, .ref nl, .ref dl, .ref ty, .ref ki, .ref ti, .ref rw, .ref sz, .int 0, .int 0])), (gb, .inr (0, [.ref gbr, .int 0]))] (fun v8 w2 => v8 = some (.int 0) ∧ ∃ (x0 : Int32) (x1 : Int32) (x2 : Int32) (x3 : Int32) (x4 : Int32) (x5 : Int32) (x6 : Int32), w2 = [(tp, .inr (0, [.ref tpr, .int 0])), (re, .inr (4, [.ref tp, .ref ga, .int x0, .int x1, .int x2, .int x3, .int x4, .int x5])), (ga, .inr (2, [.ref gb, .ref st, .ref nl, .ref dl, .ref ty, .ref ki, .ref ti, .ref rw, .ref sz, .int 0, .int 0])), (gb, .inr (0, [.ref gbr, .int x6]))]) 0 0 := by
  refine mw_of (by decide) (Nat.le_of_ble_eq_true rfl) ?_
  intro p e s m below meth c ls C0 hin hP hD hA hS hl
  obtain ⟨hx, hb, hml, hr, hlocks, hown, hts, hK⟩ := id C0
  have hl : lv_has ls 3 [(0, .ref re)] := hl
  refine lv_aload_n hx hb d_Re_takeTapeAsName_0 rfl (lv_at hl 0 rfl) ?_
  refine va_get (D := D9) (ci := 4) (C := R_Re) (T := F_Re) (N := 8) hx hb hts i_Re hown hK hP 0 rfl rfl 1 (by decide) (hts _ g_121) (fun _ h9 => h9) rfl d_Re_takeTapeAsName_1 ?_
  refine va_getN (D := D9) (ci := 2) (C := R_Ga) (T := F_Ga) (N := 11) hx hb hts i_Ga hown hK hP 2 rfl rfl 0 (by decide) (hts _ g_60) (fun _ h9 => h9) rfl d_Re_takeTapeAsName_4 ?_
  refine va_getN (D := D9) (ci := 0) (C := R_By) (T := F_By) (N := 2) hx hb hts i_By hown hK hP 3 rfl rfl 1 (by decide) (hts _ g_39) (fun _ h9 => h9) rfl d_Re_takeTapeAsName_7 ?_
  refine lv_istore_n (lv' := [(1, _), (0, _)]) hx hb d_Re_takeTapeAsName_10 rfl hl (by decide) rfl (fun ls hl => ?_)
  refine lv_aload_n hx hb d_Re_takeTapeAsName_11 rfl (lv_at hl 1 rfl) ?_
  refine lv_iconst (v := 0) hx hb d_Re_takeTapeAsName_12 (by decide) ?_
  refine va_put (D := D9) (ty := .int) (ci := 4) (C := R_Re) (T := F_Re) (N := 8) hx hb hts i_Re t_Re t_Re_ok n_Re hown hK hP hD hS 0 rfl rfl 5 (by decide) (hts _ g_126) (fun _ h9 => h9) rfl (by decide +kernel) rfl rfl (Nat.le_of_ble_eq_true rfl) d_Re_takeTapeAsName_13 (fun H locs hP hD hS => ?_)
  have hP : va_P D9 cls9 [(re, .inr (4, [.ref tp, .ref ga, .int a0, .int a1, .int a2, .int (0), .int a4, .int a5])), (tp, .inr (0, [.ref tpr, .int 0])), (ga, .inr (2, [.ref gb, .ref st, .ref nl, .ref dl, .ref ty, .ref ki, .ref ti, .ref rw, .ref sz, .int 0, .int 0])), (gb, .inr (0, [.ref gbr, .int 0]))] H := hP
  have hD : va_D _ [(re, .inr (4, [.ref tp, .ref ga, .int a0, .int a1, .int a2, .int (0), .int a4, .int a5])), (tp, .inr (0, [.ref tpr, .int 0])), (ga, .inr (2, [.ref gb, .ref st, .ref nl, .ref dl, .ref ty, .ref ki, .ref ti, .ref rw, .ref sz, .int 0, .int 0])), (gb, .inr (0, [.ref gbr, .int 0]))] := hD
  refine lv_aload_n hx hb d_Re_takeTapeAsName_16 rfl (lv_at hl 1 rfl) ?_
  refine lv_iconst (v := 0) hx hb d_Re_takeTapeAsName_17 (by decide) ?_
  refine mf_cV (wr := []) (ci := 4) (k := 0) C0 (c_Re_takeOwner l D9 cB cI cJ cG re tp tpr ga gbr gb st nl dl ty ki ti rw sz _ _ _ _ _ _) g_275 g_4 g_272 g_274 gs_Re_takeOwner ⟨by decide +kernel, by decide +kernel, show Option.map (fun d => d.parameters.length) (parseMethodDescriptor y_Re_takeOwner.desc) = some 1 by decide +kernel⟩ ⟨by decide, by decide⟩ rfl rfl hP hD hS hA [0, 1, 2, 3] [] rfl rfl (by decide) (by decide) (by decide) rfl rfl hl.1 (Nat.le_of_ble_eq_true rfl) rfl d_Re_takeTapeAsName_18 ⟨by decide, by decide⟩ (fun v9 w9 H locs hq hP hD hS => ?_)
  obtain ⟨rfl, y9_0, y9_1, y9_2, y9_3, y9_4, y9_5, hw9⟩ := hq
  rw [hw9] at hP hD
  have hP : va_P D9 cls9 [(ga, .inr (2, [.ref gb, .ref st, .ref nl, .ref dl, .ref ty, .ref ki, .ref ti, .ref rw, .ref sz, .int 0, .int 0])), (gb, .inr (0, [.ref gbr, .int 0])), (tp, .inr (0, [.ref tpr, .int 0])), (re, .inr (4, [.ref tp, .ref ga, .int y9_0, .int y9_1, .int y9_2, .int y9_3, .int y9_4, .int y9_5]))] H := hP
  have hD : va_D _ [(ga, .inr (2, [.ref gb, .ref st, .ref nl, .ref dl, .ref ty, .ref ki, .ref ti, .ref rw, .ref sz, .int 0, .int 0])), (gb, .inr (0, [.ref gbr, .int 0])), (tp, .inr (0, [.ref tpr, .int 0])), (re, .inr (4, [.ref tp, .ref ga, .int y9_0, .int y9_1, .int y9_2, .int y9_3, .int y9_4, .int y9_5]))] := hD
  refine lv_if_eq (tgt := 49) hx hb d_Re_takeTapeAsName_21 (by decide) (fun c1 => ?_) (fun c1 => ?_)
  · refine lv_iconst (v := 0) hx hb d_Re_takeTapeAsName_49 (by decide) ?_
    refine lv_istore_n (lv' := [(2, _), (1, _), (0, _)]) hx hb d_Re_takeTapeAsName_50 rfl hl (by decide) rfl (fun ls hl => ?_)
    refine lv_iload_n hx hb d_Re_takeTapeAsName_51 rfl (lv_at hl 0 rfl) ?_
    refine lv_if_ne (tgt := 63) hx hb d_Re_takeTapeAsName_52 (by decide) (fun c2 => ?_) (fun c2 => ?_)
    · exact absurd c2 (by decide +kernel)
    · refine lv_aload_n hx hb d_Re_takeTapeAsName_55 rfl (lv_at hl 2 rfl) ?_
      refine lv_iload_n hx hb d_Re_takeTapeAsName_56 rfl (lv_at hl 1 rfl) ?_
      refine mf_cV (wr := [_]) (ci := 4) (k := 0) C0 (c_Re_takeBackTo l D9 cB cI cJ cG re tp ga gbr gb st nl dl ty ki ti rw sz _ _ _ _ _ _ _) g_495 g_4 g_492 g_494 gs_Re_takeBackTo ⟨by decide +kernel, by decide +kernel, show Option.map (fun d => d.parameters.length) (parseMethodDescriptor y_Re_takeBackTo.desc) = some 1 by decide +kernel⟩ ⟨by decide, by decide⟩ rfl rfl hP hD hS hA [3, 0, 1] [2] rfl rfl (by decide) (by decide) (by decide) rfl rfl hl.1 (Nat.le_of_ble_eq_true rfl) rfl d_Re_takeTapeAsName_57 ⟨by decide, by decide⟩ (fun v9 w9 H locs hq hP hD hS => ?_)
      obtain ⟨rfl, hw9⟩ := hq
      rw [hw9] at hP hD
      have hP : va_P D9 cls9 [(tp, .inr (0, [.ref tpr, .int 0])), (re, .inr (4, [.ref tp, .ref ga, .int _, .int _, .int _, .int _, .int _, .int _])), (ga, .inr (2, [.ref gb, .ref st, .ref nl, .ref dl, .ref ty, .ref ki, .ref ti, .ref rw, .ref sz, .int 0, .int 0])), (gb, .inr (0, [.ref gbr, .int _]))] H := hP
      have hD : va_D _ [(tp, .inr (0, [.ref tpr, .int 0])), (re, .inr (4, [.ref tp, .ref ga, .int _, .int _, .int _, .int _, .int _, .int _])), (ga, .inr (2, [.ref gb, .ref st, .ref nl, .ref dl, .ref ty, .ref ki, .ref ti, .ref rw, .ref sz, .int 0, .int 0])), (gb, .inr (0, [.ref gbr, .int _]))] := hD
      refine lv_if_eq (tgt := 67) hx hb d_Re_takeTapeAsName_60 (by decide) (fun c3 => ?_) (fun c3 => ?_)
      · refine lv_iconst (v := 0) hx hb d_Re_takeTapeAsName_67 (by decide) ?_
        exact mw_zret hx hb hr hlocks hS hP hD (by decide) (by decide) d_Re_takeTapeAsName_68 (by first | rfl | decide +kernel) (⟨rfl, _, _, _, _, _, _, _, rfl⟩)
      · exact absurd c3 (by decide +kernel)
  · exact absurd c1 (by decide +kernel)
set_option maxHeartbeats 4000000 in
set_option maxRecDepth 100000 in
theorem c_Re_takeTapeAsNameAndData (l : Launch) (D9 : va_G) (cB cI cJ cG : ClassId) (re tp tpr ga gbr gb st nl dl ty ki ti rw sz : Nat) (a0 a1 a2 a3 a4 a5 u1 : Int32) : MW l D9 cls9 (ty9 cB cI cJ cG) y_Re_takeTapeAsNameAndData b_Re_takeTapeAsNameAndData 4 (some .boolean) (rm9 3 0 0) [.ref re, .int u1] [(re, .inr (4, [.ref tp, .ref ga, .int a0, .int a1, .int a2, .int a3, .int a4, .int a5])), (tp, .inr (0, [.ref tpr, .int 0])), (ga, .inr (2, [.ref gb, .ref st, .ref nl, .ref dl, .ref ty, .ref ki, .ref ti, .ref rw, .ref sz, .int 0, .int 0])), (gb, .inr (0, [.ref gbr, .int 0]))] (fun v8 w2 => v8 = some (.int 0) ∧ ∃ (x0 : Int32) (x1 : Int32) (x2 : Int32) (x3 : Int32) (x4 : Int32) (x5 : Int32) (x6 : Int32), w2 = [(tp, .inr (0, [.ref tpr, .int 0])), (re, .inr (4, [.ref tp, .ref ga, .int x0, .int x1, .int x2, .int x3, .int x4, .int x5])), (ga, .inr (2, [.ref gb, .ref st, .ref nl, .ref dl, .ref ty, .ref ki, .ref ti, .ref rw, .ref sz, .int 0, .int 0])), (gb, .inr (0, [.ref gbr, .int x6]))]) 0 0 := by
  refine mw_of (by decide) (Nat.le_of_ble_eq_true rfl) ?_
  intro p e s m below meth c ls C0 hin hP hD hA hS hl
  obtain ⟨hx, hb, hml, hr, hlocks, hown, hts, hK⟩ := id C0
  have hl : lv_has ls 4 [(0, .ref re), (1, .int u1)] := hl
  refine lv_aload_n hx hb d_Re_takeTapeAsNameAndData_0 rfl (lv_at hl 0 rfl) ?_
  refine va_get (D := D9) (ci := 4) (C := R_Re) (T := F_Re) (N := 8) hx hb hts i_Re hown hK hP 0 rfl rfl 1 (by decide) (hts _ g_121) (fun _ h9 => h9) rfl d_Re_takeTapeAsNameAndData_1 ?_
  refine va_getN (D := D9) (ci := 2) (C := R_Ga) (T := F_Ga) (N := 11) hx hb hts i_Ga hown hK hP 2 rfl rfl 0 (by decide) (hts _ g_60) (fun _ h9 => h9) rfl d_Re_takeTapeAsNameAndData_4 ?_
  refine va_getN (D := D9) (ci := 0) (C := R_By) (T := F_By) (N := 2) hx hb hts i_By hown hK hP 3 rfl rfl 1 (by decide) (hts _ g_39) (fun _ h9 => h9) rfl d_Re_takeTapeAsNameAndData_7 ?_
  refine lv_istore_n (lv' := [(2, _), (0, _), (1, _)]) hx hb d_Re_takeTapeAsNameAndData_10 rfl hl (by decide) rfl (fun ls hl => ?_)
  refine lv_aload_n hx hb d_Re_takeTapeAsNameAndData_11 rfl (lv_at hl 1 rfl) ?_
  refine lv_iconst (v := 0) hx hb d_Re_takeTapeAsNameAndData_12 (by decide) ?_
  refine va_put (D := D9) (ty := .int) (ci := 4) (C := R_Re) (T := F_Re) (N := 8) hx hb hts i_Re t_Re t_Re_ok n_Re hown hK hP hD hS 0 rfl rfl 5 (by decide) (hts _ g_126) (fun _ h9 => h9) rfl (by decide +kernel) rfl rfl (Nat.le_of_ble_eq_true rfl) d_Re_takeTapeAsNameAndData_13 (fun H locs hP hD hS => ?_)
  have hP : va_P D9 cls9 [(re, .inr (4, [.ref tp, .ref ga, .int a0, .int a1, .int a2, .int (0), .int a4, .int a5])), (tp, .inr (0, [.ref tpr, .int 0])), (ga, .inr (2, [.ref gb, .ref st, .ref nl, .ref dl, .ref ty, .ref ki, .ref ti, .ref rw, .ref sz, .int 0, .int 0])), (gb, .inr (0, [.ref gbr, .int 0]))] H := hP
  have hD : va_D _ [(re, .inr (4, [.ref tp, .ref ga, .int a0, .int a1, .int a2, .int (0), .int a4, .int a5])), (tp, .inr (0, [.ref tpr, .int 0])), (ga, .inr (2, [.ref gb, .ref st, .ref nl, .ref dl, .ref ty, .ref ki, .ref ti, .ref rw, .ref sz, .int 0, .int 0])), (gb, .inr (0, [.ref gbr, .int 0]))] := hD
  refine lv_aload_n hx hb d_Re_takeTapeAsNameAndData_16 rfl (lv_at hl 1 rfl) ?_
  refine lv_iconst (v := 0) hx hb d_Re_takeTapeAsNameAndData_17 (by decide) ?_
  refine mf_cV (wr := []) (ci := 4) (k := 0) C0 (c_Re_takeOwner l D9 cB cI cJ cG re tp tpr ga gbr gb st nl dl ty ki ti rw sz _ _ _ _ _ _) g_275 g_4 g_272 g_274 gs_Re_takeOwner ⟨by decide +kernel, by decide +kernel, show Option.map (fun d => d.parameters.length) (parseMethodDescriptor y_Re_takeOwner.desc) = some 1 by decide +kernel⟩ ⟨by decide, by decide⟩ rfl rfl hP hD hS hA [0, 1, 2, 3] [] rfl rfl (by decide) (by decide) (by decide) rfl rfl hl.1 (Nat.le_of_ble_eq_true rfl) rfl d_Re_takeTapeAsNameAndData_18 ⟨by decide, by decide⟩ (fun v9 w9 H locs hq hP hD hS => ?_)
  obtain ⟨rfl, y11_0, y11_1, y11_2, y11_3, y11_4, y11_5, hw9⟩ := hq
  rw [hw9] at hP hD
  have hP : va_P D9 cls9 [(ga, .inr (2, [.ref gb, .ref st, .ref nl, .ref dl, .ref ty, .ref ki, .ref ti, .ref rw, .ref sz, .int 0, .int 0])), (gb, .inr (0, [.ref gbr, .int 0])), (tp, .inr (0, [.ref tpr, .int 0])), (re, .inr (4, [.ref tp, .ref ga, .int y11_0, .int y11_1, .int y11_2, .int y11_3, .int y11_4, .int y11_5]))] H := hP
  have hD : va_D _ [(ga, .inr (2, [.ref gb, .ref st, .ref nl, .ref dl, .ref ty, .ref ki, .ref ti, .ref rw, .ref sz, .int 0, .int 0])), (gb, .inr (0, [.ref gbr, .int 0])), (tp, .inr (0, [.ref tpr, .int 0])), (re, .inr (4, [.ref tp, .ref ga, .int y11_0, .int y11_1, .int y11_2, .int y11_3, .int y11_4, .int y11_5]))] := hD
  refine lv_if_eq (tgt := 54) hx hb d_Re_takeTapeAsNameAndData_21 (by decide) (fun c1 => ?_) (fun c1 => ?_)
  · refine lv_iconst (v := 0) hx hb d_Re_takeTapeAsNameAndData_54 (by decide) ?_
    refine lv_istore_n (lv' := [(3, _), (2, _), (0, _), (1, _)]) hx hb d_Re_takeTapeAsNameAndData_55 rfl hl (by decide) rfl (fun ls hl => ?_)
    refine lv_iload_n hx hb d_Re_takeTapeAsNameAndData_56 rfl (lv_at hl 0 rfl) ?_
    refine lv_if_ne (tgt := 68) hx hb d_Re_takeTapeAsNameAndData_57 (by decide) (fun c2 => ?_) (fun c2 => ?_)
    · exact absurd c2 (by decide +kernel)
    · refine lv_aload_n hx hb d_Re_takeTapeAsNameAndData_60 rfl (lv_at hl 2 rfl) ?_
      refine lv_iload_n hx hb d_Re_takeTapeAsNameAndData_61 rfl (lv_at hl 1 rfl) ?_
      refine mf_cV (wr := [_]) (ci := 4) (k := 0) C0 (c_Re_takeBackTo l D9 cB cI cJ cG re tp ga gbr gb st nl dl ty ki ti rw sz _ _ _ _ _ _ _) g_495 g_4 g_492 g_494 gs_Re_takeBackTo ⟨by decide +kernel, by decide +kernel, show Option.map (fun d => d.parameters.length) (parseMethodDescriptor y_Re_takeBackTo.desc) = some 1 by decide +kernel⟩ ⟨by decide, by decide⟩ rfl rfl hP hD hS hA [3, 0, 1] [2] rfl rfl (by decide) (by decide) (by decide) rfl rfl hl.1 (Nat.le_of_ble_eq_true rfl) rfl d_Re_takeTapeAsNameAndData_62 ⟨by decide, by decide⟩ (fun v9 w9 H locs hq hP hD hS => ?_)
      obtain ⟨rfl, hw9⟩ := hq
      rw [hw9] at hP hD
      have hP : va_P D9 cls9 [(tp, .inr (0, [.ref tpr, .int 0])), (re, .inr (4, [.ref tp, .ref ga, .int _, .int _, .int _, .int _, .int _, .int _])), (ga, .inr (2, [.ref gb, .ref st, .ref nl, .ref dl, .ref ty, .ref ki, .ref ti, .ref rw, .ref sz, .int 0, .int 0])), (gb, .inr (0, [.ref gbr, .int _]))] H := hP
      have hD : va_D _ [(tp, .inr (0, [.ref tpr, .int 0])), (re, .inr (4, [.ref tp, .ref ga, .int _, .int _, .int _, .int _, .int _, .int _])), (ga, .inr (2, [.ref gb, .ref st, .ref nl, .ref dl, .ref ty, .ref ki, .ref ti, .ref rw, .ref sz, .int 0, .int 0])), (gb, .inr (0, [.ref gbr, .int _]))] := hD
      refine lv_if_eq (tgt := 72) hx hb d_Re_takeTapeAsNameAndData_65 (by decide) (fun c3 => ?_) (fun c3 => ?_)
      · refine lv_iconst (v := 0) hx hb d_Re_takeTapeAsNameAndData_72 (by decide) ?_
        exact mw_zret hx hb hr hlocks hS hP hD (by decide) (by decide) d_Re_takeTapeAsNameAndData_73 (by first | rfl | decide +kernel) (⟨rfl, _, _, _, _, _, _, _, rfl⟩)
      · exact absurd c3 (by decide +kernel)
  · exact absurd c1 (by decide +kernel)
set_option maxHeartbeats 4000000 in
set_option maxRecDepth 100000 in
theorem c_Wm_question (l : Launch) (D9 : va_G) (cB cI cJ cG : ClassId) (hfl : l.flags = pinnedFlags ++ [noTraceFlag]) (b tp ga re wr na tpr gbr gb st nl dl ty ki ti rw sz : Nat) (u1 u2 : Int32) : MX l D9 cls9 (ty9 cB cI cJ cG) y_Wm_question b_Wm_question 4 (some .int) (rm9 6 1 6) [.ref b, .int u1, .int u2] [(b, .inr (6, [.ref tp, .ref ga, .ref re, .ref wr, .ref na, .int (-1), .int 0])), (re, .inr (4, [.ref tp, .ref ga, .int 0, .int 0, .int 0, .int 0, .int 0, .int 0])), (tp, .inr (0, [.ref tpr, .int 0])), (ga, .inr (2, [.ref gb, .ref st, .ref nl, .ref dl, .ref ty, .ref ki, .ref ti, .ref rw, .ref sz, .int 0, .int 0])), (gb, .inr (0, [.ref gbr, .int 0]))] (fun v8 => False) (fun E => E = "java/lang/IllegalArgumentException") 1 6 := by
  refine mx_of (by decide) (Nat.le_of_ble_eq_true rfl) ?_
  intro p e s m below meth c ls C0 hout hZ hlc hP hD hA hS hl
  obtain ⟨hx, hb, hml, hr, hlocks, hown, hts, hK⟩ := id C0
  have hl : lv_has ls 4 [(0, .ref b), (1, .int u1), (2, .int u2)] := hl
  refine lv_aload_n hx hb d_Wm_question_0 rfl (lv_at hl 0 rfl) ?_
  refine va_get (D := D9) (ci := 6) (C := R_Wm) (T := F_Wm) (N := 7) hx hb hts i_Wm hown hK hP 0 rfl rfl 1 (by decide) (hts _ g_223) (fun _ h9 => h9) rfl d_Wm_question_1 ?_
  refine va_getN (D := D9) (ci := 2) (C := R_Ga) (T := F_Ga) (N := 11) hx hb hts i_Ga hown hK hP 3 rfl rfl 0 (by decide) (hts _ g_59) (fun _ h9 => h9) rfl d_Wm_question_4 ?_
  refine va_getN (D := D9) (ci := 0) (C := R_By) (T := F_By) (N := 2) hx hb hts i_By hown hK hP 4 rfl rfl 1 (by decide) (hts _ g_36) (fun _ h9 => h9) rfl d_Wm_question_7 ?_
  refine lv_istore_n (lv' := [(3, _), (0, _), (1, _), (2, _)]) hx hb d_Wm_question_10 rfl hl (by decide) rfl (fun ls hl => ?_)
  refine lv_aload_n hx hb d_Wm_question_11 rfl (lv_at hl 1 rfl) ?_
  refine va_get (D := D9) (ci := 6) (C := R_Wm) (T := F_Wm) (N := 7) hx hb hts i_Wm hown hK hP 0 rfl rfl 2 (by decide) (hts _ g_224) (fun _ h9 => h9) rfl d_Wm_question_12 ?_
  refine mf_cVN (wr := [_]) (ci := 4) (k := 0) C0 (c_Re_takeTapeAsName l D9 cB cI cJ cG re tp tpr ga gbr gb st nl dl ty ki ti rw sz _ _ _ _ _ _) g_491 g_4 g_488 g_490 gs_Re_takeTapeAsName ⟨by decide +kernel, by decide +kernel, show Option.map (fun d => d.parameters.length) (parseMethodDescriptor y_Re_takeTapeAsName.desc) = some 0 by decide +kernel⟩ ⟨by decide, by decide⟩ rfl rfl hP hD hS hA [1, 2, 3, 4] [0] rfl rfl (by decide) (by decide) (by decide) rfl rfl hl.1 (Nat.le_of_ble_eq_true rfl) rfl d_Wm_question_15 ⟨by decide, by decide⟩ (fun v9 w9 H locs hq hP hD hS => ?_)
  obtain ⟨rfl, y13_0, y13_1, y13_2, y13_3, y13_4, y13_5, y13_6, hw9⟩ := hq
  rw [hw9] at hP hD
  have hP : va_P D9 cls9 [(b, .inr (6, [.ref tp, .ref ga, .ref re, .ref wr, .ref na, .int (-1), .int 0])), (tp, .inr (0, [.ref tpr, .int 0])), (re, .inr (4, [.ref tp, .ref ga, .int y13_0, .int y13_1, .int y13_2, .int y13_3, .int y13_4, .int y13_5])), (ga, .inr (2, [.ref gb, .ref st, .ref nl, .ref dl, .ref ty, .ref ki, .ref ti, .ref rw, .ref sz, .int 0, .int 0])), (gb, .inr (0, [.ref gbr, .int y13_6]))] H := hP
  have hD : va_D _ [(b, .inr (6, [.ref tp, .ref ga, .ref re, .ref wr, .ref na, .int (-1), .int 0])), (tp, .inr (0, [.ref tpr, .int 0])), (re, .inr (4, [.ref tp, .ref ga, .int y13_0, .int y13_1, .int y13_2, .int y13_3, .int y13_4, .int y13_5])), (ga, .inr (2, [.ref gb, .ref st, .ref nl, .ref dl, .ref ty, .ref ki, .ref ti, .ref rw, .ref sz, .int 0, .int 0])), (gb, .inr (0, [.ref gbr, .int y13_6]))] := hD
  refine lv_if_ne (tgt := 29) hx hb d_Wm_question_18 (by decide) (fun c1 => ?_) (fun c1 => ?_)
  · exact absurd c1 (by decide +kernel)
  · exact mx_throw (ic := 73) (names := ["java/lang/RuntimeException", "java/lang/Exception"]) hfl C0 hZ hlc hout (by decide +kernel) (by decide +kernel) at_Wm_73 g_466 g_13 hS hl.1 (by decide) (Nat.le_of_ble_eq_true rfl) (by decide) (by decide) (by decide) (by decide) d_Wm_question_21 d_Wm_question_24 d_Wm_question_25 d_Wm_question_28 (rfl)
set_option maxHeartbeats 4000000 in
set_option maxRecDepth 100000 in
theorem c_Wm_record (l : Launch) (D9 : va_G) (cB cI cJ cG : ClassId) (hfl : l.flags = pinnedFlags ++ [noTraceFlag]) (b tp ga re wr na tpr gbr gb st nl dl ty ki ti rw sz : Nat) (u1 u2 u3 u4 : Int32) : MX l D9 cls9 (ty9 cB cI cJ cG) y_Wm_record b_Wm_record 6 (some .int) (rm9 6 1 6) [.ref b, .int u1, .int u2, .int u3, .int u4] [(b, .inr (6, [.ref tp, .ref ga, .ref re, .ref wr, .ref na, .int (-1), .int 0])), (re, .inr (4, [.ref tp, .ref ga, .int 0, .int 0, .int 0, .int 0, .int 0, .int 0])), (tp, .inr (0, [.ref tpr, .int 0])), (ga, .inr (2, [.ref gb, .ref st, .ref nl, .ref dl, .ref ty, .ref ki, .ref ti, .ref rw, .ref sz, .int 0, .int 0])), (gb, .inr (0, [.ref gbr, .int 0]))] (fun v8 => False) (fun E => (E = "java/util/NoSuchElementException" ∧ (u1 ≤ 0 ∨ 4 ≤ u1)) ∨ (E = "java/lang/IllegalArgumentException" ∧ ¬ u1 ≤ 0 ∧ u1 < 4)) 1 6 := by
  refine mx_of (by decide) (Nat.le_of_ble_eq_true rfl) ?_
  intro p e s m below meth c ls C0 hout hZ hlc hP hD hA hS hl
  obtain ⟨hx, hb, hml, hr, hlocks, hown, hts, hK⟩ := id C0
  have hl : lv_has ls 6 [(0, .ref b), (1, .int u1), (2, .int u2), (3, .int u3), (4, .int u4)] := hl
  refine lv_iload_n hx hb d_Wm_record_0 rfl (lv_at hl 1 rfl) ?_
  refine lv_if_le (tgt := 9) hx hb d_Wm_record_1 (by decide) (fun c1 => ?_) (fun c1 => ?_)
  · exact mx_throw (ic := 106) (names := ["java/lang/RuntimeException", "java/lang/Exception"]) hfl C0 hZ hlc hout (by decide +kernel) (by decide +kernel) at_Wm_106 g_505 g_17 hS hl.1 (by decide) (Nat.le_of_ble_eq_true rfl) (by decide) (by decide) (by decide) (by decide) d_Wm_record_9 d_Wm_record_12 d_Wm_record_13 d_Wm_record_16 (Or.inl ⟨rfl, Or.inl c1⟩)
  · refine lv_iload_n hx hb d_Wm_record_4 rfl (lv_at hl 1 rfl) ?_
    refine lv_iconst (v := 4) hx hb d_Wm_record_5 (by decide) ?_
    refine lv_icmp_lt (tgt := 17) hx hb d_Wm_record_6 (by decide) (fun c2 => ?_) (fun c2 => ?_)
    · refine lv_aload_n hx hb d_Wm_record_17 rfl (lv_at hl 0 rfl) ?_
      refine va_get (D := D9) (ci := 6) (C := R_Wm) (T := F_Wm) (N := 7) hx hb hts i_Wm hown hK hP 0 rfl rfl 1 (by decide) (hts _ g_223) (fun _ h9 => h9) rfl d_Wm_record_18 ?_
      refine va_getN (D := D9) (ci := 2) (C := R_Ga) (T := F_Ga) (N := 11) hx hb hts i_Ga hown hK hP 3 rfl rfl 0 (by decide) (hts _ g_59) (fun _ h9 => h9) rfl d_Wm_record_21 ?_
      refine va_getN (D := D9) (ci := 0) (C := R_By) (T := F_By) (N := 2) hx hb hts i_By hown hK hP 4 rfl rfl 1 (by decide) (hts _ g_36) (fun _ h9 => h9) rfl d_Wm_record_24 ?_
      refine lv_istore (lv' := [(5, _), (0, _), (1, _), (2, _), (3, _), (4, _)]) hx hb d_Wm_record_27 hl (by decide) rfl (fun ls hl => ?_)
      refine lv_aload_n hx hb d_Wm_record_29 rfl (lv_at hl 1 rfl) ?_
      refine va_get (D := D9) (ci := 6) (C := R_Wm) (T := F_Wm) (N := 7) hx hb hts i_Wm hown hK hP 0 rfl rfl 2 (by decide) (hts _ g_224) (fun _ h9 => h9) rfl d_Wm_record_30 ?_
      refine lv_iload_n hx hb d_Wm_record_33 rfl (lv_at hl 3 rfl) ?_
      refine lv_ldc hx hb hown (hts _ g_369) d_Wm_record_34 ?_
      refine lv_iand hx hb d_Wm_record_36 ?_
      refine mf_cVN (wr := [_]) (ci := 4) (k := 0) C0 (c_Re_takeTapeAsNameAndData l D9 cB cI cJ cG re tp tpr ga gbr gb st nl dl ty ki ti rw sz _ _ _ _ _ _ _) g_523 g_4 g_520 g_522 gs_Re_takeTapeAsNameAndData ⟨by decide +kernel, by decide +kernel, show Option.map (fun d => d.parameters.length) (parseMethodDescriptor y_Re_takeTapeAsNameAndData.desc) = some 1 by decide +kernel⟩ ⟨by decide, by decide⟩ rfl rfl hP hD hS hA [1, 2, 3, 4] [0] rfl rfl (by decide) (by decide) (by decide) rfl rfl hl.1 (Nat.le_of_ble_eq_true rfl) rfl d_Wm_record_37 ⟨by decide, by decide⟩ (fun v9 w9 H locs hq hP hD hS => ?_)
      obtain ⟨rfl, y14_0, y14_1, y14_2, y14_3, y14_4, y14_5, y14_6, hw9⟩ := hq
      rw [hw9] at hP hD
      have hP : va_P D9 cls9 [(b, .inr (6, [.ref tp, .ref ga, .ref re, .ref wr, .ref na, .int (-1), .int 0])), (tp, .inr (0, [.ref tpr, .int 0])), (re, .inr (4, [.ref tp, .ref ga, .int y14_0, .int y14_1, .int y14_2, .int y14_3, .int y14_4, .int y14_5])), (ga, .inr (2, [.ref gb, .ref st, .ref nl, .ref dl, .ref ty, .ref ki, .ref ti, .ref rw, .ref sz, .int 0, .int 0])), (gb, .inr (0, [.ref gbr, .int y14_6]))] H := hP
      have hD : va_D _ [(b, .inr (6, [.ref tp, .ref ga, .ref re, .ref wr, .ref na, .int (-1), .int 0])), (tp, .inr (0, [.ref tpr, .int 0])), (re, .inr (4, [.ref tp, .ref ga, .int y14_0, .int y14_1, .int y14_2, .int y14_3, .int y14_4, .int y14_5])), (ga, .inr (2, [.ref gb, .ref st, .ref nl, .ref dl, .ref ty, .ref ki, .ref ti, .ref rw, .ref sz, .int 0, .int 0])), (gb, .inr (0, [.ref gbr, .int y14_6]))] := hD
      refine lv_if_ne (tgt := 51) hx hb d_Wm_record_40 (by decide) (fun c3 => ?_) (fun c3 => ?_)
      · exact absurd c3 (by decide +kernel)
      · exact mx_throw (ic := 73) (names := ["java/lang/RuntimeException", "java/lang/Exception"]) hfl C0 hZ hlc hout (by decide +kernel) (by decide +kernel) at_Wm_73 g_466 g_13 hS hl.1 (by decide) (Nat.le_of_ble_eq_true rfl) (by decide) (by decide) (by decide) (by decide) d_Wm_record_43 d_Wm_record_46 d_Wm_record_47 d_Wm_record_50 (Or.inr ⟨rfl, c1, c2⟩)
    · exact mx_throw (ic := 106) (names := ["java/lang/RuntimeException", "java/lang/Exception"]) hfl C0 hZ hlc hout (by decide +kernel) (by decide +kernel) at_Wm_106 g_505 g_17 hS hl.1 (by decide) (Nat.le_of_ble_eq_true rfl) (by decide) (by decide) (by decide) (by decide) d_Wm_record_9 d_Wm_record_12 d_Wm_record_13 d_Wm_record_16 (Or.inl ⟨rfl, Or.inr (Int32.not_lt.mp c2)⟩)
