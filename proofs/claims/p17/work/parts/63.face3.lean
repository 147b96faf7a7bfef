/-! THE CLASS'S OWN METHODS: the rest -/
theorem BR_bs {k : Nat} {f : Nat → Int32} {L : List Nat} {x : Int32} (h : BR 0 65536 f L) (hk : k < 65536) : BR 0 65536 (bset f (nI k) x) (L.set k (ub x)) := by
  rw [bset_in hk]; exact BR_set h
theorem g_1 : (Cond.initialized "WireMessages") ∈ GT := gt_mem 1 (by decide +kernel) rfl
theorem g_19 : (Cond.initialized "java/lang/IndexOutOfBoundsException") ∈ GT := gt_mem 19 (by decide +kernel) rfl
theorem g_63 : (Cond.fieldLinkNest "WireMessages" (162 : Nat) "WireMessages$Gathered" "starts" "[I" "WireMessages") ∈ GT := gt_mem 63 (by decide +kernel) rfl
theorem g_66 : (Cond.fieldLinkNest "WireMessages" (153 : Nat) "WireMessages$Gathered" "nameLengths" "[I" "WireMessages") ∈ GT := gt_mem 66 (by decide +kernel) rfl
theorem g_69 : (Cond.fieldLinkNest "WireMessages" (156 : Nat) "WireMessages$Gathered" "dataLengths" "[I" "WireMessages") ∈ GT := gt_mem 69 (by decide +kernel) rfl
theorem g_72 : (Cond.fieldLinkNest "WireMessages" (147 : Nat) "WireMessages$Gathered" "types" "[I" "WireMessages") ∈ GT := gt_mem 72 (by decide +kernel) rfl
theorem g_75 : (Cond.fieldLinkNest "WireMessages" (150 : Nat) "WireMessages$Gathered" "kinds" "[I" "WireMessages") ∈ GT := gt_mem 75 (by decide +kernel) rfl
theorem g_78 : (Cond.fieldLinkNest "WireMessages" (159 : Nat) "WireMessages$Gathered" "times" "[I" "WireMessages") ∈ GT := gt_mem 78 (by decide +kernel) rfl
theorem g_86 : (Cond.fieldLinkNest "WireMessages" (137 : Nat) "WireMessages$Gathered" "id" "I" "WireMessages") ∈ GT := gt_mem 86 (by decide +kernel) rfl
theorem g_89 : (Cond.fieldLinkNest "WireMessages" (140 : Nat) "WireMessages$Gathered" "flags" "I" "WireMessages") ∈ GT := gt_mem 89 (by decide +kernel) rfl
theorem g_192 : (Cond.fieldLinkNest "WireMessages" (168 : Nat) "WireMessages$Writer" "pointers" "I" "WireMessages") ∈ GT := gt_mem 192 (by decide +kernel) rfl
theorem g_628 : (Cond.classLink "WireMessages" (123 : Nat) "java/lang/IndexOutOfBoundsException") ∈ GT := gt_mem 628 (by decide +kernel) rfl
theorem g_643 : (Cond.methodLinkNest "WireMessages" (126 : Nat) ({ cls := "WireMessages$Bytes", name := "putFrom", desc := "(LWireMessages$Bytes;II)V" } : MethodName) "WireMessages") ∈ GT := gt_mem 643 (by decide +kernel) rfl
theorem g_644 : (Cond.methodLinkNest "WireMessages" (130 : Nat) ({ cls := "WireMessages$Bytes", name := "at", desc := "(I)I" } : MethodName) "WireMessages") ∈ GT := gt_mem 644 (by decide +kernel) rfl
theorem g_645 : (Cond.methodLinkNest "WireMessages" (134 : Nat) ({ cls := "WireMessages$Bytes", name := "set", desc := "(II)V" } : MethodName) "WireMessages") ∈ GT := gt_mem 645 (by decide +kernel) rfl
theorem g_667 : (Cond.methodLink "WireMessages" (143 : Nat) ({ cls := "WireMessages", name := "rowThatIs", desc := "(II)I" } : MethodName)) ∈ GT := gt_mem 667 (by decide +kernel) rfl
theorem g_669 : (Cond.instanceMethod ({ cls := "WireMessages", name := "rowThatIs", desc := "(II)I" } : MethodName)) ∈ GT := gt_mem 669 (by decide +kernel) rfl
theorem g_670 : (Cond.code ({ cls := "WireMessages", name := "rowThatIs", desc := "(II)I" } : MethodName) prog_1_method_18_code (4 : Nat) (Option.some FieldType.int)) ∈ GT := gt_mem 670 (by decide +kernel) rfl
theorem g_671 : (Cond.methodLinkNest "WireMessages" (171 : Nat) ({ cls := "WireMessages$Gathered", name := "rowOf", desc := "(II)I" } : MethodName) "WireMessages") ∈ GT := gt_mem 671 (by decide +kernel) rfl
theorem g_673 : (Cond.instanceMethod ({ cls := "WireMessages$Gathered", name := "rowOf", desc := "(II)I" } : MethodName)) ∈ GT := gt_mem 673 (by decide +kernel) rfl
theorem g_674 : (Cond.code ({ cls := "WireMessages$Gathered", name := "rowOf", desc := "(II)I" } : MethodName) prog_4_method_6_code (3 : Nat) (Option.some FieldType.int)) ∈ GT := gt_mem 674 (by decide +kernel) rfl
theorem g_689 : (Cond.methodLinkNest "WireMessages" (165 : Nat) ({ cls := "WireMessages$Names", name := "compare", desc := "(II)I" } : MethodName) "WireMessages") ∈ GT := gt_mem 689 (by decide +kernel) rfl
theorem g_691 : (Cond.instanceMethod ({ cls := "WireMessages$Names", name := "compare", desc := "(II)I" } : MethodName)) ∈ GT := gt_mem 691 (by decide +kernel) rfl
theorem g_692 : (Cond.code ({ cls := "WireMessages$Names", name := "compare", desc := "(II)I" } : MethodName) prog_6_method_3_code (8 : Nat) (Option.some FieldType.int)) ∈ GT := gt_mem 692 (by decide +kernel) rfl
theorem gs_Ga_rowOf : Cond.selects R_Ga y_Ga_rowOf y_Ga_rowOf ∈ GT := gt_sel (q := (⟨"WireMessages$Gathered", "rowOf", "(II)I"⟩, 11)) (by decide +kernel)
theorem gs_Wm_rowThatIs : Cond.selects R_Wm y_Wm_rowThatIs y_Wm_rowThatIs ∈ GT := gt_sel (q := (⟨"WireMessages", "rowThatIs", "(II)I"⟩, 7)) (by decide +kernel)
theorem gs_Na_compare : Cond.selects R_Na y_Na_compare y_Na_compare ∈ GT := gt_sel (q := (⟨"WireMessages$Names", "compare", "(II)I"⟩, 3)) (by decide +kernel)
theorem at_Wm_125 : ∀ w ∈ (Bundle.ownAtoms0 R_Wm 125 "java/lang/IndexOutOfBoundsException" ["java/lang/RuntimeException", "java/lang/Exception"]).filter tx_tab, w ∈ GT := gt_all _ (by decide +kernel) (by decide +kernel)
theorem d_Wm_back_0 : decode b_Wm_back 0 = .ok (.aload_n 0, 1) := by decide +kernel
theorem d_Wm_back_1 : decode b_Wm_back 1 = .ok (.getfield 37, 3) := by decide +kernel
theorem d_Wm_back_4 : decode b_Wm_back 4 = .ok (.getfield 120, 3) := by decide +kernel
theorem d_Wm_back_7 : decode b_Wm_back 7 = .ok (.astore_n 3, 1) := by decide +kernel
theorem d_Wm_back_8 : decode b_Wm_back 8 = .ok (.iload_n 1, 1) := by decide +kernel
theorem d_Wm_back_9 : decode b_Wm_back 9 = .ok (.iconst (-1), 1) := by decide +kernel
theorem d_Wm_back_10 : decode b_Wm_back 10 = .ok (.if_icmp .lt 11, 3) := by decide +kernel
theorem d_Wm_back_13 : decode b_Wm_back 13 = .ok (.iload_n 1, 1) := by decide +kernel
theorem d_Wm_back_14 : decode b_Wm_back 14 = .ok (.aload_n 3, 1) := by decide +kernel
theorem d_Wm_back_15 : decode b_Wm_back 15 = .ok (.getfield 60, 3) := by decide +kernel
theorem d_Wm_back_18 : decode b_Wm_back 18 = .ok (.if_icmp .lt 11, 3) := by decide +kernel
theorem d_Wm_back_21 : decode b_Wm_back 21 = .ok (.new 123, 3) := by decide +kernel
theorem d_Wm_back_24 : decode b_Wm_back 24 = .ok (.dup, 1) := by decide +kernel
theorem d_Wm_back_25 : decode b_Wm_back 25 = .ok (.invokespecial 125, 3) := by decide +kernel
theorem d_Wm_back_28 : decode b_Wm_back 28 = .ok (.athrow, 1) := by decide +kernel
theorem d_Wm_back_29 : decode b_Wm_back 29 = .ok (.aload_n 0, 1) := by decide +kernel
theorem d_Wm_back_30 : decode b_Wm_back 30 = .ok (.getfield 10, 3) := by decide +kernel
theorem d_Wm_back_33 : decode b_Wm_back 33 = .ok (.iconst 0, 1) := by decide +kernel
theorem d_Wm_back_34 : decode b_Wm_back 34 = .ok (.putfield 60, 3) := by decide +kernel
theorem d_Wm_back_37 : decode b_Wm_back 37 = .ok (.aload_n 0, 1) := by decide +kernel
theorem d_Wm_back_38 : decode b_Wm_back 38 = .ok (.getfield 10, 3) := by decide +kernel
theorem d_Wm_back_41 : decode b_Wm_back 41 = .ok (.aload_n 3, 1) := by decide +kernel
theorem d_Wm_back_42 : decode b_Wm_back 42 = .ok (.iconst 0, 1) := by decide +kernel
theorem d_Wm_back_43 : decode b_Wm_back 43 = .ok (.aload_n 3, 1) := by decide +kernel
theorem d_Wm_back_44 : decode b_Wm_back 44 = .ok (.getfield 60, 3) := by decide +kernel
theorem d_Wm_back_47 : decode b_Wm_back 47 = .ok (.invokevirtual 126, 3) := by decide +kernel
theorem d_Wm_back_50 : decode b_Wm_back 50 = .ok (.iload_n 1, 1) := by decide +kernel
theorem d_Wm_back_51 : decode b_Wm_back 51 = .ok (.ifCond .lt 18, 3) := by decide +kernel
theorem d_Wm_back_54 : decode b_Wm_back 54 = .ok (.aload_n 0, 1) := by decide +kernel
theorem d_Wm_back_55 : decode b_Wm_back 55 = .ok (.getfield 10, 3) := by decide +kernel
theorem d_Wm_back_58 : decode b_Wm_back 58 = .ok (.iload_n 1, 1) := by decide +kernel
theorem d_Wm_back_59 : decode b_Wm_back 59 = .ok (.aload_n 3, 1) := by decide +kernel
theorem d_Wm_back_60 : decode b_Wm_back 60 = .ok (.iload_n 1, 1) := by decide +kernel
theorem d_Wm_back_61 : decode b_Wm_back 61 = .ok (.invokevirtual 130, 3) := by decide +kernel
theorem d_Wm_back_64 : decode b_Wm_back 64 = .ok (.iload_n 2, 1) := by decide +kernel
theorem d_Wm_back_65 : decode b_Wm_back 65 = .ok (.ixor, 1) := by decide +kernel
theorem d_Wm_back_66 : decode b_Wm_back 66 = .ok (.invokevirtual 134, 3) := by decide +kernel
theorem d_Wm_back_69 : decode b_Wm_back 69 = .ok (.aload_n 0, 1) := by decide +kernel
theorem d_Wm_back_70 : decode b_Wm_back 70 = .ok (.getfield 10, 3) := by decide +kernel
theorem d_Wm_back_73 : decode b_Wm_back 73 = .ok (.getfield 60, 3) := by decide +kernel
theorem d_Wm_back_76 : decode b_Wm_back 76 = .ok (.ireturn, 1) := by decide +kernel
theorem d_Wm_byteOf_0 : decode b_Wm_byteOf 0 = .ok (.aload_n 0, 1) := by decide +kernel
theorem d_Wm_byteOf_1 : decode b_Wm_byteOf 1 = .ok (.iload_n 1, 1) := by decide +kernel
theorem d_Wm_byteOf_2 : decode b_Wm_byteOf 2 = .ok (.iload_n 2, 1) := by decide +kernel
theorem d_Wm_byteOf_3 : decode b_Wm_byteOf 3 = .ok (.invokevirtual 143, 3) := by decide +kernel
theorem d_Wm_byteOf_6 : decode b_Wm_byteOf 6 = .ok (.istore 4, 2) := by decide +kernel
theorem d_Wm_byteOf_8 : decode b_Wm_byteOf 8 = .ok (.iload_n 3, 1) := by decide +kernel
theorem d_Wm_byteOf_9 : decode b_Wm_byteOf 9 = .ok (.ifCond .lt 28, 3) := by decide +kernel
theorem d_Wm_byteOf_12 : decode b_Wm_byteOf 12 = .ok (.iload_n 3, 1) := by decide +kernel
theorem d_Wm_byteOf_13 : decode b_Wm_byteOf 13 = .ok (.aload_n 0, 1) := by decide +kernel
theorem d_Wm_byteOf_14 : decode b_Wm_byteOf 14 = .ok (.getfield 19, 3) := by decide +kernel
theorem d_Wm_byteOf_17 : decode b_Wm_byteOf 17 = .ok (.getfield 153, 3) := by decide +kernel
theorem d_Wm_byteOf_20 : decode b_Wm_byteOf 20 = .ok (.iload 4, 2) := by decide +kernel
theorem d_Wm_byteOf_22 : decode b_Wm_byteOf 22 = .ok (.iaload, 1) := by decide +kernel
theorem d_Wm_byteOf_23 : decode b_Wm_byteOf 23 = .ok (.aload_n 0, 1) := by decide +kernel
theorem d_Wm_byteOf_24 : decode b_Wm_byteOf 24 = .ok (.getfield 19, 3) := by decide +kernel
theorem d_Wm_byteOf_27 : decode b_Wm_byteOf 27 = .ok (.getfield 156, 3) := by decide +kernel
theorem d_Wm_byteOf_30 : decode b_Wm_byteOf 30 = .ok (.iload 4, 2) := by decide +kernel
theorem d_Wm_byteOf_32 : decode b_Wm_byteOf 32 = .ok (.iaload, 1) := by decide +kernel
theorem d_Wm_byteOf_33 : decode b_Wm_byteOf 33 = .ok (.iadd, 1) := by decide +kernel
theorem d_Wm_byteOf_34 : decode b_Wm_byteOf 34 = .ok (.if_icmp .lt 11, 3) := by decide +kernel
theorem d_Wm_byteOf_37 : decode b_Wm_byteOf 37 = .ok (.new 123, 3) := by decide +kernel
theorem d_Wm_byteOf_40 : decode b_Wm_byteOf 40 = .ok (.dup, 1) := by decide +kernel
theorem d_Wm_byteOf_41 : decode b_Wm_byteOf 41 = .ok (.invokespecial 125, 3) := by decide +kernel
theorem d_Wm_byteOf_44 : decode b_Wm_byteOf 44 = .ok (.athrow, 1) := by decide +kernel
theorem d_Wm_byteOf_45 : decode b_Wm_byteOf 45 = .ok (.aload_n 0, 1) := by decide +kernel
theorem d_Wm_byteOf_46 : decode b_Wm_byteOf 46 = .ok (.getfield 19, 3) := by decide +kernel
theorem d_Wm_byteOf_49 : decode b_Wm_byteOf 49 = .ok (.getfield 43, 3) := by decide +kernel
theorem d_Wm_byteOf_52 : decode b_Wm_byteOf 52 = .ok (.aload_n 0, 1) := by decide +kernel
theorem d_Wm_byteOf_53 : decode b_Wm_byteOf 53 = .ok (.getfield 19, 3) := by decide +kernel
theorem d_Wm_byteOf_56 : decode b_Wm_byteOf 56 = .ok (.getfield 162, 3) := by decide +kernel
theorem d_Wm_byteOf_59 : decode b_Wm_byteOf 59 = .ok (.iload 4, 2) := by decide +kernel
theorem d_Wm_byteOf_61 : decode b_Wm_byteOf 61 = .ok (.iaload, 1) := by decide +kernel
theorem d_Wm_byteOf_62 : decode b_Wm_byteOf 62 = .ok (.iload_n 3, 1) := by decide +kernel
theorem d_Wm_byteOf_63 : decode b_Wm_byteOf 63 = .ok (.iadd, 1) := by decide +kernel
theorem d_Wm_byteOf_64 : decode b_Wm_byteOf 64 = .ok (.invokevirtual 130, 3) := by decide +kernel
theorem d_Wm_byteOf_67 : decode b_Wm_byteOf 67 = .ok (.ireturn, 1) := by decide +kernel
theorem d_Wm_count_0 : decode b_Wm_count 0 = .ok (.iload_n 1, 1) := by decide +kernel
theorem d_Wm_count_1 : decode b_Wm_count 1 = .ok (.tableswitch 63 0 3 #[31, 39, 50, 58], 31) := by decide +kernel
theorem d_Wm_count_32 : decode b_Wm_count 32 = .ok (.aload_n 0, 1) := by decide +kernel
theorem d_Wm_count_33 : decode b_Wm_count 33 = .ok (.getfield 10, 3) := by decide +kernel
theorem d_Wm_count_36 : decode b_Wm_count 36 = .ok (.getfield 60, 3) := by decide +kernel
theorem d_Wm_count_39 : decode b_Wm_count 39 = .ok (.ireturn, 1) := by decide +kernel
theorem d_Wm_count_40 : decode b_Wm_count 40 = .ok (.aload_n 0, 1) := by decide +kernel
theorem d_Wm_count_41 : decode b_Wm_count 41 = .ok (.getfield 37, 3) := by decide +kernel
theorem d_Wm_count_44 : decode b_Wm_count 44 = .ok (.getfield 120, 3) := by decide +kernel
theorem d_Wm_count_47 : decode b_Wm_count 47 = .ok (.getfield 60, 3) := by decide +kernel
theorem d_Wm_count_50 : decode b_Wm_count 50 = .ok (.ireturn, 1) := by decide +kernel
theorem d_Wm_count_51 : decode b_Wm_count 51 = .ok (.aload_n 0, 1) := by decide +kernel
theorem d_Wm_count_52 : decode b_Wm_count 52 = .ok (.getfield 37, 3) := by decide +kernel
theorem d_Wm_count_55 : decode b_Wm_count 55 = .ok (.getfield 168, 3) := by decide +kernel
theorem d_Wm_count_58 : decode b_Wm_count 58 = .ok (.ireturn, 1) := by decide +kernel
theorem d_Wm_count_59 : decode b_Wm_count 59 = .ok (.aload_n 0, 1) := by decide +kernel
theorem d_Wm_count_60 : decode b_Wm_count 60 = .ok (.getfield 57, 3) := by decide +kernel
theorem d_Wm_count_63 : decode b_Wm_count 63 = .ok (.ireturn, 1) := by decide +kernel
theorem d_Wm_count_64 : decode b_Wm_count 64 = .ok (.iconst (-1), 1) := by decide +kernel
theorem d_Wm_count_65 : decode b_Wm_count 65 = .ok (.ireturn, 1) := by decide +kernel
theorem d_Wm_header_0 : decode b_Wm_header 0 = .ok (.iload_n 1, 1) := by decide +kernel
theorem d_Wm_header_1 : decode b_Wm_header 1 = .ok (.tableswitch 67 0 5 #[39, 47, 55, 55, 55, 55], 39) := by decide +kernel
theorem d_Wm_header_40 : decode b_Wm_header 40 = .ok (.aload_n 0, 1) := by decide +kernel
theorem d_Wm_header_41 : decode b_Wm_header 41 = .ok (.getfield 19, 3) := by decide +kernel
theorem d_Wm_header_44 : decode b_Wm_header 44 = .ok (.getfield 137, 3) := by decide +kernel
theorem d_Wm_header_47 : decode b_Wm_header 47 = .ok (.ireturn, 1) := by decide +kernel
theorem d_Wm_header_48 : decode b_Wm_header 48 = .ok (.aload_n 0, 1) := by decide +kernel
theorem d_Wm_header_49 : decode b_Wm_header 49 = .ok (.getfield 19, 3) := by decide +kernel
theorem d_Wm_header_52 : decode b_Wm_header 52 = .ok (.getfield 140, 3) := by decide +kernel
theorem d_Wm_header_55 : decode b_Wm_header 55 = .ok (.ireturn, 1) := by decide +kernel
theorem d_Wm_header_56 : decode b_Wm_header 56 = .ok (.aload_n 0, 1) := by decide +kernel
theorem d_Wm_header_57 : decode b_Wm_header 57 = .ok (.getfield 19, 3) := by decide +kernel
theorem d_Wm_header_60 : decode b_Wm_header 60 = .ok (.getfield 100, 3) := by decide +kernel
theorem d_Wm_header_63 : decode b_Wm_header 63 = .ok (.iload_n 1, 1) := by decide +kernel
theorem d_Wm_header_64 : decode b_Wm_header 64 = .ok (.iconst 2, 1) := by decide +kernel
theorem d_Wm_header_65 : decode b_Wm_header 65 = .ok (.isub, 1) := by decide +kernel
theorem d_Wm_header_66 : decode b_Wm_header 66 = .ok (.iaload, 1) := by decide +kernel
theorem d_Wm_header_67 : decode b_Wm_header 67 = .ok (.ireturn, 1) := by decide +kernel
theorem d_Wm_header_68 : decode b_Wm_header 68 = .ok (.new 71, 3) := by decide +kernel
theorem d_Wm_header_71 : decode b_Wm_header 71 = .ok (.dup, 1) := by decide +kernel
theorem d_Wm_header_72 : decode b_Wm_header 72 = .ok (.invokespecial 73, 3) := by decide +kernel
theorem d_Wm_header_75 : decode b_Wm_header 75 = .ok (.athrow, 1) := by decide +kernel
theorem d_Wm_order_0 : decode b_Wm_order 0 = .ok (.aload_n 0, 1) := by decide +kernel
theorem d_Wm_order_1 : decode b_Wm_order 1 = .ok (.iload_n 1, 1) := by decide +kernel
theorem d_Wm_order_2 : decode b_Wm_order 2 = .ok (.iload_n 2, 1) := by decide +kernel
theorem d_Wm_order_3 : decode b_Wm_order 3 = .ok (.invokevirtual 143, 3) := by decide +kernel
theorem d_Wm_order_6 : decode b_Wm_order 6 = .ok (.istore 5, 2) := by decide +kernel
theorem d_Wm_order_8 : decode b_Wm_order 8 = .ok (.aload_n 0, 1) := by decide +kernel
theorem d_Wm_order_9 : decode b_Wm_order 9 = .ok (.iload_n 3, 1) := by decide +kernel
theorem d_Wm_order_10 : decode b_Wm_order 10 = .ok (.iload 4, 2) := by decide +kernel
theorem d_Wm_order_12 : decode b_Wm_order 12 = .ok (.invokevirtual 143, 3) := by decide +kernel
theorem d_Wm_order_15 : decode b_Wm_order 15 = .ok (.istore 6, 2) := by decide +kernel
theorem d_Wm_order_17 : decode b_Wm_order 17 = .ok (.aload_n 0, 1) := by decide +kernel
theorem d_Wm_order_18 : decode b_Wm_order 18 = .ok (.getfield 49, 3) := by decide +kernel
theorem d_Wm_order_21 : decode b_Wm_order 21 = .ok (.aload_n 0, 1) := by decide +kernel
theorem d_Wm_order_22 : decode b_Wm_order 22 = .ok (.getfield 19, 3) := by decide +kernel
theorem d_Wm_order_25 : decode b_Wm_order 25 = .ok (.getfield 162, 3) := by decide +kernel
theorem d_Wm_order_28 : decode b_Wm_order 28 = .ok (.iload 5, 2) := by decide +kernel
theorem d_Wm_order_30 : decode b_Wm_order 30 = .ok (.iaload, 1) := by decide +kernel
theorem d_Wm_order_31 : decode b_Wm_order 31 = .ok (.aload_n 0, 1) := by decide +kernel
theorem d_Wm_order_32 : decode b_Wm_order 32 = .ok (.getfield 19, 3) := by decide +kernel
theorem d_Wm_order_35 : decode b_Wm_order 35 = .ok (.getfield 162, 3) := by decide +kernel
theorem d_Wm_order_38 : decode b_Wm_order 38 = .ok (.iload 6, 2) := by decide +kernel
theorem d_Wm_order_40 : decode b_Wm_order 40 = .ok (.iaload, 1) := by decide +kernel
theorem d_Wm_order_41 : decode b_Wm_order 41 = .ok (.invokevirtual 165, 3) := by decide +kernel
theorem d_Wm_order_44 : decode b_Wm_order 44 = .ok (.ireturn, 1) := by decide +kernel
theorem d_Wm_rowThatIs_0 : decode b_Wm_rowThatIs 0 = .ok (.aload_n 0, 1) := by decide +kernel
theorem d_Wm_rowThatIs_1 : decode b_Wm_rowThatIs 1 = .ok (.getfield 19, 3) := by decide +kernel
theorem d_Wm_rowThatIs_4 : decode b_Wm_rowThatIs 4 = .ok (.iload_n 1, 1) := by decide +kernel
theorem d_Wm_rowThatIs_5 : decode b_Wm_rowThatIs 5 = .ok (.iload_n 2, 1) := by decide +kernel
theorem d_Wm_rowThatIs_6 : decode b_Wm_rowThatIs 6 = .ok (.invokevirtual 171, 3) := by decide +kernel
theorem d_Wm_rowThatIs_9 : decode b_Wm_rowThatIs 9 = .ok (.istore_n 3, 1) := by decide +kernel
theorem d_Wm_rowThatIs_10 : decode b_Wm_rowThatIs 10 = .ok (.iload_n 3, 1) := by decide +kernel
theorem d_Wm_rowThatIs_11 : decode b_Wm_rowThatIs 11 = .ok (.ifCond .ge 11, 3) := by decide +kernel
theorem d_Wm_rowThatIs_14 : decode b_Wm_rowThatIs 14 = .ok (.new 104, 3) := by decide +kernel
theorem d_Wm_rowThatIs_17 : decode b_Wm_rowThatIs 17 = .ok (.dup, 1) := by decide +kernel
theorem d_Wm_rowThatIs_18 : decode b_Wm_rowThatIs 18 = .ok (.invokespecial 106, 3) := by decide +kernel
theorem d_Wm_rowThatIs_21 : decode b_Wm_rowThatIs 21 = .ok (.athrow, 1) := by decide +kernel
theorem d_Wm_rowThatIs_22 : decode b_Wm_rowThatIs 22 = .ok (.iload_n 3, 1) := by decide +kernel
theorem d_Wm_rowThatIs_23 : decode b_Wm_rowThatIs 23 = .ok (.ireturn, 1) := by decide +kernel
theorem d_Wm_same_0 : decode b_Wm_same 0 = .ok (.aload_n 0, 1) := by decide +kernel
theorem d_Wm_same_1 : decode b_Wm_same 1 = .ok (.iload_n 1, 1) := by decide +kernel
theorem d_Wm_same_2 : decode b_Wm_same 2 = .ok (.iload_n 2, 1) := by decide +kernel
theorem d_Wm_same_3 : decode b_Wm_same 3 = .ok (.invokevirtual 143, 3) := by decide +kernel
theorem d_Wm_same_6 : decode b_Wm_same 6 = .ok (.istore 5, 2) := by decide +kernel
theorem d_Wm_same_8 : decode b_Wm_same 8 = .ok (.aload_n 0, 1) := by decide +kernel
theorem d_Wm_same_9 : decode b_Wm_same 9 = .ok (.iload_n 3, 1) := by decide +kernel
theorem d_Wm_same_10 : decode b_Wm_same 10 = .ok (.iload 4, 2) := by decide +kernel
theorem d_Wm_same_12 : decode b_Wm_same 12 = .ok (.invokevirtual 143, 3) := by decide +kernel
theorem d_Wm_same_15 : decode b_Wm_same 15 = .ok (.istore 6, 2) := by decide +kernel
theorem d_Wm_same_17 : decode b_Wm_same 17 = .ok (.aload_n 0, 1) := by decide +kernel
theorem d_Wm_same_18 : decode b_Wm_same 18 = .ok (.getfield 49, 3) := by decide +kernel
theorem d_Wm_same_21 : decode b_Wm_same 21 = .ok (.aload_n 0, 1) := by decide +kernel
theorem d_Wm_same_22 : decode b_Wm_same 22 = .ok (.getfield 19, 3) := by decide +kernel
theorem d_Wm_same_25 : decode b_Wm_same 25 = .ok (.getfield 162, 3) := by decide +kernel
theorem d_Wm_same_28 : decode b_Wm_same 28 = .ok (.iload 5, 2) := by decide +kernel
theorem d_Wm_same_30 : decode b_Wm_same 30 = .ok (.iaload, 1) := by decide +kernel
theorem d_Wm_same_31 : decode b_Wm_same 31 = .ok (.aload_n 0, 1) := by decide +kernel
theorem d_Wm_same_32 : decode b_Wm_same 32 = .ok (.getfield 19, 3) := by decide +kernel
theorem d_Wm_same_35 : decode b_Wm_same 35 = .ok (.getfield 162, 3) := by decide +kernel
theorem d_Wm_same_38 : decode b_Wm_same 38 = .ok (.iload 6, 2) := by decide +kernel
theorem d_Wm_same_40 : decode b_Wm_same 40 = .ok (.iaload, 1) := by decide +kernel
theorem d_Wm_same_41 : decode b_Wm_same 41 = .ok (.invokevirtual 165, 3) := by decide +kernel
theorem d_Wm_same_44 : decode b_Wm_same 44 = .ok (.ifCond .ne 7, 3) := by decide +kernel
theorem d_Wm_same_47 : decode b_Wm_same 47 = .ok (.iconst 1, 1) := by decide +kernel
theorem d_Wm_same_48 : decode b_Wm_same 48 = .ok (.goto 4, 3) := by decide +kernel
theorem d_Wm_same_51 : decode b_Wm_same 51 = .ok (.iconst 0, 1) := by decide +kernel
theorem d_Wm_same_52 : decode b_Wm_same 52 = .ok (.ireturn, 1) := by decide +kernel
theorem d_Wm_told_0 : decode b_Wm_told 0 = .ok (.aload_n 0, 1) := by decide +kernel
theorem d_Wm_told_1 : decode b_Wm_told 1 = .ok (.iload_n 1, 1) := by decide +kernel
theorem d_Wm_told_2 : decode b_Wm_told 2 = .ok (.iload_n 2, 1) := by decide +kernel
theorem d_Wm_told_3 : decode b_Wm_told 3 = .ok (.invokevirtual 143, 3) := by decide +kernel
theorem d_Wm_told_6 : decode b_Wm_told 6 = .ok (.istore 4, 2) := by decide +kernel
theorem d_Wm_told_8 : decode b_Wm_told 8 = .ok (.iload_n 3, 1) := by decide +kernel
theorem d_Wm_told_9 : decode b_Wm_told 9 = .ok (.ifCond .lt 17, 3) := by decide +kernel
theorem d_Wm_told_12 : decode b_Wm_told 12 = .ok (.iload_n 3, 1) := by decide +kernel
theorem d_Wm_told_13 : decode b_Wm_told 13 = .ok (.iconst 4, 1) := by decide +kernel
theorem d_Wm_told_14 : decode b_Wm_told 14 = .ok (.if_icmp .gt 12, 3) := by decide +kernel
theorem d_Wm_told_17 : decode b_Wm_told 17 = .ok (.iload_n 1, 1) := by decide +kernel
theorem d_Wm_told_18 : decode b_Wm_told 18 = .ok (.ifCond .ne 16, 3) := by decide +kernel
theorem d_Wm_told_21 : decode b_Wm_told 21 = .ok (.iload_n 3, 1) := by decide +kernel
theorem d_Wm_told_22 : decode b_Wm_told 22 = .ok (.iconst 2, 1) := by decide +kernel
theorem d_Wm_told_23 : decode b_Wm_told 23 = .ok (.if_icmp .le 11, 3) := by decide +kernel
theorem d_Wm_told_26 : decode b_Wm_told 26 = .ok (.new 71, 3) := by decide +kernel
theorem d_Wm_told_29 : decode b_Wm_told 29 = .ok (.dup, 1) := by decide +kernel
theorem d_Wm_told_30 : decode b_Wm_told 30 = .ok (.invokespecial 73, 3) := by decide +kernel
theorem d_Wm_told_33 : decode b_Wm_told 33 = .ok (.athrow, 1) := by decide +kernel
theorem d_Wm_told_34 : decode b_Wm_told 34 = .ok (.iload_n 3, 1) := by decide +kernel
theorem d_Wm_told_35 : decode b_Wm_told 35 = .ok (.tableswitch 73 0 3 #[29, 40, 51, 62], 29) := by decide +kernel
theorem d_Wm_told_64 : decode b_Wm_told 64 = .ok (.aload_n 0, 1) := by decide +kernel
theorem d_Wm_told_65 : decode b_Wm_told 65 = .ok (.getfield 19, 3) := by decide +kernel
theorem d_Wm_told_68 : decode b_Wm_told 68 = .ok (.getfield 147, 3) := by decide +kernel
theorem d_Wm_told_71 : decode b_Wm_told 71 = .ok (.iload 4, 2) := by decide +kernel
theorem d_Wm_told_73 : decode b_Wm_told 73 = .ok (.iaload, 1) := by decide +kernel
theorem d_Wm_told_74 : decode b_Wm_told 74 = .ok (.ireturn, 1) := by decide +kernel
theorem d_Wm_told_75 : decode b_Wm_told 75 = .ok (.aload_n 0, 1) := by decide +kernel
theorem d_Wm_told_76 : decode b_Wm_told 76 = .ok (.getfield 19, 3) := by decide +kernel
theorem d_Wm_told_79 : decode b_Wm_told 79 = .ok (.getfield 150, 3) := by decide +kernel
theorem d_Wm_told_82 : decode b_Wm_told 82 = .ok (.iload 4, 2) := by decide +kernel
theorem d_Wm_told_84 : decode b_Wm_told 84 = .ok (.iaload, 1) := by decide +kernel
theorem d_Wm_told_85 : decode b_Wm_told 85 = .ok (.ireturn, 1) := by decide +kernel
theorem d_Wm_told_86 : decode b_Wm_told 86 = .ok (.aload_n 0, 1) := by decide +kernel
theorem d_Wm_told_87 : decode b_Wm_told 87 = .ok (.getfield 19, 3) := by decide +kernel
theorem d_Wm_told_90 : decode b_Wm_told 90 = .ok (.getfield 153, 3) := by decide +kernel
theorem d_Wm_told_93 : decode b_Wm_told 93 = .ok (.iload 4, 2) := by decide +kernel
theorem d_Wm_told_95 : decode b_Wm_told 95 = .ok (.iaload, 1) := by decide +kernel
theorem d_Wm_told_96 : decode b_Wm_told 96 = .ok (.ireturn, 1) := by decide +kernel
theorem d_Wm_told_97 : decode b_Wm_told 97 = .ok (.aload_n 0, 1) := by decide +kernel
theorem d_Wm_told_98 : decode b_Wm_told 98 = .ok (.getfield 19, 3) := by decide +kernel
theorem d_Wm_told_101 : decode b_Wm_told 101 = .ok (.getfield 156, 3) := by decide +kernel
theorem d_Wm_told_104 : decode b_Wm_told 104 = .ok (.iload 4, 2) := by decide +kernel
theorem d_Wm_told_106 : decode b_Wm_told 106 = .ok (.iaload, 1) := by decide +kernel
theorem d_Wm_told_107 : decode b_Wm_told 107 = .ok (.ireturn, 1) := by decide +kernel
theorem d_Wm_told_108 : decode b_Wm_told 108 = .ok (.aload_n 0, 1) := by decide +kernel
theorem d_Wm_told_109 : decode b_Wm_told 109 = .ok (.getfield 19, 3) := by decide +kernel
theorem d_Wm_told_112 : decode b_Wm_told 112 = .ok (.getfield 159, 3) := by decide +kernel
theorem d_Wm_told_115 : decode b_Wm_told 115 = .ok (.iload 4, 2) := by decide +kernel
theorem d_Wm_told_117 : decode b_Wm_told 117 = .ok (.iaload, 1) := by decide +kernel
theorem d_Wm_told_118 : decode b_Wm_told 118 = .ok (.ireturn, 1) := by decide +kernel
theorem d_Wm_written_0 : decode b_Wm_written 0 = .ok (.iload_n 1, 1) := by decide +kernel
theorem d_Wm_written_1 : decode b_Wm_written 1 = .ok (.ifCond .lt 17, 3) := by decide +kernel
theorem d_Wm_written_4 : decode b_Wm_written 4 = .ok (.iload_n 1, 1) := by decide +kernel
theorem d_Wm_written_5 : decode b_Wm_written 5 = .ok (.aload_n 0, 1) := by decide +kernel
theorem d_Wm_written_6 : decode b_Wm_written 6 = .ok (.getfield 37, 3) := by decide +kernel
theorem d_Wm_written_9 : decode b_Wm_written 9 = .ok (.getfield 120, 3) := by decide +kernel
theorem d_Wm_written_12 : decode b_Wm_written 12 = .ok (.getfield 60, 3) := by decide +kernel
theorem d_Wm_written_15 : decode b_Wm_written 15 = .ok (.if_icmp .lt 11, 3) := by decide +kernel
theorem d_Wm_written_18 : decode b_Wm_written 18 = .ok (.new 123, 3) := by decide +kernel
theorem d_Wm_written_21 : decode b_Wm_written 21 = .ok (.dup, 1) := by decide +kernel
theorem d_Wm_written_22 : decode b_Wm_written 22 = .ok (.invokespecial 125, 3) := by decide +kernel
theorem d_Wm_written_25 : decode b_Wm_written 25 = .ok (.athrow, 1) := by decide +kernel
theorem d_Wm_written_26 : decode b_Wm_written 26 = .ok (.aload_n 0, 1) := by decide +kernel
theorem d_Wm_written_27 : decode b_Wm_written 27 = .ok (.getfield 37, 3) := by decide +kernel
theorem d_Wm_written_30 : decode b_Wm_written 30 = .ok (.getfield 120, 3) := by decide +kernel
theorem d_Wm_written_33 : decode b_Wm_written 33 = .ok (.iload_n 1, 1) := by decide +kernel
theorem d_Wm_written_34 : decode b_Wm_written 34 = .ok (.invokevirtual 130, 3) := by decide +kernel
theorem d_Wm_written_37 : decode b_Wm_written 37 = .ok (.ireturn, 1) := by decide +kernel
set_option maxHeartbeats 4000000 in
set_option maxRecDepth 100000 in
/-- written -/
theorem m_Wm_written (l : Launch) (D9 : va_G) (cB cI cJ cG : ClassId) (a : Nat → Nat) (O : Nat → Int64) (I : Nat → Int32) (F : Nat → Nat → Int32) (hfl : l.flags = pinnedFlags ++ [noTraceFlag]) (M : List Nat) (hM : BR 0 65536 (F 21) M) (h13 : I 13 = nI M.length) (hMl : M.length ≤ 65536) (v0 : Int32) : MZW l D9 cB cI cJ cG a O y_Wm_written b_Wm_written 2 (some .int) 6 [.ref (a 0), .int (v0)] I F (fun v I' F' => ∃ k, k < M.length ∧ v0 = nI k ∧ v = some (.int (nI (tb M k))) ∧ I = I' ∧ F = F') (fun E I' F' => E = "java/lang/IndexOutOfBoundsException" ∧ (∀ k, k < M.length → v0 ≠ nI k) ∧ I = I' ∧ F = F') := by
  refine mzw_of hfl (by decide) (Nat.le_of_ble_eq_true rfl) (by decide) ?_
  intro p e s m below meth c ls A0 Q C0 hP hD hA hS hZ hl hret hthr hlv
  obtain ⟨hx, hb, hml, hr, hlocks, hown, hts, hK⟩ := id C0
  have hl : lv_has ls 2 [(0, .ref (a 0)), (1, .int (v0))] := hl
  rcases pk_ix v0 (n := M.length) (by omega) with h9 | h9 | ⟨k, hk, rfl⟩
  · refine lv_iload_n hx hb d_Wm_written_0 rfl (lv_at hl 1 rfl) ?_
    refine lv_if_lt (tgt := 18) hx hb d_Wm_written_1 (by decide) (fun c1 => ?_) (fun c1 => ?_)
    · exact hthr "java/lang/IndexOutOfBoundsException" 123 125 _ _ _ _ _ _ _ (by decide +kernel) at_Wm_125 g_628 g_19 hS hP hD hl.1 (Nat.le_of_ble_eq_true rfl) d_Wm_written_18 d_Wm_written_21 d_Wm_written_22 d_Wm_written_25 (⟨rfl, fun k hk z9 => by rw [z9] at h9; exact nI_pos (by omega) h9, rfl, rfl⟩)
    · exact absurd h9 c1
  · refine lv_iload_n hx hb d_Wm_written_0 rfl (lv_at hl 1 rfl) ?_
    refine lv_if_lt (tgt := 18) hx hb d_Wm_written_1 (by decide) (fun c2 => ?_) (fun c2 => ?_)
    · exact absurd (Int32.lt_of_le_of_lt (Int32.le_trans (nI_pos' (show M.length < 2 ^ 31 by omega)) h9) c2) (by decide)
    · refine lv_iload_n hx hb d_Wm_written_4 rfl (lv_at hl 1 rfl) ?_
      refine lv_aload_n hx hb d_Wm_written_5 rfl (lv_at hl 0 rfl) ?_
      refine va_get (D := D9) (ci := 6) (C := R_Wm) (T := F_Wm) (N := 7) hx hb hts i_Wm hown hK hP 0 ww_0 rfl 3 (by decide) (hts _ g_225) (fun _ h9 => h9) rfl d_Wm_written_6 ?_
      refine va_getN (D := D9) (ci := 5) (C := R_Wr) (T := F_Wr) (N := 6) hx hb hts i_Wr hown hK hP 18 ww_18 rfl 1 (by decide) (hts _ g_187) (fun _ h9 => h9) rfl d_Wm_written_9 ?_
      refine va_getN (D := D9) (ci := 0) (C := R_By) (T := F_By) (N := 2) hx hb hts i_By hown hK hP 20 ww_20 rfl 1 (by decide) (hts _ g_36) (fun _ h9 => h9) rfl d_Wm_written_12 ?_
      refine lv_topq (y := nI M.length) (h13) ?_
      refine lv_icmp_lt (tgt := 26) hx hb d_Wm_written_15 (by decide) (fun c3 => ?_) (fun c3 => ?_)
      · exact absurd (Int32.lt_of_le_of_lt h9 c3) (by simp)
      · exact hthr "java/lang/IndexOutOfBoundsException" 123 125 _ _ _ _ _ _ _ (by decide +kernel) at_Wm_125 g_628 g_19 hS hP hD hl.1 (Nat.le_of_ble_eq_true rfl) d_Wm_written_18 d_Wm_written_21 d_Wm_written_22 d_Wm_written_25 (⟨rfl, fun k hk z9 => by rw [z9] at h9; exact nI_ge hk (by omega) h9, rfl, rfl⟩)
  · refine lv_iload_n hx hb d_Wm_written_0 rfl (lv_at hl 1 rfl) ?_
    refine lv_if_lt (tgt := 18) hx hb d_Wm_written_1 (by decide) (fun c4 => ?_) (fun c4 => ?_)
    · have c4 : k < 0 := (nI_ltI (a := k) (b := 0) (by omega) (by omega)).mp c4
      exfalso; omega
    · have c4 : ¬ (k < 0) := fun z9 => c4 ((nI_ltI (a := k) (b := 0) (by omega) (by omega)).mpr z9)
      refine lv_iload_n hx hb d_Wm_written_4 rfl (lv_at hl 1 rfl) ?_
      refine lv_aload_n hx hb d_Wm_written_5 rfl (lv_at hl 0 rfl) ?_
      refine va_get (D := D9) (ci := 6) (C := R_Wm) (T := F_Wm) (N := 7) hx hb hts i_Wm hown hK hP 0 ww_0 rfl 3 (by decide) (hts _ g_225) (fun _ h9 => h9) rfl d_Wm_written_6 ?_
      refine va_getN (D := D9) (ci := 5) (C := R_Wr) (T := F_Wr) (N := 6) hx hb hts i_Wr hown hK hP 18 ww_18 rfl 1 (by decide) (hts _ g_187) (fun _ h9 => h9) rfl d_Wm_written_9 ?_
      refine va_getN (D := D9) (ci := 0) (C := R_By) (T := F_By) (N := 2) hx hb hts i_By hown hK hP 20 ww_20 rfl 1 (by decide) (hts _ g_36) (fun _ h9 => h9) rfl d_Wm_written_12 ?_
      refine lv_topq (y := nI M.length) (h13) ?_
      refine lv_icmp_lt (tgt := 26) hx hb d_Wm_written_15 (by decide) (fun c5 => ?_) (fun c5 => ?_)
      · have c5 : k < M.length := (nI_ltI (a := k) (b := M.length) (by omega) (by omega)).mp c5
        refine lv_aload_n hx hb d_Wm_written_26 rfl (lv_at hl 0 rfl) ?_
        refine va_get (D := D9) (ci := 6) (C := R_Wm) (T := F_Wm) (N := 7) hx hb hts i_Wm hown hK hP 0 ww_0 rfl 3 (by decide) (hts _ g_225) (fun _ h9 => h9) rfl d_Wm_written_27 ?_
        refine va_getN (D := D9) (ci := 5) (C := R_Wr) (T := F_Wr) (N := 6) hx hb hts i_Wr hown hK hP 18 ww_18 rfl 1 (by decide) (hts _ g_187) (fun _ h9 => h9) rfl d_Wm_written_30 ?_
        refine lv_iload_n hx hb d_Wm_written_33 rfl (lv_at hl 1 rfl) ?_
        refine mw_cVN (ci := 0) (k := 20) C0 (m_By_atL_ms l D9 cB cI cJ cG a O _ _ M k hM hMl hk) g_259 g_2 g_644 g_258 gs_By_at ⟨by decide +kernel, by decide +kernel, show Option.map (fun d => d.parameters.length) (parseMethodDescriptor y_By_at.desc) = some 1 by decide +kernel⟩ ⟨by decide, by decide⟩ rfl rfl hP hD hS hA rfl ww_20 hl.1 (Nat.le_of_ble_eq_true rfl) rfl d_Wm_written_34 ⟨by decide, by decide⟩ (fun v9 w9 H locs hq hP hD hS => ?_)
        obtain ⟨I6, F7, hw9, q8⟩ := hq
        subst hw9
        obtain ⟨rfl, rfl, rfl⟩ := q8
        exact hret _ _ _ _ _ _ _ hS hP hD d_Wm_written_37 nr_i (⟨k, hk, rfl, rfl, rfl, rfl⟩)
      · have c5 : ¬ (k < M.length) := fun z9 => c5 ((nI_ltI (a := k) (b := M.length) (by omega) (by omega)).mpr z9)
        exfalso; omega
set_option maxHeartbeats 4000000 in
set_option maxRecDepth 100000 in
/-- back -/
theorem m_Wm_back (l : Launch) (D9 : va_G) (cB cI cJ cG : ClassId) (a : Nat → Nat) (O : Nat → Int64) (I : Nat → Int32) (F : Nat → Nat → Int32) (hfl : l.flags = pinnedFlags ++ [noTraceFlag]) (t : List Nat) (hT2 : I 2 = nI t.length) (htl : t.length ≤ 65536) (hT : BR 0 65536 (F 2) t) (M : List Nat) (hM : BR 0 65536 (F 21) M) (h13 : I 13 = nI M.length) (hMl : M.length ≤ 65536) (v0 v1 : Int32) : MZW l D9 cB cI cJ cG a O y_Wm_back b_Wm_back 4 (some .int) 6 [.ref (a 0), .int (v0), .int (v1)] I F (fun v I' F' => ¬ v0 < -1 ∧ (v0 < 0 ∨ ∃ k, k < M.length ∧ v0 = nI k) ∧ v = some (.int (nI M.length)) ∧ sm [2] I I' ∧ I' 2 = nI M.length ∧ sm [2] F F' ∧ BR 0 65536 (F' 2) (bkL M v0 v1)) (fun E I' F' => E = "java/lang/IndexOutOfBoundsException" ∧ (v0 < -1 ∨ nI M.length ≤ v0) ∧ I = I' ∧ F = F') := by
  refine mzw_of hfl (by decide) (Nat.le_of_ble_eq_true rfl) (by decide) ?_
  intro p e s m below meth c ls A0 Q C0 hP hD hA hS hZ hl hret hthr hlv
  obtain ⟨hx, hb, hml, hr, hlocks, hown, hts, hK⟩ := id C0
  have hl : lv_has ls 4 [(0, .ref (a 0)), (1, .int (v0)), (2, .int (v1))] := hl
  rcases pk_ix v0 (n := M.length) (by omega) with h9 | h9 | ⟨k, hk, rfl⟩
  · by_cases hm1 : v0 = -1
    · have hbk : bkL M v0 v1 = M := by unfold bkL; rw [if_pos h9]
      have hxb : v0 < 0 ∨ ∃ k, k < M.length ∧ v0 = nI k := Or.inl h9
      have hxo : ¬ v0 < -1 := by rw [hm1]; decide
      refine lv_aload_n hx hb d_Wm_back_0 rfl (lv_at hl 0 rfl) ?_
      refine va_get (D := D9) (ci := 6) (C := R_Wm) (T := F_Wm) (N := 7) hx hb hts i_Wm hown hK hP 0 ww_0 rfl 3 (by decide) (hts _ g_225) (fun _ h9 => h9) rfl d_Wm_back_1 ?_
      refine va_getN (D := D9) (ci := 5) (C := R_Wr) (T := F_Wr) (N := 6) hx hb hts i_Wr hown hK hP 18 ww_18 rfl 1 (by decide) (hts _ g_187) (fun _ h9 => h9) rfl d_Wm_back_4 ?_
      refine lv_astore_n (lv' := [(3, _), (0, _), (1, _), (2, _)]) hx hb d_Wm_back_7 rfl hl (by decide) rfl (fun ls hl => ?_)
      refine lv_iload_n hx hb d_Wm_back_8 rfl (lv_at hl 2 rfl) ?_
      refine lv_iconst (v := -1) hx hb d_Wm_back_9 (by decide) ?_
      refine lv_topq (y := (-1 : Int32)) rfl ?_
      refine lv_icmp_lt (tgt := 21) hx hb d_Wm_back_10 (by decide) (fun c1 => ?_) (fun c1 => ?_)
      · rw [hm1] at c1; exact absurd c1 (by decide)
      · refine lv_iload_n hx hb d_Wm_back_13 rfl (lv_at hl 2 rfl) ?_
        refine lv_aload_n hx hb d_Wm_back_14 rfl (lv_at hl 0 rfl) ?_
        refine va_getN (D := D9) (ci := 0) (C := R_By) (T := F_By) (N := 2) hx hb hts i_By hown hK hP 20 ww_20 rfl 1 (by decide) (hts _ g_36) (fun _ h9 => h9) rfl d_Wm_back_15 ?_
        refine lv_topq (y := nI M.length) (h13) ?_
        refine lv_icmp_lt (tgt := 29) hx hb d_Wm_back_18 (by decide) (fun c2 => ?_) (fun c2 => ?_)
        · refine lv_aload_n hx hb d_Wm_back_29 rfl (lv_at hl 1 rfl) ?_
          refine va_get (D := D9) (ci := 6) (C := R_Wm) (T := F_Wm) (N := 7) hx hb hts i_Wm hown hK hP 0 ww_0 rfl 0 (by decide) (hts _ g_222) (fun _ h9 => h9) rfl d_Wm_back_30 ?_
          refine lv_iconst (v := 0) hx hb d_Wm_back_33 (by decide) ?_
          refine lv_topq (y := nI 0) (rfl) ?_
          refine va_putN (D := D9) (ty := .int) (ci := 0) (C := R_By) (T := F_By) (N := 2) hx hb hts i_By t_By t_By_ok n_By hown hK hP hD hS 1 ww_1 rfl 1 (by decide) (hts _ g_36) (fun _ h9 => h9) rfl (by decide +kernel) rfl rfl (Nat.le_of_ble_eq_true rfl) d_Wm_back_34 (fun H locs hP hD hS => ?_)
          obtain ⟨I3, aI3, sI3, hP, hD⟩ := fx (P := fun z => va_P D9 cls9 (WW a cB cI cJ cG z _ O) H ∧ va_D A0 (WW a cB cI cJ cG z _ O)) ⟨wp_2 hP, wd_2 hD⟩
          refine lv_aload_n hx hb d_Wm_back_37 rfl (lv_at hl 1 rfl) ?_
          refine va_get (D := D9) (ci := 6) (C := R_Wm) (T := F_Wm) (N := 7) hx hb hts i_Wm hown hK hP 0 ww_0 rfl 0 (by decide) (hts _ g_222) (fun _ h9 => h9) rfl d_Wm_back_38 ?_
          refine lv_aload_n hx hb d_Wm_back_41 rfl (lv_at hl 0 rfl) ?_
          refine lv_iconst (v := 0) hx hb d_Wm_back_42 (by decide) ?_
          refine lv_topq (y := nI 0) (rfl) ?_
          refine lv_aload_n hx hb d_Wm_back_43 rfl (lv_at hl 0 rfl) ?_
          refine va_getN (D := D9) (ci := 0) (C := R_By) (T := F_By) (N := 2) hx hb hts i_By hown hK hP 20 ww_20 rfl 1 (by decide) (hts _ g_36) (fun _ h9 => h9) rfl d_Wm_back_44 ?_
          refine lv_topq (y := nI M.length) (((sI3 13 (by decide)).trans h13)) ?_
          refine mw_cVN (ci := 0) (k := 1) C0 (m_By_putFrom_tp_ms l D9 cB cI cJ cG a O _ _ ([] : List Nat) M 0 0 M.length (BR_nil hT.1) hM aI3 hMl (by omega) (by decide)) g_300 g_2 g_643 g_299 gs_By_putFrom ⟨by decide +kernel, by decide +kernel, show Option.map (fun d => d.parameters.length) (parseMethodDescriptor y_By_putFrom.desc) = some 3 by decide +kernel⟩ ⟨by decide, by decide⟩ rfl rfl hP hD hS hA rfl ww_1 hl.1 (Nat.le_of_ble_eq_true rfl) rfl d_Wm_back_47 ⟨by decide, by decide⟩ (fun v9 w9 H locs hq hP hD hS => ?_)
          obtain ⟨I4, F5, hw9, q6⟩ := hq
          subst hw9
          obtain ⟨rfl, spx, z2, sqx, wx⟩ := q6
          rw [sl9_all, List.nil_append] at wx
          have z2 : I4 2 = nI M.length := z2.trans (congrArg nI (Nat.zero_add _))
          refine lv_iload_n hx hb d_Wm_back_50 rfl (lv_at hl 2 rfl) ?_
          refine lv_if_lt (tgt := 69) hx hb d_Wm_back_51 (by decide) (fun c7 => ?_) (fun c7 => ?_)
          · refine lv_aload_n hx hb d_Wm_back_69 rfl (lv_at hl 1 rfl) ?_
            refine va_get (D := D9) (ci := 6) (C := R_Wm) (T := F_Wm) (N := 7) hx hb hts i_Wm hown hK hP 0 ww_0 rfl 0 (by decide) (hts _ g_222) (fun _ h9 => h9) rfl d_Wm_back_70 ?_
            refine va_getN (D := D9) (ci := 0) (C := R_By) (T := F_By) (N := 2) hx hb hts i_By hown hK hP 1 ww_1 rfl 1 (by decide) (hts _ g_36) (fun _ h9 => h9) rfl d_Wm_back_73 ?_
            refine lv_topq (y := nI M.length) (z2) ?_
            exact hret _ _ _ _ _ _ _ hS hP hD d_Wm_back_76 nr_i (⟨hxo, hxb, rfl, (sm_tr (sm_mo sI3 (by decide)) (sm_mo spx (by decide))), z2, (sm_mo sqx (by decide)), by rw [hbk]; exact wx⟩)
          · exact absurd h9 c7
        · exact absurd (Int32.lt_of_lt_of_le h9 (nI_pos' (by omega))) c2
    · have hbad : v0 < -1 ∨ nI M.length ≤ v0 := Or.inl (lt_m1 h9 hm1)
      refine lv_aload_n hx hb d_Wm_back_0 rfl (lv_at hl 0 rfl) ?_
      refine va_get (D := D9) (ci := 6) (C := R_Wm) (T := F_Wm) (N := 7) hx hb hts i_Wm hown hK hP 0 ww_0 rfl 3 (by decide) (hts _ g_225) (fun _ h9 => h9) rfl d_Wm_back_1 ?_
      refine va_getN (D := D9) (ci := 5) (C := R_Wr) (T := F_Wr) (N := 6) hx hb hts i_Wr hown hK hP 18 ww_18 rfl 1 (by decide) (hts _ g_187) (fun _ h9 => h9) rfl d_Wm_back_4 ?_
      refine lv_astore_n (lv' := [(3, _), (0, _), (1, _), (2, _)]) hx hb d_Wm_back_7 rfl hl (by decide) rfl (fun ls hl => ?_)
      refine lv_iload_n hx hb d_Wm_back_8 rfl (lv_at hl 2 rfl) ?_
      refine lv_iconst (v := -1) hx hb d_Wm_back_9 (by decide) ?_
      refine lv_topq (y := (-1 : Int32)) rfl ?_
      refine lv_icmp_lt (tgt := 21) hx hb d_Wm_back_10 (by decide) (fun c8 => ?_) (fun c8 => ?_)
      · exact hthr "java/lang/IndexOutOfBoundsException" 123 125 _ _ _ _ _ _ _ (by decide +kernel) at_Wm_125 g_628 g_19 hS hP hD hl.1 (Nat.le_of_ble_eq_true rfl) d_Wm_back_21 d_Wm_back_24 d_Wm_back_25 d_Wm_back_28 (⟨rfl, hbad, rfl, rfl⟩)
      · exact absurd (lt_m1 h9 hm1) c8
  · have hbad : v0 < -1 ∨ nI M.length ≤ v0 := Or.inr h9
    refine lv_aload_n hx hb d_Wm_back_0 rfl (lv_at hl 0 rfl) ?_
    refine va_get (D := D9) (ci := 6) (C := R_Wm) (T := F_Wm) (N := 7) hx hb hts i_Wm hown hK hP 0 ww_0 rfl 3 (by decide) (hts _ g_225) (fun _ h9 => h9) rfl d_Wm_back_1 ?_
    refine va_getN (D := D9) (ci := 5) (C := R_Wr) (T := F_Wr) (N := 6) hx hb hts i_Wr hown hK hP 18 ww_18 rfl 1 (by decide) (hts _ g_187) (fun _ h9 => h9) rfl d_Wm_back_4 ?_
    refine lv_astore_n (lv' := [(3, _), (0, _), (1, _), (2, _)]) hx hb d_Wm_back_7 rfl hl (by decide) rfl (fun ls hl => ?_)
    refine lv_iload_n hx hb d_Wm_back_8 rfl (lv_at hl 2 rfl) ?_
    refine lv_iconst (v := -1) hx hb d_Wm_back_9 (by decide) ?_
    refine lv_topq (y := (-1 : Int32)) rfl ?_
    refine lv_icmp_lt (tgt := 21) hx hb d_Wm_back_10 (by decide) (fun c9 => ?_) (fun c9 => ?_)
    · exact absurd (Int32.lt_of_le_of_lt (Int32.le_trans (nI_pos' (show M.length < 2 ^ 31 by omega)) h9) (Int32.lt_trans c9 (show (-1 : Int32) < 0 by decide))) (by decide)
    · refine lv_iload_n hx hb d_Wm_back_13 rfl (lv_at hl 2 rfl) ?_
      refine lv_aload_n hx hb d_Wm_back_14 rfl (lv_at hl 0 rfl) ?_
      refine va_getN (D := D9) (ci := 0) (C := R_By) (T := F_By) (N := 2) hx hb hts i_By hown hK hP 20 ww_20 rfl 1 (by decide) (hts _ g_36) (fun _ h9 => h9) rfl d_Wm_back_15 ?_
      refine lv_topq (y := nI M.length) (h13) ?_
      refine lv_icmp_lt (tgt := 29) hx hb d_Wm_back_18 (by decide) (fun c10 => ?_) (fun c10 => ?_)
      · exact absurd (Int32.lt_of_le_of_lt h9 c10) (by simp)
      · exact hthr "java/lang/IndexOutOfBoundsException" 123 125 _ _ _ _ _ _ _ (by decide +kernel) at_Wm_125 g_628 g_19 hS hP hD hl.1 (Nat.le_of_ble_eq_true rfl) d_Wm_back_21 d_Wm_back_24 d_Wm_back_25 d_Wm_back_28 (⟨rfl, hbad, rfl, rfl⟩)
  · have hxb : nI k < 0 ∨ ∃ j, j < M.length ∧ nI k = nI j := Or.inr ⟨k, hk, rfl⟩
    have hxo : ¬ nI k < -1 := fun z9 => nI_pos (show k < 2 ^ 31 by omega) (Int32.lt_trans z9 (show (-1 : Int32) < 0 by decide))
    have hbk : bkL M (nI k) v1 = M.set k (tb M k ^^^ ub v1) := by unfold bkL; rw [if_neg (nI_pos (by omega)), nI_clamp (by omega)]
    refine lv_aload_n hx hb d_Wm_back_0 rfl (lv_at hl 0 rfl) ?_
    refine va_get (D := D9) (ci := 6) (C := R_Wm) (T := F_Wm) (N := 7) hx hb hts i_Wm hown hK hP 0 ww_0 rfl 3 (by decide) (hts _ g_225) (fun _ h9 => h9) rfl d_Wm_back_1 ?_
    refine va_getN (D := D9) (ci := 5) (C := R_Wr) (T := F_Wr) (N := 6) hx hb hts i_Wr hown hK hP 18 ww_18 rfl 1 (by decide) (hts _ g_187) (fun _ h9 => h9) rfl d_Wm_back_4 ?_
    refine lv_astore_n (lv' := [(3, _), (0, _), (1, _), (2, _)]) hx hb d_Wm_back_7 rfl hl (by decide) rfl (fun ls hl => ?_)
    refine lv_iload_n hx hb d_Wm_back_8 rfl (lv_at hl 2 rfl) ?_
    refine lv_iconst (v := -1) hx hb d_Wm_back_9 (by decide) ?_
    refine lv_topq (y := (-1 : Int32)) rfl ?_
    refine lv_icmp_lt (tgt := 21) hx hb d_Wm_back_10 (by decide) (fun c11 => ?_) (fun c11 => ?_)
    · exact absurd (Int32.lt_trans c11 (show (-1 : Int32) < 0 by decide)) (nI_pos (show k < 2 ^ 31 by omega))
    · refine lv_iload_n hx hb d_Wm_back_13 rfl (lv_at hl 2 rfl) ?_
      refine lv_aload_n hx hb d_Wm_back_14 rfl (lv_at hl 0 rfl) ?_
      refine va_getN (D := D9) (ci := 0) (C := R_By) (T := F_By) (N := 2) hx hb hts i_By hown hK hP 20 ww_20 rfl 1 (by decide) (hts _ g_36) (fun _ h9 => h9) rfl d_Wm_back_15 ?_
      refine lv_topq (y := nI M.length) (h13) ?_
      refine lv_icmp_lt (tgt := 29) hx hb d_Wm_back_18 (by decide) (fun c12 => ?_) (fun c12 => ?_)
      · have c12 : k < M.length := (nI_ltI (a := k) (b := M.length) (by omega) (by omega)).mp c12
        refine lv_aload_n hx hb d_Wm_back_29 rfl (lv_at hl 1 rfl) ?_
        refine va_get (D := D9) (ci := 6) (C := R_Wm) (T := F_Wm) (N := 7) hx hb hts i_Wm hown hK hP 0 ww_0 rfl 0 (by decide) (hts _ g_222) (fun _ h9 => h9) rfl d_Wm_back_30 ?_
        refine lv_iconst (v := 0) hx hb d_Wm_back_33 (by decide) ?_
        refine lv_topq (y := nI 0) (rfl) ?_
        refine va_putN (D := D9) (ty := .int) (ci := 0) (C := R_By) (T := F_By) (N := 2) hx hb hts i_By t_By t_By_ok n_By hown hK hP hD hS 1 ww_1 rfl 1 (by decide) (hts _ g_36) (fun _ h9 => h9) rfl (by decide +kernel) rfl rfl (Nat.le_of_ble_eq_true rfl) d_Wm_back_34 (fun H locs hP hD hS => ?_)
        obtain ⟨I13, aI13, sI13, hP, hD⟩ := fx (P := fun z => va_P D9 cls9 (WW a cB cI cJ cG z _ O) H ∧ va_D A0 (WW a cB cI cJ cG z _ O)) ⟨wp_2 hP, wd_2 hD⟩
        refine lv_aload_n hx hb d_Wm_back_37 rfl (lv_at hl 1 rfl) ?_
        refine va_get (D := D9) (ci := 6) (C := R_Wm) (T := F_Wm) (N := 7) hx hb hts i_Wm hown hK hP 0 ww_0 rfl 0 (by decide) (hts _ g_222) (fun _ h9 => h9) rfl d_Wm_back_38 ?_
        refine lv_aload_n hx hb d_Wm_back_41 rfl (lv_at hl 0 rfl) ?_
        refine lv_iconst (v := 0) hx hb d_Wm_back_42 (by decide) ?_
        refine lv_topq (y := nI 0) (rfl) ?_
        refine lv_aload_n hx hb d_Wm_back_43 rfl (lv_at hl 0 rfl) ?_
        refine va_getN (D := D9) (ci := 0) (C := R_By) (T := F_By) (N := 2) hx hb hts i_By hown hK hP 20 ww_20 rfl 1 (by decide) (hts _ g_36) (fun _ h9 => h9) rfl d_Wm_back_44 ?_
        refine lv_topq (y := nI M.length) (((sI13 13 (by decide)).trans h13)) ?_
        refine mw_cVN (ci := 0) (k := 1) C0 (m_By_putFrom_tp_ms l D9 cB cI cJ cG a O _ _ ([] : List Nat) M 0 0 M.length (BR_nil hT.1) hM aI13 hMl (by omega) (by decide)) g_300 g_2 g_643 g_299 gs_By_putFrom ⟨by decide +kernel, by decide +kernel, show Option.map (fun d => d.parameters.length) (parseMethodDescriptor y_By_putFrom.desc) = some 3 by decide +kernel⟩ ⟨by decide, by decide⟩ rfl rfl hP hD hS hA rfl ww_1 hl.1 (Nat.le_of_ble_eq_true rfl) rfl d_Wm_back_47 ⟨by decide, by decide⟩ (fun v9 w9 H locs hq hP hD hS => ?_)
        obtain ⟨I14, F15, hw9, q16⟩ := hq
        subst hw9
        obtain ⟨rfl, spx, z2, sqx, wx⟩ := q16
        rw [sl9_all, List.nil_append] at wx
        have z2 : I14 2 = nI M.length := z2.trans (congrArg nI (Nat.zero_add _))
        refine lv_iload_n hx hb d_Wm_back_50 rfl (lv_at hl 2 rfl) ?_
        refine lv_if_lt (tgt := 69) hx hb d_Wm_back_51 (by decide) (fun c17 => ?_) (fun c17 => ?_)
        · have c17 : k < 0 := (nI_ltI (a := k) (b := 0) (by omega) (by omega)).mp c17
          exfalso; omega
        · have c17 : ¬ (k < 0) := fun z9 => c17 ((nI_ltI (a := k) (b := 0) (by omega) (by omega)).mpr z9)
          refine lv_aload_n hx hb d_Wm_back_54 rfl (lv_at hl 1 rfl) ?_
          refine va_get (D := D9) (ci := 6) (C := R_Wm) (T := F_Wm) (N := 7) hx hb hts i_Wm hown hK hP 0 ww_0 rfl 0 (by decide) (hts _ g_222) (fun _ h9 => h9) rfl d_Wm_back_55 ?_
          refine lv_iload_n hx hb d_Wm_back_58 rfl (lv_at hl 2 rfl) ?_
          refine lv_aload_n hx hb d_Wm_back_59 rfl (lv_at hl 0 rfl) ?_
          refine lv_iload_n hx hb d_Wm_back_60 rfl (lv_at hl 2 rfl) ?_
          refine mw_cVN (ci := 0) (k := 20) C0 (m_By_atL_ms l D9 cB cI cJ cG a O _ _ M k (BR_eq hM (sqx 21 (by decide))) hMl hk) g_259 g_2 g_644 g_258 gs_By_at ⟨by decide +kernel, by decide +kernel, show Option.map (fun d => d.parameters.length) (parseMethodDescriptor y_By_at.desc) = some 1 by decide +kernel⟩ ⟨by decide, by decide⟩ rfl rfl hP hD hS hA rfl ww_20 hl.1 (Nat.le_of_ble_eq_true rfl) rfl d_Wm_back_61 ⟨by decide, by decide⟩ (fun v9 w9 H locs hq hP hD hS => ?_)
          obtain ⟨I18, F19, hw9, q20⟩ := hq
          subst hw9
          obtain ⟨rfl, rfl, rfl⟩ := q20
          refine lv_iload_n hx hb d_Wm_back_64 rfl (lv_at hl 3 rfl) ?_
          refine lv_ixor hx hb d_Wm_back_65 ?_
          refine lv_topq (y := nI (tb M k) ^^^ v1) (rfl) ?_
          have hbk9 : tb M k < 256 := BR_lt hM hk (by omega) (by omega)
          refine mw_cVN (ci := 0) (k := 1) C0 (m_By_set_tp l D9 cB cI cJ cG a O _ _ (nI k) (nI (tb M k) ^^^ v1)) g_288 g_2 g_645 g_287 gs_By_set ⟨by decide +kernel, by decide +kernel, show Option.map (fun d => d.parameters.length) (parseMethodDescriptor y_By_set.desc) = some 2 by decide +kernel⟩ ⟨by decide, by decide⟩ rfl rfl hP hD hS hA rfl ww_1 hl.1 (Nat.le_of_ble_eq_true rfl) rfl d_Wm_back_66 ⟨by decide, by decide⟩ (fun v9 w9 H locs hq hP hD hS => ?_)
          obtain ⟨I21, F22, hw9, q23⟩ := hq
          subst hw9
          obtain ⟨rfl, rfl, hF9⟩ := q23
          have ssx : sm [2] F15 F22 := by rw [hF9]; exact sm_up sm_rf (by decide)
          have wy9 : BR 0 65536 (F22 2) (M.set k (ub (nI (tb M k) ^^^ v1))) := BR_eq (BR_bs wx (by omega)) (by rw [hF9]; exact uf_s)
          rw [ub_xor, ub_nI (by omega), show tb M k % 256 = tb M k from Nat.mod_eq_of_lt (BR_lt hM hk (by omega) (by omega))] at wy9
          refine lv_aload_n hx hb d_Wm_back_69 rfl (lv_at hl 1 rfl) ?_
          refine va_get (D := D9) (ci := 6) (C := R_Wm) (T := F_Wm) (N := 7) hx hb hts i_Wm hown hK hP 0 ww_0 rfl 0 (by decide) (hts _ g_222) (fun _ h9 => h9) rfl d_Wm_back_70 ?_
          refine va_getN (D := D9) (ci := 0) (C := R_By) (T := F_By) (N := 2) hx hb hts i_By hown hK hP 1 ww_1 rfl 1 (by decide) (hts _ g_36) (fun _ h9 => h9) rfl d_Wm_back_73 ?_
          refine lv_topq (y := nI M.length) (z2) ?_
          exact hret _ _ _ _ _ _ _ hS hP hD d_Wm_back_76 nr_i (⟨hxo, hxb, rfl, (sm_tr (sm_mo sI13 (by decide)) (sm_mo spx (by decide))), z2, (sm_tr (sm_mo sqx (by decide)) (sm_mo ssx (by decide))), by rw [hbk]; exact wy9⟩)
      · have c12 : ¬ (k < M.length) := fun z9 => c12 ((nI_ltI (a := k) (b := M.length) (by omega) (by omega)).mpr z9)
        exfalso; omega
set_option maxHeartbeats 4000000 in
set_option maxRecDepth 100000 in
/-- count -/
theorem m_Wm_count (l : Launch) (D9 : va_G) (cB cI cJ cG : ClassId) (a : Nat → Nat) (O : Nat → Int64) (I : Nat → Int32) (F : Nat → Nat → Int32) (n0 m0 p0 l0 : Nat) (v0 : Int32) (h2 : I 2 = nI n0) (h13 : I 13 = nI m0) (h10 : I 10 = nI p0) (h1 : I 1 = nI l0) : MC l D9 cB cI cJ cG a O y_Wm_count b_Wm_count 2 (some .int) 0 [.ref (a 0), .int (v0)] I F (fun v I' F' => v = some (.int (cnV n0 m0 p0 l0 v0)) ∧ I = I' ∧ F = F') := by
  refine mc_of (by decide) (Nat.le_of_ble_eq_true rfl) ?_
  intro p e s m below meth c ls A0 Q C0 hP hD hA hS hl hret
  obtain ⟨hx, hb, hml, hr, hlocks, hown, hts, hK⟩ := id C0
  have hl : lv_has ls 2 [(0, .ref (a 0)), (1, .int (v0))] := hl
  refine lv_iload_n hx hb d_Wm_count_0 rfl (lv_at hl 1 rfl) ?_
  rcases pk_ix v0 (n := 4) (by decide) with h9 | h9 | ⟨j9, hj9, e9⟩
  · refine lv_tableOut (tgt := 64) hx hb d_Wm_count_1 (Or.inl (sw_lo h9)) (by decide) ?_
    refine lv_iconst (v := -1) hx hb d_Wm_count_64 (by decide) ?_
    refine lv_topq (y := (-1 : Int32)) rfl ?_
    exact hret _ _ _ _ _ _ _ hS hP hD d_Wm_count_65 nr_i (⟨by unfold cnV; have H9 : ∀ j : Nat, j < 4 → ¬ v0 = nI j := (fun j hj z => by rw [z] at h9; first | exact nI_pos (by omega) h9 | exact nI_ge (b := 4) hj (by decide) h9); rw [if_neg (H9 0 (by decide)), if_neg (H9 1 (by decide)), if_neg (H9 2 (by decide)), if_neg (H9 3 (by decide))], rfl, rfl⟩)
  · refine lv_tableOut (tgt := 64) hx hb d_Wm_count_1 (Or.inr (sw_hi h9 (by decide) (by decide))) (by decide) ?_
    refine lv_iconst (v := -1) hx hb d_Wm_count_64 (by decide) ?_
    refine lv_topq (y := (-1 : Int32)) rfl ?_
    exact hret _ _ _ _ _ _ _ hS hP hD d_Wm_count_65 nr_i (⟨by unfold cnV; have H9 : ∀ j : Nat, j < 4 → ¬ v0 = nI j := (fun j hj z => by rw [z] at h9; first | exact nI_pos (by omega) h9 | exact nI_ge (b := 4) hj (by decide) h9); rw [if_neg (H9 0 (by decide)), if_neg (H9 1 (by decide)), if_neg (H9 2 (by decide)), if_neg (H9 3 (by decide))], rfl, rfl⟩)
  · rcases (show j9 = 0 ∨ j9 = 1 ∨ j9 = 2 ∨ j9 = 3 by omega) with e8 | e8 | e8 | e8
    · have e7 : v0 = nI 0 := by rw [e9, e8]
      refine lv_tableIn (tgt := 32) hx hb d_Wm_count_1 (by rw [e7]; decide) (by rw [e7]; decide) (by rw [e7]; rfl) (by decide) ?_
      refine lv_aload_n hx hb d_Wm_count_32 rfl (lv_at hl 0 rfl) ?_
      refine va_get (D := D9) (ci := 6) (C := R_Wm) (T := F_Wm) (N := 7) hx hb hts i_Wm hown hK hP 0 ww_0 rfl 0 (by decide) (hts _ g_222) (fun _ h9 => h9) rfl d_Wm_count_33 ?_
      refine va_getN (D := D9) (ci := 0) (C := R_By) (T := F_By) (N := 2) hx hb hts i_By hown hK hP 1 ww_1 rfl 1 (by decide) (hts _ g_36) (fun _ h9 => h9) rfl d_Wm_count_36 ?_
      refine lv_topq (y := nI n0) (h2) ?_
      exact hret _ _ _ _ _ _ _ hS hP hD d_Wm_count_39 nr_i (⟨by rw [e7]; rfl, rfl, rfl⟩)
    · have e7 : v0 = nI 1 := by rw [e9, e8]
      refine lv_tableIn (tgt := 40) hx hb d_Wm_count_1 (by rw [e7]; decide) (by rw [e7]; decide) (by rw [e7]; rfl) (by decide) ?_
      refine lv_aload_n hx hb d_Wm_count_40 rfl (lv_at hl 0 rfl) ?_
      refine va_get (D := D9) (ci := 6) (C := R_Wm) (T := F_Wm) (N := 7) hx hb hts i_Wm hown hK hP 0 ww_0 rfl 3 (by decide) (hts _ g_225) (fun _ h9 => h9) rfl d_Wm_count_41 ?_
      refine va_getN (D := D9) (ci := 5) (C := R_Wr) (T := F_Wr) (N := 6) hx hb hts i_Wr hown hK hP 18 ww_18 rfl 1 (by decide) (hts _ g_187) (fun _ h9 => h9) rfl d_Wm_count_44 ?_
      refine va_getN (D := D9) (ci := 0) (C := R_By) (T := F_By) (N := 2) hx hb hts i_By hown hK hP 20 ww_20 rfl 1 (by decide) (hts _ g_36) (fun _ h9 => h9) rfl d_Wm_count_47 ?_
      refine lv_topq (y := nI m0) (h13) ?_
      exact hret _ _ _ _ _ _ _ hS hP hD d_Wm_count_50 nr_i (⟨by rw [e7]; rfl, rfl, rfl⟩)
    · have e7 : v0 = nI 2 := by rw [e9, e8]
      refine lv_tableIn (tgt := 51) hx hb d_Wm_count_1 (by rw [e7]; decide) (by rw [e7]; decide) (by rw [e7]; rfl) (by decide) ?_
      refine lv_aload_n hx hb d_Wm_count_51 rfl (lv_at hl 0 rfl) ?_
      refine va_get (D := D9) (ci := 6) (C := R_Wm) (T := F_Wm) (N := 7) hx hb hts i_Wm hown hK hP 0 ww_0 rfl 3 (by decide) (hts _ g_225) (fun _ h9 => h9) rfl d_Wm_count_52 ?_
      refine va_getN (D := D9) (ci := 5) (C := R_Wr) (T := F_Wr) (N := 6) hx hb hts i_Wr hown hK hP 18 ww_18 rfl 5 (by decide) (hts _ g_192) (fun _ h9 => h9) rfl d_Wm_count_55 ?_
      refine lv_topq (y := nI p0) (h10) ?_
      exact hret _ _ _ _ _ _ _ hS hP hD d_Wm_count_58 nr_i (⟨by rw [e7]; rfl, rfl, rfl⟩)
    · have e7 : v0 = nI 3 := by rw [e9, e8]
      refine lv_tableIn (tgt := 59) hx hb d_Wm_count_1 (by rw [e7]; decide) (by rw [e7]; decide) (by rw [e7]; rfl) (by decide) ?_
      refine lv_aload_n hx hb d_Wm_count_59 rfl (lv_at hl 0 rfl) ?_
      refine va_get (D := D9) (ci := 6) (C := R_Wm) (T := F_Wm) (N := 7) hx hb hts i_Wm hown hK hP 0 ww_0 rfl 6 (by decide) (hts _ g_228) (fun _ h9 => h9) rfl d_Wm_count_60 ?_
      refine lv_topq (y := nI l0) (h1) ?_
      exact hret _ _ _ _ _ _ _ hS hP hD d_Wm_count_63 nr_i (⟨by rw [e7]; rfl, rfl, rfl⟩)
set_option maxHeartbeats 4000000 in
set_option maxRecDepth 100000 in
/-- header -/
theorem m_Wm_header (l : Launch) (D9 : va_G) (cB cI cJ cG : ClassId) (a : Nat → Nat) (O : Nat → Int64) (I : Nat → Int32) (F : Nat → Nat → Int32) (hfl : l.flags = pinnedFlags ++ [noTraceFlag]) (es : List En9) (hG : GaR F es) (hO : okE es) (id9 fg : Nat) (v0 : Int32) (h11 : I 11 = nI id9) (h12 : I 12 = nI fg) : MZW l D9 cB cI cJ cG a O y_Wm_header b_Wm_header 2 (some .int) 6 [.ref (a 0), .int (v0)] I F (fun v I' F' => ¬ hdB v0 ∧ v = some (.int (hdV es id9 fg v0)) ∧ I = I' ∧ F = F') (fun E I' F' => E = "java/lang/IllegalArgumentException" ∧ hdB v0 ∧ I = I' ∧ F = F') := by
  refine mzw_of hfl (by decide) (Nat.le_of_ble_eq_true rfl) (by decide) ?_
  intro p e s m below meth c ls A0 Q C0 hP hD hA hS hZ hl hret hthr hlv
  obtain ⟨hx, hb, hml, hr, hlocks, hown, hts, hK⟩ := id C0
  have hl : lv_has ls 2 [(0, .ref (a 0)), (1, .int (v0))] := hl
  have hln := okE_len hO
  have k0 := hO.1
  have k1 := hO.2.1
  have k2 := hO.2.2.1
  have hBL := hG.2.2
  refine lv_iload_n hx hb d_Wm_header_0 rfl (lv_at hl 1 rfl) ?_
  rcases pk_ix v0 (n := 6) (by decide) with h9 | h9 | ⟨j9, hj9, e9⟩
  · refine lv_tableOut (tgt := 68) hx hb d_Wm_header_1 (Or.inl (sw_lo h9)) (by decide) ?_
    exact hthr "java/lang/IllegalArgumentException" 71 73 _ _ _ _ _ _ _ (by decide +kernel) at_Wm_73 g_466 g_13 hS hP hD hl.1 (Nat.le_of_ble_eq_true rfl) d_Wm_header_68 d_Wm_header_71 d_Wm_header_72 d_Wm_header_75 (⟨rfl, by first | exact Or.inl h9 | exact Or.inr h9, rfl, rfl⟩)
  · refine lv_tableOut (tgt := 68) hx hb d_Wm_header_1 (Or.inr (sw_hi h9 (by decide) (by decide))) (by decide) ?_
    exact hthr "java/lang/IllegalArgumentException" 71 73 _ _ _ _ _ _ _ (by decide +kernel) at_Wm_73 g_466 g_13 hS hP hD hl.1 (Nat.le_of_ble_eq_true rfl) d_Wm_header_68 d_Wm_header_71 d_Wm_header_72 d_Wm_header_75 (⟨rfl, by first | exact Or.inl h9 | exact Or.inr h9, rfl, rfl⟩)
  · rcases (show j9 = 0 ∨ j9 = 1 ∨ j9 = 2 ∨ j9 = 3 ∨ j9 = 4 ∨ j9 = 5 by omega) with e8 | e8 | e8 | e8 | e8 | e8
    · have e7 : v0 = nI 0 := by rw [e9, e8]
      refine lv_tableIn (tgt := 40) hx hb d_Wm_header_1 (by rw [e7]; decide) (by rw [e7]; decide) (by rw [e7]; rfl) (by decide) ?_
      refine lv_aload_n hx hb d_Wm_header_40 rfl (lv_at hl 0 rfl) ?_
      refine va_get (D := D9) (ci := 6) (C := R_Wm) (T := F_Wm) (N := 7) hx hb hts i_Wm hown hK hP 0 ww_0 rfl 1 (by decide) (hts _ g_223) (fun _ h9 => h9) rfl d_Wm_header_41 ?_
      refine va_getN (D := D9) (ci := 2) (C := R_Ga) (T := F_Ga) (N := 11) hx hb hts i_Ga hown hK hP 19 ww_19 rfl 9 (by decide) (hts _ g_86) (fun _ h9 => h9) rfl d_Wm_header_44 ?_
      refine lv_topq (y := nI id9) (h11) ?_
      exact hret _ _ _ _ _ _ _ hS hP hD d_Wm_header_47 nr_i (⟨fun z9 => by rw [e7] at z9; rcases z9 with z9 | z9 <;> exact absurd z9 (by decide), by rw [e7]; rfl, rfl, rfl⟩)
    · have e7 : v0 = nI 1 := by rw [e9, e8]
      refine lv_tableIn (tgt := 48) hx hb d_Wm_header_1 (by rw [e7]; decide) (by rw [e7]; decide) (by rw [e7]; rfl) (by decide) ?_
      refine lv_aload_n hx hb d_Wm_header_48 rfl (lv_at hl 0 rfl) ?_
      refine va_get (D := D9) (ci := 6) (C := R_Wm) (T := F_Wm) (N := 7) hx hb hts i_Wm hown hK hP 0 ww_0 rfl 1 (by decide) (hts _ g_223) (fun _ h9 => h9) rfl d_Wm_header_49 ?_
      refine va_getN (D := D9) (ci := 2) (C := R_Ga) (T := F_Ga) (N := 11) hx hb hts i_Ga hown hK hP 19 ww_19 rfl 10 (by decide) (hts _ g_89) (fun _ h9 => h9) rfl d_Wm_header_52 ?_
      refine lv_topq (y := nI fg) (h12) ?_
      exact hret _ _ _ _ _ _ _ hS hP hD d_Wm_header_55 nr_i (⟨fun z9 => by rw [e7] at z9; rcases z9 with z9 | z9 <;> exact absurd z9 (by decide), by rw [e7]; rfl, rfl, rfl⟩)
    · have e7 : v0 = nI 2 := by rw [e9, e8]
      refine lv_tableIn (tgt := 56) hx hb d_Wm_header_1 (by rw [e7]; decide) (by rw [e7]; decide) (by rw [e7]; rfl) (by decide) ?_
      refine lv_aload_n hx hb d_Wm_header_56 rfl (lv_at hl 0 rfl) ?_
      refine va_get (D := D9) (ci := 6) (C := R_Wm) (T := F_Wm) (N := 7) hx hb hts i_Wm hown hK hP 0 ww_0 rfl 1 (by decide) (hts _ g_223) (fun _ h9 => h9) rfl d_Wm_header_57 ?_
      refine va_getN (D := D9) (ci := 2) (C := R_Ga) (T := F_Ga) (N := 11) hx hb hts i_Ga hown hK hP 19 ww_19 rfl 8 (by decide) (hts _ g_83) (fun _ h9 => h9) rfl d_Wm_header_60 ?_
      refine lv_iload_n hx hb d_Wm_header_63 rfl (lv_at hl 1 rfl) ?_
      refine lv_iconst (v := 2) hx hb d_Wm_header_64 (by decide) ?_
      refine lv_topq (y := nI 2) (rfl) ?_
      refine lv_isub hx hb d_Wm_header_65 ?_
      refine lv_topq (y := nI 0) (by rw [e7]; rfl) ?_
      refine va_iald (D := D9) hx hb hK hP 16 1 ww_16 rfl (vp_in_nI (by omega) (by decide)) d_Wm_header_66 ?_
      refine lv_topq (y := nI (cn 0 es)) (by rw [nI_clamp (by omega)]; exact (hG.2.1 0 (by decide))) ?_
      exact hret _ _ _ _ _ _ _ hS hP hD d_Wm_header_67 nr_i (⟨fun z9 => by rw [e7] at z9; rcases z9 with z9 | z9 <;> exact absurd z9 (by decide), by rw [e7]; rfl, rfl, rfl⟩)
    · have e7 : v0 = nI 3 := by rw [e9, e8]
      refine lv_tableIn (tgt := 56) hx hb d_Wm_header_1 (by rw [e7]; decide) (by rw [e7]; decide) (by rw [e7]; rfl) (by decide) ?_
      refine lv_aload_n hx hb d_Wm_header_56 rfl (lv_at hl 0 rfl) ?_
      refine va_get (D := D9) (ci := 6) (C := R_Wm) (T := F_Wm) (N := 7) hx hb hts i_Wm hown hK hP 0 ww_0 rfl 1 (by decide) (hts _ g_223) (fun _ h9 => h9) rfl d_Wm_header_57 ?_
      refine va_getN (D := D9) (ci := 2) (C := R_Ga) (T := F_Ga) (N := 11) hx hb hts i_Ga hown hK hP 19 ww_19 rfl 8 (by decide) (hts _ g_83) (fun _ h9 => h9) rfl d_Wm_header_60 ?_
      refine lv_iload_n hx hb d_Wm_header_63 rfl (lv_at hl 1 rfl) ?_
      refine lv_iconst (v := 2) hx hb d_Wm_header_64 (by decide) ?_
      refine lv_topq (y := nI 2) (rfl) ?_
      refine lv_isub hx hb d_Wm_header_65 ?_
      refine lv_topq (y := nI 1) (by rw [e7]; rfl) ?_
      refine va_iald (D := D9) hx hb hK hP 16 1 ww_16 rfl (vp_in_nI (by omega) (by decide)) d_Wm_header_66 ?_
      refine lv_topq (y := nI (cn 1 es)) (by rw [nI_clamp (by omega)]; exact (hG.2.1 1 (by decide))) ?_
      exact hret _ _ _ _ _ _ _ hS hP hD d_Wm_header_67 nr_i (⟨fun z9 => by rw [e7] at z9; rcases z9 with z9 | z9 <;> exact absurd z9 (by decide), by rw [e7]; rfl, rfl, rfl⟩)
    · have e7 : v0 = nI 4 := by rw [e9, e8]
      refine lv_tableIn (tgt := 56) hx hb d_Wm_header_1 (by rw [e7]; decide) (by rw [e7]; decide) (by rw [e7]; rfl) (by decide) ?_
      refine lv_aload_n hx hb d_Wm_header_56 rfl (lv_at hl 0 rfl) ?_
      refine va_get (D := D9) (ci := 6) (C := R_Wm) (T := F_Wm) (N := 7) hx hb hts i_Wm hown hK hP 0 ww_0 rfl 1 (by decide) (hts _ g_223) (fun _ h9 => h9) rfl d_Wm_header_57 ?_
      refine va_getN (D := D9) (ci := 2) (C := R_Ga) (T := F_Ga) (N := 11) hx hb hts i_Ga hown hK hP 19 ww_19 rfl 8 (by decide) (hts _ g_83) (fun _ h9 => h9) rfl d_Wm_header_60 ?_
      refine lv_iload_n hx hb d_Wm_header_63 rfl (lv_at hl 1 rfl) ?_
      refine lv_iconst (v := 2) hx hb d_Wm_header_64 (by decide) ?_
      refine lv_topq (y := nI 2) (rfl) ?_
      refine lv_isub hx hb d_Wm_header_65 ?_
      refine lv_topq (y := nI 2) (by rw [e7]; rfl) ?_
      refine va_iald (D := D9) hx hb hK hP 16 1 ww_16 rfl (vp_in_nI (by omega) (by decide)) d_Wm_header_66 ?_
      refine lv_topq (y := nI (cn 2 es)) (by rw [nI_clamp (by omega)]; exact (hG.2.1 2 (by decide))) ?_
      exact hret _ _ _ _ _ _ _ hS hP hD d_Wm_header_67 nr_i (⟨fun z9 => by rw [e7] at z9; rcases z9 with z9 | z9 <;> exact absurd z9 (by decide), by rw [e7]; rfl, rfl, rfl⟩)
    · have e7 : v0 = nI 5 := by rw [e9, e8]
      refine lv_tableIn (tgt := 56) hx hb d_Wm_header_1 (by rw [e7]; decide) (by rw [e7]; decide) (by rw [e7]; rfl) (by decide) ?_
      refine lv_aload_n hx hb d_Wm_header_56 rfl (lv_at hl 0 rfl) ?_
      refine va_get (D := D9) (ci := 6) (C := R_Wm) (T := F_Wm) (N := 7) hx hb hts i_Wm hown hK hP 0 ww_0 rfl 1 (by decide) (hts _ g_223) (fun _ h9 => h9) rfl d_Wm_header_57 ?_
      refine va_getN (D := D9) (ci := 2) (C := R_Ga) (T := F_Ga) (N := 11) hx hb hts i_Ga hown hK hP 19 ww_19 rfl 8 (by decide) (hts _ g_83) (fun _ h9 => h9) rfl d_Wm_header_60 ?_
      refine lv_iload_n hx hb d_Wm_header_63 rfl (lv_at hl 1 rfl) ?_
      refine lv_iconst (v := 2) hx hb d_Wm_header_64 (by decide) ?_
      refine lv_topq (y := nI 2) (rfl) ?_
      refine lv_isub hx hb d_Wm_header_65 ?_
      refine lv_topq (y := nI 3) (by rw [e7]; rfl) ?_
      refine va_iald (D := D9) hx hb hK hP 16 1 ww_16 rfl (vp_in_nI (by omega) (by decide)) d_Wm_header_66 ?_
      refine lv_topq (y := nI (cn 3 es)) (by rw [nI_clamp (by omega)]; exact (hG.2.1 3 (by decide))) ?_
      exact hret _ _ _ _ _ _ _ hS hP hD d_Wm_header_67 nr_i (⟨fun z9 => by rw [e7] at z9; rcases z9 with z9 | z9 <;> exact absurd z9 (by decide), by rw [e7]; rfl, rfl, rfl⟩)
set_option maxHeartbeats 4000000 in
set_option maxRecDepth 100000 in
/-- rowThatIs, where there is one -/
theorem m_Wm_rowThatIs_ok (l : Launch) (D9 : va_G) (cB cI cJ cG : ClassId) (a : Nat → Nat) (O : Nat → Int64) (I : Nat → Int32) (F : Nat → Nat → Int32) (es : List En9) (hG : GaR F es) (hO : okE es) (v0 v1 : Int32) (r : Nat) (hri : rI v0 v1 es = some r) : MC l D9 cB cI cJ cG a O y_Wm_rowThatIs b_Wm_rowThatIs 4 (some .int) 1 [.ref (a 0), .int (v0), .int (v1)] I F (fun v I' F' => v = some (.int (nI r)) ∧ I = I' ∧ F = F') := by
  refine mc_of (by decide) (Nat.le_of_ble_eq_true rfl) ?_
  intro p e s m below meth c ls A0 Q C0 hP hD hA hS hl hret
  obtain ⟨hx, hb, hml, hr, hlocks, hown, hts, hK⟩ := id C0
  have hl : lv_has ls 4 [(0, .ref (a 0)), (1, .int (v0)), (2, .int (v1))] := hl
  have hln := okE_len hO
  have k0 := hO.1
  have k1 := hO.2.1
  have k2 := hO.2.2.1
  have hBL := hG.2.2
  obtain ⟨e9, hre9, hrl9⟩ := rI_some hri
  refine lv_aload_n hx hb d_Wm_rowThatIs_0 rfl (lv_at hl 0 rfl) ?_
  refine va_get (D := D9) (ci := 6) (C := R_Wm) (T := F_Wm) (N := 7) hx hb hts i_Wm hown hK hP 0 ww_0 rfl 1 (by decide) (hts _ g_223) (fun _ h9 => h9) rfl d_Wm_rowThatIs_1 ?_
  refine lv_iload_n hx hb d_Wm_rowThatIs_4 rfl (lv_at hl 1 rfl) ?_
  refine lv_iload_n hx hb d_Wm_rowThatIs_5 rfl (lv_at hl 2 rfl) ?_
  refine mw_cVN (ci := 2) (k := 19) C0 (m_Ga_rowOf l D9 cB cI cJ cG a O _ _ es v0 v1 hG hO) g_674 g_3 g_671 g_673 gs_Ga_rowOf ⟨by decide +kernel, by decide +kernel, show Option.map (fun d => d.parameters.length) (parseMethodDescriptor y_Ga_rowOf.desc) = some 2 by decide +kernel⟩ ⟨by decide, by decide⟩ rfl rfl hP hD hS hA rfl ww_19 hl.1 (Nat.le_of_ble_eq_true rfl) rfl d_Wm_rowThatIs_6 ⟨by decide, by decide⟩ (fun v9 w9 H locs hq hP hD hS => ?_)
  obtain ⟨I1, F2, hw9, q3⟩ := hq
  subst hw9
  obtain ⟨rfl, rfl, rfl⟩ := q3
  refine lv_topq (y := nI r) (by rw [hri]; rfl) ?_
  refine lv_istore_n (lv' := [(3, _), (0, _), (1, _), (2, _)]) hx hb d_Wm_rowThatIs_9 rfl hl (by decide) rfl (fun ls hl => ?_)
  refine lv_iload_n hx hb d_Wm_rowThatIs_10 rfl (lv_at hl 0 rfl) ?_
  refine lv_if_ge (tgt := 22) hx hb d_Wm_rowThatIs_11 (by decide) (fun c4 => ?_) (fun c4 => ?_)
  · have c4 : 0 ≤ r := (nI_leI (a := 0) (b := r) (by omega) (by omega)).mp c4
    refine lv_iload_n hx hb d_Wm_rowThatIs_22 rfl (lv_at hl 0 rfl) ?_
    exact hret _ _ _ _ _ _ _ hS hP hD d_Wm_rowThatIs_23 nr_i (⟨rfl, rfl, rfl⟩)
  · have c4 : ¬ (0 ≤ r) := fun z9 => c4 ((nI_leI (a := 0) (b := r) (by omega) (by omega)).mpr z9)
    exfalso; omega
set_option maxHeartbeats 4000000 in
set_option maxRecDepth 100000 in
/-- rowThatIs, where there is none -/
theorem m_Wm_rowThatIs_no (l : Launch) (D9 : va_G) (cB cI cJ cG : ClassId) (a : Nat → Nat) (O : Nat → Int64) (I : Nat → Int32) (F : Nat → Nat → Int32) (hfl : l.flags = pinnedFlags ++ [noTraceFlag]) (es : List En9) (hG : GaR F es) (hO : okE es) (v0 v1 : Int32) (hri : rI v0 v1 es = none) : MZW l D9 cB cI cJ cG a O y_Wm_rowThatIs b_Wm_rowThatIs 4 (some .int) 6 [.ref (a 0), .int (v0), .int (v1)] I F (fun v I' F' => False) (fun E I' F' => E = "java/util/NoSuchElementException" ∧ I = I' ∧ F = F') := by
  refine mzw_of hfl (by decide) (Nat.le_of_ble_eq_true rfl) (by decide) ?_
  intro p e s m below meth c ls A0 Q C0 hP hD hA hS hZ hl hret hthr hlv
  obtain ⟨hx, hb, hml, hr, hlocks, hown, hts, hK⟩ := id C0
  have hl : lv_has ls 4 [(0, .ref (a 0)), (1, .int (v0)), (2, .int (v1))] := hl
  have hln := okE_len hO
  have k0 := hO.1
  have k1 := hO.2.1
  have k2 := hO.2.2.1
  have hBL := hG.2.2
  refine lv_aload_n hx hb d_Wm_rowThatIs_0 rfl (lv_at hl 0 rfl) ?_
  refine va_get (D := D9) (ci := 6) (C := R_Wm) (T := F_Wm) (N := 7) hx hb hts i_Wm hown hK hP 0 ww_0 rfl 1 (by decide) (hts _ g_223) (fun _ h9 => h9) rfl d_Wm_rowThatIs_1 ?_
  refine lv_iload_n hx hb d_Wm_rowThatIs_4 rfl (lv_at hl 1 rfl) ?_
  refine lv_iload_n hx hb d_Wm_rowThatIs_5 rfl (lv_at hl 2 rfl) ?_
  refine mw_cVN (ci := 2) (k := 19) C0 (m_Ga_rowOf l D9 cB cI cJ cG a O _ _ es v0 v1 hG hO) g_674 g_3 g_671 g_673 gs_Ga_rowOf ⟨by decide +kernel, by decide +kernel, show Option.map (fun d => d.parameters.length) (parseMethodDescriptor y_Ga_rowOf.desc) = some 2 by decide +kernel⟩ ⟨by decide, by decide⟩ rfl rfl hP hD hS hA rfl ww_19 hl.1 (Nat.le_of_ble_eq_true rfl) rfl d_Wm_rowThatIs_6 ⟨by decide, by decide⟩ (fun v9 w9 H locs hq hP hD hS => ?_)
  obtain ⟨I1, F2, hw9, q3⟩ := hq
  subst hw9
  obtain ⟨rfl, rfl, rfl⟩ := q3
  refine lv_topq (y := (-1 : Int32)) (by rw [hri]; rfl) ?_
  refine lv_istore_n (lv' := [(3, _), (0, _), (1, _), (2, _)]) hx hb d_Wm_rowThatIs_9 rfl hl (by decide) rfl (fun ls hl => ?_)
  refine lv_iload_n hx hb d_Wm_rowThatIs_10 rfl (lv_at hl 0 rfl) ?_
  refine lv_if_ge (tgt := 22) hx hb d_Wm_rowThatIs_11 (by decide) (fun c4 => ?_) (fun c4 => ?_)
  · exact absurd c4 (by decide)
  · exact hthr "java/util/NoSuchElementException" 104 106 _ _ _ _ _ _ _ (by decide +kernel) at_Wm_106 g_505 g_17 hS hP hD hl.1 (Nat.le_of_ble_eq_true rfl) d_Wm_rowThatIs_14 d_Wm_rowThatIs_17 d_Wm_rowThatIs_18 d_Wm_rowThatIs_21 (⟨rfl, rfl, rfl⟩)
set_option maxHeartbeats 4000000 in
set_option maxRecDepth 100000 in
/-- told -/
theorem m_Wm_told (l : Launch) (D9 : va_G) (cB cI cJ cG : ClassId) (a : Nat → Nat) (O : Nat → Int64) (I : Nat → Int32) (F : Nat → Nat → Int32) (hfl : l.flags = pinnedFlags ++ [noTraceFlag]) (es : List En9) (hG : GaR F es) (hO : okE es) (v0 v1 v2 : Int32) : MZW l D9 cB cI cJ cG a O y_Wm_told b_Wm_told 5 (some .int) 7 [.ref (a 0), .int (v0), .int (v1), .int (v2)] I F (fun v I' F' => ∃ r e, rI v0 v1 es = some r ∧ es[r]? = some e ∧ ¬ tdB v0 v2 ∧ v = some (.int (tdV e v2)) ∧ I = I' ∧ F = F') (fun E I' F' => (E = "java/util/NoSuchElementException" ∧ rI v0 v1 es = none ∧ I = I' ∧ F = F') ∨ (E = "java/lang/IllegalArgumentException" ∧ ∃ r e, rI v0 v1 es = some r ∧ es[r]? = some e ∧ tdB v0 v2 ∧ I = I' ∧ F = F')) := by
  refine mzw_of hfl (by decide) (Nat.le_of_ble_eq_true rfl) (by decide) ?_
  intro p e s m below meth c ls A0 Q C0 hP hD hA hS hZ hl hret hthr hlv
  obtain ⟨hx, hb, hml, hr, hlocks, hown, hts, hK⟩ := id C0
  have hl : lv_has ls 5 [(0, .ref (a 0)), (1, .int (v0)), (2, .int (v1)), (3, .int (v2))] := hl
  have hln := okE_len hO
  have k0 := hO.1
  have k1 := hO.2.1
  have k2 := hO.2.2.1
  have hBL := hG.2.2
  refine lv_aload_n hx hb d_Wm_told_0 rfl (lv_at hl 0 rfl) ?_
  refine lv_iload_n hx hb d_Wm_told_1 rfl (lv_at hl 1 rfl) ?_
  refine lv_iload_n hx hb d_Wm_told_2 rfl (lv_at hl 2 rfl) ?_
  cases hr9 : rI v0 v1 es with
  | none =>
    refine mz_cV (ci := 6) (k := 0) C0 (m_Wm_rowThatIs_no l D9 cB cI cJ cG a O _ _ hfl es hG hO v0 v1 hr9) g_670 g_1 g_667 g_669 gs_Wm_rowThatIs ⟨by decide +kernel, by decide +kernel, show Option.map (fun d => d.parameters.length) (parseMethodDescriptor y_Wm_rowThatIs.desc) = some 2 by decide +kernel⟩ ⟨by decide, by decide⟩ rfl rfl (rz_Z hZ hS hD) hP hD hS hA rfl ww_0 hl.1 (Nat.le_of_ble_eq_true rfl) rfl d_Wm_told_3 ⟨by decide, by decide⟩ (fun q9 E9 ce9 w9 H locs hq g1 g2 g3 hP hD hS => ?_) (fun v9 w9 H locs hq hP hD hS => ?_)
    · obtain ⟨I9, F9, hw9, e9, rfl, rfl⟩ := hq
      subst hw9
      exact hlv q9 E9 ce9 _ _ _ _ _ _ _ (Or.inl ⟨e9, hr9, rfl, rfl⟩) g1 g2 g3 hP hD hS
    · obtain ⟨I9, F9, hw9, e9⟩ := hq
      exact False.elim e9
  | some r9 =>
    refine mw_cV (ci := 6) (k := 0) C0 (m_Wm_rowThatIs_ok l D9 cB cI cJ cG a O _ _ es hG hO v0 v1 r9 hr9) g_670 g_1 g_667 g_669 gs_Wm_rowThatIs ⟨by decide +kernel, by decide +kernel, show Option.map (fun d => d.parameters.length) (parseMethodDescriptor y_Wm_rowThatIs.desc) = some 2 by decide +kernel⟩ ⟨by decide, by decide⟩ rfl rfl hP hD hS hA rfl ww_0 hl.1 (Nat.le_of_ble_eq_true rfl) rfl d_Wm_told_3 ⟨by decide, by decide⟩ (fun v9 w9 H locs hq hP hD hS => ?_)
    obtain ⟨I1, F2, hw9, q3⟩ := hq
    subst hw9
    obtain ⟨rfl, rfl, rfl⟩ := q3
    obtain ⟨er9, hrr9, hlr9⟩ := rI_some hr9
    obtain ⟨zr95, zr96, zr97, zr98, zr99, zr910, zr912⟩ := hG.1 r9 er9 hrr9
    obtain ⟨yr91, yr92, yr93⟩ := hO.2.2.2 er9 (List.mem_of_getElem? hrr9)
    have hofr9 := of9_next hrr9
    have hogr9 := of9_le es (r9 + 1)
    refine lv_istore (lv' := [(4, _), (0, _), (1, _), (2, _), (3, _)]) hx hb d_Wm_told_6 hl (by decide) rfl (fun ls hl => ?_)
    rcases pk_ix v2 (n := 5) (by decide) with h9 | h9 | ⟨j9, hj9, e9⟩
    · have hbad : tdB v0 v2 := Or.inl h9
      refine lv_iload_n hx hb d_Wm_told_8 rfl (lv_at hl 4 rfl) ?_
      refine lv_if_lt (tgt := 26) hx hb d_Wm_told_9 (by decide) (fun c4 => ?_) (fun c4 => ?_)
      · exact hthr "java/lang/IllegalArgumentException" 71 73 _ _ _ _ _ _ _ (by decide +kernel) at_Wm_73 g_466 g_13 hS hP hD hl.1 (Nat.le_of_ble_eq_true rfl) d_Wm_told_26 d_Wm_told_29 d_Wm_told_30 d_Wm_told_33 (Or.inr ⟨rfl, r9, er9, hr9, hrr9, hbad, rfl, rfl⟩)
      · exact absurd h9 c4
    · have hbad : tdB v0 v2 := Or.inr (Or.inl (Int32.lt_of_lt_of_le (show nI 4 < nI 5 by decide) h9))
      refine lv_iload_n hx hb d_Wm_told_8 rfl (lv_at hl 4 rfl) ?_
      refine lv_if_lt (tgt := 26) hx hb d_Wm_told_9 (by decide) (fun c5 => ?_) (fun c5 => ?_)
      · exact absurd (Int32.lt_of_le_of_lt (Int32.le_trans (nI_pos' (show 5 < 2 ^ 31 by decide)) h9) c5) (by decide)
      · refine lv_iload_n hx hb d_Wm_told_12 rfl (lv_at hl 4 rfl) ?_
        refine lv_iconst (v := 4) hx hb d_Wm_told_13 (by decide) ?_
        refine lv_topq (y := nI 4) (rfl) ?_
        refine lv_icmp_gt (tgt := 26) hx hb d_Wm_told_14 (by decide) (fun c6 => ?_) (fun c6 => ?_)
        · exact hthr "java/lang/IllegalArgumentException" 71 73 _ _ _ _ _ _ _ (by decide +kernel) at_Wm_73 g_466 g_13 hS hP hD hl.1 (Nat.le_of_ble_eq_true rfl) d_Wm_told_26 d_Wm_told_29 d_Wm_told_30 d_Wm_told_33 (Or.inr ⟨rfl, r9, er9, hr9, hrr9, hbad, rfl, rfl⟩)
        · exact absurd (Int32.lt_of_lt_of_le (show nI 4 < nI 5 by decide) h9) c6
    · rcases (show j9 = 0 ∨ j9 = 1 ∨ j9 = 2 ∨ j9 = 3 ∨ j9 = 4 by omega) with e8 | e8 | e8 | e8 | e8
      · have e7 : v2 = nI 0 := by rw [e9, e8]
        rw [e7] at hl
        refine lv_iload_n hx hb d_Wm_told_8 rfl (lv_at hl 4 rfl) ?_
        refine lv_if_lt (tgt := 26) hx hb d_Wm_told_9 (by decide) (fun c7 => ?_) (fun c7 => ?_)
        · exact absurd c7 (by decide)
        · refine lv_iload_n hx hb d_Wm_told_12 rfl (lv_at hl 4 rfl) ?_
          refine lv_iconst (v := 4) hx hb d_Wm_told_13 (by decide) ?_
          refine lv_topq (y := nI 4) (rfl) ?_
          refine lv_icmp_gt (tgt := 26) hx hb d_Wm_told_14 (by decide) (fun c8 => ?_) (fun c8 => ?_)
          · exact absurd c8 (by decide)
          · refine lv_iload_n hx hb d_Wm_told_17 rfl (lv_at hl 2 rfl) ?_
            refine lv_if_ne (tgt := 34) hx hb d_Wm_told_18 (by decide) (fun c9 => ?_) (fun c9 => ?_)
            · refine lv_iload_n hx hb d_Wm_told_34 rfl (lv_at hl 4 rfl) ?_
              refine lv_tableIn (tgt := 64) hx hb d_Wm_told_35 (by decide) (by decide) rfl (by decide) ?_
              refine lv_aload_n hx hb d_Wm_told_64 rfl (lv_at hl 1 rfl) ?_
              refine va_get (D := D9) (ci := 6) (C := R_Wm) (T := F_Wm) (N := 7) hx hb hts i_Wm hown hK hP 0 ww_0 rfl 1 (by decide) (hts _ g_223) (fun _ h9 => h9) rfl d_Wm_told_65 ?_
              refine va_getN (D := D9) (ci := 2) (C := R_Ga) (T := F_Ga) (N := 11) hx hb hts i_Ga hown hK hP 19 ww_19 rfl 4 (by decide) (hts _ g_72) (fun _ h9 => h9) rfl d_Wm_told_68 ?_
              refine lv_iload hx hb d_Wm_told_71 (lv_at hl 0 rfl) ?_
              refine va_iald (D := D9) hx hb hK hP 8 1 ww_8 rfl (vp_in_nI (by omega) (by decide)) d_Wm_told_73 ?_
              refine lv_topq (y := nI (eT er9)) (by rw [nI_clamp (by omega)]; exact zr98) ?_
              exact hret _ _ _ _ _ _ _ hS hP hD d_Wm_told_74 nr_i (⟨r9, er9, hr9, hrr9, fun z9 => by rcases z9 with z9 | z9 | ⟨z9, z8⟩; rw [e7] at z9; exact absurd z9 (by decide); rw [e7] at z9; exact absurd z9 (by decide); rw [e7] at z8; exact absurd z8 (by decide), by rw [e7]; rfl, rfl, rfl⟩)
            · refine lv_iload_n hx hb d_Wm_told_21 rfl (lv_at hl 4 rfl) ?_
              refine lv_iconst (v := 2) hx hb d_Wm_told_22 (by decide) ?_
              refine lv_topq (y := nI 2) (rfl) ?_
              refine lv_icmp_le (tgt := 34) hx hb d_Wm_told_23 (by decide) (fun c10 => ?_) (fun c10 => ?_)
              · refine lv_iload_n hx hb d_Wm_told_34 rfl (lv_at hl 4 rfl) ?_
                refine lv_tableIn (tgt := 64) hx hb d_Wm_told_35 (by decide) (by decide) rfl (by decide) ?_
                refine lv_aload_n hx hb d_Wm_told_64 rfl (lv_at hl 1 rfl) ?_
                refine va_get (D := D9) (ci := 6) (C := R_Wm) (T := F_Wm) (N := 7) hx hb hts i_Wm hown hK hP 0 ww_0 rfl 1 (by decide) (hts _ g_223) (fun _ h9 => h9) rfl d_Wm_told_65 ?_
                refine va_getN (D := D9) (ci := 2) (C := R_Ga) (T := F_Ga) (N := 11) hx hb hts i_Ga hown hK hP 19 ww_19 rfl 4 (by decide) (hts _ g_72) (fun _ h9 => h9) rfl d_Wm_told_68 ?_
                refine lv_iload hx hb d_Wm_told_71 (lv_at hl 0 rfl) ?_
                refine va_iald (D := D9) hx hb hK hP 8 1 ww_8 rfl (vp_in_nI (by omega) (by decide)) d_Wm_told_73 ?_
                refine lv_topq (y := nI (eT er9)) (by rw [nI_clamp (by omega)]; exact zr98) ?_
                exact hret _ _ _ _ _ _ _ hS hP hD d_Wm_told_74 nr_i (⟨r9, er9, hr9, hrr9, fun z9 => by rcases z9 with z9 | z9 | ⟨z9, z8⟩; rw [e7] at z9; exact absurd z9 (by decide); rw [e7] at z9; exact absurd z9 (by decide); rw [e7] at z8; exact absurd z8 (by decide), by rw [e7]; rfl, rfl, rfl⟩)
              · exact absurd c10 (by decide)
      · have e7 : v2 = nI 1 := by rw [e9, e8]
        rw [e7] at hl
        refine lv_iload_n hx hb d_Wm_told_8 rfl (lv_at hl 4 rfl) ?_
        refine lv_if_lt (tgt := 26) hx hb d_Wm_told_9 (by decide) (fun c11 => ?_) (fun c11 => ?_)
        · exact absurd c11 (by decide)
        · refine lv_iload_n hx hb d_Wm_told_12 rfl (lv_at hl 4 rfl) ?_
          refine lv_iconst (v := 4) hx hb d_Wm_told_13 (by decide) ?_
          refine lv_topq (y := nI 4) (rfl) ?_
          refine lv_icmp_gt (tgt := 26) hx hb d_Wm_told_14 (by decide) (fun c12 => ?_) (fun c12 => ?_)
          · exact absurd c12 (by decide)
          · refine lv_iload_n hx hb d_Wm_told_17 rfl (lv_at hl 2 rfl) ?_
            refine lv_if_ne (tgt := 34) hx hb d_Wm_told_18 (by decide) (fun c13 => ?_) (fun c13 => ?_)
            · refine lv_iload_n hx hb d_Wm_told_34 rfl (lv_at hl 4 rfl) ?_
              refine lv_tableIn (tgt := 75) hx hb d_Wm_told_35 (by decide) (by decide) rfl (by decide) ?_
              refine lv_aload_n hx hb d_Wm_told_75 rfl (lv_at hl 1 rfl) ?_
              refine va_get (D := D9) (ci := 6) (C := R_Wm) (T := F_Wm) (N := 7) hx hb hts i_Wm hown hK hP 0 ww_0 rfl 1 (by decide) (hts _ g_223) (fun _ h9 => h9) rfl d_Wm_told_76 ?_
              refine va_getN (D := D9) (ci := 2) (C := R_Ga) (T := F_Ga) (N := 11) hx hb hts i_Ga hown hK hP 19 ww_19 rfl 5 (by decide) (hts _ g_75) (fun _ h9 => h9) rfl d_Wm_told_79 ?_
              refine lv_iload hx hb d_Wm_told_82 (lv_at hl 0 rfl) ?_
              refine va_iald (D := D9) hx hb hK hP 9 1 ww_9 rfl (vp_in_nI (by omega) (by decide)) d_Wm_told_84 ?_
              refine lv_topq (y := nI (eK er9)) (by rw [nI_clamp (by omega)]; exact zr99) ?_
              exact hret _ _ _ _ _ _ _ hS hP hD d_Wm_told_85 nr_i (⟨r9, er9, hr9, hrr9, fun z9 => by rcases z9 with z9 | z9 | ⟨z9, z8⟩; rw [e7] at z9; exact absurd z9 (by decide); rw [e7] at z9; exact absurd z9 (by decide); rw [e7] at z8; exact absurd z8 (by decide), by rw [e7]; rfl, rfl, rfl⟩)
            · refine lv_iload_n hx hb d_Wm_told_21 rfl (lv_at hl 4 rfl) ?_
              refine lv_iconst (v := 2) hx hb d_Wm_told_22 (by decide) ?_
              refine lv_topq (y := nI 2) (rfl) ?_
              refine lv_icmp_le (tgt := 34) hx hb d_Wm_told_23 (by decide) (fun c14 => ?_) (fun c14 => ?_)
              · refine lv_iload_n hx hb d_Wm_told_34 rfl (lv_at hl 4 rfl) ?_
                refine lv_tableIn (tgt := 75) hx hb d_Wm_told_35 (by decide) (by decide) rfl (by decide) ?_
                refine lv_aload_n hx hb d_Wm_told_75 rfl (lv_at hl 1 rfl) ?_
                refine va_get (D := D9) (ci := 6) (C := R_Wm) (T := F_Wm) (N := 7) hx hb hts i_Wm hown hK hP 0 ww_0 rfl 1 (by decide) (hts _ g_223) (fun _ h9 => h9) rfl d_Wm_told_76 ?_
                refine va_getN (D := D9) (ci := 2) (C := R_Ga) (T := F_Ga) (N := 11) hx hb hts i_Ga hown hK hP 19 ww_19 rfl 5 (by decide) (hts _ g_75) (fun _ h9 => h9) rfl d_Wm_told_79 ?_
                refine lv_iload hx hb d_Wm_told_82 (lv_at hl 0 rfl) ?_
                refine va_iald (D := D9) hx hb hK hP 9 1 ww_9 rfl (vp_in_nI (by omega) (by decide)) d_Wm_told_84 ?_
                refine lv_topq (y := nI (eK er9)) (by rw [nI_clamp (by omega)]; exact zr99) ?_
                exact hret _ _ _ _ _ _ _ hS hP hD d_Wm_told_85 nr_i (⟨r9, er9, hr9, hrr9, fun z9 => by rcases z9 with z9 | z9 | ⟨z9, z8⟩; rw [e7] at z9; exact absurd z9 (by decide); rw [e7] at z9; exact absurd z9 (by decide); rw [e7] at z8; exact absurd z8 (by decide), by rw [e7]; rfl, rfl, rfl⟩)
              · exact absurd c14 (by decide)
      · have e7 : v2 = nI 2 := by rw [e9, e8]
        rw [e7] at hl
        refine lv_iload_n hx hb d_Wm_told_8 rfl (lv_at hl 4 rfl) ?_
        refine lv_if_lt (tgt := 26) hx hb d_Wm_told_9 (by decide) (fun c15 => ?_) (fun c15 => ?_)
        · exact absurd c15 (by decide)
        · refine lv_iload_n hx hb d_Wm_told_12 rfl (lv_at hl 4 rfl) ?_
          refine lv_iconst (v := 4) hx hb d_Wm_told_13 (by decide) ?_
          refine lv_topq (y := nI 4) (rfl) ?_
          refine lv_icmp_gt (tgt := 26) hx hb d_Wm_told_14 (by decide) (fun c16 => ?_) (fun c16 => ?_)
          · exact absurd c16 (by decide)
          · refine lv_iload_n hx hb d_Wm_told_17 rfl (lv_at hl 2 rfl) ?_
            refine lv_if_ne (tgt := 34) hx hb d_Wm_told_18 (by decide) (fun c17 => ?_) (fun c17 => ?_)
            · refine lv_iload_n hx hb d_Wm_told_34 rfl (lv_at hl 4 rfl) ?_
              refine lv_tableIn (tgt := 86) hx hb d_Wm_told_35 (by decide) (by decide) rfl (by decide) ?_
              refine lv_aload_n hx hb d_Wm_told_86 rfl (lv_at hl 1 rfl) ?_
              refine va_get (D := D9) (ci := 6) (C := R_Wm) (T := F_Wm) (N := 7) hx hb hts i_Wm hown hK hP 0 ww_0 rfl 1 (by decide) (hts _ g_223) (fun _ h9 => h9) rfl d_Wm_told_87 ?_
              refine va_getN (D := D9) (ci := 2) (C := R_Ga) (T := F_Ga) (N := 11) hx hb hts i_Ga hown hK hP 19 ww_19 rfl 2 (by decide) (hts _ g_66) (fun _ h9 => h9) rfl d_Wm_told_90 ?_
              refine lv_iload hx hb d_Wm_told_93 (lv_at hl 0 rfl) ?_
              refine va_iald (D := D9) hx hb hK hP 6 1 ww_6 rfl (vp_in_nI (by omega) (by decide)) d_Wm_told_95 ?_
              refine lv_topq (y := nI ((eN er9).length)) (by rw [nI_clamp (by omega)]; exact zr96) ?_
              exact hret _ _ _ _ _ _ _ hS hP hD d_Wm_told_96 nr_i (⟨r9, er9, hr9, hrr9, fun z9 => by rcases z9 with z9 | z9 | ⟨z9, z8⟩; rw [e7] at z9; exact absurd z9 (by decide); rw [e7] at z9; exact absurd z9 (by decide); rw [e7] at z8; exact absurd z8 (by decide), by rw [e7]; rfl, rfl, rfl⟩)
            · refine lv_iload_n hx hb d_Wm_told_21 rfl (lv_at hl 4 rfl) ?_
              refine lv_iconst (v := 2) hx hb d_Wm_told_22 (by decide) ?_
              refine lv_topq (y := nI 2) (rfl) ?_
              refine lv_icmp_le (tgt := 34) hx hb d_Wm_told_23 (by decide) (fun c18 => ?_) (fun c18 => ?_)
              · refine lv_iload_n hx hb d_Wm_told_34 rfl (lv_at hl 4 rfl) ?_
                refine lv_tableIn (tgt := 86) hx hb d_Wm_told_35 (by decide) (by decide) rfl (by decide) ?_
                refine lv_aload_n hx hb d_Wm_told_86 rfl (lv_at hl 1 rfl) ?_
                refine va_get (D := D9) (ci := 6) (C := R_Wm) (T := F_Wm) (N := 7) hx hb hts i_Wm hown hK hP 0 ww_0 rfl 1 (by decide) (hts _ g_223) (fun _ h9 => h9) rfl d_Wm_told_87 ?_
                refine va_getN (D := D9) (ci := 2) (C := R_Ga) (T := F_Ga) (N := 11) hx hb hts i_Ga hown hK hP 19 ww_19 rfl 2 (by decide) (hts _ g_66) (fun _ h9 => h9) rfl d_Wm_told_90 ?_
                refine lv_iload hx hb d_Wm_told_93 (lv_at hl 0 rfl) ?_
                refine va_iald (D := D9) hx hb hK hP 6 1 ww_6 rfl (vp_in_nI (by omega) (by decide)) d_Wm_told_95 ?_
                refine lv_topq (y := nI ((eN er9).length)) (by rw [nI_clamp (by omega)]; exact zr96) ?_
                exact hret _ _ _ _ _ _ _ hS hP hD d_Wm_told_96 nr_i (⟨r9, er9, hr9, hrr9, fun z9 => by rcases z9 with z9 | z9 | ⟨z9, z8⟩; rw [e7] at z9; exact absurd z9 (by decide); rw [e7] at z9; exact absurd z9 (by decide); rw [e7] at z8; exact absurd z8 (by decide), by rw [e7]; rfl, rfl, rfl⟩)
              · exact absurd c18 (by decide)
      · have e7 : v2 = nI 3 := by rw [e9, e8]
        rw [e7] at hl
        refine lv_iload_n hx hb d_Wm_told_8 rfl (lv_at hl 4 rfl) ?_
        refine lv_if_lt (tgt := 26) hx hb d_Wm_told_9 (by decide) (fun c19 => ?_) (fun c19 => ?_)
        · exact absurd c19 (by decide)
        · refine lv_iload_n hx hb d_Wm_told_12 rfl (lv_at hl 4 rfl) ?_
          refine lv_iconst (v := 4) hx hb d_Wm_told_13 (by decide) ?_
          refine lv_topq (y := nI 4) (rfl) ?_
          refine lv_icmp_gt (tgt := 26) hx hb d_Wm_told_14 (by decide) (fun c20 => ?_) (fun c20 => ?_)
          · exact absurd c20 (by decide)
          · refine lv_iload_n hx hb d_Wm_told_17 rfl (lv_at hl 2 rfl) ?_
            refine lv_if_ne (tgt := 34) hx hb d_Wm_told_18 (by decide) (fun c21 => ?_) (fun c21 => ?_)
            · refine lv_iload_n hx hb d_Wm_told_34 rfl (lv_at hl 4 rfl) ?_
              refine lv_tableIn (tgt := 97) hx hb d_Wm_told_35 (by decide) (by decide) rfl (by decide) ?_
              refine lv_aload_n hx hb d_Wm_told_97 rfl (lv_at hl 1 rfl) ?_
              refine va_get (D := D9) (ci := 6) (C := R_Wm) (T := F_Wm) (N := 7) hx hb hts i_Wm hown hK hP 0 ww_0 rfl 1 (by decide) (hts _ g_223) (fun _ h9 => h9) rfl d_Wm_told_98 ?_
              refine va_getN (D := D9) (ci := 2) (C := R_Ga) (T := F_Ga) (N := 11) hx hb hts i_Ga hown hK hP 19 ww_19 rfl 3 (by decide) (hts _ g_69) (fun _ h9 => h9) rfl d_Wm_told_101 ?_
              refine lv_iload hx hb d_Wm_told_104 (lv_at hl 0 rfl) ?_
              refine va_iald (D := D9) hx hb hK hP 7 1 ww_7 rfl (vp_in_nI (by omega) (by decide)) d_Wm_told_106 ?_
              refine lv_topq (y := nI ((eD er9).length)) (by rw [nI_clamp (by omega)]; exact zr97) ?_
              exact hret _ _ _ _ _ _ _ hS hP hD d_Wm_told_107 nr_i (⟨r9, er9, hr9, hrr9, fun z9 => by rcases z9 with z9 | z9 | ⟨z9, z8⟩; rw [e7] at z9; exact absurd z9 (by decide); rw [e7] at z9; exact absurd z9 (by decide); exact absurd z9 c21, by rw [e7]; rfl, rfl, rfl⟩)
            · refine lv_iload_n hx hb d_Wm_told_21 rfl (lv_at hl 4 rfl) ?_
              refine lv_iconst (v := 2) hx hb d_Wm_told_22 (by decide) ?_
              refine lv_topq (y := nI 2) (rfl) ?_
              refine lv_icmp_le (tgt := 34) hx hb d_Wm_told_23 (by decide) (fun c22 => ?_) (fun c22 => ?_)
              · exact absurd c22 (by decide)
              · exact hthr "java/lang/IllegalArgumentException" 71 73 _ _ _ _ _ _ _ (by decide +kernel) at_Wm_73 g_466 g_13 hS hP hD hl.1 (Nat.le_of_ble_eq_true rfl) d_Wm_told_26 d_Wm_told_29 d_Wm_told_30 d_Wm_told_33 (Or.inr ⟨rfl, r9, er9, hr9, hrr9, Or.inr (Or.inr ⟨c21, by rw [e7]; decide⟩), rfl, rfl⟩)
      · have e7 : v2 = nI 4 := by rw [e9, e8]
        rw [e7] at hl
        refine lv_iload_n hx hb d_Wm_told_8 rfl (lv_at hl 4 rfl) ?_
        refine lv_if_lt (tgt := 26) hx hb d_Wm_told_9 (by decide) (fun c23 => ?_) (fun c23 => ?_)
        · exact absurd c23 (by decide)
        · refine lv_iload_n hx hb d_Wm_told_12 rfl (lv_at hl 4 rfl) ?_
          refine lv_iconst (v := 4) hx hb d_Wm_told_13 (by decide) ?_
          refine lv_topq (y := nI 4) (rfl) ?_
          refine lv_icmp_gt (tgt := 26) hx hb d_Wm_told_14 (by decide) (fun c24 => ?_) (fun c24 => ?_)
          · exact absurd c24 (by decide)
          · refine lv_iload_n hx hb d_Wm_told_17 rfl (lv_at hl 2 rfl) ?_
            refine lv_if_ne (tgt := 34) hx hb d_Wm_told_18 (by decide) (fun c25 => ?_) (fun c25 => ?_)
            · refine lv_iload_n hx hb d_Wm_told_34 rfl (lv_at hl 4 rfl) ?_
              refine lv_tableOut (tgt := 108) hx hb d_Wm_told_35 (Or.inr (by decide)) (by decide) ?_
              refine lv_aload_n hx hb d_Wm_told_108 rfl (lv_at hl 1 rfl) ?_
              refine va_get (D := D9) (ci := 6) (C := R_Wm) (T := F_Wm) (N := 7) hx hb hts i_Wm hown hK hP 0 ww_0 rfl 1 (by decide) (hts _ g_223) (fun _ h9 => h9) rfl d_Wm_told_109 ?_
              refine va_getN (D := D9) (ci := 2) (C := R_Ga) (T := F_Ga) (N := 11) hx hb hts i_Ga hown hK hP 19 ww_19 rfl 6 (by decide) (hts _ g_78) (fun _ h9 => h9) rfl d_Wm_told_112 ?_
              refine lv_iload hx hb d_Wm_told_115 (lv_at hl 0 rfl) ?_
              refine va_iald (D := D9) hx hb hK hP 10 1 ww_10 rfl (vp_in_nI (by omega) (by decide)) d_Wm_told_117 ?_
              refine lv_topq (y := eL er9) (by rw [nI_clamp (by omega)]; exact zr910) ?_
              exact hret _ _ _ _ _ _ _ hS hP hD d_Wm_told_118 nr_i (⟨r9, er9, hr9, hrr9, fun z9 => by rcases z9 with z9 | z9 | ⟨z9, z8⟩; rw [e7] at z9; exact absurd z9 (by decide); rw [e7] at z9; exact absurd z9 (by decide); exact absurd z9 c25, by rw [e7]; rfl, rfl, rfl⟩)
            · refine lv_iload_n hx hb d_Wm_told_21 rfl (lv_at hl 4 rfl) ?_
              refine lv_iconst (v := 2) hx hb d_Wm_told_22 (by decide) ?_
              refine lv_topq (y := nI 2) (rfl) ?_
              refine lv_icmp_le (tgt := 34) hx hb d_Wm_told_23 (by decide) (fun c26 => ?_) (fun c26 => ?_)
              · exact absurd c26 (by decide)
              · exact hthr "java/lang/IllegalArgumentException" 71 73 _ _ _ _ _ _ _ (by decide +kernel) at_Wm_73 g_466 g_13 hS hP hD hl.1 (Nat.le_of_ble_eq_true rfl) d_Wm_told_26 d_Wm_told_29 d_Wm_told_30 d_Wm_told_33 (Or.inr ⟨rfl, r9, er9, hr9, hrr9, Or.inr (Or.inr ⟨c25, by rw [e7]; decide⟩), rfl, rfl⟩)
set_option maxHeartbeats 4000000 in
set_option maxRecDepth 100000 in
/-- byteOf -/
theorem m_Wm_byteOf (l : Launch) (D9 : va_G) (cB cI cJ cG : ClassId) (a : Nat → Nat) (O : Nat → Int64) (I : Nat → Int32) (F : Nat → Nat → Int32) (hfl : l.flags = pinnedFlags ++ [noTraceFlag]) (es : List En9) (hG : GaR F es) (hO : okE es) (v0 v1 v2 : Int32) : MZW l D9 cB cI cJ cG a O y_Wm_byteOf b_Wm_byteOf 5 (some .int) 7 [.ref (a 0), .int (v0), .int (v1), .int (v2)] I F (fun v I' F' => ∃ r e, rI v0 v1 es = some r ∧ es[r]? = some e ∧ ∃ j, j < (eN e).length + (eD e).length ∧ v2 = nI j ∧ v = some (.int (nI (tb (eN e ++ eD e) j))) ∧ I = I' ∧ F = F') (fun E I' F' => (E = "java/util/NoSuchElementException" ∧ rI v0 v1 es = none ∧ I = I' ∧ F = F') ∨ (E = "java/lang/IndexOutOfBoundsException" ∧ ∃ r e, rI v0 v1 es = some r ∧ es[r]? = some e ∧ (∀ j, j < (eN e).length + (eD e).length → v2 ≠ nI j) ∧ I = I' ∧ F = F')) := by
  refine mzw_of hfl (by decide) (Nat.le_of_ble_eq_true rfl) (by decide) ?_
  intro p e s m below meth c ls A0 Q C0 hP hD hA hS hZ hl hret hthr hlv
  obtain ⟨hx, hb, hml, hr, hlocks, hown, hts, hK⟩ := id C0
  have hl : lv_has ls 5 [(0, .ref (a 0)), (1, .int (v0)), (2, .int (v1)), (3, .int (v2))] := hl
  have hln := okE_len hO
  have k0 := hO.1
  have k1 := hO.2.1
  have k2 := hO.2.2.1
  have hBL := hG.2.2
  refine lv_aload_n hx hb d_Wm_byteOf_0 rfl (lv_at hl 0 rfl) ?_
  refine lv_iload_n hx hb d_Wm_byteOf_1 rfl (lv_at hl 1 rfl) ?_
  refine lv_iload_n hx hb d_Wm_byteOf_2 rfl (lv_at hl 2 rfl) ?_
  cases hr9 : rI v0 v1 es with
  | none =>
    refine mz_cV (ci := 6) (k := 0) C0 (m_Wm_rowThatIs_no l D9 cB cI cJ cG a O _ _ hfl es hG hO v0 v1 hr9) g_670 g_1 g_667 g_669 gs_Wm_rowThatIs ⟨by decide +kernel, by decide +kernel, show Option.map (fun d => d.parameters.length) (parseMethodDescriptor y_Wm_rowThatIs.desc) = some 2 by decide +kernel⟩ ⟨by decide, by decide⟩ rfl rfl (rz_Z hZ hS hD) hP hD hS hA rfl ww_0 hl.1 (Nat.le_of_ble_eq_true rfl) rfl d_Wm_byteOf_3 ⟨by decide, by decide⟩ (fun q9 E9 ce9 w9 H locs hq g1 g2 g3 hP hD hS => ?_) (fun v9 w9 H locs hq hP hD hS => ?_)
    · obtain ⟨I9, F9, hw9, e9, rfl, rfl⟩ := hq
      subst hw9
      exact hlv q9 E9 ce9 _ _ _ _ _ _ _ (Or.inl ⟨e9, hr9, rfl, rfl⟩) g1 g2 g3 hP hD hS
    · obtain ⟨I9, F9, hw9, e9⟩ := hq
      exact False.elim e9
  | some r9 =>
    refine mw_cV (ci := 6) (k := 0) C0 (m_Wm_rowThatIs_ok l D9 cB cI cJ cG a O _ _ es hG hO v0 v1 r9 hr9) g_670 g_1 g_667 g_669 gs_Wm_rowThatIs ⟨by decide +kernel, by decide +kernel, show Option.map (fun d => d.parameters.length) (parseMethodDescriptor y_Wm_rowThatIs.desc) = some 2 by decide +kernel⟩ ⟨by decide, by decide⟩ rfl rfl hP hD hS hA rfl ww_0 hl.1 (Nat.le_of_ble_eq_true rfl) rfl d_Wm_byteOf_3 ⟨by decide, by decide⟩ (fun v9 w9 H locs hq hP hD hS => ?_)
    obtain ⟨I1, F2, hw9, q3⟩ := hq
    subst hw9
    obtain ⟨rfl, rfl, rfl⟩ := q3
    obtain ⟨er9, hrr9, hlr9⟩ := rI_some hr9
    obtain ⟨zr95, zr96, zr97, zr98, zr99, zr910, zr912⟩ := hG.1 r9 er9 hrr9
    obtain ⟨yr91, yr92, yr93⟩ := hO.2.2.2 er9 (List.mem_of_getElem? hrr9)
    have hofr9 := of9_next hrr9
    have hogr9 := of9_le es (r9 + 1)
    refine lv_istore (lv' := [(4, _), (0, _), (1, _), (2, _), (3, _)]) hx hb d_Wm_byteOf_6 hl (by decide) rfl (fun ls hl => ?_)
    rcases pk_ix v2 (n := (eN er9).length + (eD er9).length) (by omega) with h9 | h9 | ⟨j9, hj9, e9⟩
    · have hbad : ∀ j, j < (eN er9).length + (eD er9).length → v2 ≠ nI j := fun j hj z9 => by rw [z9] at h9; exact nI_pos (by omega) h9
      refine lv_iload_n hx hb d_Wm_byteOf_8 rfl (lv_at hl 4 rfl) ?_
      refine lv_if_lt (tgt := 37) hx hb d_Wm_byteOf_9 (by decide) (fun c4 => ?_) (fun c4 => ?_)
      · exact hthr "java/lang/IndexOutOfBoundsException" 123 125 _ _ _ _ _ _ _ (by decide +kernel) at_Wm_125 g_628 g_19 hS hP hD hl.1 (Nat.le_of_ble_eq_true rfl) d_Wm_byteOf_37 d_Wm_byteOf_40 d_Wm_byteOf_41 d_Wm_byteOf_44 (Or.inr ⟨rfl, r9, er9, hr9, hrr9, hbad, rfl, rfl⟩)
      · exact absurd h9 c4
    · have hbad : ∀ j, j < (eN er9).length + (eD er9).length → v2 ≠ nI j := fun j hj z9 => by rw [z9] at h9; exact nI_ge hj (by omega) h9
      refine lv_iload_n hx hb d_Wm_byteOf_8 rfl (lv_at hl 4 rfl) ?_
      refine lv_if_lt (tgt := 37) hx hb d_Wm_byteOf_9 (by decide) (fun c5 => ?_) (fun c5 => ?_)
      · exact absurd (Int32.lt_of_le_of_lt (Int32.le_trans (nI_pos' (show (eN er9).length + (eD er9).length < 2 ^ 31 by omega)) h9) c5) (by decide)
      · refine lv_iload_n hx hb d_Wm_byteOf_12 rfl (lv_at hl 4 rfl) ?_
        refine lv_aload_n hx hb d_Wm_byteOf_13 rfl (lv_at hl 1 rfl) ?_
        refine va_get (D := D9) (ci := 6) (C := R_Wm) (T := F_Wm) (N := 7) hx hb hts i_Wm hown hK hP 0 ww_0 rfl 1 (by decide) (hts _ g_223) (fun _ h9 => h9) rfl d_Wm_byteOf_14 ?_
        refine va_getN (D := D9) (ci := 2) (C := R_Ga) (T := F_Ga) (N := 11) hx hb hts i_Ga hown hK hP 19 ww_19 rfl 2 (by decide) (hts _ g_66) (fun _ h9 => h9) rfl d_Wm_byteOf_17 ?_
        refine lv_iload hx hb d_Wm_byteOf_20 (lv_at hl 0 rfl) ?_
        refine va_iald (D := D9) hx hb hK hP 6 1 ww_6 rfl (vp_in_nI (by omega) (by decide)) d_Wm_byteOf_22 ?_
        refine lv_topq (y := nI ((eN er9).length)) (by rw [nI_clamp (by omega)]; exact zr96) ?_
        refine lv_aload_n hx hb d_Wm_byteOf_23 rfl (lv_at hl 1 rfl) ?_
        refine va_get (D := D9) (ci := 6) (C := R_Wm) (T := F_Wm) (N := 7) hx hb hts i_Wm hown hK hP 0 ww_0 rfl 1 (by decide) (hts _ g_223) (fun _ h9 => h9) rfl d_Wm_byteOf_24 ?_
        refine va_getN (D := D9) (ci := 2) (C := R_Ga) (T := F_Ga) (N := 11) hx hb hts i_Ga hown hK hP 19 ww_19 rfl 3 (by decide) (hts _ g_69) (fun _ h9 => h9) rfl d_Wm_byteOf_27 ?_
        refine lv_iload hx hb d_Wm_byteOf_30 (lv_at hl 0 rfl) ?_
        refine va_iald (D := D9) hx hb hK hP 7 1 ww_7 rfl (vp_in_nI (by omega) (by decide)) d_Wm_byteOf_32 ?_
        refine lv_topq (y := nI ((eD er9).length)) (by rw [nI_clamp (by omega)]; exact zr97) ?_
        refine lv_iadd hx hb d_Wm_byteOf_33 ?_
        refine lv_topq (y := nI ((eN er9).length + ((eD er9).length))) (nI_add _ _) ?_
        refine lv_icmp_lt (tgt := 45) hx hb d_Wm_byteOf_34 (by decide) (fun c6 => ?_) (fun c6 => ?_)
        · exact absurd (Int32.lt_of_le_of_lt h9 c6) (by simp)
        · exact hthr "java/lang/IndexOutOfBoundsException" 123 125 _ _ _ _ _ _ _ (by decide +kernel) at_Wm_125 g_628 g_19 hS hP hD hl.1 (Nat.le_of_ble_eq_true rfl) d_Wm_byteOf_37 d_Wm_byteOf_40 d_Wm_byteOf_41 d_Wm_byteOf_44 (Or.inr ⟨rfl, r9, er9, hr9, hrr9, hbad, rfl, rfl⟩)
    · rw [e9] at hl
      have hft := fl_tb hrr9 hj9
      refine lv_iload_n hx hb d_Wm_byteOf_8 rfl (lv_at hl 4 rfl) ?_
      refine lv_if_lt (tgt := 37) hx hb d_Wm_byteOf_9 (by decide) (fun c7 => ?_) (fun c7 => ?_)
      · have c7 : j9 < 0 := (nI_ltI (a := j9) (b := 0) (by omega) (by omega)).mp c7
        exfalso; omega
      · have c7 : ¬ (j9 < 0) := fun z9 => c7 ((nI_ltI (a := j9) (b := 0) (by omega) (by omega)).mpr z9)
        refine lv_iload_n hx hb d_Wm_byteOf_12 rfl (lv_at hl 4 rfl) ?_
        refine lv_aload_n hx hb d_Wm_byteOf_13 rfl (lv_at hl 1 rfl) ?_
        refine va_get (D := D9) (ci := 6) (C := R_Wm) (T := F_Wm) (N := 7) hx hb hts i_Wm hown hK hP 0 ww_0 rfl 1 (by decide) (hts _ g_223) (fun _ h9 => h9) rfl d_Wm_byteOf_14 ?_
        refine va_getN (D := D9) (ci := 2) (C := R_Ga) (T := F_Ga) (N := 11) hx hb hts i_Ga hown hK hP 19 ww_19 rfl 2 (by decide) (hts _ g_66) (fun _ h9 => h9) rfl d_Wm_byteOf_17 ?_
        refine lv_iload hx hb d_Wm_byteOf_20 (lv_at hl 0 rfl) ?_
        refine va_iald (D := D9) hx hb hK hP 6 1 ww_6 rfl (vp_in_nI (by omega) (by decide)) d_Wm_byteOf_22 ?_
        refine lv_topq (y := nI ((eN er9).length)) (by rw [nI_clamp (by omega)]; exact zr96) ?_
        refine lv_aload_n hx hb d_Wm_byteOf_23 rfl (lv_at hl 1 rfl) ?_
        refine va_get (D := D9) (ci := 6) (C := R_Wm) (T := F_Wm) (N := 7) hx hb hts i_Wm hown hK hP 0 ww_0 rfl 1 (by decide) (hts _ g_223) (fun _ h9 => h9) rfl d_Wm_byteOf_24 ?_
        refine va_getN (D := D9) (ci := 2) (C := R_Ga) (T := F_Ga) (N := 11) hx hb hts i_Ga hown hK hP 19 ww_19 rfl 3 (by decide) (hts _ g_69) (fun _ h9 => h9) rfl d_Wm_byteOf_27 ?_
        refine lv_iload hx hb d_Wm_byteOf_30 (lv_at hl 0 rfl) ?_
        refine va_iald (D := D9) hx hb hK hP 7 1 ww_7 rfl (vp_in_nI (by omega) (by decide)) d_Wm_byteOf_32 ?_
        refine lv_topq (y := nI ((eD er9).length)) (by rw [nI_clamp (by omega)]; exact zr97) ?_
        refine lv_iadd hx hb d_Wm_byteOf_33 ?_
        refine lv_topq (y := nI ((eN er9).length + ((eD er9).length))) (nI_add _ _) ?_
        refine lv_icmp_lt (tgt := 45) hx hb d_Wm_byteOf_34 (by decide) (fun c8 => ?_) (fun c8 => ?_)
        · have c8 : j9 < (eN er9).length + ((eD er9).length) := (nI_ltI (a := j9) (b := (eN er9).length + ((eD er9).length)) (by omega) (by omega)).mp c8
          refine lv_aload_n hx hb d_Wm_byteOf_45 rfl (lv_at hl 1 rfl) ?_
          refine va_get (D := D9) (ci := 6) (C := R_Wm) (T := F_Wm) (N := 7) hx hb hts i_Wm hown hK hP 0 ww_0 rfl 1 (by decide) (hts _ g_223) (fun _ h9 => h9) rfl d_Wm_byteOf_46 ?_
          refine va_getN (D := D9) (ci := 2) (C := R_Ga) (T := F_Ga) (N := 11) hx hb hts i_Ga hown hK hP 19 ww_19 rfl 0 (by decide) (hts _ g_59) (fun _ h9 => h9) rfl d_Wm_byteOf_49 ?_
          refine lv_aload_n hx hb d_Wm_byteOf_52 rfl (lv_at hl 1 rfl) ?_
          refine va_get (D := D9) (ci := 6) (C := R_Wm) (T := F_Wm) (N := 7) hx hb hts i_Wm hown hK hP 0 ww_0 rfl 1 (by decide) (hts _ g_223) (fun _ h9 => h9) rfl d_Wm_byteOf_53 ?_
          refine va_getN (D := D9) (ci := 2) (C := R_Ga) (T := F_Ga) (N := 11) hx hb hts i_Ga hown hK hP 19 ww_19 rfl 1 (by decide) (hts _ g_63) (fun _ h9 => h9) rfl d_Wm_byteOf_56 ?_
          refine lv_iload hx hb d_Wm_byteOf_59 (lv_at hl 0 rfl) ?_
          refine va_iald (D := D9) hx hb hK hP 5 1 ww_5 rfl (vp_in_nI (by omega) (by decide)) d_Wm_byteOf_61 ?_
          refine lv_topq (y := nI (of9 es r9)) (by rw [nI_clamp (by omega)]; exact zr95) ?_
          refine lv_iload_n hx hb d_Wm_byteOf_62 rfl (lv_at hl 4 rfl) ?_
          refine lv_iadd hx hb d_Wm_byteOf_63 ?_
          refine lv_topq (y := nI (of9 es r9 + j9)) (nI_add _ _) ?_
          refine mw_cVN (ci := 0) (k := 3) C0 (m_By_atL_gb l D9 cB cI cJ cG a O _ _ (fl es) (of9 es r9 + j9) hBL (by omega) (by omega)) g_259 g_2 g_644 g_258 gs_By_at ⟨by decide +kernel, by decide +kernel, show Option.map (fun d => d.parameters.length) (parseMethodDescriptor y_By_at.desc) = some 1 by decide +kernel⟩ ⟨by decide, by decide⟩ rfl rfl hP hD hS hA rfl ww_3 hl.1 (Nat.le_of_ble_eq_true rfl) rfl d_Wm_byteOf_64 ⟨by decide, by decide⟩ (fun v9 w9 H locs hq hP hD hS => ?_)
          obtain ⟨I9, F10, hw9, q11⟩ := hq
          subst hw9
          obtain ⟨rfl, rfl, rfl⟩ := q11
          exact hret _ _ _ _ _ _ _ hS hP hD d_Wm_byteOf_67 nr_i (⟨r9, er9, hr9, hrr9, j9, hj9, e9, by rw [hft], rfl, rfl⟩)
        · have c8 : ¬ (j9 < (eN er9).length + ((eD er9).length)) := fun z9 => c8 ((nI_ltI (a := j9) (b := (eN er9).length + ((eD er9).length)) (by omega) (by omega)).mpr z9)
          exfalso; omega
set_option maxHeartbeats 4000000 in
set_option maxRecDepth 100000 in
/-- order -/
theorem m_Wm_order (l : Launch) (D9 : va_G) (cB cI cJ cG : ClassId) (a : Nat → Nat) (O : Nat → Int64) (I : Nat → Int32) (F : Nat → Nat → Int32) (hfl : l.flags = pinnedFlags ++ [noTraceFlag]) (es : List En9) (hG : GaR F es) (hO : okE es) (hEk : ∀ r e, es[r]? = some e → eOk (fl es) (of9 es r) e) (v0 v1 v2 v3 : Int32) : MZW l D9 cB cI cJ cG a O y_Wm_order b_Wm_order 7 (some .int) 7 [.ref (a 0), .int (v0), .int (v1), .int (v2), .int (v3)] I F (fun v I' F' => ∃ r1 r2 e1 e2, rI v0 v1 es = some r1 ∧ rI v2 v3 es = some r2 ∧ es[r1]? = some e1 ∧ es[r2]? = some e2 ∧ v = some (.int (od9 es r1 r2)) ∧ I = I' ∧ sm [31, 32] F F') (fun E I' F' => E = "java/util/NoSuchElementException" ∧ (rI v0 v1 es = none ∨ rI v2 v3 es = none) ∧ I = I' ∧ F = F') := by
  refine mzw_of hfl (by decide) (Nat.le_of_ble_eq_true rfl) (by decide) ?_
  intro p e s m below meth c ls A0 Q C0 hP hD hA hS hZ hl hret hthr hlv
  obtain ⟨hx, hb, hml, hr, hlocks, hown, hts, hK⟩ := id C0
  have hl : lv_has ls 7 [(0, .ref (a 0)), (1, .int (v0)), (2, .int (v1)), (3, .int (v2)), (4, .int (v3))] := hl
  have hln := okE_len hO
  have k0 := hO.1
  have k1 := hO.2.1
  have k2 := hO.2.2.1
  have hBL := hG.2.2
  refine lv_aload_n hx hb d_Wm_order_0 rfl (lv_at hl 0 rfl) ?_
  refine lv_iload_n hx hb d_Wm_order_1 rfl (lv_at hl 1 rfl) ?_
  refine lv_iload_n hx hb d_Wm_order_2 rfl (lv_at hl 2 rfl) ?_
  cases hr1 : rI v0 v1 es with
  | none =>
    refine mz_cV (ci := 6) (k := 0) C0 (m_Wm_rowThatIs_no l D9 cB cI cJ cG a O _ _ hfl es hG hO v0 v1 hr1) g_670 g_1 g_667 g_669 gs_Wm_rowThatIs ⟨by decide +kernel, by decide +kernel, show Option.map (fun d => d.parameters.length) (parseMethodDescriptor y_Wm_rowThatIs.desc) = some 2 by decide +kernel⟩ ⟨by decide, by decide⟩ rfl rfl (rz_Z hZ hS hD) hP hD hS hA rfl ww_0 hl.1 (Nat.le_of_ble_eq_true rfl) rfl d_Wm_order_3 ⟨by decide, by decide⟩ (fun q9 E9 ce9 w9 H locs hq g1 g2 g3 hP hD hS => ?_) (fun v9 w9 H locs hq hP hD hS => ?_)
    · obtain ⟨I9, F9, hw9, e9, rfl, rfl⟩ := hq
      subst hw9
      exact hlv q9 E9 ce9 _ _ _ _ _ _ _ (⟨e9, Or.inl hr1, rfl, rfl⟩) g1 g2 g3 hP hD hS
    · obtain ⟨I9, F9, hw9, e9⟩ := hq
      exact False.elim e9
  | some r1 =>
    refine mw_cV (ci := 6) (k := 0) C0 (m_Wm_rowThatIs_ok l D9 cB cI cJ cG a O _ _ es hG hO v0 v1 r1 hr1) g_670 g_1 g_667 g_669 gs_Wm_rowThatIs ⟨by decide +kernel, by decide +kernel, show Option.map (fun d => d.parameters.length) (parseMethodDescriptor y_Wm_rowThatIs.desc) = some 2 by decide +kernel⟩ ⟨by decide, by decide⟩ rfl rfl hP hD hS hA rfl ww_0 hl.1 (Nat.le_of_ble_eq_true rfl) rfl d_Wm_order_3 ⟨by decide, by decide⟩ (fun v9 w9 H locs hq hP hD hS => ?_)
    obtain ⟨I1, F2, hw9, q3⟩ := hq
    subst hw9
    obtain ⟨rfl, rfl, rfl⟩ := q3
    obtain ⟨er1, hrr1, hlr1⟩ := rI_some hr1
    obtain ⟨zr15, zr16, zr17, zr18, zr19, zr110, zr112⟩ := hG.1 r1 er1 hrr1
    obtain ⟨yr11, yr12, yr13⟩ := hO.2.2.2 er1 (List.mem_of_getElem? hrr1)
    have hofr1 := of9_next hrr1
    have hogr1 := of9_le es (r1 + 1)
    refine lv_istore (lv' := [(5, _), (0, _), (1, _), (2, _), (3, _), (4, _)]) hx hb d_Wm_order_6 hl (by decide) rfl (fun ls hl => ?_)
    refine lv_aload_n hx hb d_Wm_order_8 rfl (lv_at hl 1 rfl) ?_
    refine lv_iload_n hx hb d_Wm_order_9 rfl (lv_at hl 4 rfl) ?_
    refine lv_iload hx hb d_Wm_order_10 (lv_at hl 5 rfl) ?_
    cases hr2 : rI v2 v3 es with
    | none =>
      refine mz_cV (ci := 6) (k := 0) C0 (m_Wm_rowThatIs_no l D9 cB cI cJ cG a O _ _ hfl es hG hO v2 v3 hr2) g_670 g_1 g_667 g_669 gs_Wm_rowThatIs ⟨by decide +kernel, by decide +kernel, show Option.map (fun d => d.parameters.length) (parseMethodDescriptor y_Wm_rowThatIs.desc) = some 2 by decide +kernel⟩ ⟨by decide, by decide⟩ rfl rfl (rz_Z hZ hS hD) hP hD hS hA rfl ww_0 hl.1 (Nat.le_of_ble_eq_true rfl) rfl d_Wm_order_12 ⟨by decide, by decide⟩ (fun q9 E9 ce9 w9 H locs hq g1 g2 g3 hP hD hS => ?_) (fun v9 w9 H locs hq hP hD hS => ?_)
      · obtain ⟨I9, F9, hw9, e9, rfl, rfl⟩ := hq
        subst hw9
        exact hlv q9 E9 ce9 _ _ _ _ _ _ _ (⟨e9, Or.inr hr2, rfl, rfl⟩) g1 g2 g3 hP hD hS
      · obtain ⟨I9, F9, hw9, e9⟩ := hq
        exact False.elim e9
    | some r2 =>
      refine mw_cV (ci := 6) (k := 0) C0 (m_Wm_rowThatIs_ok l D9 cB cI cJ cG a O _ _ es hG hO v2 v3 r2 hr2) g_670 g_1 g_667 g_669 gs_Wm_rowThatIs ⟨by decide +kernel, by decide +kernel, show Option.map (fun d => d.parameters.length) (parseMethodDescriptor y_Wm_rowThatIs.desc) = some 2 by decide +kernel⟩ ⟨by decide, by decide⟩ rfl rfl hP hD hS hA rfl ww_0 hl.1 (Nat.le_of_ble_eq_true rfl) rfl d_Wm_order_12 ⟨by decide, by decide⟩ (fun v9 w9 H locs hq hP hD hS => ?_)
      obtain ⟨I4, F5, hw9, q6⟩ := hq
      subst hw9
      obtain ⟨rfl, rfl, rfl⟩ := q6
      obtain ⟨er2, hrr2, hlr2⟩ := rI_some hr2
      obtain ⟨zr25, zr26, zr27, zr28, zr29, zr210, zr212⟩ := hG.1 r2 er2 hrr2
      obtain ⟨yr21, yr22, yr23⟩ := hO.2.2.2 er2 (List.mem_of_getElem? hrr2)
      have hofr2 := of9_next hrr2
      have hogr2 := of9_le es (r2 + 1)
      refine lv_istore (lv' := [(6, _), (5, _), (0, _), (1, _), (2, _), (3, _), (4, _)]) hx hb d_Wm_order_15 hl (by decide) rfl (fun ls hl => ?_)
      refine lv_aload_n hx hb d_Wm_order_17 rfl (lv_at hl 2 rfl) ?_
      refine va_get (D := D9) (ci := 6) (C := R_Wm) (T := F_Wm) (N := 7) hx hb hts i_Wm hown hK hP 0 ww_0 rfl 4 (by decide) (hts _ g_226) (fun _ h9 => h9) rfl d_Wm_order_18 ?_
      refine lv_aload_n hx hb d_Wm_order_21 rfl (lv_at hl 2 rfl) ?_
      refine va_get (D := D9) (ci := 6) (C := R_Wm) (T := F_Wm) (N := 7) hx hb hts i_Wm hown hK hP 0 ww_0 rfl 1 (by decide) (hts _ g_223) (fun _ h9 => h9) rfl d_Wm_order_22 ?_
      refine va_getN (D := D9) (ci := 2) (C := R_Ga) (T := F_Ga) (N := 11) hx hb hts i_Ga hown hK hP 19 ww_19 rfl 1 (by decide) (hts _ g_63) (fun _ h9 => h9) rfl d_Wm_order_25 ?_
      refine lv_iload hx hb d_Wm_order_28 (lv_at hl 1 rfl) ?_
      refine va_iald (D := D9) hx hb hK hP 5 1 ww_5 rfl (vp_in_nI (by omega) (by decide)) d_Wm_order_30 ?_
      refine lv_topq (y := nI (of9 es r1)) (by rw [nI_clamp (by omega)]; exact zr15) ?_
      refine lv_aload_n hx hb d_Wm_order_31 rfl (lv_at hl 2 rfl) ?_
      refine va_get (D := D9) (ci := 6) (C := R_Wm) (T := F_Wm) (N := 7) hx hb hts i_Wm hown hK hP 0 ww_0 rfl 1 (by decide) (hts _ g_223) (fun _ h9 => h9) rfl d_Wm_order_32 ?_
      refine va_getN (D := D9) (ci := 2) (C := R_Ga) (T := F_Ga) (N := 11) hx hb hts i_Ga hown hK hP 19 ww_19 rfl 1 (by decide) (hts _ g_63) (fun _ h9 => h9) rfl d_Wm_order_35 ?_
      refine lv_iload hx hb d_Wm_order_38 (lv_at hl 0 rfl) ?_
      refine va_iald (D := D9) hx hb hK hP 5 1 ww_5 rfl (vp_in_nI (by omega) (by decide)) d_Wm_order_40 ?_
      refine lv_topq (y := nI (of9 es r2)) (by rw [nI_clamp (by omega)]; exact zr25) ?_
      obtain ⟨nr1, kr1⟩ := nmK_of (hEk r1 er1 hrr1)
      obtain ⟨nr2, kr2⟩ := nmK_of (hEk r2 er2 hrr2)
      refine mw_cVN (ci := 3) (k := 30) C0 (m_Na_compare l D9 cB cI cJ cG a O _ _ (fl es) (by omega) hBL (nmK es r1) (of9 es r1) _ (nmK es r2) (of9 es r2) _ nr1 nr2 kr1 kr2) g_692 g_7 g_689 g_691 gs_Na_compare ⟨by decide +kernel, by decide +kernel, show Option.map (fun d => d.parameters.length) (parseMethodDescriptor y_Na_compare.desc) = some 2 by decide +kernel⟩ ⟨by decide, by decide⟩ rfl rfl hP hD hS hA rfl ww_30 hl.1 (Nat.le_of_ble_eq_true rfl) rfl d_Wm_order_41 ⟨by decide, by decide⟩ (fun v9 w9 H locs hq hP hD hS => ?_)
      obtain ⟨I7, F8, hw9, q9⟩ := hq
      subst hw9
      obtain ⟨rfl, rfl, sC⟩ := q9
      exact hret _ _ _ _ _ _ _ hS hP hD d_Wm_order_44 nr_i (⟨r1, r2, er1, er2, hr1, hr2, hrr1, hrr2, rfl, rfl, (sm_mo sC (by decide))⟩)
set_option maxHeartbeats 4000000 in
set_option maxRecDepth 100000 in
/-- same -/
theorem m_Wm_same (l : Launch) (D9 : va_G) (cB cI cJ cG : ClassId) (a : Nat → Nat) (O : Nat → Int64) (I : Nat → Int32) (F : Nat → Nat → Int32) (hfl : l.flags = pinnedFlags ++ [noTraceFlag]) (es : List En9) (hG : GaR F es) (hO : okE es) (hEk : ∀ r e, es[r]? = some e → eOk (fl es) (of9 es r) e) (v0 v1 v2 v3 : Int32) : MZW l D9 cB cI cJ cG a O y_Wm_same b_Wm_same 7 (some .boolean) 7 [.ref (a 0), .int (v0), .int (v1), .int (v2), .int (v3)] I F (fun v I' F' => ∃ r1 r2 e1 e2, rI v0 v1 es = some r1 ∧ rI v2 v3 es = some r2 ∧ es[r1]? = some e1 ∧ es[r2]? = some e2 ∧ ((od9 es r1 r2 = 0 ∧ v = some (.int (nI 1))) ∨ (¬ od9 es r1 r2 = 0 ∧ v = some (.int (nI 0)))) ∧ I = I' ∧ sm [31, 32] F F') (fun E I' F' => E = "java/util/NoSuchElementException" ∧ (rI v0 v1 es = none ∨ rI v2 v3 es = none) ∧ I = I' ∧ F = F') := by
  refine mzw_of hfl (by decide) (Nat.le_of_ble_eq_true rfl) (by decide) ?_
  intro p e s m below meth c ls A0 Q C0 hP hD hA hS hZ hl hret hthr hlv
  obtain ⟨hx, hb, hml, hr, hlocks, hown, hts, hK⟩ := id C0
  have hl : lv_has ls 7 [(0, .ref (a 0)), (1, .int (v0)), (2, .int (v1)), (3, .int (v2)), (4, .int (v3))] := hl
  have hln := okE_len hO
  have k0 := hO.1
  have k1 := hO.2.1
  have k2 := hO.2.2.1
  have hBL := hG.2.2
  refine lv_aload_n hx hb d_Wm_same_0 rfl (lv_at hl 0 rfl) ?_
  refine lv_iload_n hx hb d_Wm_same_1 rfl (lv_at hl 1 rfl) ?_
  refine lv_iload_n hx hb d_Wm_same_2 rfl (lv_at hl 2 rfl) ?_
  cases hr1 : rI v0 v1 es with
  | none =>
    refine mz_cV (ci := 6) (k := 0) C0 (m_Wm_rowThatIs_no l D9 cB cI cJ cG a O _ _ hfl es hG hO v0 v1 hr1) g_670 g_1 g_667 g_669 gs_Wm_rowThatIs ⟨by decide +kernel, by decide +kernel, show Option.map (fun d => d.parameters.length) (parseMethodDescriptor y_Wm_rowThatIs.desc) = some 2 by decide +kernel⟩ ⟨by decide, by decide⟩ rfl rfl (rz_Z hZ hS hD) hP hD hS hA rfl ww_0 hl.1 (Nat.le_of_ble_eq_true rfl) rfl d_Wm_same_3 ⟨by decide, by decide⟩ (fun q9 E9 ce9 w9 H locs hq g1 g2 g3 hP hD hS => ?_) (fun v9 w9 H locs hq hP hD hS => ?_)
    · obtain ⟨I9, F9, hw9, e9, rfl, rfl⟩ := hq
      subst hw9
      exact hlv q9 E9 ce9 _ _ _ _ _ _ _ (⟨e9, Or.inl hr1, rfl, rfl⟩) g1 g2 g3 hP hD hS
    · obtain ⟨I9, F9, hw9, e9⟩ := hq
      exact False.elim e9
  | some r1 =>
    refine mw_cV (ci := 6) (k := 0) C0 (m_Wm_rowThatIs_ok l D9 cB cI cJ cG a O _ _ es hG hO v0 v1 r1 hr1) g_670 g_1 g_667 g_669 gs_Wm_rowThatIs ⟨by decide +kernel, by decide +kernel, show Option.map (fun d => d.parameters.length) (parseMethodDescriptor y_Wm_rowThatIs.desc) = some 2 by decide +kernel⟩ ⟨by decide, by decide⟩ rfl rfl hP hD hS hA rfl ww_0 hl.1 (Nat.le_of_ble_eq_true rfl) rfl d_Wm_same_3 ⟨by decide, by decide⟩ (fun v9 w9 H locs hq hP hD hS => ?_)
    obtain ⟨I1, F2, hw9, q3⟩ := hq
    subst hw9
    obtain ⟨rfl, rfl, rfl⟩ := q3
    obtain ⟨er1, hrr1, hlr1⟩ := rI_some hr1
    obtain ⟨zr15, zr16, zr17, zr18, zr19, zr110, zr112⟩ := hG.1 r1 er1 hrr1
    obtain ⟨yr11, yr12, yr13⟩ := hO.2.2.2 er1 (List.mem_of_getElem? hrr1)
    have hofr1 := of9_next hrr1
    have hogr1 := of9_le es (r1 + 1)
    refine lv_istore (lv' := [(5, _), (0, _), (1, _), (2, _), (3, _), (4, _)]) hx hb d_Wm_same_6 hl (by decide) rfl (fun ls hl => ?_)
    refine lv_aload_n hx hb d_Wm_same_8 rfl (lv_at hl 1 rfl) ?_
    refine lv_iload_n hx hb d_Wm_same_9 rfl (lv_at hl 4 rfl) ?_
    refine lv_iload hx hb d_Wm_same_10 (lv_at hl 5 rfl) ?_
    cases hr2 : rI v2 v3 es with
    | none =>
      refine mz_cV (ci := 6) (k := 0) C0 (m_Wm_rowThatIs_no l D9 cB cI cJ cG a O _ _ hfl es hG hO v2 v3 hr2) g_670 g_1 g_667 g_669 gs_Wm_rowThatIs ⟨by decide +kernel, by decide +kernel, show Option.map (fun d => d.parameters.length) (parseMethodDescriptor y_Wm_rowThatIs.desc) = some 2 by decide +kernel⟩ ⟨by decide, by decide⟩ rfl rfl (rz_Z hZ hS hD) hP hD hS hA rfl ww_0 hl.1 (Nat.le_of_ble_eq_true rfl) rfl d_Wm_same_12 ⟨by decide, by decide⟩ (fun q9 E9 ce9 w9 H locs hq g1 g2 g3 hP hD hS => ?_) (fun v9 w9 H locs hq hP hD hS => ?_)
      · obtain ⟨I9, F9, hw9, e9, rfl, rfl⟩ := hq
        subst hw9
        exact hlv q9 E9 ce9 _ _ _ _ _ _ _ (⟨e9, Or.inr hr2, rfl, rfl⟩) g1 g2 g3 hP hD hS
      · obtain ⟨I9, F9, hw9, e9⟩ := hq
        exact False.elim e9
    | some r2 =>
      refine mw_cV (ci := 6) (k := 0) C0 (m_Wm_rowThatIs_ok l D9 cB cI cJ cG a O _ _ es hG hO v2 v3 r2 hr2) g_670 g_1 g_667 g_669 gs_Wm_rowThatIs ⟨by decide +kernel, by decide +kernel, show Option.map (fun d => d.parameters.length) (parseMethodDescriptor y_Wm_rowThatIs.desc) = some 2 by decide +kernel⟩ ⟨by decide, by decide⟩ rfl rfl hP hD hS hA rfl ww_0 hl.1 (Nat.le_of_ble_eq_true rfl) rfl d_Wm_same_12 ⟨by decide, by decide⟩ (fun v9 w9 H locs hq hP hD hS => ?_)
      obtain ⟨I4, F5, hw9, q6⟩ := hq
      subst hw9
      obtain ⟨rfl, rfl, rfl⟩ := q6
      obtain ⟨er2, hrr2, hlr2⟩ := rI_some hr2
      obtain ⟨zr25, zr26, zr27, zr28, zr29, zr210, zr212⟩ := hG.1 r2 er2 hrr2
      obtain ⟨yr21, yr22, yr23⟩ := hO.2.2.2 er2 (List.mem_of_getElem? hrr2)
      have hofr2 := of9_next hrr2
      have hogr2 := of9_le es (r2 + 1)
      refine lv_istore (lv' := [(6, _), (5, _), (0, _), (1, _), (2, _), (3, _), (4, _)]) hx hb d_Wm_same_15 hl (by decide) rfl (fun ls hl => ?_)
      refine lv_aload_n hx hb d_Wm_same_17 rfl (lv_at hl 2 rfl) ?_
      refine va_get (D := D9) (ci := 6) (C := R_Wm) (T := F_Wm) (N := 7) hx hb hts i_Wm hown hK hP 0 ww_0 rfl 4 (by decide) (hts _ g_226) (fun _ h9 => h9) rfl d_Wm_same_18 ?_
      refine lv_aload_n hx hb d_Wm_same_21 rfl (lv_at hl 2 rfl) ?_
      refine va_get (D := D9) (ci := 6) (C := R_Wm) (T := F_Wm) (N := 7) hx hb hts i_Wm hown hK hP 0 ww_0 rfl 1 (by decide) (hts _ g_223) (fun _ h9 => h9) rfl d_Wm_same_22 ?_
      refine va_getN (D := D9) (ci := 2) (C := R_Ga) (T := F_Ga) (N := 11) hx hb hts i_Ga hown hK hP 19 ww_19 rfl 1 (by decide) (hts _ g_63) (fun _ h9 => h9) rfl d_Wm_same_25 ?_
      refine lv_iload hx hb d_Wm_same_28 (lv_at hl 1 rfl) ?_
      refine va_iald (D := D9) hx hb hK hP 5 1 ww_5 rfl (vp_in_nI (by omega) (by decide)) d_Wm_same_30 ?_
      refine lv_topq (y := nI (of9 es r1)) (by rw [nI_clamp (by omega)]; exact zr15) ?_
      refine lv_aload_n hx hb d_Wm_same_31 rfl (lv_at hl 2 rfl) ?_
      refine va_get (D := D9) (ci := 6) (C := R_Wm) (T := F_Wm) (N := 7) hx hb hts i_Wm hown hK hP 0 ww_0 rfl 1 (by decide) (hts _ g_223) (fun _ h9 => h9) rfl d_Wm_same_32 ?_
      refine va_getN (D := D9) (ci := 2) (C := R_Ga) (T := F_Ga) (N := 11) hx hb hts i_Ga hown hK hP 19 ww_19 rfl 1 (by decide) (hts _ g_63) (fun _ h9 => h9) rfl d_Wm_same_35 ?_
      refine lv_iload hx hb d_Wm_same_38 (lv_at hl 0 rfl) ?_
      refine va_iald (D := D9) hx hb hK hP 5 1 ww_5 rfl (vp_in_nI (by omega) (by decide)) d_Wm_same_40 ?_
      refine lv_topq (y := nI (of9 es r2)) (by rw [nI_clamp (by omega)]; exact zr25) ?_
      obtain ⟨nr1, kr1⟩ := nmK_of (hEk r1 er1 hrr1)
      obtain ⟨nr2, kr2⟩ := nmK_of (hEk r2 er2 hrr2)
      refine mw_cVN (ci := 3) (k := 30) C0 (m_Na_compare l D9 cB cI cJ cG a O _ _ (fl es) (by omega) hBL (nmK es r1) (of9 es r1) _ (nmK es r2) (of9 es r2) _ nr1 nr2 kr1 kr2) g_692 g_7 g_689 g_691 gs_Na_compare ⟨by decide +kernel, by decide +kernel, show Option.map (fun d => d.parameters.length) (parseMethodDescriptor y_Na_compare.desc) = some 2 by decide +kernel⟩ ⟨by decide, by decide⟩ rfl rfl hP hD hS hA rfl ww_30 hl.1 (Nat.le_of_ble_eq_true rfl) rfl d_Wm_same_41 ⟨by decide, by decide⟩ (fun v9 w9 H locs hq hP hD hS => ?_)
      obtain ⟨I7, F8, hw9, q9⟩ := hq
      subst hw9
      obtain ⟨rfl, rfl, sC⟩ := q9
      refine lv_if_ne (tgt := 51) hx hb d_Wm_same_44 (by decide) (fun c10 => ?_) (fun c10 => ?_)
      · refine lv_iconst (v := 0) hx hb d_Wm_same_51 (by decide) ?_
        refine lv_topq (y := nI 0) (rfl) ?_
        exact hret _ _ _ _ _ _ _ hS hP hD d_Wm_same_52 (nr_z (Or.inl rfl)) (⟨r1, r2, er1, er2, hr1, hr2, hrr1, hrr2, Or.inr ⟨c10, rfl⟩, rfl, (sm_mo sC (by decide))⟩)
      · refine lv_iconst (v := 1) hx hb d_Wm_same_47 (by decide) ?_
        refine lv_topq (y := nI 1) (rfl) ?_
        refine lv_goto (tgt := 52) hx hb d_Wm_same_48 (by decide) ?_
        exact hret _ _ _ _ _ _ _ hS hP hD d_Wm_same_52 (nr_z (Or.inr rfl)) (⟨r1, r2, er1, er2, hr1, hr2, hrr1, hrr2, Or.inl ⟨c10, rfl⟩, rfl, (sm_mo sC (by decide))⟩)
