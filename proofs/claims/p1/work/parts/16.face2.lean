theorem g_14 : (Cond.initialized "java/lang/Math") ∈ GT := gt_mem 14 (by decide +kernel) rfl
theorem g_38 : (Cond.fieldLinkNest "WireMessages$Writer" (47 : Nat) "WireMessages$Bytes" "length" "I" "WireMessages") ∈ GT := gt_mem 38 (by decide +kernel) rfl
theorem g_82 : (Cond.fieldLinkNest "WireMessages$Writer" (58 : Nat) "WireMessages$Gathered" "sizes" "[I" "WireMessages") ∈ GT := gt_mem 82 (by decide +kernel) rfl
theorem g_85 : (Cond.fieldLinkNest "WireMessages$Writer" (81 : Nat) "WireMessages$Gathered" "id" "I" "WireMessages") ∈ GT := gt_mem 85 (by decide +kernel) rfl
theorem g_88 : (Cond.fieldLinkNest "WireMessages$Writer" (84 : Nat) "WireMessages$Gathered" "flags" "I" "WireMessages") ∈ GT := gt_mem 88 (by decide +kernel) rfl
theorem g_168 : (Cond.fieldLink "WireMessages$Ends" (31 : Nat) "WireMessages$Ends" "size" "I") ∈ GT := gt_mem 168 (by decide +kernel) rfl
theorem g_191 : (Cond.fieldLink "WireMessages$Writer" (51 : Nat) "WireMessages$Writer" "pointers" "I") ∈ GT := gt_mem 191 (by decide +kernel) rfl
theorem g_299 : (Cond.instanceMethod ({ cls := "WireMessages$Bytes", name := "putFrom", desc := "(LWireMessages$Bytes;II)V" } : MethodName)) ∈ GT := gt_mem 299 (by decide +kernel) rfl
theorem g_300 : (Cond.code ({ cls := "WireMessages$Bytes", name := "putFrom", desc := "(LWireMessages$Bytes;II)V" } : MethodName) prog_2_method_10_code (5 : Nat) (Option.none : Option FieldType)) ∈ GT := gt_mem 300 (by decide +kernel) rfl
theorem g_301 : (Cond.methodLink "WireMessages$Bytes" (38 : Nat) ({ cls := "java/lang/Math", name := "min", desc := "(II)I" } : MethodName)) ∈ GT := gt_mem 301 (by decide +kernel) rfl
theorem g_302 : (Cond.static ({ cls := "java/lang/Math", name := "min", desc := "(II)I" } : MethodName)) ∈ GT := gt_mem 302 (by decide +kernel) rfl
theorem g_303 : (Cond.code ({ cls := "java/lang/Math", name := "min", desc := "(II)I" } : MethodName) prog_15_method_69_code (2 : Nat) (Option.some FieldType.int)) ∈ GT := gt_mem 303 (by decide +kernel) rfl
theorem g_532 : (Cond.methodLinkNest "WireMessages" (111 : Nat) ({ cls := "WireMessages$Gathered", name := "bytesNeverLeftOut", desc := "()I" } : MethodName) "WireMessages") ∈ GT := gt_mem 532 (by decide +kernel) rfl
theorem g_534 : (Cond.instanceMethod ({ cls := "WireMessages$Gathered", name := "bytesNeverLeftOut", desc := "()I" } : MethodName)) ∈ GT := gt_mem 534 (by decide +kernel) rfl
theorem g_535 : (Cond.code ({ cls := "WireMessages$Gathered", name := "bytesNeverLeftOut", desc := "()I" } : MethodName) prog_4_method_9_code (4 : Nat) (Option.some FieldType.int)) ∈ GT := gt_mem 535 (by decide +kernel) rfl
theorem g_559 : (Cond.methodLinkNest "WireMessages" (117 : Nat) ({ cls := "WireMessages$Writer", name := "compose", desc := "(I)V" } : MethodName) "WireMessages") ∈ GT := gt_mem 559 (by decide +kernel) rfl
theorem g_561 : (Cond.instanceMethod ({ cls := "WireMessages$Writer", name := "compose", desc := "(I)V" } : MethodName)) ∈ GT := gt_mem 561 (by decide +kernel) rfl
theorem g_562 : (Cond.code ({ cls := "WireMessages$Writer", name := "compose", desc := "(I)V" } : MethodName) prog_8_method_2_code (9 : Nat) (Option.none : Option FieldType)) ∈ GT := gt_mem 562 (by decide +kernel) rfl
theorem g_563 : (Cond.methodLinkNest "WireMessages$Writer" (43 : Nat) ({ cls := "WireMessages$Gathered", name := "bytesNeverLeftOut", desc := "()I" } : MethodName) "WireMessages") ∈ GT := gt_mem 563 (by decide +kernel) rfl
theorem g_564 : (Cond.methodLinkNest "WireMessages$Writer" (54 : Nat) ({ cls := "WireMessages$Ends", name := "shrinkTo", desc := "(I)V" } : MethodName) "WireMessages") ∈ GT := gt_mem 564 (by decide +kernel) rfl
theorem g_566 : (Cond.instanceMethod ({ cls := "WireMessages$Ends", name := "shrinkTo", desc := "(I)V" } : MethodName)) ∈ GT := gt_mem 566 (by decide +kernel) rfl
theorem g_567 : (Cond.code ({ cls := "WireMessages$Ends", name := "shrinkTo", desc := "(I)V" } : MethodName) prog_3_method_4_code (3 : Nat) (Option.none : Option FieldType)) ∈ GT := gt_mem 567 (by decide +kernel) rfl
theorem g_571 : (Cond.methodLink "WireMessages$Ends" (39 : Nat) ({ cls := "java/lang/Math", name := "min", desc := "(II)I" } : MethodName)) ∈ GT := gt_mem 571 (by decide +kernel) rfl
theorem g_616 : (Cond.methodLinkNest "WireMessages$Writer" (77 : Nat) ({ cls := "WireMessages$Bytes", name := "setTwo", desc := "(II)V" } : MethodName) "WireMessages") ∈ GT := gt_mem 616 (by decide +kernel) rfl
theorem g_618 : (Cond.instanceMethod ({ cls := "WireMessages$Bytes", name := "setTwo", desc := "(II)V" } : MethodName)) ∈ GT := gt_mem 618 (by decide +kernel) rfl
theorem g_619 : (Cond.code ({ cls := "WireMessages$Bytes", name := "setTwo", desc := "(II)V" } : MethodName) prog_2_method_6_code (3 : Nat) (Option.none : Option FieldType)) ∈ GT := gt_mem 619 (by decide +kernel) rfl
theorem g_643 : (Cond.methodLinkNest "WireMessages" (126 : Nat) ({ cls := "WireMessages$Bytes", name := "putFrom", desc := "(LWireMessages$Bytes;II)V" } : MethodName) "WireMessages") ∈ GT := gt_mem 643 (by decide +kernel) rfl
theorem gs_Ga_bytesNeverLeftOut : Cond.selects R_Ga y_Ga_bytesNeverLeftOut y_Ga_bytesNeverLeftOut ∈ GT := gt_sel (q := (⟨"WireMessages$Gathered", "bytesNeverLeftOut", "()I"⟩, 11)) (by decide +kernel)
theorem gs_En_shrinkTo : Cond.selects R_En y_En_shrinkTo y_En_shrinkTo ∈ GT := gt_sel (q := (⟨"WireMessages$Ends", "shrinkTo", "(I)V"⟩, 7)) (by decide +kernel)
theorem gs_By_setTwo : Cond.selects R_By y_By_setTwo y_By_setTwo ∈ GT := gt_sel (q := (⟨"WireMessages$Bytes", "setTwo", "(II)V"⟩, 2)) (by decide +kernel)
theorem gs_Wr_compose : Cond.selects R_Wr y_Wr_compose y_Wr_compose ∈ GT := gt_sel (q := (⟨"WireMessages$Writer", "compose", "(I)V"⟩, 6)) (by decide +kernel)
theorem gs_By_putFrom : Cond.selects R_By y_By_putFrom y_By_putFrom ∈ GT := gt_sel (q := (⟨"WireMessages$Bytes", "putFrom", "(LWireMessages$Bytes;II)V"⟩, 2)) (by decide +kernel)
theorem d_Ga_bytesNeverLeftOut_0 : decode b_Ga_bytesNeverLeftOut 0 = .ok (.iconst 0, 1) := by decide +kernel
theorem d_Ga_bytesNeverLeftOut_1 : decode b_Ga_bytesNeverLeftOut 1 = .ok (.istore_n 1, 1) := by decide +kernel
theorem d_Ga_bytesNeverLeftOut_2 : decode b_Ga_bytesNeverLeftOut 2 = .ok (.iconst 0, 1) := by decide +kernel
theorem d_Ga_bytesNeverLeftOut_3 : decode b_Ga_bytesNeverLeftOut 3 = .ok (.istore_n 2, 1) := by decide +kernel
theorem d_Ga_bytesNeverLeftOut_4 : decode b_Ga_bytesNeverLeftOut 4 = .ok (.iload_n 2, 1) := by decide +kernel
theorem d_Ga_bytesNeverLeftOut_5 : decode b_Ga_bytesNeverLeftOut 5 = .ok (.aload_n 0, 1) := by decide +kernel
theorem d_Ga_bytesNeverLeftOut_6 : decode b_Ga_bytesNeverLeftOut 6 = .ok (.getfield 42, 3) := by decide +kernel
theorem d_Ga_bytesNeverLeftOut_9 : decode b_Ga_bytesNeverLeftOut 9 = .ok (.iconst 3, 1) := by decide +kernel
theorem d_Ga_bytesNeverLeftOut_10 : decode b_Ga_bytesNeverLeftOut 10 = .ok (.iaload, 1) := by decide +kernel
theorem d_Ga_bytesNeverLeftOut_11 : decode b_Ga_bytesNeverLeftOut 11 = .ok (.if_icmp .ge 35, 3) := by decide +kernel
theorem d_Ga_bytesNeverLeftOut_14 : decode b_Ga_bytesNeverLeftOut 14 = .ok (.aload_n 0, 1) := by decide +kernel
theorem d_Ga_bytesNeverLeftOut_15 : decode b_Ga_bytesNeverLeftOut 15 = .ok (.getfield 39, 3) := by decide +kernel
theorem d_Ga_bytesNeverLeftOut_18 : decode b_Ga_bytesNeverLeftOut 18 = .ok (.iconst 3, 1) := by decide +kernel
theorem d_Ga_bytesNeverLeftOut_19 : decode b_Ga_bytesNeverLeftOut 19 = .ok (.aaload, 1) := by decide +kernel
theorem d_Ga_bytesNeverLeftOut_20 : decode b_Ga_bytesNeverLeftOut 20 = .ok (.iload_n 2, 1) := by decide +kernel
theorem d_Ga_bytesNeverLeftOut_21 : decode b_Ga_bytesNeverLeftOut 21 = .ok (.iaload, 1) := by decide +kernel
theorem d_Ga_bytesNeverLeftOut_22 : decode b_Ga_bytesNeverLeftOut 22 = .ok (.istore_n 3, 1) := by decide +kernel
theorem d_Ga_bytesNeverLeftOut_23 : decode b_Ga_bytesNeverLeftOut 23 = .ok (.aload_n 0, 1) := by decide +kernel
theorem d_Ga_bytesNeverLeftOut_24 : decode b_Ga_bytesNeverLeftOut 24 = .ok (.iconst 3, 1) := by decide +kernel
theorem d_Ga_bytesNeverLeftOut_25 : decode b_Ga_bytesNeverLeftOut 25 = .ok (.iload_n 3, 1) := by decide +kernel
theorem d_Ga_bytesNeverLeftOut_26 : decode b_Ga_bytesNeverLeftOut 26 = .ok (.invokevirtual 66, 3) := by decide +kernel
theorem d_Ga_bytesNeverLeftOut_29 : decode b_Ga_bytesNeverLeftOut 29 = .ok (.ifCond .eq 11, 3) := by decide +kernel
theorem d_Ga_bytesNeverLeftOut_32 : decode b_Ga_bytesNeverLeftOut 32 = .ok (.iload_n 1, 1) := by decide +kernel
theorem d_Ga_bytesNeverLeftOut_33 : decode b_Ga_bytesNeverLeftOut 33 = .ok (.aload_n 0, 1) := by decide +kernel
theorem d_Ga_bytesNeverLeftOut_34 : decode b_Ga_bytesNeverLeftOut 34 = .ok (.iload_n 3, 1) := by decide +kernel
theorem d_Ga_bytesNeverLeftOut_35 : decode b_Ga_bytesNeverLeftOut 35 = .ok (.invokevirtual 70, 3) := by decide +kernel
theorem d_Ga_bytesNeverLeftOut_38 : decode b_Ga_bytesNeverLeftOut 38 = .ok (.iadd, 1) := by decide +kernel
theorem d_Ga_bytesNeverLeftOut_39 : decode b_Ga_bytesNeverLeftOut 39 = .ok (.istore_n 1, 1) := by decide +kernel
theorem d_Ga_bytesNeverLeftOut_40 : decode b_Ga_bytesNeverLeftOut 40 = .ok (.iinc 2 1, 3) := by decide +kernel
theorem d_Ga_bytesNeverLeftOut_43 : decode b_Ga_bytesNeverLeftOut 43 = .ok (.goto (-39), 3) := by decide +kernel
theorem d_Ga_bytesNeverLeftOut_46 : decode b_Ga_bytesNeverLeftOut 46 = .ok (.iload_n 1, 1) := by decide +kernel
theorem d_Ga_bytesNeverLeftOut_47 : decode b_Ga_bytesNeverLeftOut 47 = .ok (.ireturn, 1) := by decide +kernel
theorem d_En_shrinkTo_0 : decode b_En_shrinkTo 0 = .ok (.aload_n 0, 1) := by decide +kernel
theorem d_En_shrinkTo_1 : decode b_En_shrinkTo 1 = .ok (.getfield 31, 3) := by decide +kernel
theorem d_En_shrinkTo_4 : decode b_En_shrinkTo 4 = .ok (.iconst 1, 1) := by decide +kernel
theorem d_En_shrinkTo_5 : decode b_En_shrinkTo 5 = .ok (.isub, 1) := by decide +kernel
theorem d_En_shrinkTo_6 : decode b_En_shrinkTo 6 = .ok (.istore_n 2, 1) := by decide +kernel
theorem d_En_shrinkTo_7 : decode b_En_shrinkTo 7 = .ok (.iload_n 2, 1) := by decide +kernel
theorem d_En_shrinkTo_8 : decode b_En_shrinkTo 8 = .ok (.iload_n 1, 1) := by decide +kernel
theorem d_En_shrinkTo_9 : decode b_En_shrinkTo 9 = .ok (.if_icmp .lt 29, 3) := by decide +kernel
theorem d_En_shrinkTo_12 : decode b_En_shrinkTo 12 = .ok (.aload_n 0, 1) := by decide +kernel
theorem d_En_shrinkTo_13 : decode b_En_shrinkTo 13 = .ok (.getfield 11, 3) := by decide +kernel
theorem d_En_shrinkTo_16 : decode b_En_shrinkTo 16 = .ok (.aload_n 0, 1) := by decide +kernel
theorem d_En_shrinkTo_17 : decode b_En_shrinkTo 17 = .ok (.getfield 18, 3) := by decide +kernel
theorem d_En_shrinkTo_20 : decode b_En_shrinkTo 20 = .ok (.iload_n 2, 1) := by decide +kernel
theorem d_En_shrinkTo_21 : decode b_En_shrinkTo 21 = .ok (.iaload, 1) := by decide +kernel
theorem d_En_shrinkTo_22 : decode b_En_shrinkTo 22 = .ok (.invokestatic 35, 3) := by decide +kernel
theorem d_En_shrinkTo_25 : decode b_En_shrinkTo 25 = .ok (.aload_n 0, 1) := by decide +kernel
theorem d_En_shrinkTo_26 : decode b_En_shrinkTo 26 = .ok (.getfield 15, 3) := by decide +kernel
theorem d_En_shrinkTo_29 : decode b_En_shrinkTo 29 = .ok (.iload_n 2, 1) := by decide +kernel
theorem d_En_shrinkTo_30 : decode b_En_shrinkTo 30 = .ok (.iaload, 1) := by decide +kernel
theorem d_En_shrinkTo_31 : decode b_En_shrinkTo 31 = .ok (.iastore, 1) := by decide +kernel
theorem d_En_shrinkTo_32 : decode b_En_shrinkTo 32 = .ok (.iinc 2 (-1), 3) := by decide +kernel
theorem d_En_shrinkTo_35 : decode b_En_shrinkTo 35 = .ok (.goto (-28), 3) := by decide +kernel
theorem d_En_shrinkTo_38 : decode b_En_shrinkTo 38 = .ok (.aload_n 0, 1) := by decide +kernel
theorem d_En_shrinkTo_39 : decode b_En_shrinkTo 39 = .ok (.aload_n 0, 1) := by decide +kernel
theorem d_En_shrinkTo_40 : decode b_En_shrinkTo 40 = .ok (.getfield 31, 3) := by decide +kernel
theorem d_En_shrinkTo_43 : decode b_En_shrinkTo 43 = .ok (.iload_n 1, 1) := by decide +kernel
theorem d_En_shrinkTo_44 : decode b_En_shrinkTo 44 = .ok (.invokestatic 39, 3) := by decide +kernel
theorem d_En_shrinkTo_47 : decode b_En_shrinkTo 47 = .ok (.putfield 31, 3) := by decide +kernel
theorem d_En_shrinkTo_50 : decode b_En_shrinkTo 50 = .ok (.return_, 1) := by decide +kernel
theorem d_Wr_compose_0 : decode b_Wr_compose 0 = .ok (.aload_n 0, 1) := by decide +kernel
theorem d_Wr_compose_1 : decode b_Wr_compose 1 = .ok (.getfield 25, 3) := by decide +kernel
theorem d_Wr_compose_4 : decode b_Wr_compose 4 = .ok (.invokevirtual 43, 3) := by decide +kernel
theorem d_Wr_compose_7 : decode b_Wr_compose 7 = .ok (.istore_n 2, 1) := by decide +kernel
theorem d_Wr_compose_8 : decode b_Wr_compose 8 = .ok (.iconst 0, 1) := by decide +kernel
theorem d_Wr_compose_9 : decode b_Wr_compose 9 = .ok (.istore_n 3, 1) := by decide +kernel
theorem d_Wr_compose_10 : decode b_Wr_compose 10 = .ok (.aload_n 0, 1) := by decide +kernel
theorem d_Wr_compose_11 : decode b_Wr_compose 11 = .ok (.getfield 12, 3) := by decide +kernel
theorem d_Wr_compose_14 : decode b_Wr_compose 14 = .ok (.bipush 12, 2) := by decide +kernel
theorem d_Wr_compose_16 : decode b_Wr_compose 16 = .ok (.putfield 47, 3) := by decide +kernel
theorem d_Wr_compose_19 : decode b_Wr_compose 19 = .ok (.aload_n 0, 1) := by decide +kernel
theorem d_Wr_compose_20 : decode b_Wr_compose 20 = .ok (.iconst 0, 1) := by decide +kernel
theorem d_Wr_compose_21 : decode b_Wr_compose 21 = .ok (.putfield 51, 3) := by decide +kernel
theorem d_Wr_compose_24 : decode b_Wr_compose 24 = .ok (.aload_n 0, 1) := by decide +kernel
theorem d_Wr_compose_25 : decode b_Wr_compose 25 = .ok (.getfield 39, 3) := by decide +kernel
theorem d_Wr_compose_28 : decode b_Wr_compose 28 = .ok (.iconst 0, 1) := by decide +kernel
theorem d_Wr_compose_29 : decode b_Wr_compose 29 = .ok (.invokevirtual 54, 3) := by decide +kernel
theorem d_Wr_compose_32 : decode b_Wr_compose 32 = .ok (.iconst 0, 1) := by decide +kernel
theorem d_Wr_compose_33 : decode b_Wr_compose 33 = .ok (.istore 4, 2) := by decide +kernel
theorem d_Wr_compose_35 : decode b_Wr_compose 35 = .ok (.iload 4, 2) := by decide +kernel
theorem d_Wr_compose_37 : decode b_Wr_compose 37 = .ok (.iconst 4, 1) := by decide +kernel
theorem d_Wr_compose_38 : decode b_Wr_compose 38 = .ok (.if_icmp .ge 144, 3) := by decide +kernel
theorem d_Wr_compose_41 : decode b_Wr_compose 41 = .ok (.iconst 0, 1) := by decide +kernel
theorem d_Wr_compose_42 : decode b_Wr_compose 42 = .ok (.istore 5, 2) := by decide +kernel
theorem d_Wr_compose_44 : decode b_Wr_compose 44 = .ok (.iconst 0, 1) := by decide +kernel
theorem d_Wr_compose_45 : decode b_Wr_compose 45 = .ok (.istore 6, 2) := by decide +kernel
theorem d_Wr_compose_47 : decode b_Wr_compose 47 = .ok (.iload 6, 2) := by decide +kernel
theorem d_Wr_compose_49 : decode b_Wr_compose 49 = .ok (.aload_n 0, 1) := by decide +kernel
theorem d_Wr_compose_50 : decode b_Wr_compose 50 = .ok (.getfield 25, 3) := by decide +kernel
theorem d_Wr_compose_53 : decode b_Wr_compose 53 = .ok (.getfield 58, 3) := by decide +kernel
theorem d_Wr_compose_56 : decode b_Wr_compose 56 = .ok (.iload 4, 2) := by decide +kernel
theorem d_Wr_compose_58 : decode b_Wr_compose 58 = .ok (.iaload, 1) := by decide +kernel
theorem d_Wr_compose_59 : decode b_Wr_compose 59 = .ok (.if_icmp .ge 102, 3) := by decide +kernel
theorem d_Wr_compose_62 : decode b_Wr_compose 62 = .ok (.aload_n 0, 1) := by decide +kernel
theorem d_Wr_compose_63 : decode b_Wr_compose 63 = .ok (.getfield 25, 3) := by decide +kernel
theorem d_Wr_compose_66 : decode b_Wr_compose 66 = .ok (.getfield 61, 3) := by decide +kernel
theorem d_Wr_compose_69 : decode b_Wr_compose 69 = .ok (.iload 4, 2) := by decide +kernel
theorem d_Wr_compose_71 : decode b_Wr_compose 71 = .ok (.aaload, 1) := by decide +kernel
theorem d_Wr_compose_72 : decode b_Wr_compose 72 = .ok (.iload 6, 2) := by decide +kernel
theorem d_Wr_compose_74 : decode b_Wr_compose 74 = .ok (.iaload, 1) := by decide +kernel
theorem d_Wr_compose_75 : decode b_Wr_compose 75 = .ok (.istore 7, 2) := by decide +kernel
theorem d_Wr_compose_77 : decode b_Wr_compose 77 = .ok (.aload_n 0, 1) := by decide +kernel
theorem d_Wr_compose_78 : decode b_Wr_compose 78 = .ok (.getfield 25, 3) := by decide +kernel
theorem d_Wr_compose_81 : decode b_Wr_compose 81 = .ok (.iload 4, 2) := by decide +kernel
theorem d_Wr_compose_83 : decode b_Wr_compose 83 = .ok (.iload 7, 2) := by decide +kernel
theorem d_Wr_compose_85 : decode b_Wr_compose 85 = .ok (.invokevirtual 65, 3) := by decide +kernel
theorem d_Wr_compose_88 : decode b_Wr_compose 88 = .ok (.istore 8, 2) := by decide +kernel
theorem d_Wr_compose_90 : decode b_Wr_compose 90 = .ok (.iload 8, 2) := by decide +kernel
theorem d_Wr_compose_92 : decode b_Wr_compose 92 = .ok (.ifCond .eq 15, 3) := by decide +kernel
theorem d_Wr_compose_95 : decode b_Wr_compose 95 = .ok (.iload_n 2, 1) := by decide +kernel
theorem d_Wr_compose_96 : decode b_Wr_compose 96 = .ok (.aload_n 0, 1) := by decide +kernel
theorem d_Wr_compose_97 : decode b_Wr_compose 97 = .ok (.getfield 25, 3) := by decide +kernel
theorem d_Wr_compose_100 : decode b_Wr_compose 100 = .ok (.iload 7, 2) := by decide +kernel
theorem d_Wr_compose_102 : decode b_Wr_compose 102 = .ok (.invokevirtual 69, 3) := by decide +kernel
theorem d_Wr_compose_105 : decode b_Wr_compose 105 = .ok (.isub, 1) := by decide +kernel
theorem d_Wr_compose_106 : decode b_Wr_compose 106 = .ok (.istore_n 2, 1) := by decide +kernel
theorem d_Wr_compose_107 : decode b_Wr_compose 107 = .ok (.iload_n 3, 1) := by decide +kernel
theorem d_Wr_compose_108 : decode b_Wr_compose 108 = .ok (.ifCond .eq 11, 3) := by decide +kernel
theorem d_Wr_compose_111 : decode b_Wr_compose 111 = .ok (.iload 8, 2) := by decide +kernel
theorem d_Wr_compose_113 : decode b_Wr_compose 113 = .ok (.ifCond .ne 6, 3) := by decide +kernel
theorem d_Wr_compose_116 : decode b_Wr_compose 116 = .ok (.goto 39, 3) := by decide +kernel
theorem d_Wr_compose_119 : decode b_Wr_compose 119 = .ok (.aload_n 0, 1) := by decide +kernel
theorem d_Wr_compose_120 : decode b_Wr_compose 120 = .ok (.iload 4, 2) := by decide +kernel
theorem d_Wr_compose_122 : decode b_Wr_compose 122 = .ok (.iload 7, 2) := by decide +kernel
theorem d_Wr_compose_124 : decode b_Wr_compose 124 = .ok (.iload_n 1, 1) := by decide +kernel
theorem d_Wr_compose_125 : decode b_Wr_compose 125 = .ok (.iload_n 2, 1) := by decide +kernel
theorem d_Wr_compose_126 : decode b_Wr_compose 126 = .ok (.isub, 1) := by decide +kernel
theorem d_Wr_compose_127 : decode b_Wr_compose 127 = .ok (.invokevirtual 73, 3) := by decide +kernel
theorem d_Wr_compose_130 : decode b_Wr_compose 130 = .ok (.ifCond .eq 9, 3) := by decide +kernel
theorem d_Wr_compose_133 : decode b_Wr_compose 133 = .ok (.iinc 5 1, 3) := by decide +kernel
theorem d_Wr_compose_136 : decode b_Wr_compose 136 = .ok (.goto 19, 3) := by decide +kernel
theorem d_Wr_compose_139 : decode b_Wr_compose 139 = .ok (.iload_n 3, 1) := by decide +kernel
theorem d_Wr_compose_140 : decode b_Wr_compose 140 = .ok (.ifCond .ne 9, 3) := by decide +kernel
theorem d_Wr_compose_143 : decode b_Wr_compose 143 = .ok (.iload 4, 2) := by decide +kernel
theorem d_Wr_compose_145 : decode b_Wr_compose 145 = .ok (.iconst 3, 1) := by decide +kernel
theorem d_Wr_compose_146 : decode b_Wr_compose 146 = .ok (.if_icmp .ge 7, 3) := by decide +kernel
theorem d_Wr_compose_149 : decode b_Wr_compose 149 = .ok (.iconst 1, 1) := by decide +kernel
theorem d_Wr_compose_150 : decode b_Wr_compose 150 = .ok (.goto 4, 3) := by decide +kernel
theorem d_Wr_compose_153 : decode b_Wr_compose 153 = .ok (.iconst 0, 1) := by decide +kernel
theorem d_Wr_compose_154 : decode b_Wr_compose 154 = .ok (.istore_n 3, 1) := by decide +kernel
theorem d_Wr_compose_155 : decode b_Wr_compose 155 = .ok (.iinc 6 1, 3) := by decide +kernel
theorem d_Wr_compose_158 : decode b_Wr_compose 158 = .ok (.goto (-111), 3) := by decide +kernel
theorem d_Wr_compose_161 : decode b_Wr_compose 161 = .ok (.aload_n 0, 1) := by decide +kernel
theorem d_Wr_compose_162 : decode b_Wr_compose 162 = .ok (.getfield 12, 3) := by decide +kernel
theorem d_Wr_compose_165 : decode b_Wr_compose 165 = .ok (.iconst 4, 1) := by decide +kernel
theorem d_Wr_compose_166 : decode b_Wr_compose 166 = .ok (.iconst 2, 1) := by decide +kernel
theorem d_Wr_compose_167 : decode b_Wr_compose 167 = .ok (.iload 4, 2) := by decide +kernel
theorem d_Wr_compose_169 : decode b_Wr_compose 169 = .ok (.imul, 1) := by decide +kernel
theorem d_Wr_compose_170 : decode b_Wr_compose 170 = .ok (.iadd, 1) := by decide +kernel
theorem d_Wr_compose_171 : decode b_Wr_compose 171 = .ok (.iload 5, 2) := by decide +kernel
theorem d_Wr_compose_173 : decode b_Wr_compose 173 = .ok (.invokevirtual 77, 3) := by decide +kernel
theorem d_Wr_compose_176 : decode b_Wr_compose 176 = .ok (.iinc 4 1, 3) := by decide +kernel
theorem d_Wr_compose_179 : decode b_Wr_compose 179 = .ok (.goto (-144), 3) := by decide +kernel
theorem d_Wr_compose_182 : decode b_Wr_compose 182 = .ok (.aload_n 0, 1) := by decide +kernel
theorem d_Wr_compose_183 : decode b_Wr_compose 183 = .ok (.getfield 12, 3) := by decide +kernel
theorem d_Wr_compose_186 : decode b_Wr_compose 186 = .ok (.iconst 0, 1) := by decide +kernel
theorem d_Wr_compose_187 : decode b_Wr_compose 187 = .ok (.aload_n 0, 1) := by decide +kernel
theorem d_Wr_compose_188 : decode b_Wr_compose 188 = .ok (.getfield 25, 3) := by decide +kernel
theorem d_Wr_compose_191 : decode b_Wr_compose 191 = .ok (.getfield 81, 3) := by decide +kernel
theorem d_Wr_compose_194 : decode b_Wr_compose 194 = .ok (.invokevirtual 77, 3) := by decide +kernel
theorem d_Wr_compose_197 : decode b_Wr_compose 197 = .ok (.aload_n 0, 1) := by decide +kernel
theorem d_Wr_compose_198 : decode b_Wr_compose 198 = .ok (.getfield 12, 3) := by decide +kernel
theorem d_Wr_compose_201 : decode b_Wr_compose 201 = .ok (.iconst 2, 1) := by decide +kernel
theorem d_Wr_compose_202 : decode b_Wr_compose 202 = .ok (.iload_n 3, 1) := by decide +kernel
theorem d_Wr_compose_203 : decode b_Wr_compose 203 = .ok (.ifCond .eq 17, 3) := by decide +kernel
theorem d_Wr_compose_206 : decode b_Wr_compose 206 = .ok (.aload_n 0, 1) := by decide +kernel
theorem d_Wr_compose_207 : decode b_Wr_compose 207 = .ok (.getfield 25, 3) := by decide +kernel
theorem d_Wr_compose_210 : decode b_Wr_compose 210 = .ok (.getfield 84, 3) := by decide +kernel
theorem d_Wr_compose_213 : decode b_Wr_compose 213 = .ok (.sipush 512, 3) := by decide +kernel
theorem d_Wr_compose_216 : decode b_Wr_compose 216 = .ok (.ior, 1) := by decide +kernel
theorem d_Wr_compose_217 : decode b_Wr_compose 217 = .ok (.goto 10, 3) := by decide +kernel
theorem d_Wr_compose_220 : decode b_Wr_compose 220 = .ok (.aload_n 0, 1) := by decide +kernel
theorem d_Wr_compose_221 : decode b_Wr_compose 221 = .ok (.getfield 25, 3) := by decide +kernel
theorem d_Wr_compose_224 : decode b_Wr_compose 224 = .ok (.getfield 84, 3) := by decide +kernel
theorem d_Wr_compose_227 : decode b_Wr_compose 227 = .ok (.invokevirtual 77, 3) := by decide +kernel
theorem d_Wr_compose_230 : decode b_Wr_compose 230 = .ok (.return_, 1) := by decide +kernel
theorem d_Wm_write_0 : decode b_Wm_write 0 = .ok (.iload_n 1, 1) := by decide +kernel
theorem d_Wm_write_1 : decode b_Wm_write 1 = .ok (.bipush 12, 2) := by decide +kernel
theorem d_Wm_write_3 : decode b_Wm_write 3 = .ok (.if_icmp .lt 9, 3) := by decide +kernel
theorem d_Wm_write_6 : decode b_Wm_write 6 = .ok (.iload_n 1, 1) := by decide +kernel
theorem d_Wm_write_7 : decode b_Wm_write 7 = .ok (.ldc 84, 2) := by decide +kernel
theorem d_Wm_write_9 : decode b_Wm_write 9 = .ok (.if_icmp .le 11, 3) := by decide +kernel
theorem d_Wm_write_12 : decode b_Wm_write 12 = .ok (.new 71, 3) := by decide +kernel
theorem d_Wm_write_15 : decode b_Wm_write 15 = .ok (.dup, 1) := by decide +kernel
theorem d_Wm_write_16 : decode b_Wm_write 16 = .ok (.invokespecial 73, 3) := by decide +kernel
theorem d_Wm_write_19 : decode b_Wm_write 19 = .ok (.athrow, 1) := by decide +kernel
theorem d_Wm_write_20 : decode b_Wm_write 20 = .ok (.bipush 12, 2) := by decide +kernel
theorem d_Wm_write_22 : decode b_Wm_write 22 = .ok (.aload_n 0, 1) := by decide +kernel
theorem d_Wm_write_23 : decode b_Wm_write 23 = .ok (.getfield 19, 3) := by decide +kernel
theorem d_Wm_write_26 : decode b_Wm_write 26 = .ok (.invokevirtual 111, 3) := by decide +kernel
theorem d_Wm_write_29 : decode b_Wm_write 29 = .ok (.iadd, 1) := by decide +kernel
theorem d_Wm_write_30 : decode b_Wm_write 30 = .ok (.iload_n 1, 1) := by decide +kernel
theorem d_Wm_write_31 : decode b_Wm_write 31 = .ok (.if_icmp .le 11, 3) := by decide +kernel
theorem d_Wm_write_34 : decode b_Wm_write 34 = .ok (.new 114, 3) := by decide +kernel
theorem d_Wm_write_37 : decode b_Wm_write 37 = .ok (.dup, 1) := by decide +kernel
theorem d_Wm_write_38 : decode b_Wm_write 38 = .ok (.invokespecial 116, 3) := by decide +kernel
theorem d_Wm_write_41 : decode b_Wm_write 41 = .ok (.athrow, 1) := by decide +kernel
theorem d_Wm_write_42 : decode b_Wm_write 42 = .ok (.aload_n 0, 1) := by decide +kernel
theorem d_Wm_write_43 : decode b_Wm_write 43 = .ok (.getfield 37, 3) := by decide +kernel
theorem d_Wm_write_46 : decode b_Wm_write 46 = .ok (.iload_n 1, 1) := by decide +kernel
theorem d_Wm_write_47 : decode b_Wm_write 47 = .ok (.invokevirtual 117, 3) := by decide +kernel
theorem d_Wm_write_50 : decode b_Wm_write 50 = .ok (.aload_n 0, 1) := by decide +kernel
theorem d_Wm_write_51 : decode b_Wm_write 51 = .ok (.getfield 37, 3) := by decide +kernel
theorem d_Wm_write_54 : decode b_Wm_write 54 = .ok (.getfield 120, 3) := by decide +kernel
theorem d_Wm_write_57 : decode b_Wm_write 57 = .ok (.getfield 60, 3) := by decide +kernel
theorem d_Wm_write_60 : decode b_Wm_write 60 = .ok (.ireturn, 1) := by decide +kernel
theorem d_By_putFrom_0 : decode b_By_putFrom 0 = .ok (.iload_n 3, 1) := by decide +kernel
theorem d_By_putFrom_1 : decode b_By_putFrom 1 = .ok (.aload_n 0, 1) := by decide +kernel
theorem d_By_putFrom_2 : decode b_By_putFrom 2 = .ok (.getfield 10, 3) := by decide +kernel
theorem d_By_putFrom_5 : decode b_By_putFrom 5 = .ok (.arraylength, 1) := by decide +kernel
theorem d_By_putFrom_6 : decode b_By_putFrom 6 = .ok (.aload_n 0, 1) := by decide +kernel
theorem d_By_putFrom_7 : decode b_By_putFrom 7 = .ok (.getfield 27, 3) := by decide +kernel
theorem d_By_putFrom_10 : decode b_By_putFrom 10 = .ok (.isub, 1) := by decide +kernel
theorem d_By_putFrom_11 : decode b_By_putFrom 11 = .ok (.invokestatic 38, 3) := by decide +kernel
theorem d_By_putFrom_14 : decode b_By_putFrom 14 = .ok (.aload_n 1, 1) := by decide +kernel
theorem d_By_putFrom_15 : decode b_By_putFrom 15 = .ok (.getfield 10, 3) := by decide +kernel
theorem d_By_putFrom_18 : decode b_By_putFrom 18 = .ok (.arraylength, 1) := by decide +kernel
theorem d_By_putFrom_19 : decode b_By_putFrom 19 = .ok (.iload_n 2, 1) := by decide +kernel
theorem d_By_putFrom_20 : decode b_By_putFrom 20 = .ok (.isub, 1) := by decide +kernel
theorem d_By_putFrom_21 : decode b_By_putFrom 21 = .ok (.invokestatic 38, 3) := by decide +kernel
theorem d_By_putFrom_24 : decode b_By_putFrom 24 = .ok (.istore 4, 2) := by decide +kernel
theorem d_By_putFrom_26 : decode b_By_putFrom 26 = .ok (.iload_n 2, 1) := by decide +kernel
theorem d_By_putFrom_27 : decode b_By_putFrom 27 = .ok (.ifCond .lt 26, 3) := by decide +kernel
theorem d_By_putFrom_30 : decode b_By_putFrom 30 = .ok (.iload 4, 2) := by decide +kernel
theorem d_By_putFrom_32 : decode b_By_putFrom 32 = .ok (.ifCond .le 21, 3) := by decide +kernel
theorem d_By_putFrom_35 : decode b_By_putFrom 35 = .ok (.aload_n 1, 1) := by decide +kernel
theorem d_By_putFrom_36 : decode b_By_putFrom 36 = .ok (.getfield 10, 3) := by decide +kernel
theorem d_By_putFrom_39 : decode b_By_putFrom 39 = .ok (.iload_n 2, 1) := by decide +kernel
theorem d_By_putFrom_40 : decode b_By_putFrom 40 = .ok (.aload_n 0, 1) := by decide +kernel
theorem d_By_putFrom_41 : decode b_By_putFrom 41 = .ok (.getfield 10, 3) := by decide +kernel
theorem d_By_putFrom_44 : decode b_By_putFrom 44 = .ok (.aload_n 0, 1) := by decide +kernel
theorem d_By_putFrom_45 : decode b_By_putFrom 45 = .ok (.getfield 27, 3) := by decide +kernel
theorem d_By_putFrom_48 : decode b_By_putFrom 48 = .ok (.iload 4, 2) := by decide +kernel
theorem d_By_putFrom_50 : decode b_By_putFrom 50 = .ok (.invokestatic 44, 3) := by decide +kernel
theorem d_By_putFrom_53 : decode b_By_putFrom 53 = .ok (.aload_n 0, 1) := by decide +kernel
theorem d_By_putFrom_54 : decode b_By_putFrom 54 = .ok (.dup, 1) := by decide +kernel
theorem d_By_putFrom_55 : decode b_By_putFrom 55 = .ok (.getfield 27, 3) := by decide +kernel
theorem d_By_putFrom_58 : decode b_By_putFrom 58 = .ok (.iload_n 3, 1) := by decide +kernel
theorem d_By_putFrom_59 : decode b_By_putFrom 59 = .ok (.iadd, 1) := by decide +kernel
theorem d_By_putFrom_60 : decode b_By_putFrom 60 = .ok (.putfield 27, 3) := by decide +kernel
theorem d_By_putFrom_63 : decode b_By_putFrom 63 = .ok (.return_, 1) := by decide +kernel
theorem d_Wm_back_0 : decode b_Wm_back 0 = .ok (.aload_n 0, 1) := by decide +kernel
theorem d_Wm_back_1 : decode b_Wm_back 1 = .ok (.getfield 37, 3) := by decide +kernel
theorem d_Wm_back_4 : decode b_Wm_back 4 = .ok (.getfield 120, 3) := by decide +kernel
theorem d_Wm_back_7 : decode b_Wm_back 7 = .ok (.astore_n 3, 1) := by decide +kernel
theorem d_Wm_back_8 : decode b_Wm_back 8 = .ok (.iload_n 1, 1) := by decide +kernel
theorem d_Wm_back_9 : decode b_Wm_back 9 = .ok (.iconst (-1), 1) := by decide +kernel
theorem d_Wm_back_10 : decode b_Wm_back 10 = .ok (.if_icmp .lt 11, 3) := by decide +kernel
theorem d_Wm_back_13 : decode b_Wm_back 13 = .ok (.iload_n 1, 1) := by decide +kernel
theorem d_Wm_back_14 : decode b_Wm_back 14 = .ok (.aload_n 3, 1) := by decide +kernel
theorem d_Wm_back_15 : decode b_Wm_back 15 = .ok (.getfield 60, 3) := by decide +kernel
theorem d_Wm_back_18 : decode b_Wm_back 18 = .ok (.if_icmp .lt 11, 3) := by decide +kernel
theorem d_Wm_back_21 : decode b_Wm_back 21 = .ok (.new 123, 3) := by decide +kernel
theorem d_Wm_back_24 : decode b_Wm_back 24 = .ok (.dup, 1) := by decide +kernel
theorem d_Wm_back_25 : decode b_Wm_back 25 = .ok (.invokespecial 125, 3) := by decide +kernel
theorem d_Wm_back_28 : decode b_Wm_back 28 = .ok (.athrow, 1) := by decide +kernel
theorem d_Wm_back_29 : decode b_Wm_back 29 = .ok (.aload_n 0, 1) := by decide +kernel
theorem d_Wm_back_30 : decode b_Wm_back 30 = .ok (.getfield 10, 3) := by decide +kernel
theorem d_Wm_back_33 : decode b_Wm_back 33 = .ok (.iconst 0, 1) := by decide +kernel
theorem d_Wm_back_34 : decode b_Wm_back 34 = .ok (.putfield 60, 3) := by decide +kernel
theorem d_Wm_back_37 : decode b_Wm_back 37 = .ok (.aload_n 0, 1) := by decide +kernel
theorem d_Wm_back_38 : decode b_Wm_back 38 = .ok (.getfield 10, 3) := by decide +kernel
theorem d_Wm_back_41 : decode b_Wm_back 41 = .ok (.aload_n 3, 1) := by decide +kernel
theorem d_Wm_back_42 : decode b_Wm_back 42 = .ok (.iconst 0, 1) := by decide +kernel
theorem d_Wm_back_43 : decode b_Wm_back 43 = .ok (.aload_n 3, 1) := by decide +kernel
theorem d_Wm_back_44 : decode b_Wm_back 44 = .ok (.getfield 60, 3) := by decide +kernel
theorem d_Wm_back_47 : decode b_Wm_back 47 = .ok (.invokevirtual 126, 3) := by decide +kernel
theorem d_Wm_back_50 : decode b_Wm_back 50 = .ok (.iload_n 1, 1) := by decide +kernel
theorem d_Wm_back_51 : decode b_Wm_back 51 = .ok (.ifCond .lt 18, 3) := by decide +kernel
theorem d_Wm_back_54 : decode b_Wm_back 54 = .ok (.aload_n 0, 1) := by decide +kernel
theorem d_Wm_back_55 : decode b_Wm_back 55 = .ok (.getfield 10, 3) := by decide +kernel
theorem d_Wm_back_58 : decode b_Wm_back 58 = .ok (.iload_n 1, 1) := by decide +kernel
theorem d_Wm_back_59 : decode b_Wm_back 59 = .ok (.aload_n 3, 1) := by decide +kernel
theorem d_Wm_back_60 : decode b_Wm_back 60 = .ok (.iload_n 1, 1) := by decide +kernel
theorem d_Wm_back_61 : decode b_Wm_back 61 = .ok (.invokevirtual 130, 3) := by decide +kernel
theorem d_Wm_back_64 : decode b_Wm_back 64 = .ok (.iload_n 2, 1) := by decide +kernel
theorem d_Wm_back_65 : decode b_Wm_back 65 = .ok (.ixor, 1) := by decide +kernel
theorem d_Wm_back_66 : decode b_Wm_back 66 = .ok (.invokevirtual 134, 3) := by decide +kernel
theorem d_Wm_back_69 : decode b_Wm_back 69 = .ok (.aload_n 0, 1) := by decide +kernel
theorem d_Wm_back_70 : decode b_Wm_back 70 = .ok (.getfield 10, 3) := by decide +kernel
theorem d_Wm_back_73 : decode b_Wm_back 73 = .ok (.getfield 60, 3) := by decide +kernel
theorem d_Wm_back_76 : decode b_Wm_back 76 = .ok (.ireturn, 1) := by decide +kernel
set_option maxHeartbeats 4000000 in
set_option maxRecDepth 100000 in
theorem c_Ga_bytesNeverLeftOut (l : Launch) (D9 : va_G) (cB cI cJ cG : ClassId) (ga gb st nl dl ty ki ti rw sz : Nat) : MW l D9 cls9 (ty9 cB cI cJ cG) y_Ga_bytesNeverLeftOut b_Ga_bytesNeverLeftOut 4 (some .int) (rm9 0 0 0) [.ref ga] [(ga, .inr (2, [.ref gb, .ref st, .ref nl, .ref dl, .ref ty, .ref ki, .ref ti, .ref rw, .ref sz, .int 0, .int 0])), (sz, .inl (cI, 4, .inl (fun _ => 0)))] (fun v8 w2 => v8 = some (.int 0) ∧ w2 = [(ga, .inr (2, [.ref gb, .ref st, .ref nl, .ref dl, .ref ty, .ref ki, .ref ti, .ref rw, .ref sz, .int 0, .int 0])), (sz, .inl (cI, 4, .inl (fun _ => 0)))]) 0 0 := by
  refine mw_of (by decide) (Nat.le_of_ble_eq_true rfl) ?_
  intro p e s m below meth c ls C0 hin hP hD hA hS hl
  obtain ⟨hx, hb, hml, hr, hlocks, hown, hts, hK⟩ := id C0
  have hl : lv_has ls 4 [(0, .ref ga)] := hl
  refine lv_iconst (v := 0) hx hb d_Ga_bytesNeverLeftOut_0 (by decide) ?_
  refine lv_istore_n (lv' := [(1, _), (0, _)]) hx hb d_Ga_bytesNeverLeftOut_1 rfl hl (by decide) rfl (fun ls hl => ?_)
  refine lv_iconst (v := 0) hx hb d_Ga_bytesNeverLeftOut_2 (by decide) ?_
  refine lv_istore_n (lv' := [(2, _), (1, _), (0, _)]) hx hb d_Ga_bytesNeverLeftOut_3 rfl hl (by decide) rfl (fun ls hl => ?_)
  refine lv_iload_n hx hb d_Ga_bytesNeverLeftOut_4 rfl (lv_at hl 0 rfl) ?_
  refine lv_aload_n hx hb d_Ga_bytesNeverLeftOut_5 rfl (lv_at hl 2 rfl) ?_
  refine va_get (D := D9) (ci := 2) (C := R_Ga) (T := F_Ga) (N := 11) hx hb hts i_Ga hown hK hP 0 rfl rfl 8 (by decide) (hts _ g_81) (fun _ h9 => h9) rfl d_Ga_bytesNeverLeftOut_6 ?_
  refine lv_iconst (v := 3) hx hb d_Ga_bytesNeverLeftOut_9 (by decide) ?_
  refine va_iald (D := D9) hx hb hK hP 1 1 rfl rfl (by unfold vp_in; decide +kernel) d_Ga_bytesNeverLeftOut_10 ?_
  refine lv_icmp_ge (tgt := 46) hx hb d_Ga_bytesNeverLeftOut_11 (by decide) (fun c1 => ?_) (fun c1 => ?_)
  · refine lv_iload_n hx hb d_Ga_bytesNeverLeftOut_46 rfl (lv_at hl 1 rfl) ?_
    exact mw_zret hx hb hr hlocks hS hP hD (by decide) (by decide) d_Ga_bytesNeverLeftOut_47 (by first | rfl | decide +kernel) (⟨rfl, rfl⟩)
  · exact absurd c1 (by decide +kernel)
set_option maxHeartbeats 4000000 in
set_option maxRecDepth 100000 in
theorem c_En_shrinkTo (l : Launch) (D9 : va_G) (cB cI cJ cG : ClassId) (en gb ne ol mk pl so : Nat) : MW l D9 cls9 (ty9 cB cI cJ cG) y_En_shrinkTo b_En_shrinkTo 3 none (rm9 1 0 0) [.ref en, .int 0] [(en, .inr (1, [.ref gb, .ref ne, .ref ol, .ref mk, .ref pl, .ref so, .int 0]))] (fun v8 w2 => v8 = none ∧ ∃ (x0 : Int32), w2 = [(en, .inr (1, [.ref gb, .ref ne, .ref ol, .ref mk, .ref pl, .ref so, .int x0]))]) 0 0 := by
  refine mw_of (by decide) (Nat.le_of_ble_eq_true rfl) ?_
  intro p e s m below meth c ls C0 hin hP hD hA hS hl
  obtain ⟨hx, hb, hml, hr, hlocks, hown, hts, hK⟩ := id C0
  have hl : lv_has ls 3 [(0, .ref en), (1, .int 0)] := hl
  refine lv_aload_n hx hb d_En_shrinkTo_0 rfl (lv_at hl 0 rfl) ?_
  refine va_get (D := D9) (ci := 1) (C := R_En) (T := F_En) (N := 7) hx hb hts i_En hown hK hP 0 rfl rfl 6 (by decide) (hts _ g_168) (fun _ h9 => h9) rfl d_En_shrinkTo_1 ?_
  refine lv_iconst (v := 1) hx hb d_En_shrinkTo_4 (by decide) ?_
  refine lv_isub hx hb d_En_shrinkTo_5 ?_
  refine lv_istore_n (lv' := [(2, _), (0, _), (1, _)]) hx hb d_En_shrinkTo_6 rfl hl (by decide) rfl (fun ls hl => ?_)
  refine lv_iload_n hx hb d_En_shrinkTo_7 rfl (lv_at hl 0 rfl) ?_
  refine lv_iload_n hx hb d_En_shrinkTo_8 rfl (lv_at hl 2 rfl) ?_
  refine lv_icmp_lt (tgt := 38) hx hb d_En_shrinkTo_9 (by decide) (fun c1 => ?_) (fun c1 => ?_)
  · refine lv_aload_n hx hb d_En_shrinkTo_38 rfl (lv_at hl 1 rfl) ?_
    refine lv_aload_n hx hb d_En_shrinkTo_39 rfl (lv_at hl 1 rfl) ?_
    refine va_get (D := D9) (ci := 1) (C := R_En) (T := F_En) (N := 7) hx hb hts i_En hown hK hP 0 rfl rfl 6 (by decide) (hts _ g_168) (fun _ h9 => h9) rfl d_En_shrinkTo_40 ?_
    refine lv_iload_n hx hb d_En_shrinkTo_43 rfl (lv_at hl 2 rfl) ?_
    refine va_mmin hx hb (by rw [hml]; exact hl.1.symm) hown (hts _ g_571) (hts _ g_302) (hts _ g_14) (hts _ g_303) (by decide) (Nat.le_of_ble_eq_true rfl) (by decide) (by decide) d_En_shrinkTo_44 ?_
    refine va_put (D := D9) (ty := .int) (ci := 1) (C := R_En) (T := F_En) (N := 7) hx hb hts i_En t_En t_En_ok n_En hown hK hP hD hS 0 rfl rfl 6 (by decide) (hts _ g_168) (fun _ h9 => h9) rfl (by decide +kernel) rfl rfl (Nat.le_of_ble_eq_true rfl) d_En_shrinkTo_47 (fun H locs hP hD hS => ?_)
    have hP : va_P D9 cls9 [(en, .inr (1, [.ref gb, .ref ne, .ref ol, .ref mk, .ref pl, .ref so, .int _]))] H := hP
    have hD : va_D _ [(en, .inr (1, [.ref gb, .ref ne, .ref ol, .ref mk, .ref pl, .ref so, .int _]))] := hD
    exact mw_vret hx hb hr hlocks hS hP hD (by decide) (by decide) d_En_shrinkTo_50 (⟨rfl, _, rfl⟩)
  · exact absurd c1 (by decide +kernel)
set_option maxHeartbeats 4000000 in
set_option maxRecDepth 100000 in
theorem c_Wr_compose (l : Launch) (D9 : va_G) (cB cI cJ cG : ClassId) (wr ga ms en lsA lmA msr ne ol mk pl so gb st nl dl ty ki ti rw sz : Nat) (u1 : Int32) : MW l D9 cls9 (ty9 cB cI cJ cG) y_Wr_compose b_Wr_compose 9 none (rm9 2 0 0) [.ref wr, .int u1] [(wr, .inr (5, [.ref ga, .ref ms, .ref en, .ref lsA, .ref lmA, .int 0])), (ga, .inr (2, [.ref gb, .ref st, .ref nl, .ref dl, .ref ty, .ref ki, .ref ti, .ref rw, .ref sz, .int 0, .int 0])), (sz, .inl (cI, 4, .inl (fun _ => 0))), (ms, .inr (0, [.ref msr, .int 0])), (msr, .inl (cB, 65536, .inl (fun _ => 0))), (en, .inr (1, [.ref gb, .ref ne, .ref ol, .ref mk, .ref pl, .ref so, .int 0]))] (fun v8 w2 => v8 = none ∧ ∃ (x0 : Nat → Int32) (x1 : Int32), w2 = [(wr, .inr (5, [.ref ga, .ref ms, .ref en, .ref lsA, .ref lmA, .int (0)])), (ms, .inr (0, [.ref msr, .int (12)])), (msr, .inl (cB, 65536, .inl x0)), (ga, .inr (2, [.ref gb, .ref st, .ref nl, .ref dl, .ref ty, .ref ki, .ref ti, .ref rw, .ref sz, .int 0, .int 0])), (sz, .inl (cI, 4, .inl (fun _ => 0))), (en, .inr (1, [.ref gb, .ref ne, .ref ol, .ref mk, .ref pl, .ref so, .int x1]))]) 0 0 := by
  refine mw_of (by decide) (Nat.le_of_ble_eq_true rfl) ?_
  intro p e s m below meth c ls C0 hin hP hD hA hS hl
  obtain ⟨hx, hb, hml, hr, hlocks, hown, hts, hK⟩ := id C0
  have hl : lv_has ls 9 [(0, .ref wr), (1, .int u1)] := hl
  refine lv_aload_n hx hb d_Wr_compose_0 rfl (lv_at hl 0 rfl) ?_
  refine va_get (D := D9) (ci := 5) (C := R_Wr) (T := F_Wr) (N := 6) hx hb hts i_Wr hown hK hP 0 rfl rfl 0 (by decide) (hts _ g_185) (fun _ h9 => h9) rfl d_Wr_compose_1 ?_
  refine mf_cVN (wr := [_, _, _, _]) (ci := 2) (k := 0) C0 (c_Ga_bytesNeverLeftOut l D9 cB cI cJ cG ga gb st nl dl ty ki ti rw sz) g_535 g_3 g_563 g_534 gs_Ga_bytesNeverLeftOut ⟨by decide +kernel, by decide +kernel, show Option.map (fun d => d.parameters.length) (parseMethodDescriptor y_Ga_bytesNeverLeftOut.desc) = some 0 by decide +kernel⟩ ⟨by decide, by decide⟩ rfl rfl hP hD hS hA [1, 2] [0, 3, 4, 5] rfl rfl (by decide) (by decide) (by decide) rfl rfl hl.1 (Nat.le_of_ble_eq_true rfl) rfl d_Wr_compose_4 ⟨by decide, by decide⟩ (fun v9 w9 H locs hq hP hD hS => ?_)
  obtain ⟨rfl, hw9⟩ := hq
  rw [hw9] at hP hD
  have hP : va_P D9 cls9 [(wr, .inr (5, [.ref ga, .ref ms, .ref en, .ref lsA, .ref lmA, .int 0])), (ms, .inr (0, [.ref msr, .int 0])), (msr, .inl (cB, 65536, .inl (fun _ => 0))), (en, .inr (1, [.ref gb, .ref ne, .ref ol, .ref mk, .ref pl, .ref so, .int 0])), (ga, .inr (2, [.ref gb, .ref st, .ref nl, .ref dl, .ref ty, .ref ki, .ref ti, .ref rw, .ref sz, .int 0, .int 0])), (sz, .inl (cI, 4, .inl (fun _ => 0)))] H := hP
  have hD : va_D _ [(wr, .inr (5, [.ref ga, .ref ms, .ref en, .ref lsA, .ref lmA, .int 0])), (ms, .inr (0, [.ref msr, .int 0])), (msr, .inl (cB, 65536, .inl (fun _ => 0))), (en, .inr (1, [.ref gb, .ref ne, .ref ol, .ref mk, .ref pl, .ref so, .int 0])), (ga, .inr (2, [.ref gb, .ref st, .ref nl, .ref dl, .ref ty, .ref ki, .ref ti, .ref rw, .ref sz, .int 0, .int 0])), (sz, .inl (cI, 4, .inl (fun _ => 0)))] := hD
  refine lv_istore_n (lv' := [(2, _), (0, _), (1, _)]) hx hb d_Wr_compose_7 rfl hl (by decide) rfl (fun ls hl => ?_)
  refine lv_iconst (v := 0) hx hb d_Wr_compose_8 (by decide) ?_
  refine lv_istore_n (lv' := [(3, _), (2, _), (0, _), (1, _)]) hx hb d_Wr_compose_9 rfl hl (by decide) rfl (fun ls hl => ?_)
  refine lv_aload_n hx hb d_Wr_compose_10 rfl (lv_at hl 2 rfl) ?_
  refine va_get (D := D9) (ci := 5) (C := R_Wr) (T := F_Wr) (N := 6) hx hb hts i_Wr hown hK hP 0 rfl rfl 1 (by decide) (hts _ g_186) (fun _ h9 => h9) rfl d_Wr_compose_11 ?_
  refine lv_bipush (v := 12) hx hb d_Wr_compose_14 (by decide) ?_
  refine va_putN (D := D9) (ty := .int) (ci := 0) (C := R_By) (T := F_By) (N := 2) hx hb hts i_By t_By t_By_ok n_By hown hK hP hD hS 1 rfl rfl 1 (by decide) (hts _ g_38) (fun _ h9 => h9) rfl (by decide +kernel) rfl rfl (Nat.le_of_ble_eq_true rfl) d_Wr_compose_16 (fun H locs hP hD hS => ?_)
  have hP : va_P D9 cls9 [(wr, .inr (5, [.ref ga, .ref ms, .ref en, .ref lsA, .ref lmA, .int 0])), (ms, .inr (0, [.ref msr, .int (12)])), (msr, .inl (cB, 65536, .inl (fun _ => 0))), (en, .inr (1, [.ref gb, .ref ne, .ref ol, .ref mk, .ref pl, .ref so, .int 0])), (ga, .inr (2, [.ref gb, .ref st, .ref nl, .ref dl, .ref ty, .ref ki, .ref ti, .ref rw, .ref sz, .int 0, .int 0])), (sz, .inl (cI, 4, .inl (fun _ => 0)))] H := hP
  have hD : va_D _ [(wr, .inr (5, [.ref ga, .ref ms, .ref en, .ref lsA, .ref lmA, .int 0])), (ms, .inr (0, [.ref msr, .int (12)])), (msr, .inl (cB, 65536, .inl (fun _ => 0))), (en, .inr (1, [.ref gb, .ref ne, .ref ol, .ref mk, .ref pl, .ref so, .int 0])), (ga, .inr (2, [.ref gb, .ref st, .ref nl, .ref dl, .ref ty, .ref ki, .ref ti, .ref rw, .ref sz, .int 0, .int 0])), (sz, .inl (cI, 4, .inl (fun _ => 0)))] := hD
  refine lv_aload_n hx hb d_Wr_compose_19 rfl (lv_at hl 2 rfl) ?_
  refine lv_iconst (v := 0) hx hb d_Wr_compose_20 (by decide) ?_
  refine va_put (D := D9) (ty := .int) (ci := 5) (C := R_Wr) (T := F_Wr) (N := 6) hx hb hts i_Wr t_Wr t_Wr_ok n_Wr hown hK hP hD hS 0 rfl rfl 5 (by decide) (hts _ g_191) (fun _ h9 => h9) rfl (by decide +kernel) rfl rfl (Nat.le_of_ble_eq_true rfl) d_Wr_compose_21 (fun H locs hP hD hS => ?_)
  have hP : va_P D9 cls9 [(wr, .inr (5, [.ref ga, .ref ms, .ref en, .ref lsA, .ref lmA, .int (0)])), (ms, .inr (0, [.ref msr, .int (12)])), (msr, .inl (cB, 65536, .inl (fun _ => 0))), (en, .inr (1, [.ref gb, .ref ne, .ref ol, .ref mk, .ref pl, .ref so, .int 0])), (ga, .inr (2, [.ref gb, .ref st, .ref nl, .ref dl, .ref ty, .ref ki, .ref ti, .ref rw, .ref sz, .int 0, .int 0])), (sz, .inl (cI, 4, .inl (fun _ => 0)))] H := hP
  have hD : va_D _ [(wr, .inr (5, [.ref ga, .ref ms, .ref en, .ref lsA, .ref lmA, .int (0)])), (ms, .inr (0, [.ref msr, .int (12)])), (msr, .inl (cB, 65536, .inl (fun _ => 0))), (en, .inr (1, [.ref gb, .ref ne, .ref ol, .ref mk, .ref pl, .ref so, .int 0])), (ga, .inr (2, [.ref gb, .ref st, .ref nl, .ref dl, .ref ty, .ref ki, .ref ti, .ref rw, .ref sz, .int 0, .int 0])), (sz, .inl (cI, 4, .inl (fun _ => 0)))] := hD
  refine lv_aload_n hx hb d_Wr_compose_24 rfl (lv_at hl 2 rfl) ?_
  refine va_get (D := D9) (ci := 5) (C := R_Wr) (T := F_Wr) (N := 6) hx hb hts i_Wr hown hK hP 0 rfl rfl 2 (by decide) (hts _ g_188) (fun _ h9 => h9) rfl d_Wr_compose_25 ?_
  refine lv_iconst (v := 0) hx hb d_Wr_compose_28 (by decide) ?_
  refine mf_cVN (wr := [_, _, _, _, _]) (ci := 1) (k := 0) C0 (c_En_shrinkTo l D9 cB cI cJ cG en gb ne ol mk pl so) g_567 g_6 g_564 g_566 gs_En_shrinkTo ⟨by decide +kernel, by decide +kernel, show Option.map (fun d => d.parameters.length) (parseMethodDescriptor y_En_shrinkTo.desc) = some 1 by decide +kernel⟩ ⟨by decide, by decide⟩ rfl rfl hP hD hS hA [3] [0, 1, 2, 4, 5] rfl rfl (by decide) (by decide) (by decide) rfl rfl hl.1 (Nat.le_of_ble_eq_true rfl) rfl d_Wr_compose_29 ⟨by decide, by decide⟩ (fun v9 w9 H locs hq hP hD hS => ?_)
  obtain ⟨rfl, y16_0, hw9⟩ := hq
  rw [hw9] at hP hD
  have hP : va_P D9 cls9 [(wr, .inr (5, [.ref ga, .ref ms, .ref en, .ref lsA, .ref lmA, .int (0)])), (ms, .inr (0, [.ref msr, .int (12)])), (msr, .inl (cB, 65536, .inl (fun _ => 0))), (ga, .inr (2, [.ref gb, .ref st, .ref nl, .ref dl, .ref ty, .ref ki, .ref ti, .ref rw, .ref sz, .int 0, .int 0])), (sz, .inl (cI, 4, .inl (fun _ => 0))), (en, .inr (1, [.ref gb, .ref ne, .ref ol, .ref mk, .ref pl, .ref so, .int y16_0]))] H := hP
  have hD : va_D _ [(wr, .inr (5, [.ref ga, .ref ms, .ref en, .ref lsA, .ref lmA, .int (0)])), (ms, .inr (0, [.ref msr, .int (12)])), (msr, .inl (cB, 65536, .inl (fun _ => 0))), (ga, .inr (2, [.ref gb, .ref st, .ref nl, .ref dl, .ref ty, .ref ki, .ref ti, .ref rw, .ref sz, .int 0, .int 0])), (sz, .inl (cI, 4, .inl (fun _ => 0))), (en, .inr (1, [.ref gb, .ref ne, .ref ol, .ref mk, .ref pl, .ref so, .int y16_0]))] := hD
  refine lv_iconst (v := 0) hx hb d_Wr_compose_32 (by decide) ?_
  refine lv_istore (lv' := [(4, _), (3, _), (2, _), (0, _), (1, _)]) hx hb d_Wr_compose_33 hl (by decide) rfl (fun ls hl => ?_)
  refine lv_iload hx hb d_Wr_compose_35 (lv_at hl 0 rfl) ?_
  refine lv_iconst (v := 4) hx hb d_Wr_compose_37 (by decide) ?_
  refine lv_icmp_ge (tgt := 182) hx hb d_Wr_compose_38 (by decide) (fun c1 => ?_) (fun c1 => ?_)
  · exact absurd c1 (by decide +kernel)
  · refine lv_iconst (v := 0) hx hb d_Wr_compose_41 (by decide) ?_
    refine lv_istore (lv' := [(5, _), (4, _), (3, _), (2, _), (0, _), (1, _)]) hx hb d_Wr_compose_42 hl (by decide) rfl (fun ls hl => ?_)
    refine lv_iconst (v := 0) hx hb d_Wr_compose_44 (by decide) ?_
    refine lv_istore (lv' := [(6, _), (5, _), (4, _), (3, _), (2, _), (0, _), (1, _)]) hx hb d_Wr_compose_45 hl (by decide) rfl (fun ls hl => ?_)
    refine lv_iload hx hb d_Wr_compose_47 (lv_at hl 0 rfl) ?_
    refine lv_aload_n hx hb d_Wr_compose_49 rfl (lv_at hl 5 rfl) ?_
    refine va_get (D := D9) (ci := 5) (C := R_Wr) (T := F_Wr) (N := 6) hx hb hts i_Wr hown hK hP 0 rfl rfl 0 (by decide) (hts _ g_185) (fun _ h9 => h9) rfl d_Wr_compose_50 ?_
    refine va_getN (D := D9) (ci := 2) (C := R_Ga) (T := F_Ga) (N := 11) hx hb hts i_Ga hown hK hP 3 rfl rfl 8 (by decide) (hts _ g_82) (fun _ h9 => h9) rfl d_Wr_compose_53 ?_
    refine lv_iload hx hb d_Wr_compose_56 (lv_at hl 2 rfl) ?_
    refine va_iald (D := D9) hx hb hK hP 4 1 rfl rfl (by unfold vp_in; decide +kernel) d_Wr_compose_58 ?_
    refine lv_icmp_ge (tgt := 161) hx hb d_Wr_compose_59 (by decide) (fun c2 => ?_) (fun c2 => ?_)
    · refine lv_aload_n hx hb d_Wr_compose_161 rfl (lv_at hl 5 rfl) ?_
      refine va_get (D := D9) (ci := 5) (C := R_Wr) (T := F_Wr) (N := 6) hx hb hts i_Wr hown hK hP 0 rfl rfl 1 (by decide) (hts _ g_186) (fun _ h9 => h9) rfl d_Wr_compose_162 ?_
      refine lv_iconst (v := 4) hx hb d_Wr_compose_165 (by decide) ?_
      refine lv_iconst (v := 2) hx hb d_Wr_compose_166 (by decide) ?_
      refine lv_iload hx hb d_Wr_compose_167 (lv_at hl 2 rfl) ?_
      refine lv_imul hx hb d_Wr_compose_169 ?_
      refine lv_iadd hx hb d_Wr_compose_170 ?_
      refine lv_iload hx hb d_Wr_compose_171 (lv_at hl 1 rfl) ?_
      refine mw_cVN (ci := 0) (k := 1) C0 (c_By_setTwo l D9 cB cI cJ cG _ 1 2 _ _ (by decide) (by decide) _ _ rfl rfl _ _) g_619 g_2 g_616 g_618 gs_By_setTwo ⟨by decide +kernel, by decide +kernel, show Option.map (fun d => d.parameters.length) (parseMethodDescriptor y_By_setTwo.desc) = some 2 by decide +kernel⟩ ⟨by decide, by decide⟩ rfl rfl hP hD hS hA rfl rfl hl.1 (Nat.le_of_ble_eq_true rfl) rfl d_Wr_compose_173 ⟨by decide, by decide⟩ (fun v9 w9 H locs hq hP hD hS => ?_)
      obtain ⟨rfl, hw9⟩ := hq
      rw [hw9] at hP hD
      have hP : va_P D9 cls9 [(wr, .inr (5, [.ref ga, .ref ms, .ref en, .ref lsA, .ref lmA, .int (0)])), (ms, .inr (0, [.ref msr, .int (12)])), (msr, .inl (cB, 65536, .inl _)), (ga, .inr (2, [.ref gb, .ref st, .ref nl, .ref dl, .ref ty, .ref ki, .ref ti, .ref rw, .ref sz, .int 0, .int 0])), (sz, .inl (cI, 4, .inl (fun _ => 0))), (en, .inr (1, [.ref gb, .ref ne, .ref ol, .ref mk, .ref pl, .ref so, .int y16_0]))] H := hP
      have hD : va_D _ [(wr, .inr (5, [.ref ga, .ref ms, .ref en, .ref lsA, .ref lmA, .int (0)])), (ms, .inr (0, [.ref msr, .int (12)])), (msr, .inl (cB, 65536, .inl _)), (ga, .inr (2, [.ref gb, .ref st, .ref nl, .ref dl, .ref ty, .ref ki, .ref ti, .ref rw, .ref sz, .int 0, .int 0])), (sz, .inl (cI, 4, .inl (fun _ => 0))), (en, .inr (1, [.ref gb, .ref ne, .ref ol, .ref mk, .ref pl, .ref so, .int y16_0]))] := hD
      refine lv_iinc (lv' := [(4, _), (6, _), (5, _), (3, _), (2, _), (0, _), (1, _)]) hx hb d_Wr_compose_176 hl (k := 2) rfl rfl (by decide) rfl (fun ls hl => ?_)
      refine lv_goto (tgt := 35) hx hb d_Wr_compose_179 (by decide) ?_
      refine lv_iload hx hb d_Wr_compose_35 (lv_at hl 0 rfl) ?_
      refine lv_iconst (v := 4) hx hb d_Wr_compose_37 (by decide) ?_
      refine lv_icmp_ge (tgt := 182) hx hb d_Wr_compose_38 (by decide) (fun c3 => ?_) (fun c3 => ?_)
      · exact absurd c3 (by decide +kernel)
      · refine lv_iconst (v := 0) hx hb d_Wr_compose_41 (by decide) ?_
        refine lv_istore (lv' := [(5, _), (4, _), (6, _), (3, _), (2, _), (0, _), (1, _)]) hx hb d_Wr_compose_42 hl (by decide) rfl (fun ls hl => ?_)
        refine lv_iconst (v := 0) hx hb d_Wr_compose_44 (by decide) ?_
        refine lv_istore (lv' := [(6, _), (5, _), (4, _), (3, _), (2, _), (0, _), (1, _)]) hx hb d_Wr_compose_45 hl (by decide) rfl (fun ls hl => ?_)
        refine lv_iload hx hb d_Wr_compose_47 (lv_at hl 0 rfl) ?_
        refine lv_aload_n hx hb d_Wr_compose_49 rfl (lv_at hl 5 rfl) ?_
        refine va_get (D := D9) (ci := 5) (C := R_Wr) (T := F_Wr) (N := 6) hx hb hts i_Wr hown hK hP 0 rfl rfl 0 (by decide) (hts _ g_185) (fun _ h9 => h9) rfl d_Wr_compose_50 ?_
        refine va_getN (D := D9) (ci := 2) (C := R_Ga) (T := F_Ga) (N := 11) hx hb hts i_Ga hown hK hP 3 rfl rfl 8 (by decide) (hts _ g_82) (fun _ h9 => h9) rfl d_Wr_compose_53 ?_
        refine lv_iload hx hb d_Wr_compose_56 (lv_at hl 2 rfl) ?_
        refine va_iald (D := D9) hx hb hK hP 4 1 rfl rfl (by unfold vp_in; decide +kernel) d_Wr_compose_58 ?_
        refine lv_icmp_ge (tgt := 161) hx hb d_Wr_compose_59 (by decide) (fun c4 => ?_) (fun c4 => ?_)
        · refine lv_aload_n hx hb d_Wr_compose_161 rfl (lv_at hl 5 rfl) ?_
          refine va_get (D := D9) (ci := 5) (C := R_Wr) (T := F_Wr) (N := 6) hx hb hts i_Wr hown hK hP 0 rfl rfl 1 (by decide) (hts _ g_186) (fun _ h9 => h9) rfl d_Wr_compose_162 ?_
          refine lv_iconst (v := 4) hx hb d_Wr_compose_165 (by decide) ?_
          refine lv_iconst (v := 2) hx hb d_Wr_compose_166 (by decide) ?_
          refine lv_iload hx hb d_Wr_compose_167 (lv_at hl 2 rfl) ?_
          refine lv_imul hx hb d_Wr_compose_169 ?_
          refine lv_iadd hx hb d_Wr_compose_170 ?_
          refine lv_iload hx hb d_Wr_compose_171 (lv_at hl 1 rfl) ?_
          refine mw_cVN (ci := 0) (k := 1) C0 (c_By_setTwo l D9 cB cI cJ cG _ 1 2 _ _ (by decide) (by decide) _ _ rfl rfl _ _) g_619 g_2 g_616 g_618 gs_By_setTwo ⟨by decide +kernel, by decide +kernel, show Option.map (fun d => d.parameters.length) (parseMethodDescriptor y_By_setTwo.desc) = some 2 by decide +kernel⟩ ⟨by decide, by decide⟩ rfl rfl hP hD hS hA rfl rfl hl.1 (Nat.le_of_ble_eq_true rfl) rfl d_Wr_compose_173 ⟨by decide, by decide⟩ (fun v9 w9 H locs hq hP hD hS => ?_)
          obtain ⟨rfl, hw9⟩ := hq
          rw [hw9] at hP hD
          have hP : va_P D9 cls9 [(wr, .inr (5, [.ref ga, .ref ms, .ref en, .ref lsA, .ref lmA, .int (0)])), (ms, .inr (0, [.ref msr, .int (12)])), (msr, .inl (cB, 65536, .inl _)), (ga, .inr (2, [.ref gb, .ref st, .ref nl, .ref dl, .ref ty, .ref ki, .ref ti, .ref rw, .ref sz, .int 0, .int 0])), (sz, .inl (cI, 4, .inl (fun _ => 0))), (en, .inr (1, [.ref gb, .ref ne, .ref ol, .ref mk, .ref pl, .ref so, .int y16_0]))] H := hP
          have hD : va_D _ [(wr, .inr (5, [.ref ga, .ref ms, .ref en, .ref lsA, .ref lmA, .int (0)])), (ms, .inr (0, [.ref msr, .int (12)])), (msr, .inl (cB, 65536, .inl _)), (ga, .inr (2, [.ref gb, .ref st, .ref nl, .ref dl, .ref ty, .ref ki, .ref ti, .ref rw, .ref sz, .int 0, .int 0])), (sz, .inl (cI, 4, .inl (fun _ => 0))), (en, .inr (1, [.ref gb, .ref ne, .ref ol, .ref mk, .ref pl, .ref so, .int y16_0]))] := hD
          refine lv_iinc (lv' := [(4, _), (6, _), (5, _), (3, _), (2, _), (0, _), (1, _)]) hx hb d_Wr_compose_176 hl (k := 2) rfl rfl (by decide) rfl (fun ls hl => ?_)
          refine lv_goto (tgt := 35) hx hb d_Wr_compose_179 (by decide) ?_
          refine lv_iload hx hb d_Wr_compose_35 (lv_at hl 0 rfl) ?_
          refine lv_iconst (v := 4) hx hb d_Wr_compose_37 (by decide) ?_
          refine lv_icmp_ge (tgt := 182) hx hb d_Wr_compose_38 (by decide) (fun c5 => ?_) (fun c5 => ?_)
          · exact absurd c5 (by decide +kernel)
          · refine lv_iconst (v := 0) hx hb d_Wr_compose_41 (by decide) ?_
            refine lv_istore (lv' := [(5, _), (4, _), (6, _), (3, _), (2, _), (0, _), (1, _)]) hx hb d_Wr_compose_42 hl (by decide) rfl (fun ls hl => ?_)
            refine lv_iconst (v := 0) hx hb d_Wr_compose_44 (by decide) ?_
            refine lv_istore (lv' := [(6, _), (5, _), (4, _), (3, _), (2, _), (0, _), (1, _)]) hx hb d_Wr_compose_45 hl (by decide) rfl (fun ls hl => ?_)
            refine lv_iload hx hb d_Wr_compose_47 (lv_at hl 0 rfl) ?_
            refine lv_aload_n hx hb d_Wr_compose_49 rfl (lv_at hl 5 rfl) ?_
            refine va_get (D := D9) (ci := 5) (C := R_Wr) (T := F_Wr) (N := 6) hx hb hts i_Wr hown hK hP 0 rfl rfl 0 (by decide) (hts _ g_185) (fun _ h9 => h9) rfl d_Wr_compose_50 ?_
            refine va_getN (D := D9) (ci := 2) (C := R_Ga) (T := F_Ga) (N := 11) hx hb hts i_Ga hown hK hP 3 rfl rfl 8 (by decide) (hts _ g_82) (fun _ h9 => h9) rfl d_Wr_compose_53 ?_
            refine lv_iload hx hb d_Wr_compose_56 (lv_at hl 2 rfl) ?_
            refine va_iald (D := D9) hx hb hK hP 4 1 rfl rfl (by unfold vp_in; decide +kernel) d_Wr_compose_58 ?_
            refine lv_icmp_ge (tgt := 161) hx hb d_Wr_compose_59 (by decide) (fun c6 => ?_) (fun c6 => ?_)
            · refine lv_aload_n hx hb d_Wr_compose_161 rfl (lv_at hl 5 rfl) ?_
              refine va_get (D := D9) (ci := 5) (C := R_Wr) (T := F_Wr) (N := 6) hx hb hts i_Wr hown hK hP 0 rfl rfl 1 (by decide) (hts _ g_186) (fun _ h9 => h9) rfl d_Wr_compose_162 ?_
              refine lv_iconst (v := 4) hx hb d_Wr_compose_165 (by decide) ?_
              refine lv_iconst (v := 2) hx hb d_Wr_compose_166 (by decide) ?_
              refine lv_iload hx hb d_Wr_compose_167 (lv_at hl 2 rfl) ?_
              refine lv_imul hx hb d_Wr_compose_169 ?_
              refine lv_iadd hx hb d_Wr_compose_170 ?_
              refine lv_iload hx hb d_Wr_compose_171 (lv_at hl 1 rfl) ?_
              refine mw_cVN (ci := 0) (k := 1) C0 (c_By_setTwo l D9 cB cI cJ cG _ 1 2 _ _ (by decide) (by decide) _ _ rfl rfl _ _) g_619 g_2 g_616 g_618 gs_By_setTwo ⟨by decide +kernel, by decide +kernel, show Option.map (fun d => d.parameters.length) (parseMethodDescriptor y_By_setTwo.desc) = some 2 by decide +kernel⟩ ⟨by decide, by decide⟩ rfl rfl hP hD hS hA rfl rfl hl.1 (Nat.le_of_ble_eq_true rfl) rfl d_Wr_compose_173 ⟨by decide, by decide⟩ (fun v9 w9 H locs hq hP hD hS => ?_)
              obtain ⟨rfl, hw9⟩ := hq
              rw [hw9] at hP hD
              have hP : va_P D9 cls9 [(wr, .inr (5, [.ref ga, .ref ms, .ref en, .ref lsA, .ref lmA, .int (0)])), (ms, .inr (0, [.ref msr, .int (12)])), (msr, .inl (cB, 65536, .inl _)), (ga, .inr (2, [.ref gb, .ref st, .ref nl, .ref dl, .ref ty, .ref ki, .ref ti, .ref rw, .ref sz, .int 0, .int 0])), (sz, .inl (cI, 4, .inl (fun _ => 0))), (en, .inr (1, [.ref gb, .ref ne, .ref ol, .ref mk, .ref pl, .ref so, .int y16_0]))] H := hP
              have hD : va_D _ [(wr, .inr (5, [.ref ga, .ref ms, .ref en, .ref lsA, .ref lmA, .int (0)])), (ms, .inr (0, [.ref msr, .int (12)])), (msr, .inl (cB, 65536, .inl _)), (ga, .inr (2, [.ref gb, .ref st, .ref nl, .ref dl, .ref ty, .ref ki, .ref ti, .ref rw, .ref sz, .int 0, .int 0])), (sz, .inl (cI, 4, .inl (fun _ => 0))), (en, .inr (1, [.ref gb, .ref ne, .ref ol, .ref mk, .ref pl, .ref so, .int y16_0]))] := hD
              refine lv_iinc (lv' := [(4, _), (6, _), (5, _), (3, _), (2, _), (0, _), (1, _)]) hx hb d_Wr_compose_176 hl (k := 2) rfl rfl (by decide) rfl (fun ls hl => ?_)
              refine lv_goto (tgt := 35) hx hb d_Wr_compose_179 (by decide) ?_
              refine lv_iload hx hb d_Wr_compose_35 (lv_at hl 0 rfl) ?_
              refine lv_iconst (v := 4) hx hb d_Wr_compose_37 (by decide) ?_
              refine lv_icmp_ge (tgt := 182) hx hb d_Wr_compose_38 (by decide) (fun c7 => ?_) (fun c7 => ?_)
              · exact absurd c7 (by decide +kernel)
              · refine lv_iconst (v := 0) hx hb d_Wr_compose_41 (by decide) ?_
                refine lv_istore (lv' := [(5, _), (4, _), (6, _), (3, _), (2, _), (0, _), (1, _)]) hx hb d_Wr_compose_42 hl (by decide) rfl (fun ls hl => ?_)
                refine lv_iconst (v := 0) hx hb d_Wr_compose_44 (by decide) ?_
                refine lv_istore (lv' := [(6, _), (5, _), (4, _), (3, _), (2, _), (0, _), (1, _)]) hx hb d_Wr_compose_45 hl (by decide) rfl (fun ls hl => ?_)
                refine lv_iload hx hb d_Wr_compose_47 (lv_at hl 0 rfl) ?_
                refine lv_aload_n hx hb d_Wr_compose_49 rfl (lv_at hl 5 rfl) ?_
                refine va_get (D := D9) (ci := 5) (C := R_Wr) (T := F_Wr) (N := 6) hx hb hts i_Wr hown hK hP 0 rfl rfl 0 (by decide) (hts _ g_185) (fun _ h9 => h9) rfl d_Wr_compose_50 ?_
                refine va_getN (D := D9) (ci := 2) (C := R_Ga) (T := F_Ga) (N := 11) hx hb hts i_Ga hown hK hP 3 rfl rfl 8 (by decide) (hts _ g_82) (fun _ h9 => h9) rfl d_Wr_compose_53 ?_
                refine lv_iload hx hb d_Wr_compose_56 (lv_at hl 2 rfl) ?_
                refine va_iald (D := D9) hx hb hK hP 4 1 rfl rfl (by unfold vp_in; decide +kernel) d_Wr_compose_58 ?_
                refine lv_icmp_ge (tgt := 161) hx hb d_Wr_compose_59 (by decide) (fun c8 => ?_) (fun c8 => ?_)
                · refine lv_aload_n hx hb d_Wr_compose_161 rfl (lv_at hl 5 rfl) ?_
                  refine va_get (D := D9) (ci := 5) (C := R_Wr) (T := F_Wr) (N := 6) hx hb hts i_Wr hown hK hP 0 rfl rfl 1 (by decide) (hts _ g_186) (fun _ h9 => h9) rfl d_Wr_compose_162 ?_
                  refine lv_iconst (v := 4) hx hb d_Wr_compose_165 (by decide) ?_
                  refine lv_iconst (v := 2) hx hb d_Wr_compose_166 (by decide) ?_
                  refine lv_iload hx hb d_Wr_compose_167 (lv_at hl 2 rfl) ?_
                  refine lv_imul hx hb d_Wr_compose_169 ?_
                  refine lv_iadd hx hb d_Wr_compose_170 ?_
                  refine lv_iload hx hb d_Wr_compose_171 (lv_at hl 1 rfl) ?_
                  refine mw_cVN (ci := 0) (k := 1) C0 (c_By_setTwo l D9 cB cI cJ cG _ 1 2 _ _ (by decide) (by decide) _ _ rfl rfl _ _) g_619 g_2 g_616 g_618 gs_By_setTwo ⟨by decide +kernel, by decide +kernel, show Option.map (fun d => d.parameters.length) (parseMethodDescriptor y_By_setTwo.desc) = some 2 by decide +kernel⟩ ⟨by decide, by decide⟩ rfl rfl hP hD hS hA rfl rfl hl.1 (Nat.le_of_ble_eq_true rfl) rfl d_Wr_compose_173 ⟨by decide, by decide⟩ (fun v9 w9 H locs hq hP hD hS => ?_)
                  obtain ⟨rfl, hw9⟩ := hq
                  rw [hw9] at hP hD
                  have hP : va_P D9 cls9 [(wr, .inr (5, [.ref ga, .ref ms, .ref en, .ref lsA, .ref lmA, .int (0)])), (ms, .inr (0, [.ref msr, .int (12)])), (msr, .inl (cB, 65536, .inl _)), (ga, .inr (2, [.ref gb, .ref st, .ref nl, .ref dl, .ref ty, .ref ki, .ref ti, .ref rw, .ref sz, .int 0, .int 0])), (sz, .inl (cI, 4, .inl (fun _ => 0))), (en, .inr (1, [.ref gb, .ref ne, .ref ol, .ref mk, .ref pl, .ref so, .int y16_0]))] H := hP
                  have hD : va_D _ [(wr, .inr (5, [.ref ga, .ref ms, .ref en, .ref lsA, .ref lmA, .int (0)])), (ms, .inr (0, [.ref msr, .int (12)])), (msr, .inl (cB, 65536, .inl _)), (ga, .inr (2, [.ref gb, .ref st, .ref nl, .ref dl, .ref ty, .ref ki, .ref ti, .ref rw, .ref sz, .int 0, .int 0])), (sz, .inl (cI, 4, .inl (fun _ => 0))), (en, .inr (1, [.ref gb, .ref ne, .ref ol, .ref mk, .ref pl, .ref so, .int y16_0]))] := hD
                  refine lv_iinc (lv' := [(4, _), (6, _), (5, _), (3, _), (2, _), (0, _), (1, _)]) hx hb d_Wr_compose_176 hl (k := 2) rfl rfl (by decide) rfl (fun ls hl => ?_)
                  refine lv_goto (tgt := 35) hx hb d_Wr_compose_179 (by decide) ?_
                  refine lv_iload hx hb d_Wr_compose_35 (lv_at hl 0 rfl) ?_
                  refine lv_iconst (v := 4) hx hb d_Wr_compose_37 (by decide) ?_
                  refine lv_icmp_ge (tgt := 182) hx hb d_Wr_compose_38 (by decide) (fun c9 => ?_) (fun c9 => ?_)
                  · refine lv_aload_n hx hb d_Wr_compose_182 rfl (lv_at hl 5 rfl) ?_
                    refine va_get (D := D9) (ci := 5) (C := R_Wr) (T := F_Wr) (N := 6) hx hb hts i_Wr hown hK hP 0 rfl rfl 1 (by decide) (hts _ g_186) (fun _ h9 => h9) rfl d_Wr_compose_183 ?_
                    refine lv_iconst (v := 0) hx hb d_Wr_compose_186 (by decide) ?_
                    refine lv_aload_n hx hb d_Wr_compose_187 rfl (lv_at hl 5 rfl) ?_
                    refine va_get (D := D9) (ci := 5) (C := R_Wr) (T := F_Wr) (N := 6) hx hb hts i_Wr hown hK hP 0 rfl rfl 0 (by decide) (hts _ g_185) (fun _ h9 => h9) rfl d_Wr_compose_188 ?_
                    refine va_getN (D := D9) (ci := 2) (C := R_Ga) (T := F_Ga) (N := 11) hx hb hts i_Ga hown hK hP 3 rfl rfl 9 (by decide) (hts _ g_85) (fun _ h9 => h9) rfl d_Wr_compose_191 ?_
                    refine mw_cVN (ci := 0) (k := 1) C0 (c_By_setTwo l D9 cB cI cJ cG _ 1 2 _ _ (by decide) (by decide) _ _ rfl rfl _ _) g_619 g_2 g_616 g_618 gs_By_setTwo ⟨by decide +kernel, by decide +kernel, show Option.map (fun d => d.parameters.length) (parseMethodDescriptor y_By_setTwo.desc) = some 2 by decide +kernel⟩ ⟨by decide, by decide⟩ rfl rfl hP hD hS hA rfl rfl hl.1 (Nat.le_of_ble_eq_true rfl) rfl d_Wr_compose_194 ⟨by decide, by decide⟩ (fun v9 w9 H locs hq hP hD hS => ?_)
                    obtain ⟨rfl, hw9⟩ := hq
                    rw [hw9] at hP hD
                    have hP : va_P D9 cls9 [(wr, .inr (5, [.ref ga, .ref ms, .ref en, .ref lsA, .ref lmA, .int (0)])), (ms, .inr (0, [.ref msr, .int (12)])), (msr, .inl (cB, 65536, .inl _)), (ga, .inr (2, [.ref gb, .ref st, .ref nl, .ref dl, .ref ty, .ref ki, .ref ti, .ref rw, .ref sz, .int 0, .int 0])), (sz, .inl (cI, 4, .inl (fun _ => 0))), (en, .inr (1, [.ref gb, .ref ne, .ref ol, .ref mk, .ref pl, .ref so, .int y16_0]))] H := hP
                    have hD : va_D _ [(wr, .inr (5, [.ref ga, .ref ms, .ref en, .ref lsA, .ref lmA, .int (0)])), (ms, .inr (0, [.ref msr, .int (12)])), (msr, .inl (cB, 65536, .inl _)), (ga, .inr (2, [.ref gb, .ref st, .ref nl, .ref dl, .ref ty, .ref ki, .ref ti, .ref rw, .ref sz, .int 0, .int 0])), (sz, .inl (cI, 4, .inl (fun _ => 0))), (en, .inr (1, [.ref gb, .ref ne, .ref ol, .ref mk, .ref pl, .ref so, .int y16_0]))] := hD
                    refine lv_aload_n hx hb d_Wr_compose_197 rfl (lv_at hl 5 rfl) ?_
                    refine va_get (D := D9) (ci := 5) (C := R_Wr) (T := F_Wr) (N := 6) hx hb hts i_Wr hown hK hP 0 rfl rfl 1 (by decide) (hts _ g_186) (fun _ h9 => h9) rfl d_Wr_compose_198 ?_
                    refine lv_iconst (v := 2) hx hb d_Wr_compose_201 (by decide) ?_
                    refine lv_iload_n hx hb d_Wr_compose_202 rfl (lv_at hl 3 rfl) ?_
                    refine lv_if_eq (tgt := 220) hx hb d_Wr_compose_203 (by decide) (fun c10 => ?_) (fun c10 => ?_)
                    · refine lv_aload_n hx hb d_Wr_compose_220 rfl (lv_at hl 5 rfl) ?_
                      refine va_get (D := D9) (ci := 5) (C := R_Wr) (T := F_Wr) (N := 6) hx hb hts i_Wr hown hK hP 0 rfl rfl 0 (by decide) (hts _ g_185) (fun _ h9 => h9) rfl d_Wr_compose_221 ?_
                      refine va_getN (D := D9) (ci := 2) (C := R_Ga) (T := F_Ga) (N := 11) hx hb hts i_Ga hown hK hP 3 rfl rfl 10 (by decide) (hts _ g_88) (fun _ h9 => h9) rfl d_Wr_compose_224 ?_
                      refine mw_cVN (ci := 0) (k := 1) C0 (c_By_setTwo l D9 cB cI cJ cG _ 1 2 _ _ (by decide) (by decide) _ _ rfl rfl _ _) g_619 g_2 g_616 g_618 gs_By_setTwo ⟨by decide +kernel, by decide +kernel, show Option.map (fun d => d.parameters.length) (parseMethodDescriptor y_By_setTwo.desc) = some 2 by decide +kernel⟩ ⟨by decide, by decide⟩ rfl rfl hP hD hS hA rfl rfl hl.1 (Nat.le_of_ble_eq_true rfl) rfl d_Wr_compose_227 ⟨by decide, by decide⟩ (fun v9 w9 H locs hq hP hD hS => ?_)
                      obtain ⟨rfl, hw9⟩ := hq
                      rw [hw9] at hP hD
                      have hP : va_P D9 cls9 [(wr, .inr (5, [.ref ga, .ref ms, .ref en, .ref lsA, .ref lmA, .int (0)])), (ms, .inr (0, [.ref msr, .int (12)])), (msr, .inl (cB, 65536, .inl _)), (ga, .inr (2, [.ref gb, .ref st, .ref nl, .ref dl, .ref ty, .ref ki, .ref ti, .ref rw, .ref sz, .int 0, .int 0])), (sz, .inl (cI, 4, .inl (fun _ => 0))), (en, .inr (1, [.ref gb, .ref ne, .ref ol, .ref mk, .ref pl, .ref so, .int y16_0]))] H := hP
                      have hD : va_D _ [(wr, .inr (5, [.ref ga, .ref ms, .ref en, .ref lsA, .ref lmA, .int (0)])), (ms, .inr (0, [.ref msr, .int (12)])), (msr, .inl (cB, 65536, .inl _)), (ga, .inr (2, [.ref gb, .ref st, .ref nl, .ref dl, .ref ty, .ref ki, .ref ti, .ref rw, .ref sz, .int 0, .int 0])), (sz, .inl (cI, 4, .inl (fun _ => 0))), (en, .inr (1, [.ref gb, .ref ne, .ref ol, .ref mk, .ref pl, .ref so, .int y16_0]))] := hD
                      exact mw_vret hx hb hr hlocks hS hP hD (by decide) (by decide) d_Wr_compose_230 (⟨rfl, _, _, rfl⟩)
                    · exact absurd c10 (by decide +kernel)
                  · exact absurd c9 (by decide +kernel)
                · exact absurd c8 (by decide +kernel)
            · exact absurd c6 (by decide +kernel)
        · exact absurd c4 (by decide +kernel)
    · exact absurd c2 (by decide +kernel)
set_option maxHeartbeats 4000000 in
set_option maxRecDepth 100000 in
theorem c_Wm_write (l : Launch) (D9 : va_G) (cB cI cJ cG : ClassId) (hfl : l.flags = pinnedFlags ++ [noTraceFlag]) (b tp ga re wr na ms en lsA lmA msr ne ol mk pl so gb st nl dl ty ki ti rw sz : Nat) (u1 : Int32) : MX l D9 cls9 (ty9 cB cI cJ cG) y_Wm_write b_Wm_write 2 (some .int) (rm9 6 1 6) [.ref b, .int u1] [(b, .inr (6, [.ref tp, .ref ga, .ref re, .ref wr, .ref na, .int (-1), .int 0])), (wr, .inr (5, [.ref ga, .ref ms, .ref en, .ref lsA, .ref lmA, .int 0])), (ga, .inr (2, [.ref gb, .ref st, .ref nl, .ref dl, .ref ty, .ref ki, .ref ti, .ref rw, .ref sz, .int 0, .int 0])), (sz, .inl (cI, 4, .inl (fun _ => 0))), (ms, .inr (0, [.ref msr, .int 0])), (msr, .inl (cB, 65536, .inl (fun _ => 0))), (en, .inr (1, [.ref gb, .ref ne, .ref ol, .ref mk, .ref pl, .ref so, .int 0]))] (fun v8 => v8 = 12 ∧ ¬ u1 < 12 ∧ u1 ≤ 65535) (fun E => E = "java/lang/IllegalArgumentException" ∧ (u1 < 12 ∨ 65535 < u1)) 1 6 := by
  refine mx_of (by decide) (Nat.le_of_ble_eq_true rfl) ?_
  intro p e s m below meth c ls C0 hout hZ hlc hP hD hA hS hl
  obtain ⟨hx, hb, hml, hr, hlocks, hown, hts, hK⟩ := id C0
  have hl : lv_has ls 2 [(0, .ref b), (1, .int u1)] := hl
  refine lv_iload_n hx hb d_Wm_write_0 rfl (lv_at hl 1 rfl) ?_
  refine lv_bipush (v := 12) hx hb d_Wm_write_1 (by decide) ?_
  refine lv_icmp_lt (tgt := 12) hx hb d_Wm_write_3 (by decide) (fun c1 => ?_) (fun c1 => ?_)
  · exact mx_throw (ic := 73) (names := ["java/lang/RuntimeException", "java/lang/Exception"]) hfl C0 hZ hlc hout (by decide +kernel) (by decide +kernel) at_Wm_73 g_466 g_13 hS hl.1 (by decide) (Nat.le_of_ble_eq_true rfl) (by decide) (by decide) (by decide) (by decide) d_Wm_write_12 d_Wm_write_15 d_Wm_write_16 d_Wm_write_19 (⟨rfl, Or.inl c1⟩)
  · refine lv_iload_n hx hb d_Wm_write_6 rfl (lv_at hl 1 rfl) ?_
    refine lv_ldc hx hb hown (hts _ g_369) d_Wm_write_7 ?_
    refine lv_icmp_le (tgt := 20) hx hb d_Wm_write_9 (by decide) (fun c2 => ?_) (fun c2 => ?_)
    · refine lv_bipush (v := 12) hx hb d_Wm_write_20 (by decide) ?_
      refine lv_aload_n hx hb d_Wm_write_22 rfl (lv_at hl 0 rfl) ?_
      refine va_get (D := D9) (ci := 6) (C := R_Wm) (T := F_Wm) (N := 7) hx hb hts i_Wm hown hK hP 0 rfl rfl 1 (by decide) (hts _ g_223) (fun _ h9 => h9) rfl d_Wm_write_23 ?_
      refine mf_cVN (wr := [_, _, _, _, _]) (ci := 2) (k := 0) C0 (c_Ga_bytesNeverLeftOut l D9 cB cI cJ cG ga gb st nl dl ty ki ti rw sz) g_535 g_3 g_532 g_534 gs_Ga_bytesNeverLeftOut ⟨by decide +kernel, by decide +kernel, show Option.map (fun d => d.parameters.length) (parseMethodDescriptor y_Ga_bytesNeverLeftOut.desc) = some 0 by decide +kernel⟩ ⟨by decide, by decide⟩ rfl rfl hP hD hS hA [2, 3] [0, 1, 4, 5, 6] rfl rfl (by decide) (by decide) (by decide) rfl rfl hl.1 (Nat.le_of_ble_eq_true rfl) rfl d_Wm_write_26 ⟨by decide, by decide⟩ (fun v9 w9 H locs hq hP hD hS => ?_)
      obtain ⟨rfl, hw9⟩ := hq
      rw [hw9] at hP hD
      have hP : va_P D9 cls9 [(b, .inr (6, [.ref tp, .ref ga, .ref re, .ref wr, .ref na, .int (-1), .int 0])), (wr, .inr (5, [.ref ga, .ref ms, .ref en, .ref lsA, .ref lmA, .int 0])), (ms, .inr (0, [.ref msr, .int 0])), (msr, .inl (cB, 65536, .inl (fun _ => 0))), (en, .inr (1, [.ref gb, .ref ne, .ref ol, .ref mk, .ref pl, .ref so, .int 0])), (ga, .inr (2, [.ref gb, .ref st, .ref nl, .ref dl, .ref ty, .ref ki, .ref ti, .ref rw, .ref sz, .int 0, .int 0])), (sz, .inl (cI, 4, .inl (fun _ => 0)))] H := hP
      have hD : va_D _ [(b, .inr (6, [.ref tp, .ref ga, .ref re, .ref wr, .ref na, .int (-1), .int 0])), (wr, .inr (5, [.ref ga, .ref ms, .ref en, .ref lsA, .ref lmA, .int 0])), (ms, .inr (0, [.ref msr, .int 0])), (msr, .inl (cB, 65536, .inl (fun _ => 0))), (en, .inr (1, [.ref gb, .ref ne, .ref ol, .ref mk, .ref pl, .ref so, .int 0])), (ga, .inr (2, [.ref gb, .ref st, .ref nl, .ref dl, .ref ty, .ref ki, .ref ti, .ref rw, .ref sz, .int 0, .int 0])), (sz, .inl (cI, 4, .inl (fun _ => 0)))] := hD
      refine lv_iadd hx hb d_Wm_write_29 ?_
      refine lv_iload_n hx hb d_Wm_write_30 rfl (lv_at hl 1 rfl) ?_
      refine lv_icmp_le (tgt := 42) hx hb d_Wm_write_31 (by decide) (fun c3 => ?_) (fun c3 => ?_)
      · refine lv_aload_n hx hb d_Wm_write_42 rfl (lv_at hl 0 rfl) ?_
        refine va_get (D := D9) (ci := 6) (C := R_Wm) (T := F_Wm) (N := 7) hx hb hts i_Wm hown hK hP 0 rfl rfl 3 (by decide) (hts _ g_225) (fun _ h9 => h9) rfl d_Wm_write_43 ?_
        refine lv_iload_n hx hb d_Wm_write_46 rfl (lv_at hl 1 rfl) ?_
        refine mf_cVN (wr := [_]) (ci := 5) (k := 0) C0 (c_Wr_compose l D9 cB cI cJ cG wr ga ms en lsA lmA msr ne ol mk pl so gb st nl dl ty ki ti rw sz _) g_562 g_5 g_559 g_561 gs_Wr_compose ⟨by decide +kernel, by decide +kernel, show Option.map (fun d => d.parameters.length) (parseMethodDescriptor y_Wr_compose.desc) = some 1 by decide +kernel⟩ ⟨by decide, by decide⟩ rfl rfl hP hD hS hA [1, 5, 6, 2, 3, 4] [0] rfl rfl (by decide) (by decide) (by decide) rfl rfl hl.1 (Nat.le_of_ble_eq_true rfl) rfl d_Wm_write_47 ⟨by decide, by decide⟩ (fun v9 w9 H locs hq hP hD hS => ?_)
        obtain ⟨rfl, y18_0, y18_1, hw9⟩ := hq
        rw [hw9] at hP hD
        have hP : va_P D9 cls9 [(b, .inr (6, [.ref tp, .ref ga, .ref re, .ref wr, .ref na, .int (-1), .int 0])), (wr, .inr (5, [.ref ga, .ref ms, .ref en, .ref lsA, .ref lmA, .int (0)])), (ms, .inr (0, [.ref msr, .int (12)])), (msr, .inl (cB, 65536, .inl y18_0)), (ga, .inr (2, [.ref gb, .ref st, .ref nl, .ref dl, .ref ty, .ref ki, .ref ti, .ref rw, .ref sz, .int 0, .int 0])), (sz, .inl (cI, 4, .inl (fun _ => 0))), (en, .inr (1, [.ref gb, .ref ne, .ref ol, .ref mk, .ref pl, .ref so, .int y18_1]))] H := hP
        have hD : va_D _ [(b, .inr (6, [.ref tp, .ref ga, .ref re, .ref wr, .ref na, .int (-1), .int 0])), (wr, .inr (5, [.ref ga, .ref ms, .ref en, .ref lsA, .ref lmA, .int (0)])), (ms, .inr (0, [.ref msr, .int (12)])), (msr, .inl (cB, 65536, .inl y18_0)), (ga, .inr (2, [.ref gb, .ref st, .ref nl, .ref dl, .ref ty, .ref ki, .ref ti, .ref rw, .ref sz, .int 0, .int 0])), (sz, .inl (cI, 4, .inl (fun _ => 0))), (en, .inr (1, [.ref gb, .ref ne, .ref ol, .ref mk, .ref pl, .ref so, .int y18_1]))] := hD
        refine lv_aload_n hx hb d_Wm_write_50 rfl (lv_at hl 0 rfl) ?_
        refine va_get (D := D9) (ci := 6) (C := R_Wm) (T := F_Wm) (N := 7) hx hb hts i_Wm hown hK hP 0 rfl rfl 3 (by decide) (hts _ g_225) (fun _ h9 => h9) rfl d_Wm_write_51 ?_
        refine va_getN (D := D9) (ci := 5) (C := R_Wr) (T := F_Wr) (N := 6) hx hb hts i_Wr hown hK hP 1 rfl rfl 1 (by decide) (hts _ g_187) (fun _ h9 => h9) rfl d_Wm_write_54 ?_
        refine va_getN (D := D9) (ci := 0) (C := R_By) (T := F_By) (N := 2) hx hb hts i_By hown hK hP 2 rfl rfl 1 (by decide) (hts _ g_36) (fun _ h9 => h9) rfl d_Wm_write_57 ?_
        exact mx_ret hx hb hr hlocks hS (by decide) (by decide) d_Wm_write_60 (by first | rfl | decide +kernel) (⟨rfl, c1, c2⟩)
      · exact absurd (show (12 : Int32) + 0 ≤ u1 by rw [show (12 : Int32) + 0 = 12 by decide]; exact Int32.not_lt.mp c1) c3
    · exact mx_throw (ic := 73) (names := ["java/lang/RuntimeException", "java/lang/Exception"]) hfl C0 hZ hlc hout (by decide +kernel) (by decide +kernel) at_Wm_73 g_466 g_13 hS hl.1 (by decide) (Nat.le_of_ble_eq_true rfl) (by decide) (by decide) (by decide) (by decide) d_Wm_write_12 d_Wm_write_15 d_Wm_write_16 d_Wm_write_19 (⟨rfl, Or.inr (Int32.not_le.mp c2)⟩)
set_option maxHeartbeats 4000000 in
set_option maxRecDepth 100000 in
theorem c_By_putFrom (l : Launch) (D9 : va_G) (cB cI cJ cG : ClassId) (tp tpr ms msr : Nat) : MW l D9 cls9 (ty9 cB cI cJ cG) y_By_putFrom b_By_putFrom 5 none (rm9 1 0 0) [.ref tp, .ref ms, .int 0, .int 0] [(tp, .inr (0, [.ref tpr, .int 0])), (tpr, .inl (cB, 65536, .inl (fun _ => 0))), (ms, .inr (0, [.ref msr, .int 0])), (msr, .inl (cB, 65536, .inl (fun _ => 0)))] (fun v8 w2 => v8 = none ∧ w2 = [(tp, .inr (0, [.ref tpr, .int (0 + 0)])), (tpr, .inl (cB, 65536, .inl (fun _ => 0))), (ms, .inr (0, [.ref msr, .int 0])), (msr, .inl (cB, 65536, .inl (fun _ => 0)))]) 0 0 := by
  refine mw_of (by decide) (Nat.le_of_ble_eq_true rfl) ?_
  intro p e s m below meth c ls C0 hin hP hD hA hS hl
  obtain ⟨hx, hb, hml, hr, hlocks, hown, hts, hK⟩ := id C0
  have hl : lv_has ls 5 [(0, .ref tp), (1, .ref ms), (2, .int 0), (3, .int 0)] := hl
  refine lv_iload_n hx hb d_By_putFrom_0 rfl (lv_at hl 3 rfl) ?_
  refine lv_aload_n hx hb d_By_putFrom_1 rfl (lv_at hl 0 rfl) ?_
  refine va_get (D := D9) (ci := 0) (C := R_By) (T := F_By) (N := 2) hx hb hts i_By hown hK hP 0 rfl rfl 0 (by decide) (hts _ g_35) (fun _ h9 => h9) rfl d_By_putFrom_2 ?_
  refine va_alen (D := D9) hx hb hK hP 1 0 rfl rfl rfl d_By_putFrom_5 ?_
  refine lv_aload_n hx hb d_By_putFrom_6 rfl (lv_at hl 0 rfl) ?_
  refine va_get (D := D9) (ci := 0) (C := R_By) (T := F_By) (N := 2) hx hb hts i_By hown hK hP 0 rfl rfl 1 (by decide) (hts _ g_40) (fun _ h9 => h9) rfl d_By_putFrom_7 ?_
  refine lv_isub hx hb d_By_putFrom_10 ?_
  refine va_mmin hx hb (by rw [hml]; exact hl.1.symm) hown (hts _ g_301) (hts _ g_302) (hts _ g_14) (hts _ g_303) (by decide) (Nat.le_of_ble_eq_true rfl) (by decide) (by decide) d_By_putFrom_11 ?_
  refine lv_aload_n hx hb d_By_putFrom_14 rfl (lv_at hl 1 rfl) ?_
  refine va_get (D := D9) (ci := 0) (C := R_By) (T := F_By) (N := 2) hx hb hts i_By hown hK hP 2 rfl rfl 0 (by decide) (hts _ g_35) (fun _ h9 => h9) rfl d_By_putFrom_15 ?_
  refine va_alen (D := D9) hx hb hK hP 3 0 rfl rfl rfl d_By_putFrom_18 ?_
  refine lv_iload_n hx hb d_By_putFrom_19 rfl (lv_at hl 2 rfl) ?_
  refine lv_isub hx hb d_By_putFrom_20 ?_
  refine va_mmin hx hb (by rw [hml]; exact hl.1.symm) hown (hts _ g_301) (hts _ g_302) (hts _ g_14) (hts _ g_303) (by decide) (Nat.le_of_ble_eq_true rfl) (by decide) (by decide) d_By_putFrom_21 ?_
  refine lv_istore (lv' := [(4, _), (0, _), (1, _), (2, _), (3, _)]) hx hb d_By_putFrom_24 hl (by decide) rfl (fun ls hl => ?_)
  refine lv_iload_n hx hb d_By_putFrom_26 rfl (lv_at hl 3 rfl) ?_
  refine lv_if_lt (tgt := 53) hx hb d_By_putFrom_27 (by decide) (fun c1 => ?_) (fun c1 => ?_)
  · exact absurd c1 (by decide +kernel)
  · refine lv_iload hx hb d_By_putFrom_30 (lv_at hl 0 rfl) ?_
    refine lv_if_le (tgt := 53) hx hb d_By_putFrom_32 (by decide) (fun c2 => ?_) (fun c2 => ?_)
    · refine lv_aload_n hx hb d_By_putFrom_53 rfl (lv_at hl 1 rfl) ?_
      refine lv_dup hx hb d_By_putFrom_54 rfl ?_
      refine va_get (D := D9) (ci := 0) (C := R_By) (T := F_By) (N := 2) hx hb hts i_By hown hK hP 0 rfl rfl 1 (by decide) (hts _ g_40) (fun _ h9 => h9) rfl d_By_putFrom_55 ?_
      refine lv_iload_n hx hb d_By_putFrom_58 rfl (lv_at hl 4 rfl) ?_
      refine lv_iadd hx hb d_By_putFrom_59 ?_
      refine va_put (D := D9) (ty := .int) (ci := 0) (C := R_By) (T := F_By) (N := 2) hx hb hts i_By t_By t_By_ok n_By hown hK hP hD hS 0 rfl rfl 1 (by decide) (hts _ g_40) (fun _ h9 => h9) rfl (by decide +kernel) rfl rfl (Nat.le_of_ble_eq_true rfl) d_By_putFrom_60 (fun H locs hP hD hS => ?_)
      have hP : va_P D9 cls9 [(tp, .inr (0, [.ref tpr, .int (0 + 0)])), (tpr, .inl (cB, 65536, .inl (fun _ => 0))), (ms, .inr (0, [.ref msr, .int 0])), (msr, .inl (cB, 65536, .inl (fun _ => 0)))] H := hP
      have hD : va_D _ [(tp, .inr (0, [.ref tpr, .int (0 + 0)])), (tpr, .inl (cB, 65536, .inl (fun _ => 0))), (ms, .inr (0, [.ref msr, .int 0])), (msr, .inl (cB, 65536, .inl (fun _ => 0)))] := hD
      exact mw_vret hx hb hr hlocks hS hP hD (by decide) (by decide) d_By_putFrom_63 (⟨rfl, rfl⟩)
    · exact absurd c2 (by decide +kernel)
set_option maxHeartbeats 4000000 in
set_option maxRecDepth 100000 in
theorem c_Wm_back (l : Launch) (D9 : va_G) (cB cI cJ cG : ClassId) (hfl : l.flags = pinnedFlags ++ [noTraceFlag]) (b tp ga re wr na ms en lsA lmA msr tpr : Nat) (u1 u2 : Int32) : MX l D9 cls9 (ty9 cB cI cJ cG) y_Wm_back b_Wm_back 4 (some .int) (rm9 6 1 6) [.ref b, .int u1, .int u2] [(b, .inr (6, [.ref tp, .ref ga, .ref re, .ref wr, .ref na, .int (-1), .int 0])), (wr, .inr (5, [.ref ga, .ref ms, .ref en, .ref lsA, .ref lmA, .int 0])), (ms, .inr (0, [.ref msr, .int 0])), (msr, .inl (cB, 65536, .inl (fun _ => 0))), (tp, .inr (0, [.ref tpr, .int 0])), (tpr, .inl (cB, 65536, .inl (fun _ => 0)))] (fun v8 => v8 = 0 ∧ ¬ u1 < -1 ∧ u1 < 0) (fun E => E = "java/lang/IndexOutOfBoundsException" ∧ (u1 < -1 ∨ 0 ≤ u1)) 1 6 := by
  refine mx_of (by decide) (Nat.le_of_ble_eq_true rfl) ?_
  intro p e s m below meth c ls C0 hout hZ hlc hP hD hA hS hl
  obtain ⟨hx, hb, hml, hr, hlocks, hown, hts, hK⟩ := id C0
  have hl : lv_has ls 4 [(0, .ref b), (1, .int u1), (2, .int u2)] := hl
  refine lv_aload_n hx hb d_Wm_back_0 rfl (lv_at hl 0 rfl) ?_
  refine va_get (D := D9) (ci := 6) (C := R_Wm) (T := F_Wm) (N := 7) hx hb hts i_Wm hown hK hP 0 rfl rfl 3 (by decide) (hts _ g_225) (fun _ h9 => h9) rfl d_Wm_back_1 ?_
  refine va_getN (D := D9) (ci := 5) (C := R_Wr) (T := F_Wr) (N := 6) hx hb hts i_Wr hown hK hP 1 rfl rfl 1 (by decide) (hts _ g_187) (fun _ h9 => h9) rfl d_Wm_back_4 ?_
  refine lv_astore_n (lv' := [(3, _), (0, _), (1, _), (2, _)]) hx hb d_Wm_back_7 rfl hl (by decide) rfl (fun ls hl => ?_)
  refine lv_iload_n hx hb d_Wm_back_8 rfl (lv_at hl 2 rfl) ?_
  refine lv_iconst (v := -1) hx hb d_Wm_back_9 (by decide) ?_
  refine lv_icmp_lt (tgt := 21) hx hb d_Wm_back_10 (by decide) (fun c1 => ?_) (fun c1 => ?_)
  · exact mx_throw (ic := 125) (names := ["java/lang/RuntimeException", "java/lang/Exception"]) hfl C0 hZ hlc hout (by decide +kernel) (by decide +kernel) at_Wm_125 g_628 g_19 hS hl.1 (by decide) (Nat.le_of_ble_eq_true rfl) (by decide) (by decide) (by decide) (by decide) d_Wm_back_21 d_Wm_back_24 d_Wm_back_25 d_Wm_back_28 (⟨rfl, Or.inl c1⟩)
  · refine lv_iload_n hx hb d_Wm_back_13 rfl (lv_at hl 2 rfl) ?_
    refine lv_aload_n hx hb d_Wm_back_14 rfl (lv_at hl 0 rfl) ?_
    refine va_getN (D := D9) (ci := 0) (C := R_By) (T := F_By) (N := 2) hx hb hts i_By hown hK hP 2 rfl rfl 1 (by decide) (hts _ g_36) (fun _ h9 => h9) rfl d_Wm_back_15 ?_
    refine lv_icmp_lt (tgt := 29) hx hb d_Wm_back_18 (by decide) (fun c2 => ?_) (fun c2 => ?_)
    · refine lv_aload_n hx hb d_Wm_back_29 rfl (lv_at hl 1 rfl) ?_
      refine va_get (D := D9) (ci := 6) (C := R_Wm) (T := F_Wm) (N := 7) hx hb hts i_Wm hown hK hP 0 rfl rfl 0 (by decide) (hts _ g_222) (fun _ h9 => h9) rfl d_Wm_back_30 ?_
      refine lv_iconst (v := 0) hx hb d_Wm_back_33 (by decide) ?_
      refine va_putN (D := D9) (ty := .int) (ci := 0) (C := R_By) (T := F_By) (N := 2) hx hb hts i_By t_By t_By_ok n_By hown hK hP hD hS 4 rfl rfl 1 (by decide) (hts _ g_36) (fun _ h9 => h9) rfl (by decide +kernel) rfl rfl (Nat.le_of_ble_eq_true rfl) d_Wm_back_34 (fun H locs hP hD hS => ?_)
      have hP : va_P D9 cls9 [(b, .inr (6, [.ref tp, .ref ga, .ref re, .ref wr, .ref na, .int (-1), .int 0])), (wr, .inr (5, [.ref ga, .ref ms, .ref en, .ref lsA, .ref lmA, .int 0])), (ms, .inr (0, [.ref msr, .int 0])), (msr, .inl (cB, 65536, .inl (fun _ => 0))), (tp, .inr (0, [.ref tpr, .int (0)])), (tpr, .inl (cB, 65536, .inl (fun _ => 0)))] H := hP
      have hD : va_D _ [(b, .inr (6, [.ref tp, .ref ga, .ref re, .ref wr, .ref na, .int (-1), .int 0])), (wr, .inr (5, [.ref ga, .ref ms, .ref en, .ref lsA, .ref lmA, .int 0])), (ms, .inr (0, [.ref msr, .int 0])), (msr, .inl (cB, 65536, .inl (fun _ => 0))), (tp, .inr (0, [.ref tpr, .int (0)])), (tpr, .inl (cB, 65536, .inl (fun _ => 0)))] := hD
      refine lv_aload_n hx hb d_Wm_back_37 rfl (lv_at hl 1 rfl) ?_
      refine va_get (D := D9) (ci := 6) (C := R_Wm) (T := F_Wm) (N := 7) hx hb hts i_Wm hown hK hP 0 rfl rfl 0 (by decide) (hts _ g_222) (fun _ h9 => h9) rfl d_Wm_back_38 ?_
      refine lv_aload_n hx hb d_Wm_back_41 rfl (lv_at hl 0 rfl) ?_
      refine lv_iconst (v := 0) hx hb d_Wm_back_42 (by decide) ?_
      refine lv_aload_n hx hb d_Wm_back_43 rfl (lv_at hl 0 rfl) ?_
      refine va_getN (D := D9) (ci := 0) (C := R_By) (T := F_By) (N := 2) hx hb hts i_By hown hK hP 2 rfl rfl 1 (by decide) (hts _ g_36) (fun _ h9 => h9) rfl d_Wm_back_44 ?_
      refine mf_cVN (wr := [_, _]) (ci := 0) (k := 0) C0 (c_By_putFrom l D9 cB cI cJ cG tp tpr ms msr) g_300 g_2 g_643 g_299 gs_By_putFrom ⟨by decide +kernel, by decide +kernel, show Option.map (fun d => d.parameters.length) (parseMethodDescriptor y_By_putFrom.desc) = some 3 by decide +kernel⟩ ⟨by decide, by decide⟩ rfl rfl hP hD hS hA [4, 5, 2, 3] [0, 1] rfl rfl (by decide) (by decide) (by decide) rfl rfl hl.1 (Nat.le_of_ble_eq_true rfl) rfl d_Wm_back_47 ⟨by decide, by decide⟩ (fun v9 w9 H locs hq hP hD hS => ?_)
      obtain ⟨rfl, hw9⟩ := hq
      rw [hw9] at hP hD
      have hP : va_P D9 cls9 [(b, .inr (6, [.ref tp, .ref ga, .ref re, .ref wr, .ref na, .int (-1), .int 0])), (wr, .inr (5, [.ref ga, .ref ms, .ref en, .ref lsA, .ref lmA, .int 0])), (tp, .inr (0, [.ref tpr, .int _])), (tpr, .inl (cB, 65536, .inl (fun _ => 0))), (ms, .inr (0, [.ref msr, .int 0])), (msr, .inl (cB, 65536, .inl (fun _ => 0)))] H := hP
      have hD : va_D _ [(b, .inr (6, [.ref tp, .ref ga, .ref re, .ref wr, .ref na, .int (-1), .int 0])), (wr, .inr (5, [.ref ga, .ref ms, .ref en, .ref lsA, .ref lmA, .int 0])), (tp, .inr (0, [.ref tpr, .int _])), (tpr, .inl (cB, 65536, .inl (fun _ => 0))), (ms, .inr (0, [.ref msr, .int 0])), (msr, .inl (cB, 65536, .inl (fun _ => 0)))] := hD
      refine lv_iload_n hx hb d_Wm_back_50 rfl (lv_at hl 2 rfl) ?_
      refine lv_if_lt (tgt := 69) hx hb d_Wm_back_51 (by decide) (fun c3 => ?_) (fun c3 => ?_)
      · refine lv_aload_n hx hb d_Wm_back_69 rfl (lv_at hl 1 rfl) ?_
        refine va_get (D := D9) (ci := 6) (C := R_Wm) (T := F_Wm) (N := 7) hx hb hts i_Wm hown hK hP 0 rfl rfl 0 (by decide) (hts _ g_222) (fun _ h9 => h9) rfl d_Wm_back_70 ?_
        refine va_getN (D := D9) (ci := 0) (C := R_By) (T := F_By) (N := 2) hx hb hts i_By hown hK hP 2 rfl rfl 1 (by decide) (hts _ g_36) (fun _ h9 => h9) rfl d_Wm_back_73 ?_
        exact mx_ret hx hb hr hlocks hS (by decide) (by decide) d_Wm_back_76 (by first | rfl | decide +kernel) (⟨by decide +kernel, c1, c2⟩)
      · exact absurd c2 c3
    · exact mx_throw (ic := 125) (names := ["java/lang/RuntimeException", "java/lang/Exception"]) hfl C0 hZ hlc hout (by decide +kernel) (by decide +kernel) at_Wm_125 g_628 g_19 hS hl.1 (by decide) (Nat.le_of_ble_eq_true rfl) (by decide) (by decide) (by decide) (by decide) d_Wm_back_21 d_Wm_back_24 d_Wm_back_25 d_Wm_back_28 (⟨rfl, Or.inr (Int32.not_lt.mp c2)⟩)
