theorem g_36 : (Cond.fieldLinkNest "WireMessages" (60 : Nat) "WireMessages$Bytes" "length" "I" "WireMessages") ∈ GT := gt_mem 36 (by decide +kernel) rfl
theorem g_37 : (Cond.fieldLinkNest "WireMessages$Gathered" (52 : Nat) "WireMessages$Bytes" "length" "I" "WireMessages") ∈ GT := gt_mem 37 (by decide +kernel) rfl
theorem g_39 : (Cond.fieldLinkNest "WireMessages$Reader" (44 : Nat) "WireMessages$Bytes" "length" "I" "WireMessages") ∈ GT := gt_mem 39 (by decide +kernel) rfl
theorem g_84 : (Cond.fieldLink "WireMessages$Gathered" (45 : Nat) "WireMessages$Gathered" "id" "I") ∈ GT := gt_mem 84 (by decide +kernel) rfl
theorem g_87 : (Cond.fieldLink "WireMessages$Gathered" (49 : Nat) "WireMessages$Gathered" "flags" "I") ∈ GT := gt_mem 87 (by decide +kernel) rfl
theorem g_122 : (Cond.fieldLink "WireMessages$Reader" (19 : Nat) "WireMessages$Reader" "fault" "I") ∈ GT := gt_mem 122 (by decide +kernel) rfl
theorem g_123 : (Cond.fieldLink "WireMessages$Reader" (23 : Nat) "WireMessages$Reader" "faultPlace" "I") ∈ GT := gt_mem 123 (by decide +kernel) rfl
theorem g_124 : (Cond.fieldLinkNest "WireMessages" (78 : Nat) "WireMessages$Reader" "faultPlace" "I" "WireMessages") ∈ GT := gt_mem 124 (by decide +kernel) rfl
theorem g_125 : (Cond.fieldLink "WireMessages$Reader" (41 : Nat) "WireMessages$Reader" "next" "I") ∈ GT := gt_mem 125 (by decide +kernel) rfl
theorem g_126 : (Cond.fieldLink "WireMessages$Reader" (26 : Nat) "WireMessages$Reader" "followed" "I") ∈ GT := gt_mem 126 (by decide +kernel) rfl
theorem g_248 : (Cond.methodLinkNest "WireMessages" (74 : Nat) ({ cls := "WireMessages$Reader", name := "takeMessage", desc := "()I" } : MethodName) "WireMessages") ∈ GT := gt_mem 248 (by decide +kernel) rfl
theorem g_250 : (Cond.instanceMethod ({ cls := "WireMessages$Reader", name := "takeMessage", desc := "()I" } : MethodName)) ∈ GT := gt_mem 250 (by decide +kernel) rfl
theorem g_251 : (Cond.code ({ cls := "WireMessages$Reader", name := "takeMessage", desc := "()I" } : MethodName) prog_7_method_3_code (5 : Nat) (Option.some FieldType.int)) ∈ GT := gt_mem 251 (by decide +kernel) rfl
theorem g_252 : (Cond.methodLinkNest "WireMessages$Reader" (29 : Nat) ({ cls := "WireMessages$Bytes", name := "twoAt", desc := "(I)I" } : MethodName) "WireMessages") ∈ GT := gt_mem 252 (by decide +kernel) rfl
theorem g_254 : (Cond.instanceMethod ({ cls := "WireMessages$Bytes", name := "twoAt", desc := "(I)I" } : MethodName)) ∈ GT := gt_mem 254 (by decide +kernel) rfl
theorem g_255 : (Cond.code ({ cls := "WireMessages$Bytes", name := "twoAt", desc := "(I)I" } : MethodName) prog_2_method_3_code (2 : Nat) (Option.some FieldType.int)) ∈ GT := gt_mem 255 (by decide +kernel) rfl
theorem g_260 : (Cond.methodLinkNest "WireMessages$Reader" (35 : Nat) ({ cls := "WireMessages$Gathered", name := "startAnew", desc := "(II)V" } : MethodName) "WireMessages") ∈ GT := gt_mem 260 (by decide +kernel) rfl
theorem g_262 : (Cond.instanceMethod ({ cls := "WireMessages$Gathered", name := "startAnew", desc := "(II)V" } : MethodName)) ∈ GT := gt_mem 262 (by decide +kernel) rfl
theorem g_263 : (Cond.code ({ cls := "WireMessages$Gathered", name := "startAnew", desc := "(II)V" } : MethodName) prog_4_method_2_code (4 : Nat) (Option.none : Option FieldType)) ∈ GT := gt_mem 263 (by decide +kernel) rfl
theorem g_264 : (Cond.methodLink "WireMessages$Reader" (47 : Nat) ({ cls := "WireMessages$Reader", name := "fail", desc := "(II)Z" } : MethodName)) ∈ GT := gt_mem 264 (by decide +kernel) rfl
theorem g_266 : (Cond.instanceMethod ({ cls := "WireMessages$Reader", name := "fail", desc := "(II)Z" } : MethodName)) ∈ GT := gt_mem 266 (by decide +kernel) rfl
theorem g_267 : (Cond.code ({ cls := "WireMessages$Reader", name := "fail", desc := "(II)Z" } : MethodName) prog_7_method_2_code (3 : Nat) (Option.some FieldType.boolean)) ∈ GT := gt_mem 267 (by decide +kernel) rfl
theorem g_369 : (Cond.constant "WireMessages" (84 : Nat) (65535 : Int32)) ∈ GT := gt_mem 369 (by decide +kernel) rfl
theorem g_370 : (Cond.methodLinkNest "WireMessages" (85 : Nat) ({ cls := "WireMessages$Gathered", name := "startAnew", desc := "(II)V" } : MethodName) "WireMessages") ∈ GT := gt_mem 370 (by decide +kernel) rfl
theorem g_383 : (Cond.constant "WireMessages" (63 : Nat) (65536 : Int32)) ∈ GT := gt_mem 383 (by decide +kernel) rfl
theorem g_449 : (Cond.methodLinkNest "WireMessages" (67 : Nat) ({ cls := "WireMessages$Bytes", name := "putFour", desc := "(I)V" } : MethodName) "WireMessages") ∈ GT := gt_mem 449 (by decide +kernel) rfl
theorem g_451 : (Cond.instanceMethod ({ cls := "WireMessages$Bytes", name := "putFour", desc := "(I)V" } : MethodName)) ∈ GT := gt_mem 451 (by decide +kernel) rfl
theorem g_452 : (Cond.code ({ cls := "WireMessages$Bytes", name := "putFour", desc := "(I)V" } : MethodName) prog_2_method_9_code (2 : Nat) (Option.none : Option FieldType)) ∈ GT := gt_mem 452 (by decide +kernel) rfl
theorem gs_By_twoAt : Cond.selects R_By y_By_twoAt y_By_twoAt ∈ GT := gt_sel (q := (⟨"WireMessages$Bytes", "twoAt", "(I)I"⟩, 2)) (by decide +kernel)
theorem gs_Ga_startAnew : Cond.selects R_Ga y_Ga_startAnew y_Ga_startAnew ∈ GT := gt_sel (q := (⟨"WireMessages$Gathered", "startAnew", "(II)V"⟩, 11)) (by decide +kernel)
theorem gs_Re_fail : Cond.selects R_Re y_Re_fail y_Re_fail ∈ GT := gt_sel (q := (⟨"WireMessages$Reader", "fail", "(II)Z"⟩, 8)) (by decide +kernel)
theorem gs_By_putFour : Cond.selects R_By y_By_putFour y_By_putFour ∈ GT := gt_sel (q := (⟨"WireMessages$Bytes", "putFour", "(I)V"⟩, 2)) (by decide +kernel)
theorem gs_Re_takeMessage : Cond.selects R_Re y_Re_takeMessage y_Re_takeMessage ∈ GT := gt_sel (q := (⟨"WireMessages$Reader", "takeMessage", "()I"⟩, 8)) (by decide +kernel)
theorem d_Ga_startAnew_0 : decode b_Ga_startAnew 0 = .ok (.aload_n 0, 1) := by decide +kernel
theorem d_Ga_startAnew_1 : decode b_Ga_startAnew 1 = .ok (.iload_n 1, 1) := by decide +kernel
theorem d_Ga_startAnew_2 : decode b_Ga_startAnew 2 = .ok (.putfield 45, 3) := by decide +kernel
theorem d_Ga_startAnew_5 : decode b_Ga_startAnew 5 = .ok (.aload_n 0, 1) := by decide +kernel
theorem d_Ga_startAnew_6 : decode b_Ga_startAnew 6 = .ok (.iload_n 2, 1) := by decide +kernel
theorem d_Ga_startAnew_7 : decode b_Ga_startAnew 7 = .ok (.putfield 49, 3) := by decide +kernel
theorem d_Ga_startAnew_10 : decode b_Ga_startAnew 10 = .ok (.aload_n 0, 1) := by decide +kernel
theorem d_Ga_startAnew_11 : decode b_Ga_startAnew 11 = .ok (.getfield 12, 3) := by decide +kernel
theorem d_Ga_startAnew_14 : decode b_Ga_startAnew 14 = .ok (.iconst 0, 1) := by decide +kernel
theorem d_Ga_startAnew_15 : decode b_Ga_startAnew 15 = .ok (.putfield 52, 3) := by decide +kernel
theorem d_Ga_startAnew_18 : decode b_Ga_startAnew 18 = .ok (.iconst 0, 1) := by decide +kernel
theorem d_Ga_startAnew_19 : decode b_Ga_startAnew 19 = .ok (.istore_n 3, 1) := by decide +kernel
theorem d_Ga_startAnew_20 : decode b_Ga_startAnew 20 = .ok (.iload_n 3, 1) := by decide +kernel
theorem d_Ga_startAnew_21 : decode b_Ga_startAnew 21 = .ok (.iconst 4, 1) := by decide +kernel
theorem d_Ga_startAnew_22 : decode b_Ga_startAnew 22 = .ok (.if_icmp .ge 16, 3) := by decide +kernel
theorem d_Ga_startAnew_25 : decode b_Ga_startAnew 25 = .ok (.aload_n 0, 1) := by decide +kernel
theorem d_Ga_startAnew_26 : decode b_Ga_startAnew 26 = .ok (.getfield 42, 3) := by decide +kernel
theorem d_Ga_startAnew_29 : decode b_Ga_startAnew 29 = .ok (.iload_n 3, 1) := by decide +kernel
theorem d_Ga_startAnew_30 : decode b_Ga_startAnew 30 = .ok (.iconst 0, 1) := by decide +kernel
theorem d_Ga_startAnew_31 : decode b_Ga_startAnew 31 = .ok (.iastore, 1) := by decide +kernel
theorem d_Ga_startAnew_32 : decode b_Ga_startAnew 32 = .ok (.iinc 3 1, 3) := by decide +kernel
theorem d_Ga_startAnew_35 : decode b_Ga_startAnew 35 = .ok (.goto (-15), 3) := by decide +kernel
theorem d_Ga_startAnew_38 : decode b_Ga_startAnew 38 = .ok (.return_, 1) := by decide +kernel
theorem d_Re_fail_0 : decode b_Re_fail 0 = .ok (.aload_n 0, 1) := by decide +kernel
theorem d_Re_fail_1 : decode b_Re_fail 1 = .ok (.iload_n 1, 1) := by decide +kernel
theorem d_Re_fail_2 : decode b_Re_fail 2 = .ok (.putfield 19, 3) := by decide +kernel
theorem d_Re_fail_5 : decode b_Re_fail 5 = .ok (.aload_n 0, 1) := by decide +kernel
theorem d_Re_fail_6 : decode b_Re_fail 6 = .ok (.iload_n 2, 1) := by decide +kernel
theorem d_Re_fail_7 : decode b_Re_fail 7 = .ok (.putfield 23, 3) := by decide +kernel
theorem d_Re_fail_10 : decode b_Re_fail 10 = .ok (.iconst 0, 1) := by decide +kernel
theorem d_Re_fail_11 : decode b_Re_fail 11 = .ok (.ireturn, 1) := by decide +kernel
theorem d_Re_takeMessage_0 : decode b_Re_takeMessage 0 = .ok (.aload_n 0, 1) := by decide +kernel
theorem d_Re_takeMessage_1 : decode b_Re_takeMessage 1 = .ok (.iconst 0, 1) := by decide +kernel
theorem d_Re_takeMessage_2 : decode b_Re_takeMessage 2 = .ok (.putfield 19, 3) := by decide +kernel
theorem d_Re_takeMessage_5 : decode b_Re_takeMessage 5 = .ok (.aload_n 0, 1) := by decide +kernel
theorem d_Re_takeMessage_6 : decode b_Re_takeMessage 6 = .ok (.iconst (-1), 1) := by decide +kernel
theorem d_Re_takeMessage_7 : decode b_Re_takeMessage 7 = .ok (.putfield 23, 3) := by decide +kernel
theorem d_Re_takeMessage_10 : decode b_Re_takeMessage 10 = .ok (.aload_n 0, 1) := by decide +kernel
theorem d_Re_takeMessage_11 : decode b_Re_takeMessage 11 = .ok (.iconst 0, 1) := by decide +kernel
theorem d_Re_takeMessage_12 : decode b_Re_takeMessage 12 = .ok (.putfield 26, 3) := by decide +kernel
theorem d_Re_takeMessage_15 : decode b_Re_takeMessage 15 = .ok (.aload_n 0, 1) := by decide +kernel
theorem d_Re_takeMessage_16 : decode b_Re_takeMessage 16 = .ok (.getfield 15, 3) := by decide +kernel
theorem d_Re_takeMessage_19 : decode b_Re_takeMessage 19 = .ok (.aload_n 0, 1) := by decide +kernel
theorem d_Re_takeMessage_20 : decode b_Re_takeMessage 20 = .ok (.getfield 9, 3) := by decide +kernel
theorem d_Re_takeMessage_23 : decode b_Re_takeMessage 23 = .ok (.iconst 0, 1) := by decide +kernel
theorem d_Re_takeMessage_24 : decode b_Re_takeMessage 24 = .ok (.invokevirtual 29, 3) := by decide +kernel
theorem d_Re_takeMessage_27 : decode b_Re_takeMessage 27 = .ok (.aload_n 0, 1) := by decide +kernel
theorem d_Re_takeMessage_28 : decode b_Re_takeMessage 28 = .ok (.getfield 9, 3) := by decide +kernel
theorem d_Re_takeMessage_31 : decode b_Re_takeMessage 31 = .ok (.iconst 2, 1) := by decide +kernel
theorem d_Re_takeMessage_32 : decode b_Re_takeMessage 32 = .ok (.invokevirtual 29, 3) := by decide +kernel
theorem d_Re_takeMessage_35 : decode b_Re_takeMessage 35 = .ok (.invokevirtual 35, 3) := by decide +kernel
theorem d_Re_takeMessage_38 : decode b_Re_takeMessage 38 = .ok (.aload_n 0, 1) := by decide +kernel
theorem d_Re_takeMessage_39 : decode b_Re_takeMessage 39 = .ok (.bipush 12, 2) := by decide +kernel
theorem d_Re_takeMessage_41 : decode b_Re_takeMessage 41 = .ok (.putfield 41, 3) := by decide +kernel
theorem d_Re_takeMessage_44 : decode b_Re_takeMessage 44 = .ok (.aload_n 0, 1) := by decide +kernel
theorem d_Re_takeMessage_45 : decode b_Re_takeMessage 45 = .ok (.getfield 9, 3) := by decide +kernel
theorem d_Re_takeMessage_48 : decode b_Re_takeMessage 48 = .ok (.getfield 44, 3) := by decide +kernel
theorem d_Re_takeMessage_51 : decode b_Re_takeMessage 51 = .ok (.bipush 12, 2) := by decide +kernel
theorem d_Re_takeMessage_53 : decode b_Re_takeMessage 53 = .ok (.if_icmp .ge 12, 3) := by decide +kernel
theorem d_Re_takeMessage_56 : decode b_Re_takeMessage 56 = .ok (.aload_n 0, 1) := by decide +kernel
theorem d_Re_takeMessage_57 : decode b_Re_takeMessage 57 = .ok (.iconst 1, 1) := by decide +kernel
theorem d_Re_takeMessage_58 : decode b_Re_takeMessage 58 = .ok (.iconst 0, 1) := by decide +kernel
theorem d_Re_takeMessage_59 : decode b_Re_takeMessage 59 = .ok (.invokevirtual 47, 3) := by decide +kernel
theorem d_Re_takeMessage_62 : decode b_Re_takeMessage 62 = .ok (.ifCond .eq 7, 3) := by decide +kernel
theorem d_Re_takeMessage_65 : decode b_Re_takeMessage 65 = .ok (.iconst 1, 1) := by decide +kernel
theorem d_Re_takeMessage_66 : decode b_Re_takeMessage 66 = .ok (.goto 4, 3) := by decide +kernel
theorem d_Re_takeMessage_69 : decode b_Re_takeMessage 69 = .ok (.iconst 0, 1) := by decide +kernel
theorem d_Re_takeMessage_70 : decode b_Re_takeMessage 70 = .ok (.istore_n 1, 1) := by decide +kernel
theorem d_Re_takeMessage_71 : decode b_Re_takeMessage 71 = .ok (.iconst 0, 1) := by decide +kernel
theorem d_Re_takeMessage_72 : decode b_Re_takeMessage 72 = .ok (.istore_n 2, 1) := by decide +kernel
theorem d_Re_takeMessage_73 : decode b_Re_takeMessage 73 = .ok (.iload_n 2, 1) := by decide +kernel
theorem d_Re_takeMessage_74 : decode b_Re_takeMessage 74 = .ok (.iconst 4, 1) := by decide +kernel
theorem d_Re_takeMessage_75 : decode b_Re_takeMessage 75 = .ok (.if_icmp .ge 58, 3) := by decide +kernel
theorem d_Re_takeMessage_78 : decode b_Re_takeMessage 78 = .ok (.aload_n 0, 1) := by decide +kernel
theorem d_Re_takeMessage_79 : decode b_Re_takeMessage 79 = .ok (.getfield 9, 3) := by decide +kernel
theorem d_Re_takeMessage_82 : decode b_Re_takeMessage 82 = .ok (.iconst 4, 1) := by decide +kernel
theorem d_Re_takeMessage_83 : decode b_Re_takeMessage 83 = .ok (.iconst 2, 1) := by decide +kernel
theorem d_Re_takeMessage_84 : decode b_Re_takeMessage 84 = .ok (.iload_n 2, 1) := by decide +kernel
theorem d_Re_takeMessage_85 : decode b_Re_takeMessage 85 = .ok (.imul, 1) := by decide +kernel
theorem d_Re_takeMessage_86 : decode b_Re_takeMessage 86 = .ok (.iadd, 1) := by decide +kernel
theorem d_Re_takeMessage_87 : decode b_Re_takeMessage 87 = .ok (.invokevirtual 29, 3) := by decide +kernel
theorem d_Re_takeMessage_90 : decode b_Re_takeMessage 90 = .ok (.istore_n 3, 1) := by decide +kernel
theorem d_Re_takeMessage_91 : decode b_Re_takeMessage 91 = .ok (.iconst 0, 1) := by decide +kernel
theorem d_Re_takeMessage_92 : decode b_Re_takeMessage 92 = .ok (.istore 4, 2) := by decide +kernel
theorem d_Re_takeMessage_94 : decode b_Re_takeMessage 94 = .ok (.iload 4, 2) := by decide +kernel
theorem d_Re_takeMessage_96 : decode b_Re_takeMessage 96 = .ok (.iload_n 3, 1) := by decide +kernel
theorem d_Re_takeMessage_97 : decode b_Re_takeMessage 97 = .ok (.if_icmp .ge 30, 3) := by decide +kernel
theorem d_Re_takeMessage_100 : decode b_Re_takeMessage 100 = .ok (.iload_n 1, 1) := by decide +kernel
theorem d_Re_takeMessage_101 : decode b_Re_takeMessage 101 = .ok (.ifCond .eq 26, 3) := by decide +kernel
theorem d_Re_takeMessage_104 : decode b_Re_takeMessage 104 = .ok (.iload_n 2, 1) := by decide +kernel
theorem d_Re_takeMessage_105 : decode b_Re_takeMessage 105 = .ok (.ifCond .ne 10, 3) := by decide +kernel
theorem d_Re_takeMessage_108 : decode b_Re_takeMessage 108 = .ok (.aload_n 0, 1) := by decide +kernel
theorem d_Re_takeMessage_109 : decode b_Re_takeMessage 109 = .ok (.invokevirtual 51, 3) := by decide +kernel
theorem d_Re_takeMessage_112 : decode b_Re_takeMessage 112 = .ok (.goto 8, 3) := by decide +kernel
theorem d_Re_takeMessage_115 : decode b_Re_takeMessage 115 = .ok (.aload_n 0, 1) := by decide +kernel
theorem d_Re_takeMessage_116 : decode b_Re_takeMessage 116 = .ok (.iload_n 2, 1) := by decide +kernel
theorem d_Re_takeMessage_117 : decode b_Re_takeMessage 117 = .ok (.invokevirtual 55, 3) := by decide +kernel
theorem d_Re_takeMessage_120 : decode b_Re_takeMessage 120 = .ok (.istore_n 1, 1) := by decide +kernel
theorem d_Re_takeMessage_121 : decode b_Re_takeMessage 121 = .ok (.iinc 4 1, 3) := by decide +kernel
theorem d_Re_takeMessage_124 : decode b_Re_takeMessage 124 = .ok (.goto (-30), 3) := by decide +kernel
theorem d_Re_takeMessage_127 : decode b_Re_takeMessage 127 = .ok (.iinc 2 1, 3) := by decide +kernel
theorem d_Re_takeMessage_130 : decode b_Re_takeMessage 130 = .ok (.goto (-57), 3) := by decide +kernel
theorem d_Re_takeMessage_133 : decode b_Re_takeMessage 133 = .ok (.iload_n 1, 1) := by decide +kernel
theorem d_Re_takeMessage_134 : decode b_Re_takeMessage 134 = .ok (.ifCond .eq 28, 3) := by decide +kernel
theorem d_Re_takeMessage_137 : decode b_Re_takeMessage 137 = .ok (.aload_n 0, 1) := by decide +kernel
theorem d_Re_takeMessage_138 : decode b_Re_takeMessage 138 = .ok (.getfield 41, 3) := by decide +kernel
theorem d_Re_takeMessage_141 : decode b_Re_takeMessage 141 = .ok (.aload_n 0, 1) := by decide +kernel
theorem d_Re_takeMessage_142 : decode b_Re_takeMessage 142 = .ok (.getfield 9, 3) := by decide +kernel
theorem d_Re_takeMessage_145 : decode b_Re_takeMessage 145 = .ok (.getfield 44, 3) := by decide +kernel
theorem d_Re_takeMessage_148 : decode b_Re_takeMessage 148 = .ok (.if_icmp .eq 14, 3) := by decide +kernel
theorem d_Re_takeMessage_151 : decode b_Re_takeMessage 151 = .ok (.aload_n 0, 1) := by decide +kernel
theorem d_Re_takeMessage_152 : decode b_Re_takeMessage 152 = .ok (.bipush 6, 2) := by decide +kernel
theorem d_Re_takeMessage_154 : decode b_Re_takeMessage 154 = .ok (.aload_n 0, 1) := by decide +kernel
theorem d_Re_takeMessage_155 : decode b_Re_takeMessage 155 = .ok (.getfield 41, 3) := by decide +kernel
theorem d_Re_takeMessage_158 : decode b_Re_takeMessage 158 = .ok (.invokevirtual 47, 3) := by decide +kernel
theorem d_Re_takeMessage_161 : decode b_Re_takeMessage 161 = .ok (.pop, 1) := by decide +kernel
theorem d_Re_takeMessage_162 : decode b_Re_takeMessage 162 = .ok (.aload_n 0, 1) := by decide +kernel
theorem d_Re_takeMessage_163 : decode b_Re_takeMessage 163 = .ok (.getfield 19, 3) := by decide +kernel
theorem d_Re_takeMessage_166 : decode b_Re_takeMessage 166 = .ok (.ifCond .eq 12, 3) := by decide +kernel
theorem d_Re_takeMessage_169 : decode b_Re_takeMessage 169 = .ok (.aload_n 0, 1) := by decide +kernel
theorem d_Re_takeMessage_170 : decode b_Re_takeMessage 170 = .ok (.getfield 15, 3) := by decide +kernel
theorem d_Re_takeMessage_173 : decode b_Re_takeMessage 173 = .ok (.iconst 0, 1) := by decide +kernel
theorem d_Re_takeMessage_174 : decode b_Re_takeMessage 174 = .ok (.iconst 0, 1) := by decide +kernel
theorem d_Re_takeMessage_175 : decode b_Re_takeMessage 175 = .ok (.invokevirtual 35, 3) := by decide +kernel
theorem d_Re_takeMessage_178 : decode b_Re_takeMessage 178 = .ok (.aload_n 0, 1) := by decide +kernel
theorem d_Re_takeMessage_179 : decode b_Re_takeMessage 179 = .ok (.getfield 19, 3) := by decide +kernel
theorem d_Re_takeMessage_182 : decode b_Re_takeMessage 182 = .ok (.ireturn, 1) := by decide +kernel
theorem d_Wm_feed_0 : decode b_Wm_feed 0 = .ok (.aload_n 0, 1) := by decide +kernel
theorem d_Wm_feed_1 : decode b_Wm_feed 1 = .ok (.getfield 10, 3) := by decide +kernel
theorem d_Wm_feed_4 : decode b_Wm_feed 4 = .ok (.getfield 60, 3) := by decide +kernel
theorem d_Wm_feed_7 : decode b_Wm_feed 7 = .ok (.bipush 20, 2) := by decide +kernel
theorem d_Wm_feed_9 : decode b_Wm_feed 9 = .ok (.iadd, 1) := by decide +kernel
theorem d_Wm_feed_10 : decode b_Wm_feed 10 = .ok (.ldc 63, 2) := by decide +kernel
theorem d_Wm_feed_12 : decode b_Wm_feed 12 = .ok (.if_icmp .le 11, 3) := by decide +kernel
theorem d_Wm_feed_15 : decode b_Wm_feed 15 = .ok (.new 64, 3) := by decide +kernel
theorem d_Wm_feed_18 : decode b_Wm_feed 18 = .ok (.dup, 1) := by decide +kernel
theorem d_Wm_feed_19 : decode b_Wm_feed 19 = .ok (.invokespecial 66, 3) := by decide +kernel
theorem d_Wm_feed_22 : decode b_Wm_feed 22 = .ok (.athrow, 1) := by decide +kernel
theorem d_Wm_feed_23 : decode b_Wm_feed 23 = .ok (.aload_n 0, 1) := by decide +kernel
theorem d_Wm_feed_24 : decode b_Wm_feed 24 = .ok (.getfield 10, 3) := by decide +kernel
theorem d_Wm_feed_27 : decode b_Wm_feed 27 = .ok (.iload_n 1, 1) := by decide +kernel
theorem d_Wm_feed_28 : decode b_Wm_feed 28 = .ok (.invokevirtual 67, 3) := by decide +kernel
theorem d_Wm_feed_31 : decode b_Wm_feed 31 = .ok (.aload_n 0, 1) := by decide +kernel
theorem d_Wm_feed_32 : decode b_Wm_feed 32 = .ok (.getfield 10, 3) := by decide +kernel
theorem d_Wm_feed_35 : decode b_Wm_feed 35 = .ok (.iload_n 2, 1) := by decide +kernel
theorem d_Wm_feed_36 : decode b_Wm_feed 36 = .ok (.invokevirtual 67, 3) := by decide +kernel
theorem d_Wm_feed_39 : decode b_Wm_feed 39 = .ok (.aload_n 0, 1) := by decide +kernel
theorem d_Wm_feed_40 : decode b_Wm_feed 40 = .ok (.getfield 10, 3) := by decide +kernel
theorem d_Wm_feed_43 : decode b_Wm_feed 43 = .ok (.iload_n 3, 1) := by decide +kernel
theorem d_Wm_feed_44 : decode b_Wm_feed 44 = .ok (.invokevirtual 67, 3) := by decide +kernel
theorem d_Wm_feed_47 : decode b_Wm_feed 47 = .ok (.aload_n 0, 1) := by decide +kernel
theorem d_Wm_feed_48 : decode b_Wm_feed 48 = .ok (.getfield 10, 3) := by decide +kernel
theorem d_Wm_feed_51 : decode b_Wm_feed 51 = .ok (.iload 4, 2) := by decide +kernel
theorem d_Wm_feed_53 : decode b_Wm_feed 53 = .ok (.invokevirtual 67, 3) := by decide +kernel
theorem d_Wm_feed_56 : decode b_Wm_feed 56 = .ok (.aload_n 0, 1) := by decide +kernel
theorem d_Wm_feed_57 : decode b_Wm_feed 57 = .ok (.getfield 10, 3) := by decide +kernel
theorem d_Wm_feed_60 : decode b_Wm_feed 60 = .ok (.iload 5, 2) := by decide +kernel
theorem d_Wm_feed_62 : decode b_Wm_feed 62 = .ok (.invokevirtual 67, 3) := by decide +kernel
theorem d_Wm_feed_65 : decode b_Wm_feed 65 = .ok (.aload_n 0, 1) := by decide +kernel
theorem d_Wm_feed_66 : decode b_Wm_feed 66 = .ok (.getfield 10, 3) := by decide +kernel
theorem d_Wm_feed_69 : decode b_Wm_feed 69 = .ok (.getfield 60, 3) := by decide +kernel
theorem d_Wm_feed_72 : decode b_Wm_feed 72 = .ok (.ireturn, 1) := by decide +kernel
theorem d_Wm_read_0 : decode b_Wm_read 0 = .ok (.aload_n 0, 1) := by decide +kernel
theorem d_Wm_read_1 : decode b_Wm_read 1 = .ok (.getfield 28, 3) := by decide +kernel
theorem d_Wm_read_4 : decode b_Wm_read 4 = .ok (.invokevirtual 74, 3) := by decide +kernel
theorem d_Wm_read_7 : decode b_Wm_read 7 = .ok (.istore_n 1, 1) := by decide +kernel
theorem d_Wm_read_8 : decode b_Wm_read 8 = .ok (.aload_n 0, 1) := by decide +kernel
theorem d_Wm_read_9 : decode b_Wm_read 9 = .ok (.aload_n 0, 1) := by decide +kernel
theorem d_Wm_read_10 : decode b_Wm_read 10 = .ok (.getfield 28, 3) := by decide +kernel
theorem d_Wm_read_13 : decode b_Wm_read 13 = .ok (.getfield 78, 3) := by decide +kernel
theorem d_Wm_read_16 : decode b_Wm_read 16 = .ok (.putfield 53, 3) := by decide +kernel
theorem d_Wm_read_19 : decode b_Wm_read 19 = .ok (.iload_n 1, 1) := by decide +kernel
theorem d_Wm_read_20 : decode b_Wm_read 20 = .ok (.ifCond .ne 14, 3) := by decide +kernel
theorem d_Wm_read_23 : decode b_Wm_read 23 = .ok (.aload_n 0, 1) := by decide +kernel
theorem d_Wm_read_24 : decode b_Wm_read 24 = .ok (.aload_n 0, 1) := by decide +kernel
theorem d_Wm_read_25 : decode b_Wm_read 25 = .ok (.getfield 28, 3) := by decide +kernel
theorem d_Wm_read_28 : decode b_Wm_read 28 = .ok (.getfield 81, 3) := by decide +kernel
theorem d_Wm_read_31 : decode b_Wm_read 31 = .ok (.putfield 57, 3) := by decide +kernel
theorem d_Wm_read_34 : decode b_Wm_read 34 = .ok (.aload_n 0, 1) := by decide +kernel
theorem d_Wm_read_35 : decode b_Wm_read 35 = .ok (.getfield 10, 3) := by decide +kernel
theorem d_Wm_read_38 : decode b_Wm_read 38 = .ok (.iconst 0, 1) := by decide +kernel
theorem d_Wm_read_39 : decode b_Wm_read 39 = .ok (.putfield 60, 3) := by decide +kernel
theorem d_Wm_read_42 : decode b_Wm_read 42 = .ok (.iload_n 1, 1) := by decide +kernel
theorem d_Wm_read_43 : decode b_Wm_read 43 = .ok (.ireturn, 1) := by decide +kernel
theorem d_Wm_faultAt_0 : decode b_Wm_faultAt 0 = .ok (.aload_n 0, 1) := by decide +kernel
theorem d_Wm_faultAt_1 : decode b_Wm_faultAt 1 = .ok (.getfield 53, 3) := by decide +kernel
theorem d_Wm_faultAt_4 : decode b_Wm_faultAt 4 = .ok (.ireturn, 1) := by decide +kernel
theorem d_Wm_begin_0 : decode b_Wm_begin 0 = .ok (.aload_n 0, 1) := by decide +kernel
theorem d_Wm_begin_1 : decode b_Wm_begin 1 = .ok (.getfield 19, 3) := by decide +kernel
theorem d_Wm_begin_4 : decode b_Wm_begin 4 = .ok (.iload_n 1, 1) := by decide +kernel
theorem d_Wm_begin_5 : decode b_Wm_begin 5 = .ok (.ldc 84, 2) := by decide +kernel
theorem d_Wm_begin_7 : decode b_Wm_begin 7 = .ok (.iand, 1) := by decide +kernel
theorem d_Wm_begin_8 : decode b_Wm_begin 8 = .ok (.iload_n 2, 1) := by decide +kernel
theorem d_Wm_begin_9 : decode b_Wm_begin 9 = .ok (.ldc 84, 2) := by decide +kernel
theorem d_Wm_begin_11 : decode b_Wm_begin 11 = .ok (.iand, 1) := by decide +kernel
theorem d_Wm_begin_12 : decode b_Wm_begin 12 = .ok (.invokevirtual 85, 3) := by decide +kernel
theorem d_Wm_begin_15 : decode b_Wm_begin 15 = .ok (.return_, 1) := by decide +kernel
set_option maxHeartbeats 4000000 in
set_option maxRecDepth 100000 in
theorem c_Ga_startAnew (l : Launch) (D9 : va_G) (cB cI cJ cG : ClassId) (ga gbr gb st nl dl ty ki ti rw sz : Nat) (i0 f0 n0 u1 u2 : Int32) (f : Nat → Int32) : MW l D9 cls9 (ty9 cB cI cJ cG) y_Ga_startAnew b_Ga_startAnew 4 none (rm9 1 0 0) [.ref ga, .int u1, .int u2] [(ga, .inr (2, [.ref gb, .ref st, .ref nl, .ref dl, .ref ty, .ref ki, .ref ti, .ref rw, .ref sz, .int i0, .int f0])), (gb, .inr (0, [.ref gbr, .int n0])), (sz, .inl (cI, 4, .inl f))] (fun v8 w2 => v8 = none ∧ ∃ (x0 : Nat → Int32), w2 = [(ga, .inr (2, [.ref gb, .ref st, .ref nl, .ref dl, .ref ty, .ref ki, .ref ti, .ref rw, .ref sz, .int (u1), .int (u2)])), (gb, .inr (0, [.ref gbr, .int (0)])), (sz, .inl (cI, 4, .inl x0))]) 0 0 := by
  refine mw_of (by decide) (Nat.le_of_ble_eq_true rfl) ?_
  intro p e s m below meth c ls C0 hin hP hD hA hS hl
  obtain ⟨hx, hb, hml, hr, hlocks, hown, hts, hK⟩ := id C0
  have hl : lv_has ls 4 [(0, .ref ga), (1, .int u1), (2, .int u2)] := hl
  refine lv_aload_n hx hb d_Ga_startAnew_0 rfl (lv_at hl 0 rfl) ?_
  refine lv_iload_n hx hb d_Ga_startAnew_1 rfl (lv_at hl 1 rfl) ?_
  refine va_put (D := D9) (ty := .int) (ci := 2) (C := R_Ga) (T := F_Ga) (N := 11) hx hb hts i_Ga t_Ga t_Ga_ok n_Ga hown hK hP hD hS 0 rfl rfl 9 (by decide) (hts _ g_84) (fun _ h9 => h9) rfl (by decide +kernel) rfl rfl (Nat.le_of_ble_eq_true rfl) d_Ga_startAnew_2 (fun H locs hP hD hS => ?_)
  have hP : va_P D9 cls9 [(ga, .inr (2, [.ref gb, .ref st, .ref nl, .ref dl, .ref ty, .ref ki, .ref ti, .ref rw, .ref sz, .int (u1), .int f0])), (gb, .inr (0, [.ref gbr, .int n0])), (sz, .inl (cI, 4, .inl f))] H := hP
  have hD : va_D _ [(ga, .inr (2, [.ref gb, .ref st, .ref nl, .ref dl, .ref ty, .ref ki, .ref ti, .ref rw, .ref sz, .int (u1), .int f0])), (gb, .inr (0, [.ref gbr, .int n0])), (sz, .inl (cI, 4, .inl f))] := hD
  refine lv_aload_n hx hb d_Ga_startAnew_5 rfl (lv_at hl 0 rfl) ?_
  refine lv_iload_n hx hb d_Ga_startAnew_6 rfl (lv_at hl 2 rfl) ?_
  refine va_put (D := D9) (ty := .int) (ci := 2) (C := R_Ga) (T := F_Ga) (N := 11) hx hb hts i_Ga t_Ga t_Ga_ok n_Ga hown hK hP hD hS 0 rfl rfl 10 (by decide) (hts _ g_87) (fun _ h9 => h9) rfl (by decide +kernel) rfl rfl (Nat.le_of_ble_eq_true rfl) d_Ga_startAnew_7 (fun H locs hP hD hS => ?_)
  have hP : va_P D9 cls9 [(ga, .inr (2, [.ref gb, .ref st, .ref nl, .ref dl, .ref ty, .ref ki, .ref ti, .ref rw, .ref sz, .int (u1), .int (u2)])), (gb, .inr (0, [.ref gbr, .int n0])), (sz, .inl (cI, 4, .inl f))] H := hP
  have hD : va_D _ [(ga, .inr (2, [.ref gb, .ref st, .ref nl, .ref dl, .ref ty, .ref ki, .ref ti, .ref rw, .ref sz, .int (u1), .int (u2)])), (gb, .inr (0, [.ref gbr, .int n0])), (sz, .inl (cI, 4, .inl f))] := hD
  refine lv_aload_n hx hb d_Ga_startAnew_10 rfl (lv_at hl 0 rfl) ?_
  refine va_get (D := D9) (ci := 2) (C := R_Ga) (T := F_Ga) (N := 11) hx hb hts i_Ga hown hK hP 0 rfl rfl 0 (by decide) (hts _ g_57) (fun _ h9 => h9) rfl d_Ga_startAnew_11 ?_
  refine lv_iconst (v := 0) hx hb d_Ga_startAnew_14 (by decide) ?_
  refine va_putN (D := D9) (ty := .int) (ci := 0) (C := R_By) (T := F_By) (N := 2) hx hb hts i_By t_By t_By_ok n_By hown hK hP hD hS 1 rfl rfl 1 (by decide) (hts _ g_37) (fun _ h9 => h9) rfl (by decide +kernel) rfl rfl (Nat.le_of_ble_eq_true rfl) d_Ga_startAnew_15 (fun H locs hP hD hS => ?_)
  have hP : va_P D9 cls9 [(ga, .inr (2, [.ref gb, .ref st, .ref nl, .ref dl, .ref ty, .ref ki, .ref ti, .ref rw, .ref sz, .int (u1), .int (u2)])), (gb, .inr (0, [.ref gbr, .int (0)])), (sz, .inl (cI, 4, .inl f))] H := hP
  have hD : va_D _ [(ga, .inr (2, [.ref gb, .ref st, .ref nl, .ref dl, .ref ty, .ref ki, .ref ti, .ref rw, .ref sz, .int (u1), .int (u2)])), (gb, .inr (0, [.ref gbr, .int (0)])), (sz, .inl (cI, 4, .inl f))] := hD
  refine lv_iconst (v := 0) hx hb d_Ga_startAnew_18 (by decide) ?_
  refine lv_istore_n (lv' := [(3, _), (0, _), (1, _), (2, _)]) hx hb d_Ga_startAnew_19 rfl hl (by decide) rfl (fun ls hl => ?_)
  refine lv_iload_n hx hb d_Ga_startAnew_20 rfl (lv_at hl 0 rfl) ?_
  refine lv_iconst (v := 4) hx hb d_Ga_startAnew_21 (by decide) ?_
  refine lv_icmp_ge (tgt := 38) hx hb d_Ga_startAnew_22 (by decide) (fun c1 => ?_) (fun c1 => ?_)
  · exact absurd c1 (by decide +kernel)
  · refine lv_aload_n hx hb d_Ga_startAnew_25 rfl (lv_at hl 1 rfl) ?_
    refine va_get (D := D9) (ci := 2) (C := R_Ga) (T := F_Ga) (N := 11) hx hb hts i_Ga hown hK hP 0 rfl rfl 8 (by decide) (hts _ g_81) (fun _ h9 => h9) rfl d_Ga_startAnew_26 ?_
    refine lv_iload_n hx hb d_Ga_startAnew_29 rfl (lv_at hl 0 rfl) ?_
    refine lv_iconst (v := 0) hx hb d_Ga_startAnew_30 (by decide) ?_
    refine va_iast (D := D9) hx hb hK hP hD hS 2 1 rfl rfl (by unfold vp_in; decide +kernel) d_Ga_startAnew_31 (fun H locs hP hD hS => ?_)
    have hP : va_P D9 cls9 [(ga, .inr (2, [.ref gb, .ref st, .ref nl, .ref dl, .ref ty, .ref ki, .ref ti, .ref rw, .ref sz, .int (u1), .int (u2)])), (gb, .inr (0, [.ref gbr, .int (0)])), (sz, .inl (cI, 4, .inl _))] H := hP
    have hD : va_D _ [(ga, .inr (2, [.ref gb, .ref st, .ref nl, .ref dl, .ref ty, .ref ki, .ref ti, .ref rw, .ref sz, .int (u1), .int (u2)])), (gb, .inr (0, [.ref gbr, .int (0)])), (sz, .inl (cI, 4, .inl _))] := hD
    refine lv_iinc (lv' := [(3, _), (0, _), (1, _), (2, _)]) hx hb d_Ga_startAnew_32 hl (k := 0) rfl rfl (by decide) rfl (fun ls hl => ?_)
    refine lv_goto (tgt := 20) hx hb d_Ga_startAnew_35 (by decide) ?_
    refine lv_iload_n hx hb d_Ga_startAnew_20 rfl (lv_at hl 0 rfl) ?_
    refine lv_iconst (v := 4) hx hb d_Ga_startAnew_21 (by decide) ?_
    refine lv_icmp_ge (tgt := 38) hx hb d_Ga_startAnew_22 (by decide) (fun c2 => ?_) (fun c2 => ?_)
    · exact absurd c2 (by decide +kernel)
    · refine lv_aload_n hx hb d_Ga_startAnew_25 rfl (lv_at hl 1 rfl) ?_
      refine va_get (D := D9) (ci := 2) (C := R_Ga) (T := F_Ga) (N := 11) hx hb hts i_Ga hown hK hP 0 rfl rfl 8 (by decide) (hts _ g_81) (fun _ h9 => h9) rfl d_Ga_startAnew_26 ?_
      refine lv_iload_n hx hb d_Ga_startAnew_29 rfl (lv_at hl 0 rfl) ?_
      refine lv_iconst (v := 0) hx hb d_Ga_startAnew_30 (by decide) ?_
      refine va_iast (D := D9) hx hb hK hP hD hS 2 1 rfl rfl (by unfold vp_in; decide +kernel) d_Ga_startAnew_31 (fun H locs hP hD hS => ?_)
      have hP : va_P D9 cls9 [(ga, .inr (2, [.ref gb, .ref st, .ref nl, .ref dl, .ref ty, .ref ki, .ref ti, .ref rw, .ref sz, .int (u1), .int (u2)])), (gb, .inr (0, [.ref gbr, .int (0)])), (sz, .inl (cI, 4, .inl _))] H := hP
      have hD : va_D _ [(ga, .inr (2, [.ref gb, .ref st, .ref nl, .ref dl, .ref ty, .ref ki, .ref ti, .ref rw, .ref sz, .int (u1), .int (u2)])), (gb, .inr (0, [.ref gbr, .int (0)])), (sz, .inl (cI, 4, .inl _))] := hD
      refine lv_iinc (lv' := [(3, _), (0, _), (1, _), (2, _)]) hx hb d_Ga_startAnew_32 hl (k := 0) rfl rfl (by decide) rfl (fun ls hl => ?_)
      refine lv_goto (tgt := 20) hx hb d_Ga_startAnew_35 (by decide) ?_
      refine lv_iload_n hx hb d_Ga_startAnew_20 rfl (lv_at hl 0 rfl) ?_
      refine lv_iconst (v := 4) hx hb d_Ga_startAnew_21 (by decide) ?_
      refine lv_icmp_ge (tgt := 38) hx hb d_Ga_startAnew_22 (by decide) (fun c3 => ?_) (fun c3 => ?_)
      · exact absurd c3 (by decide +kernel)
      · refine lv_aload_n hx hb d_Ga_startAnew_25 rfl (lv_at hl 1 rfl) ?_
        refine va_get (D := D9) (ci := 2) (C := R_Ga) (T := F_Ga) (N := 11) hx hb hts i_Ga hown hK hP 0 rfl rfl 8 (by decide) (hts _ g_81) (fun _ h9 => h9) rfl d_Ga_startAnew_26 ?_
        refine lv_iload_n hx hb d_Ga_startAnew_29 rfl (lv_at hl 0 rfl) ?_
        refine lv_iconst (v := 0) hx hb d_Ga_startAnew_30 (by decide) ?_
        refine va_iast (D := D9) hx hb hK hP hD hS 2 1 rfl rfl (by unfold vp_in; decide +kernel) d_Ga_startAnew_31 (fun H locs hP hD hS => ?_)
        have hP : va_P D9 cls9 [(ga, .inr (2, [.ref gb, .ref st, .ref nl, .ref dl, .ref ty, .ref ki, .ref ti, .ref rw, .ref sz, .int (u1), .int (u2)])), (gb, .inr (0, [.ref gbr, .int (0)])), (sz, .inl (cI, 4, .inl _))] H := hP
        have hD : va_D _ [(ga, .inr (2, [.ref gb, .ref st, .ref nl, .ref dl, .ref ty, .ref ki, .ref ti, .ref rw, .ref sz, .int (u1), .int (u2)])), (gb, .inr (0, [.ref gbr, .int (0)])), (sz, .inl (cI, 4, .inl _))] := hD
        refine lv_iinc (lv' := [(3, _), (0, _), (1, _), (2, _)]) hx hb d_Ga_startAnew_32 hl (k := 0) rfl rfl (by decide) rfl (fun ls hl => ?_)
        refine lv_goto (tgt := 20) hx hb d_Ga_startAnew_35 (by decide) ?_
        refine lv_iload_n hx hb d_Ga_startAnew_20 rfl (lv_at hl 0 rfl) ?_
        refine lv_iconst (v := 4) hx hb d_Ga_startAnew_21 (by decide) ?_
        refine lv_icmp_ge (tgt := 38) hx hb d_Ga_startAnew_22 (by decide) (fun c4 => ?_) (fun c4 => ?_)
        · exact absurd c4 (by decide +kernel)
        · refine lv_aload_n hx hb d_Ga_startAnew_25 rfl (lv_at hl 1 rfl) ?_
          refine va_get (D := D9) (ci := 2) (C := R_Ga) (T := F_Ga) (N := 11) hx hb hts i_Ga hown hK hP 0 rfl rfl 8 (by decide) (hts _ g_81) (fun _ h9 => h9) rfl d_Ga_startAnew_26 ?_
          refine lv_iload_n hx hb d_Ga_startAnew_29 rfl (lv_at hl 0 rfl) ?_
          refine lv_iconst (v := 0) hx hb d_Ga_startAnew_30 (by decide) ?_
          refine va_iast (D := D9) hx hb hK hP hD hS 2 1 rfl rfl (by unfold vp_in; decide +kernel) d_Ga_startAnew_31 (fun H locs hP hD hS => ?_)
          have hP : va_P D9 cls9 [(ga, .inr (2, [.ref gb, .ref st, .ref nl, .ref dl, .ref ty, .ref ki, .ref ti, .ref rw, .ref sz, .int (u1), .int (u2)])), (gb, .inr (0, [.ref gbr, .int (0)])), (sz, .inl (cI, 4, .inl _))] H := hP
          have hD : va_D _ [(ga, .inr (2, [.ref gb, .ref st, .ref nl, .ref dl, .ref ty, .ref ki, .ref ti, .ref rw, .ref sz, .int (u1), .int (u2)])), (gb, .inr (0, [.ref gbr, .int (0)])), (sz, .inl (cI, 4, .inl _))] := hD
          refine lv_iinc (lv' := [(3, _), (0, _), (1, _), (2, _)]) hx hb d_Ga_startAnew_32 hl (k := 0) rfl rfl (by decide) rfl (fun ls hl => ?_)
          refine lv_goto (tgt := 20) hx hb d_Ga_startAnew_35 (by decide) ?_
          refine lv_iload_n hx hb d_Ga_startAnew_20 rfl (lv_at hl 0 rfl) ?_
          refine lv_iconst (v := 4) hx hb d_Ga_startAnew_21 (by decide) ?_
          refine lv_icmp_ge (tgt := 38) hx hb d_Ga_startAnew_22 (by decide) (fun c5 => ?_) (fun c5 => ?_)
          · exact mw_vret hx hb hr hlocks hS hP hD (by decide) (by decide) d_Ga_startAnew_38 (⟨rfl, _, rfl⟩)
          · exact absurd c5 (by decide +kernel)
set_option maxHeartbeats 4000000 in
set_option maxRecDepth 100000 in
theorem c_Re_fail (l : Launch) (D9 : va_G) (cB cI cJ cG : ClassId) (re tp ga : Nat) (a0 a1 a2 a3 a4 a5 u1 u2 : Int32) : MW l D9 cls9 (ty9 cB cI cJ cG) y_Re_fail b_Re_fail 3 (some .boolean) (rm9 0 0 0) [.ref re, .int u1, .int u2] [(re, .inr (4, [.ref tp, .ref ga, .int a0, .int a1, .int a2, .int a3, .int a4, .int a5]))] (fun v8 w2 => v8 = some (.int 0) ∧ w2 = [(re, .inr (4, [.ref tp, .ref ga, .int (u1), .int (u2), .int a2, .int a3, .int a4, .int a5]))]) 0 0 := by
  refine mw_of (by decide) (Nat.le_of_ble_eq_true rfl) ?_
  intro p e s m below meth c ls C0 hin hP hD hA hS hl
  obtain ⟨hx, hb, hml, hr, hlocks, hown, hts, hK⟩ := id C0
  have hl : lv_has ls 3 [(0, .ref re), (1, .int u1), (2, .int u2)] := hl
  refine lv_aload_n hx hb d_Re_fail_0 rfl (lv_at hl 0 rfl) ?_
  refine lv_iload_n hx hb d_Re_fail_1 rfl (lv_at hl 1 rfl) ?_
  refine va_put (D := D9) (ty := .int) (ci := 4) (C := R_Re) (T := F_Re) (N := 8) hx hb hts i_Re t_Re t_Re_ok n_Re hown hK hP hD hS 0 rfl rfl 2 (by decide) (hts _ g_122) (fun _ h9 => h9) rfl (by decide +kernel) rfl rfl (Nat.le_of_ble_eq_true rfl) d_Re_fail_2 (fun H locs hP hD hS => ?_)
  have hP : va_P D9 cls9 [(re, .inr (4, [.ref tp, .ref ga, .int (u1), .int a1, .int a2, .int a3, .int a4, .int a5]))] H := hP
  have hD : va_D _ [(re, .inr (4, [.ref tp, .ref ga, .int (u1), .int a1, .int a2, .int a3, .int a4, .int a5]))] := hD
  refine lv_aload_n hx hb d_Re_fail_5 rfl (lv_at hl 0 rfl) ?_
  refine lv_iload_n hx hb d_Re_fail_6 rfl (lv_at hl 2 rfl) ?_
  refine va_put (D := D9) (ty := .int) (ci := 4) (C := R_Re) (T := F_Re) (N := 8) hx hb hts i_Re t_Re t_Re_ok n_Re hown hK hP hD hS 0 rfl rfl 3 (by decide) (hts _ g_123) (fun _ h9 => h9) rfl (by decide +kernel) rfl rfl (Nat.le_of_ble_eq_true rfl) d_Re_fail_7 (fun H locs hP hD hS => ?_)
  have hP : va_P D9 cls9 [(re, .inr (4, [.ref tp, .ref ga, .int (u1), .int (u2), .int a2, .int a3, .int a4, .int a5]))] H := hP
  have hD : va_D _ [(re, .inr (4, [.ref tp, .ref ga, .int (u1), .int (u2), .int a2, .int a3, .int a4, .int a5]))] := hD
  refine lv_iconst (v := 0) hx hb d_Re_fail_10 (by decide) ?_
  exact mw_zret hx hb hr hlocks hS hP hD (by decide) (by decide) d_Re_fail_11 (by first | rfl | decide +kernel) (⟨rfl, rfl⟩)
set_option maxHeartbeats 4000000 in
set_option maxRecDepth 100000 in
theorem c_Re_takeMessage (l : Launch) (D9 : va_G) (cB cI cJ cG : ClassId) (re tp tpr ga gbr gb st nl dl ty ki ti rw sz : Nat) (i0 f0 n0 : Int32) (f : Nat → Int32) : MW l D9 cls9 (ty9 cB cI cJ cG) y_Re_takeMessage b_Re_takeMessage 5 (some .int) (rm9 2 0 0) [.ref re] [(re, .inr (4, [.ref tp, .ref ga, .int 0, .int 0, .int 0, .int 0, .int 0, .int 0])), (tp, .inr (0, [.ref tpr, .int 0])), (tpr, .inl (cB, 65536, .inl (fun _ => 0))), (ga, .inr (2, [.ref gb, .ref st, .ref nl, .ref dl, .ref ty, .ref ki, .ref ti, .ref rw, .ref sz, .int i0, .int f0])), (gb, .inr (0, [.ref gbr, .int n0])), (sz, .inl (cI, 4, .inl f))] (fun v8 w2 => v8 = some (.int 1) ∧ ∃ (x0 : Int32) (x1 : Int32) (x2 : Int32) (x3 : Int32) (x4 : Int32) (x5 : Int32) (x6 : Int32) (x7 : Int32) (x8 : Nat → Int32), w2 = [(tp, .inr (0, [.ref tpr, .int 0])), (tpr, .inl (cB, 65536, .inl (fun _ => 0))), (re, .inr (4, [.ref tp, .ref ga, .int x0, .int x1, .int x2, .int x3, .int x4, .int x5])), (ga, .inr (2, [.ref gb, .ref st, .ref nl, .ref dl, .ref ty, .ref ki, .ref ti, .ref rw, .ref sz, .int x6, .int x7])), (gb, .inr (0, [.ref gbr, .int (0)])), (sz, .inl (cI, 4, .inl x8))]) 0 0 := by
  refine mw_of (by decide) (Nat.le_of_ble_eq_true rfl) ?_
  intro p e s m below meth c ls C0 hin hP hD hA hS hl
  obtain ⟨hx, hb, hml, hr, hlocks, hown, hts, hK⟩ := id C0
  have hl : lv_has ls 5 [(0, .ref re)] := hl
  refine lv_aload_n hx hb d_Re_takeMessage_0 rfl (lv_at hl 0 rfl) ?_
  refine lv_iconst (v := 0) hx hb d_Re_takeMessage_1 (by decide) ?_
  refine va_put (D := D9) (ty := .int) (ci := 4) (C := R_Re) (T := F_Re) (N := 8) hx hb hts i_Re t_Re t_Re_ok n_Re hown hK hP hD hS 0 rfl rfl 2 (by decide) (hts _ g_122) (fun _ h9 => h9) rfl (by decide +kernel) rfl rfl (Nat.le_of_ble_eq_true rfl) d_Re_takeMessage_2 (fun H locs hP hD hS => ?_)
  have hP : va_P D9 cls9 [(re, .inr (4, [.ref tp, .ref ga, .int (0), .int 0, .int 0, .int 0, .int 0, .int 0])), (tp, .inr (0, [.ref tpr, .int 0])), (tpr, .inl (cB, 65536, .inl (fun _ => 0))), (ga, .inr (2, [.ref gb, .ref st, .ref nl, .ref dl, .ref ty, .ref ki, .ref ti, .ref rw, .ref sz, .int i0, .int f0])), (gb, .inr (0, [.ref gbr, .int n0])), (sz, .inl (cI, 4, .inl f))] H := hP
  have hD : va_D _ [(re, .inr (4, [.ref tp, .ref ga, .int (0), .int 0, .int 0, .int 0, .int 0, .int 0])), (tp, .inr (0, [.ref tpr, .int 0])), (tpr, .inl (cB, 65536, .inl (fun _ => 0))), (ga, .inr (2, [.ref gb, .ref st, .ref nl, .ref dl, .ref ty, .ref ki, .ref ti, .ref rw, .ref sz, .int i0, .int f0])), (gb, .inr (0, [.ref gbr, .int n0])), (sz, .inl (cI, 4, .inl f))] := hD
  refine lv_aload_n hx hb d_Re_takeMessage_5 rfl (lv_at hl 0 rfl) ?_
  refine lv_iconst (v := -1) hx hb d_Re_takeMessage_6 (by decide) ?_
  refine va_put (D := D9) (ty := .int) (ci := 4) (C := R_Re) (T := F_Re) (N := 8) hx hb hts i_Re t_Re t_Re_ok n_Re hown hK hP hD hS 0 rfl rfl 3 (by decide) (hts _ g_123) (fun _ h9 => h9) rfl (by decide +kernel) rfl rfl (Nat.le_of_ble_eq_true rfl) d_Re_takeMessage_7 (fun H locs hP hD hS => ?_)
  have hP : va_P D9 cls9 [(re, .inr (4, [.ref tp, .ref ga, .int (0), .int (-1), .int 0, .int 0, .int 0, .int 0])), (tp, .inr (0, [.ref tpr, .int 0])), (tpr, .inl (cB, 65536, .inl (fun _ => 0))), (ga, .inr (2, [.ref gb, .ref st, .ref nl, .ref dl, .ref ty, .ref ki, .ref ti, .ref rw, .ref sz, .int i0, .int f0])), (gb, .inr (0, [.ref gbr, .int n0])), (sz, .inl (cI, 4, .inl f))] H := hP
  have hD : va_D _ [(re, .inr (4, [.ref tp, .ref ga, .int (0), .int (-1), .int 0, .int 0, .int 0, .int 0])), (tp, .inr (0, [.ref tpr, .int 0])), (tpr, .inl (cB, 65536, .inl (fun _ => 0))), (ga, .inr (2, [.ref gb, .ref st, .ref nl, .ref dl, .ref ty, .ref ki, .ref ti, .ref rw, .ref sz, .int i0, .int f0])), (gb, .inr (0, [.ref gbr, .int n0])), (sz, .inl (cI, 4, .inl f))] := hD
  refine lv_aload_n hx hb d_Re_takeMessage_10 rfl (lv_at hl 0 rfl) ?_
  refine lv_iconst (v := 0) hx hb d_Re_takeMessage_11 (by decide) ?_
  refine va_put (D := D9) (ty := .int) (ci := 4) (C := R_Re) (T := F_Re) (N := 8) hx hb hts i_Re t_Re t_Re_ok n_Re hown hK hP hD hS 0 rfl rfl 5 (by decide) (hts _ g_126) (fun _ h9 => h9) rfl (by decide +kernel) rfl rfl (Nat.le_of_ble_eq_true rfl) d_Re_takeMessage_12 (fun H locs hP hD hS => ?_)
  have hP : va_P D9 cls9 [(re, .inr (4, [.ref tp, .ref ga, .int (0), .int (-1), .int 0, .int (0), .int 0, .int 0])), (tp, .inr (0, [.ref tpr, .int 0])), (tpr, .inl (cB, 65536, .inl (fun _ => 0))), (ga, .inr (2, [.ref gb, .ref st, .ref nl, .ref dl, .ref ty, .ref ki, .ref ti, .ref rw, .ref sz, .int i0, .int f0])), (gb, .inr (0, [.ref gbr, .int n0])), (sz, .inl (cI, 4, .inl f))] H := hP
  have hD : va_D _ [(re, .inr (4, [.ref tp, .ref ga, .int (0), .int (-1), .int 0, .int (0), .int 0, .int 0])), (tp, .inr (0, [.ref tpr, .int 0])), (tpr, .inl (cB, 65536, .inl (fun _ => 0))), (ga, .inr (2, [.ref gb, .ref st, .ref nl, .ref dl, .ref ty, .ref ki, .ref ti, .ref rw, .ref sz, .int i0, .int f0])), (gb, .inr (0, [.ref gbr, .int n0])), (sz, .inl (cI, 4, .inl f))] := hD
  refine lv_aload_n hx hb d_Re_takeMessage_15 rfl (lv_at hl 0 rfl) ?_
  refine va_get (D := D9) (ci := 4) (C := R_Re) (T := F_Re) (N := 8) hx hb hts i_Re hown hK hP 0 rfl rfl 1 (by decide) (hts _ g_121) (fun _ h9 => h9) rfl d_Re_takeMessage_16 ?_
  refine lv_aload_n hx hb d_Re_takeMessage_19 rfl (lv_at hl 0 rfl) ?_
  refine va_get (D := D9) (ci := 4) (C := R_Re) (T := F_Re) (N := 8) hx hb hts i_Re hown hK hP 0 rfl rfl 0 (by decide) (hts _ g_120) (fun _ h9 => h9) rfl d_Re_takeMessage_20 ?_
  refine lv_iconst (v := 0) hx hb d_Re_takeMessage_23 (by decide) ?_
  refine mw_cVN (ci := 0) (k := 1) C0 (c_By_twoAt l D9 cB cI cJ cG _ 1 2 _ _ (by decide) (by decide) _ _ rfl rfl _) g_255 g_2 g_252 g_254 gs_By_twoAt ⟨by decide +kernel, by decide +kernel, show Option.map (fun d => d.parameters.length) (parseMethodDescriptor y_By_twoAt.desc) = some 1 by decide +kernel⟩ ⟨by decide, by decide⟩ rfl rfl hP hD hS hA rfl rfl hl.1 (Nat.le_of_ble_eq_true rfl) rfl d_Re_takeMessage_24 ⟨by decide, by decide⟩ (fun v9 w9 H locs hq hP hD hS => ?_)
  obtain ⟨rfl, hw9⟩ := hq
  rw [hw9] at hP hD
  have hP : va_P D9 cls9 [(re, .inr (4, [.ref tp, .ref ga, .int (0), .int (-1), .int 0, .int (0), .int 0, .int 0])), (tp, .inr (0, [.ref tpr, .int 0])), (tpr, .inl (cB, 65536, .inl (fun _ => 0))), (ga, .inr (2, [.ref gb, .ref st, .ref nl, .ref dl, .ref ty, .ref ki, .ref ti, .ref rw, .ref sz, .int i0, .int f0])), (gb, .inr (0, [.ref gbr, .int n0])), (sz, .inl (cI, 4, .inl f))] H := hP
  have hD : va_D _ [(re, .inr (4, [.ref tp, .ref ga, .int (0), .int (-1), .int 0, .int (0), .int 0, .int 0])), (tp, .inr (0, [.ref tpr, .int 0])), (tpr, .inl (cB, 65536, .inl (fun _ => 0))), (ga, .inr (2, [.ref gb, .ref st, .ref nl, .ref dl, .ref ty, .ref ki, .ref ti, .ref rw, .ref sz, .int i0, .int f0])), (gb, .inr (0, [.ref gbr, .int n0])), (sz, .inl (cI, 4, .inl f))] := hD
  refine lv_aload_n hx hb d_Re_takeMessage_27 rfl (lv_at hl 0 rfl) ?_
  refine va_get (D := D9) (ci := 4) (C := R_Re) (T := F_Re) (N := 8) hx hb hts i_Re hown hK hP 0 rfl rfl 0 (by decide) (hts _ g_120) (fun _ h9 => h9) rfl d_Re_takeMessage_28 ?_
  refine lv_iconst (v := 2) hx hb d_Re_takeMessage_31 (by decide) ?_
  refine mw_cVN (ci := 0) (k := 1) C0 (c_By_twoAt l D9 cB cI cJ cG _ 1 2 _ _ (by decide) (by decide) _ _ rfl rfl _) g_255 g_2 g_252 g_254 gs_By_twoAt ⟨by decide +kernel, by decide +kernel, show Option.map (fun d => d.parameters.length) (parseMethodDescriptor y_By_twoAt.desc) = some 1 by decide +kernel⟩ ⟨by decide, by decide⟩ rfl rfl hP hD hS hA rfl rfl hl.1 (Nat.le_of_ble_eq_true rfl) rfl d_Re_takeMessage_32 ⟨by decide, by decide⟩ (fun v9 w9 H locs hq hP hD hS => ?_)
  obtain ⟨rfl, hw9⟩ := hq
  rw [hw9] at hP hD
  have hP : va_P D9 cls9 [(re, .inr (4, [.ref tp, .ref ga, .int (0), .int (-1), .int 0, .int (0), .int 0, .int 0])), (tp, .inr (0, [.ref tpr, .int 0])), (tpr, .inl (cB, 65536, .inl (fun _ => 0))), (ga, .inr (2, [.ref gb, .ref st, .ref nl, .ref dl, .ref ty, .ref ki, .ref ti, .ref rw, .ref sz, .int i0, .int f0])), (gb, .inr (0, [.ref gbr, .int n0])), (sz, .inl (cI, 4, .inl f))] H := hP
  have hD : va_D _ [(re, .inr (4, [.ref tp, .ref ga, .int (0), .int (-1), .int 0, .int (0), .int 0, .int 0])), (tp, .inr (0, [.ref tpr, .int 0])), (tpr, .inl (cB, 65536, .inl (fun _ => 0))), (ga, .inr (2, [.ref gb, .ref st, .ref nl, .ref dl, .ref ty, .ref ki, .ref ti, .ref rw, .ref sz, .int i0, .int f0])), (gb, .inr (0, [.ref gbr, .int n0])), (sz, .inl (cI, 4, .inl f))] := hD
  refine mf_cVN (wr := [_, _, _]) (ci := 2) (k := 0) C0 (c_Ga_startAnew l D9 cB cI cJ cG ga gbr gb st nl dl ty ki ti rw sz _ _ _ _ _ _) g_263 g_3 g_260 g_262 gs_Ga_startAnew ⟨by decide +kernel, by decide +kernel, show Option.map (fun d => d.parameters.length) (parseMethodDescriptor y_Ga_startAnew.desc) = some 2 by decide +kernel⟩ ⟨by decide, by decide⟩ rfl rfl hP hD hS hA [3, 4, 5] [0, 1, 2] rfl rfl (by decide) (by decide) (by decide) rfl rfl hl.1 (Nat.le_of_ble_eq_true rfl) rfl d_Re_takeMessage_35 ⟨by decide, by decide⟩ (fun v9 w9 H locs hq hP hD hS => ?_)
  obtain ⟨rfl, y1_0, hw9⟩ := hq
  rw [hw9] at hP hD
  have hP : va_P D9 cls9 [(re, .inr (4, [.ref tp, .ref ga, .int (0), .int (-1), .int 0, .int (0), .int 0, .int 0])), (tp, .inr (0, [.ref tpr, .int 0])), (tpr, .inl (cB, 65536, .inl (fun _ => 0))), (ga, .inr (2, [.ref gb, .ref st, .ref nl, .ref dl, .ref ty, .ref ki, .ref ti, .ref rw, .ref sz, .int _, .int _])), (gb, .inr (0, [.ref gbr, .int (0)])), (sz, .inl (cI, 4, .inl y1_0))] H := hP
  have hD : va_D _ [(re, .inr (4, [.ref tp, .ref ga, .int (0), .int (-1), .int 0, .int (0), .int 0, .int 0])), (tp, .inr (0, [.ref tpr, .int 0])), (tpr, .inl (cB, 65536, .inl (fun _ => 0))), (ga, .inr (2, [.ref gb, .ref st, .ref nl, .ref dl, .ref ty, .ref ki, .ref ti, .ref rw, .ref sz, .int _, .int _])), (gb, .inr (0, [.ref gbr, .int (0)])), (sz, .inl (cI, 4, .inl y1_0))] := hD
  refine lv_aload_n hx hb d_Re_takeMessage_38 rfl (lv_at hl 0 rfl) ?_
  refine lv_bipush (v := 12) hx hb d_Re_takeMessage_39 (by decide) ?_
  refine va_put (D := D9) (ty := .int) (ci := 4) (C := R_Re) (T := F_Re) (N := 8) hx hb hts i_Re t_Re t_Re_ok n_Re hown hK hP hD hS 0 rfl rfl 4 (by decide) (hts _ g_125) (fun _ h9 => h9) rfl (by decide +kernel) rfl rfl (Nat.le_of_ble_eq_true rfl) d_Re_takeMessage_41 (fun H locs hP hD hS => ?_)
  have hP : va_P D9 cls9 [(re, .inr (4, [.ref tp, .ref ga, .int (0), .int (-1), .int (12), .int (0), .int 0, .int 0])), (tp, .inr (0, [.ref tpr, .int 0])), (tpr, .inl (cB, 65536, .inl (fun _ => 0))), (ga, .inr (2, [.ref gb, .ref st, .ref nl, .ref dl, .ref ty, .ref ki, .ref ti, .ref rw, .ref sz, .int _, .int _])), (gb, .inr (0, [.ref gbr, .int (0)])), (sz, .inl (cI, 4, .inl y1_0))] H := hP
  have hD : va_D _ [(re, .inr (4, [.ref tp, .ref ga, .int (0), .int (-1), .int (12), .int (0), .int 0, .int 0])), (tp, .inr (0, [.ref tpr, .int 0])), (tpr, .inl (cB, 65536, .inl (fun _ => 0))), (ga, .inr (2, [.ref gb, .ref st, .ref nl, .ref dl, .ref ty, .ref ki, .ref ti, .ref rw, .ref sz, .int _, .int _])), (gb, .inr (0, [.ref gbr, .int (0)])), (sz, .inl (cI, 4, .inl y1_0))] := hD
  refine lv_aload_n hx hb d_Re_takeMessage_44 rfl (lv_at hl 0 rfl) ?_
  refine va_get (D := D9) (ci := 4) (C := R_Re) (T := F_Re) (N := 8) hx hb hts i_Re hown hK hP 0 rfl rfl 0 (by decide) (hts _ g_120) (fun _ h9 => h9) rfl d_Re_takeMessage_45 ?_
  refine va_getN (D := D9) (ci := 0) (C := R_By) (T := F_By) (N := 2) hx hb hts i_By hown hK hP 1 rfl rfl 1 (by decide) (hts _ g_39) (fun _ h9 => h9) rfl d_Re_takeMessage_48 ?_
  refine lv_bipush (v := 12) hx hb d_Re_takeMessage_51 (by decide) ?_
  refine lv_icmp_ge (tgt := 65) hx hb d_Re_takeMessage_53 (by decide) (fun c1 => ?_) (fun c1 => ?_)
  · exact absurd c1 (by decide +kernel)
  · refine lv_aload_n hx hb d_Re_takeMessage_56 rfl (lv_at hl 0 rfl) ?_
    refine lv_iconst (v := 1) hx hb d_Re_takeMessage_57 (by decide) ?_
    refine lv_iconst (v := 0) hx hb d_Re_takeMessage_58 (by decide) ?_
    refine mf_cV (wr := [_, _, _, _, _]) (ci := 4) (k := 0) C0 (c_Re_fail l D9 cB cI cJ cG re tp ga _ _ _ _ _ _ _ _) g_267 g_4 g_264 g_266 gs_Re_fail ⟨by decide +kernel, by decide +kernel, show Option.map (fun d => d.parameters.length) (parseMethodDescriptor y_Re_fail.desc) = some 2 by decide +kernel⟩ ⟨by decide, by decide⟩ rfl rfl hP hD hS hA [0] [1, 2, 3, 4, 5] rfl rfl (by decide) (by decide) (by decide) rfl rfl hl.1 (Nat.le_of_ble_eq_true rfl) rfl d_Re_takeMessage_59 ⟨by decide, by decide⟩ (fun v9 w9 H locs hq hP hD hS => ?_)
    obtain ⟨rfl, hw9⟩ := hq
    rw [hw9] at hP hD
    have hP : va_P D9 cls9 [(tp, .inr (0, [.ref tpr, .int 0])), (tpr, .inl (cB, 65536, .inl (fun _ => 0))), (ga, .inr (2, [.ref gb, .ref st, .ref nl, .ref dl, .ref ty, .ref ki, .ref ti, .ref rw, .ref sz, .int _, .int _])), (gb, .inr (0, [.ref gbr, .int (0)])), (sz, .inl (cI, 4, .inl y1_0)), (re, .inr (4, [.ref tp, .ref ga, .int _, .int _, .int _, .int _, .int _, .int _]))] H := hP
    have hD : va_D _ [(tp, .inr (0, [.ref tpr, .int 0])), (tpr, .inl (cB, 65536, .inl (fun _ => 0))), (ga, .inr (2, [.ref gb, .ref st, .ref nl, .ref dl, .ref ty, .ref ki, .ref ti, .ref rw, .ref sz, .int _, .int _])), (gb, .inr (0, [.ref gbr, .int (0)])), (sz, .inl (cI, 4, .inl y1_0)), (re, .inr (4, [.ref tp, .ref ga, .int _, .int _, .int _, .int _, .int _, .int _]))] := hD
    refine lv_if_eq (tgt := 69) hx hb d_Re_takeMessage_62 (by decide) (fun c2 => ?_) (fun c2 => ?_)
    · refine lv_iconst (v := 0) hx hb d_Re_takeMessage_69 (by decide) ?_
      refine lv_istore_n (lv' := [(1, _), (0, _)]) hx hb d_Re_takeMessage_70 rfl hl (by decide) rfl (fun ls hl => ?_)
      refine lv_iconst (v := 0) hx hb d_Re_takeMessage_71 (by decide) ?_
      refine lv_istore_n (lv' := [(2, _), (1, _), (0, _)]) hx hb d_Re_takeMessage_72 rfl hl (by decide) rfl (fun ls hl => ?_)
      refine lv_iload_n hx hb d_Re_takeMessage_73 rfl (lv_at hl 0 rfl) ?_
      refine lv_iconst (v := 4) hx hb d_Re_takeMessage_74 (by decide) ?_
      refine lv_icmp_ge (tgt := 133) hx hb d_Re_takeMessage_75 (by decide) (fun c3 => ?_) (fun c3 => ?_)
      · exact absurd c3 (by decide +kernel)
      · refine lv_aload_n hx hb d_Re_takeMessage_78 rfl (lv_at hl 2 rfl) ?_
        refine va_get (D := D9) (ci := 4) (C := R_Re) (T := F_Re) (N := 8) hx hb hts i_Re hown hK hP 5 rfl rfl 0 (by decide) (hts _ g_120) (fun _ h9 => h9) rfl d_Re_takeMessage_79 ?_
        refine lv_iconst (v := 4) hx hb d_Re_takeMessage_82 (by decide) ?_
        refine lv_iconst (v := 2) hx hb d_Re_takeMessage_83 (by decide) ?_
        refine lv_iload_n hx hb d_Re_takeMessage_84 rfl (lv_at hl 0 rfl) ?_
        refine lv_imul hx hb d_Re_takeMessage_85 ?_
        refine lv_iadd hx hb d_Re_takeMessage_86 ?_
        refine mw_cVN (ci := 0) (k := 0) C0 (c_By_twoAt l D9 cB cI cJ cG _ 0 1 _ _ (by decide) (by decide) _ _ rfl rfl _) g_255 g_2 g_252 g_254 gs_By_twoAt ⟨by decide +kernel, by decide +kernel, show Option.map (fun d => d.parameters.length) (parseMethodDescriptor y_By_twoAt.desc) = some 1 by decide +kernel⟩ ⟨by decide, by decide⟩ rfl rfl hP hD hS hA rfl rfl hl.1 (Nat.le_of_ble_eq_true rfl) rfl d_Re_takeMessage_87 ⟨by decide, by decide⟩ (fun v9 w9 H locs hq hP hD hS => ?_)
        obtain ⟨rfl, hw9⟩ := hq
        rw [hw9] at hP hD
        have hP : va_P D9 cls9 [(tp, .inr (0, [.ref tpr, .int 0])), (tpr, .inl (cB, 65536, .inl (fun _ => 0))), (ga, .inr (2, [.ref gb, .ref st, .ref nl, .ref dl, .ref ty, .ref ki, .ref ti, .ref rw, .ref sz, .int _, .int _])), (gb, .inr (0, [.ref gbr, .int (0)])), (sz, .inl (cI, 4, .inl y1_0)), (re, .inr (4, [.ref tp, .ref ga, .int _, .int _, .int _, .int _, .int _, .int _]))] H := hP
        have hD : va_D _ [(tp, .inr (0, [.ref tpr, .int 0])), (tpr, .inl (cB, 65536, .inl (fun _ => 0))), (ga, .inr (2, [.ref gb, .ref st, .ref nl, .ref dl, .ref ty, .ref ki, .ref ti, .ref rw, .ref sz, .int _, .int _])), (gb, .inr (0, [.ref gbr, .int (0)])), (sz, .inl (cI, 4, .inl y1_0)), (re, .inr (4, [.ref tp, .ref ga, .int _, .int _, .int _, .int _, .int _, .int _]))] := hD
        refine lv_istore_n (lv' := [(3, _), (2, _), (1, _), (0, _)]) hx hb d_Re_takeMessage_90 rfl hl (by decide) rfl (fun ls hl => ?_)
        refine lv_iconst (v := 0) hx hb d_Re_takeMessage_91 (by decide) ?_
        refine lv_istore (lv' := [(4, _), (3, _), (2, _), (1, _), (0, _)]) hx hb d_Re_takeMessage_92 hl (by decide) rfl (fun ls hl => ?_)
        refine lv_iload hx hb d_Re_takeMessage_94 (lv_at hl 0 rfl) ?_
        refine lv_iload_n hx hb d_Re_takeMessage_96 rfl (lv_at hl 1 rfl) ?_
        refine lv_icmp_ge (tgt := 127) hx hb d_Re_takeMessage_97 (by decide) (fun c4 => ?_) (fun c4 => ?_)
        · refine lv_iinc (lv' := [(2, _), (4, _), (3, _), (1, _), (0, _)]) hx hb d_Re_takeMessage_127 hl (k := 2) rfl rfl (by decide) rfl (fun ls hl => ?_)
          refine lv_goto (tgt := 73) hx hb d_Re_takeMessage_130 (by decide) ?_
          refine lv_iload_n hx hb d_Re_takeMessage_73 rfl (lv_at hl 0 rfl) ?_
          refine lv_iconst (v := 4) hx hb d_Re_takeMessage_74 (by decide) ?_
          refine lv_icmp_ge (tgt := 133) hx hb d_Re_takeMessage_75 (by decide) (fun c5 => ?_) (fun c5 => ?_)
          · exact absurd c5 (by decide +kernel)
          · refine lv_aload_n hx hb d_Re_takeMessage_78 rfl (lv_at hl 4 rfl) ?_
            refine va_get (D := D9) (ci := 4) (C := R_Re) (T := F_Re) (N := 8) hx hb hts i_Re hown hK hP 5 rfl rfl 0 (by decide) (hts _ g_120) (fun _ h9 => h9) rfl d_Re_takeMessage_79 ?_
            refine lv_iconst (v := 4) hx hb d_Re_takeMessage_82 (by decide) ?_
            refine lv_iconst (v := 2) hx hb d_Re_takeMessage_83 (by decide) ?_
            refine lv_iload_n hx hb d_Re_takeMessage_84 rfl (lv_at hl 0 rfl) ?_
            refine lv_imul hx hb d_Re_takeMessage_85 ?_
            refine lv_iadd hx hb d_Re_takeMessage_86 ?_
            refine mw_cVN (ci := 0) (k := 0) C0 (c_By_twoAt l D9 cB cI cJ cG _ 0 1 _ _ (by decide) (by decide) _ _ rfl rfl _) g_255 g_2 g_252 g_254 gs_By_twoAt ⟨by decide +kernel, by decide +kernel, show Option.map (fun d => d.parameters.length) (parseMethodDescriptor y_By_twoAt.desc) = some 1 by decide +kernel⟩ ⟨by decide, by decide⟩ rfl rfl hP hD hS hA rfl rfl hl.1 (Nat.le_of_ble_eq_true rfl) rfl d_Re_takeMessage_87 ⟨by decide, by decide⟩ (fun v9 w9 H locs hq hP hD hS => ?_)
            obtain ⟨rfl, hw9⟩ := hq
            rw [hw9] at hP hD
            have hP : va_P D9 cls9 [(tp, .inr (0, [.ref tpr, .int 0])), (tpr, .inl (cB, 65536, .inl (fun _ => 0))), (ga, .inr (2, [.ref gb, .ref st, .ref nl, .ref dl, .ref ty, .ref ki, .ref ti, .ref rw, .ref sz, .int _, .int _])), (gb, .inr (0, [.ref gbr, .int (0)])), (sz, .inl (cI, 4, .inl y1_0)), (re, .inr (4, [.ref tp, .ref ga, .int _, .int _, .int _, .int _, .int _, .int _]))] H := hP
            have hD : va_D _ [(tp, .inr (0, [.ref tpr, .int 0])), (tpr, .inl (cB, 65536, .inl (fun _ => 0))), (ga, .inr (2, [.ref gb, .ref st, .ref nl, .ref dl, .ref ty, .ref ki, .ref ti, .ref rw, .ref sz, .int _, .int _])), (gb, .inr (0, [.ref gbr, .int (0)])), (sz, .inl (cI, 4, .inl y1_0)), (re, .inr (4, [.ref tp, .ref ga, .int _, .int _, .int _, .int _, .int _, .int _]))] := hD
            refine lv_istore_n (lv' := [(3, _), (2, _), (4, _), (1, _), (0, _)]) hx hb d_Re_takeMessage_90 rfl hl (by decide) rfl (fun ls hl => ?_)
            refine lv_iconst (v := 0) hx hb d_Re_takeMessage_91 (by decide) ?_
            refine lv_istore (lv' := [(4, _), (3, _), (2, _), (1, _), (0, _)]) hx hb d_Re_takeMessage_92 hl (by decide) rfl (fun ls hl => ?_)
            refine lv_iload hx hb d_Re_takeMessage_94 (lv_at hl 0 rfl) ?_
            refine lv_iload_n hx hb d_Re_takeMessage_96 rfl (lv_at hl 1 rfl) ?_
            refine lv_icmp_ge (tgt := 127) hx hb d_Re_takeMessage_97 (by decide) (fun c6 => ?_) (fun c6 => ?_)
            · refine lv_iinc (lv' := [(2, _), (4, _), (3, _), (1, _), (0, _)]) hx hb d_Re_takeMessage_127 hl (k := 2) rfl rfl (by decide) rfl (fun ls hl => ?_)
              refine lv_goto (tgt := 73) hx hb d_Re_takeMessage_130 (by decide) ?_
              refine lv_iload_n hx hb d_Re_takeMessage_73 rfl (lv_at hl 0 rfl) ?_
              refine lv_iconst (v := 4) hx hb d_Re_takeMessage_74 (by decide) ?_
              refine lv_icmp_ge (tgt := 133) hx hb d_Re_takeMessage_75 (by decide) (fun c7 => ?_) (fun c7 => ?_)
              · exact absurd c7 (by decide +kernel)
              · refine lv_aload_n hx hb d_Re_takeMessage_78 rfl (lv_at hl 4 rfl) ?_
                refine va_get (D := D9) (ci := 4) (C := R_Re) (T := F_Re) (N := 8) hx hb hts i_Re hown hK hP 5 rfl rfl 0 (by decide) (hts _ g_120) (fun _ h9 => h9) rfl d_Re_takeMessage_79 ?_
                refine lv_iconst (v := 4) hx hb d_Re_takeMessage_82 (by decide) ?_
                refine lv_iconst (v := 2) hx hb d_Re_takeMessage_83 (by decide) ?_
                refine lv_iload_n hx hb d_Re_takeMessage_84 rfl (lv_at hl 0 rfl) ?_
                refine lv_imul hx hb d_Re_takeMessage_85 ?_
                refine lv_iadd hx hb d_Re_takeMessage_86 ?_
                refine mw_cVN (ci := 0) (k := 0) C0 (c_By_twoAt l D9 cB cI cJ cG _ 0 1 _ _ (by decide) (by decide) _ _ rfl rfl _) g_255 g_2 g_252 g_254 gs_By_twoAt ⟨by decide +kernel, by decide +kernel, show Option.map (fun d => d.parameters.length) (parseMethodDescriptor y_By_twoAt.desc) = some 1 by decide +kernel⟩ ⟨by decide, by decide⟩ rfl rfl hP hD hS hA rfl rfl hl.1 (Nat.le_of_ble_eq_true rfl) rfl d_Re_takeMessage_87 ⟨by decide, by decide⟩ (fun v9 w9 H locs hq hP hD hS => ?_)
                obtain ⟨rfl, hw9⟩ := hq
                rw [hw9] at hP hD
                have hP : va_P D9 cls9 [(tp, .inr (0, [.ref tpr, .int 0])), (tpr, .inl (cB, 65536, .inl (fun _ => 0))), (ga, .inr (2, [.ref gb, .ref st, .ref nl, .ref dl, .ref ty, .ref ki, .ref ti, .ref rw, .ref sz, .int _, .int _])), (gb, .inr (0, [.ref gbr, .int (0)])), (sz, .inl (cI, 4, .inl y1_0)), (re, .inr (4, [.ref tp, .ref ga, .int _, .int _, .int _, .int _, .int _, .int _]))] H := hP
                have hD : va_D _ [(tp, .inr (0, [.ref tpr, .int 0])), (tpr, .inl (cB, 65536, .inl (fun _ => 0))), (ga, .inr (2, [.ref gb, .ref st, .ref nl, .ref dl, .ref ty, .ref ki, .ref ti, .ref rw, .ref sz, .int _, .int _])), (gb, .inr (0, [.ref gbr, .int (0)])), (sz, .inl (cI, 4, .inl y1_0)), (re, .inr (4, [.ref tp, .ref ga, .int _, .int _, .int _, .int _, .int _, .int _]))] := hD
                refine lv_istore_n (lv' := [(3, _), (2, _), (4, _), (1, _), (0, _)]) hx hb d_Re_takeMessage_90 rfl hl (by decide) rfl (fun ls hl => ?_)
                refine lv_iconst (v := 0) hx hb d_Re_takeMessage_91 (by decide) ?_
                refine lv_istore (lv' := [(4, _), (3, _), (2, _), (1, _), (0, _)]) hx hb d_Re_takeMessage_92 hl (by decide) rfl (fun ls hl => ?_)
                refine lv_iload hx hb d_Re_takeMessage_94 (lv_at hl 0 rfl) ?_
                refine lv_iload_n hx hb d_Re_takeMessage_96 rfl (lv_at hl 1 rfl) ?_
                refine lv_icmp_ge (tgt := 127) hx hb d_Re_takeMessage_97 (by decide) (fun c8 => ?_) (fun c8 => ?_)
                · refine lv_iinc (lv' := [(2, _), (4, _), (3, _), (1, _), (0, _)]) hx hb d_Re_takeMessage_127 hl (k := 2) rfl rfl (by decide) rfl (fun ls hl => ?_)
                  refine lv_goto (tgt := 73) hx hb d_Re_takeMessage_130 (by decide) ?_
                  refine lv_iload_n hx hb d_Re_takeMessage_73 rfl (lv_at hl 0 rfl) ?_
                  refine lv_iconst (v := 4) hx hb d_Re_takeMessage_74 (by decide) ?_
                  refine lv_icmp_ge (tgt := 133) hx hb d_Re_takeMessage_75 (by decide) (fun c9 => ?_) (fun c9 => ?_)
                  · exact absurd c9 (by decide +kernel)
                  · refine lv_aload_n hx hb d_Re_takeMessage_78 rfl (lv_at hl 4 rfl) ?_
                    refine va_get (D := D9) (ci := 4) (C := R_Re) (T := F_Re) (N := 8) hx hb hts i_Re hown hK hP 5 rfl rfl 0 (by decide) (hts _ g_120) (fun _ h9 => h9) rfl d_Re_takeMessage_79 ?_
                    refine lv_iconst (v := 4) hx hb d_Re_takeMessage_82 (by decide) ?_
                    refine lv_iconst (v := 2) hx hb d_Re_takeMessage_83 (by decide) ?_
                    refine lv_iload_n hx hb d_Re_takeMessage_84 rfl (lv_at hl 0 rfl) ?_
                    refine lv_imul hx hb d_Re_takeMessage_85 ?_
                    refine lv_iadd hx hb d_Re_takeMessage_86 ?_
                    refine mw_cVN (ci := 0) (k := 0) C0 (c_By_twoAt l D9 cB cI cJ cG _ 0 1 _ _ (by decide) (by decide) _ _ rfl rfl _) g_255 g_2 g_252 g_254 gs_By_twoAt ⟨by decide +kernel, by decide +kernel, show Option.map (fun d => d.parameters.length) (parseMethodDescriptor y_By_twoAt.desc) = some 1 by decide +kernel⟩ ⟨by decide, by decide⟩ rfl rfl hP hD hS hA rfl rfl hl.1 (Nat.le_of_ble_eq_true rfl) rfl d_Re_takeMessage_87 ⟨by decide, by decide⟩ (fun v9 w9 H locs hq hP hD hS => ?_)
                    obtain ⟨rfl, hw9⟩ := hq
                    rw [hw9] at hP hD
                    have hP : va_P D9 cls9 [(tp, .inr (0, [.ref tpr, .int 0])), (tpr, .inl (cB, 65536, .inl (fun _ => 0))), (ga, .inr (2, [.ref gb, .ref st, .ref nl, .ref dl, .ref ty, .ref ki, .ref ti, .ref rw, .ref sz, .int _, .int _])), (gb, .inr (0, [.ref gbr, .int (0)])), (sz, .inl (cI, 4, .inl y1_0)), (re, .inr (4, [.ref tp, .ref ga, .int _, .int _, .int _, .int _, .int _, .int _]))] H := hP
                    have hD : va_D _ [(tp, .inr (0, [.ref tpr, .int 0])), (tpr, .inl (cB, 65536, .inl (fun _ => 0))), (ga, .inr (2, [.ref gb, .ref st, .ref nl, .ref dl, .ref ty, .ref ki, .ref ti, .ref rw, .ref sz, .int _, .int _])), (gb, .inr (0, [.ref gbr, .int (0)])), (sz, .inl (cI, 4, .inl y1_0)), (re, .inr (4, [.ref tp, .ref ga, .int _, .int _, .int _, .int _, .int _, .int _]))] := hD
                    refine lv_istore_n (lv' := [(3, _), (2, _), (4, _), (1, _), (0, _)]) hx hb d_Re_takeMessage_90 rfl hl (by decide) rfl (fun ls hl => ?_)
                    refine lv_iconst (v := 0) hx hb d_Re_takeMessage_91 (by decide) ?_
                    refine lv_istore (lv' := [(4, _), (3, _), (2, _), (1, _), (0, _)]) hx hb d_Re_takeMessage_92 hl (by decide) rfl (fun ls hl => ?_)
                    refine lv_iload hx hb d_Re_takeMessage_94 (lv_at hl 0 rfl) ?_
                    refine lv_iload_n hx hb d_Re_takeMessage_96 rfl (lv_at hl 1 rfl) ?_
                    refine lv_icmp_ge (tgt := 127) hx hb d_Re_takeMessage_97 (by decide) (fun c10 => ?_) (fun c10 => ?_)
                    · refine lv_iinc (lv' := [(2, _), (4, _), (3, _), (1, _), (0, _)]) hx hb d_Re_takeMessage_127 hl (k := 2) rfl rfl (by decide) rfl (fun ls hl => ?_)
                      refine lv_goto (tgt := 73) hx hb d_Re_takeMessage_130 (by decide) ?_
                      refine lv_iload_n hx hb d_Re_takeMessage_73 rfl (lv_at hl 0 rfl) ?_
                      refine lv_iconst (v := 4) hx hb d_Re_takeMessage_74 (by decide) ?_
                      refine lv_icmp_ge (tgt := 133) hx hb d_Re_takeMessage_75 (by decide) (fun c11 => ?_) (fun c11 => ?_)
                      · refine lv_iload_n hx hb d_Re_takeMessage_133 rfl (lv_at hl 3 rfl) ?_
                        refine lv_if_eq (tgt := 162) hx hb d_Re_takeMessage_134 (by decide) (fun c12 => ?_) (fun c12 => ?_)
                        · refine lv_aload_n hx hb d_Re_takeMessage_162 rfl (lv_at hl 4 rfl) ?_
                          refine va_get (D := D9) (ci := 4) (C := R_Re) (T := F_Re) (N := 8) hx hb hts i_Re hown hK hP 5 rfl rfl 2 (by decide) (hts _ g_122) (fun _ h9 => h9) rfl d_Re_takeMessage_163 ?_
                          refine lv_if_eq (tgt := 178) hx hb d_Re_takeMessage_166 (by decide) (fun c13 => ?_) (fun c13 => ?_)
                          · exact absurd c13 (by decide +kernel)
                          · refine lv_aload_n hx hb d_Re_takeMessage_169 rfl (lv_at hl 4 rfl) ?_
                            refine va_get (D := D9) (ci := 4) (C := R_Re) (T := F_Re) (N := 8) hx hb hts i_Re hown hK hP 5 rfl rfl 1 (by decide) (hts _ g_121) (fun _ h9 => h9) rfl d_Re_takeMessage_170 ?_
                            refine lv_iconst (v := 0) hx hb d_Re_takeMessage_173 (by decide) ?_
                            refine lv_iconst (v := 0) hx hb d_Re_takeMessage_174 (by decide) ?_
                            refine mf_cVN (wr := [_, _, _]) (ci := 2) (k := 0) C0 (c_Ga_startAnew l D9 cB cI cJ cG ga gbr gb st nl dl ty ki ti rw sz _ _ _ _ _ _) g_263 g_3 g_260 g_262 gs_Ga_startAnew ⟨by decide +kernel, by decide +kernel, show Option.map (fun d => d.parameters.length) (parseMethodDescriptor y_Ga_startAnew.desc) = some 2 by decide +kernel⟩ ⟨by decide, by decide⟩ rfl rfl hP hD hS hA [2, 3, 4] [0, 1, 5] rfl rfl (by decide) (by decide) (by decide) rfl rfl hl.1 (Nat.le_of_ble_eq_true rfl) rfl d_Re_takeMessage_175 ⟨by decide, by decide⟩ (fun v9 w9 H locs hq hP hD hS => ?_)
                            obtain ⟨rfl, y3_0, hw9⟩ := hq
                            rw [hw9] at hP hD
                            have hP : va_P D9 cls9 [(tp, .inr (0, [.ref tpr, .int 0])), (tpr, .inl (cB, 65536, .inl (fun _ => 0))), (re, .inr (4, [.ref tp, .ref ga, .int _, .int _, .int _, .int _, .int _, .int _])), (ga, .inr (2, [.ref gb, .ref st, .ref nl, .ref dl, .ref ty, .ref ki, .ref ti, .ref rw, .ref sz, .int _, .int _])), (gb, .inr (0, [.ref gbr, .int (0)])), (sz, .inl (cI, 4, .inl y3_0))] H := hP
                            have hD : va_D _ [(tp, .inr (0, [.ref tpr, .int 0])), (tpr, .inl (cB, 65536, .inl (fun _ => 0))), (re, .inr (4, [.ref tp, .ref ga, .int _, .int _, .int _, .int _, .int _, .int _])), (ga, .inr (2, [.ref gb, .ref st, .ref nl, .ref dl, .ref ty, .ref ki, .ref ti, .ref rw, .ref sz, .int _, .int _])), (gb, .inr (0, [.ref gbr, .int (0)])), (sz, .inl (cI, 4, .inl y3_0))] := hD
                            refine lv_aload_n hx hb d_Re_takeMessage_178 rfl (lv_at hl 4 rfl) ?_
                            refine va_get (D := D9) (ci := 4) (C := R_Re) (T := F_Re) (N := 8) hx hb hts i_Re hown hK hP 2 rfl rfl 2 (by decide) (hts _ g_122) (fun _ h9 => h9) rfl d_Re_takeMessage_179 ?_
                            exact mw_zret hx hb hr hlocks hS hP hD (by decide) (by decide) d_Re_takeMessage_182 (by first | rfl | decide +kernel) (⟨rfl, _, _, _, _, _, _, _, _, _, rfl⟩)
                        · exact absurd c12 (by decide +kernel)
                      · exact absurd c11 (by decide +kernel)
                    · exact absurd c10 (by decide +kernel)
                · exact absurd c8 (by decide +kernel)
            · exact absurd c6 (by decide +kernel)
        · exact absurd c4 (by decide +kernel)
    · exact absurd c2 (by decide +kernel)
set_option maxHeartbeats 4000000 in
set_option maxRecDepth 100000 in
theorem c_Wm_feed (l : Launch) (D9 : va_G) (cB cI cJ cG : ClassId) (b tp ga re wr na tpr : Nat) (u1 u2 u3 u4 u5 : Int32) : MW l D9 cls9 (ty9 cB cI cJ cG) y_Wm_feed b_Wm_feed 6 (some .int) (rm9 4 0 0) [.ref b, .int u1, .int u2, .int u3, .int u4, .int u5] [(b, .inr (6, [.ref tp, .ref ga, .ref re, .ref wr, .ref na, .int (-1), .int 0])), (tp, .inr (0, [.ref tpr, .int 0])), (tpr, .inl (cB, 65536, .inl (fun _ => 0)))] (fun v8 _ => v8 = some (.int 20)) 0 0 := by
  refine mw_of (by decide) (Nat.le_of_ble_eq_true rfl) ?_
  intro p e s m below meth c ls C0 hin hP hD hA hS hl
  obtain ⟨hx, hb, hml, hr, hlocks, hown, hts, hK⟩ := id C0
  have hl : lv_has ls 6 [(0, .ref b), (1, .int u1), (2, .int u2), (3, .int u3), (4, .int u4), (5, .int u5)] := hl
  refine lv_aload_n hx hb d_Wm_feed_0 rfl (lv_at hl 0 rfl) ?_
  refine va_get (D := D9) (ci := 6) (C := R_Wm) (T := F_Wm) (N := 7) hx hb hts i_Wm hown hK hP 0 rfl rfl 0 (by decide) (hts _ g_222) (fun _ h9 => h9) rfl d_Wm_feed_1 ?_
  refine va_getN (D := D9) (ci := 0) (C := R_By) (T := F_By) (N := 2) hx hb hts i_By hown hK hP 1 rfl rfl 1 (by decide) (hts _ g_36) (fun _ h9 => h9) rfl d_Wm_feed_4 ?_
  refine lv_bipush (v := 20) hx hb d_Wm_feed_7 (by decide) ?_
  refine lv_iadd hx hb d_Wm_feed_9 ?_
  refine lv_ldc hx hb hown (hts _ g_383) d_Wm_feed_10 ?_
  refine lv_icmp_le (tgt := 23) hx hb d_Wm_feed_12 (by decide) (fun c1 => ?_) (fun c1 => ?_)
  · refine lv_aload_n hx hb d_Wm_feed_23 rfl (lv_at hl 0 rfl) ?_
    refine va_get (D := D9) (ci := 6) (C := R_Wm) (T := F_Wm) (N := 7) hx hb hts i_Wm hown hK hP 0 rfl rfl 0 (by decide) (hts _ g_222) (fun _ h9 => h9) rfl d_Wm_feed_24 ?_
    refine lv_iload_n hx hb d_Wm_feed_27 rfl (lv_at hl 1 rfl) ?_
    refine mw_cVN (ci := 0) (k := 1) C0 (c_By_putFour l D9 cB cI cJ cG _ 1 2 _ _ (by decide) (by decide) _ _ rfl rfl _) g_452 g_2 g_449 g_451 gs_By_putFour ⟨by decide +kernel, by decide +kernel, show Option.map (fun d => d.parameters.length) (parseMethodDescriptor y_By_putFour.desc) = some 1 by decide +kernel⟩ ⟨by decide, by decide⟩ rfl rfl hP hD hS hA rfl rfl hl.1 (Nat.le_of_ble_eq_true rfl) rfl d_Wm_feed_28 ⟨by decide, by decide⟩ (fun v9 w9 H locs hq hP hD hS => ?_)
    obtain ⟨rfl, hw9⟩ := hq
    rw [hw9] at hP hD
    have hP : va_P D9 cls9 [(b, .inr (6, [.ref tp, .ref ga, .ref re, .ref wr, .ref na, .int (-1), .int 0])), (tp, .inr (0, [.ref tpr, .int _])), (tpr, .inl (cB, 65536, .inl _))] H := hP
    have hD : va_D _ [(b, .inr (6, [.ref tp, .ref ga, .ref re, .ref wr, .ref na, .int (-1), .int 0])), (tp, .inr (0, [.ref tpr, .int _])), (tpr, .inl (cB, 65536, .inl _))] := hD
    refine lv_aload_n hx hb d_Wm_feed_31 rfl (lv_at hl 0 rfl) ?_
    refine va_get (D := D9) (ci := 6) (C := R_Wm) (T := F_Wm) (N := 7) hx hb hts i_Wm hown hK hP 0 rfl rfl 0 (by decide) (hts _ g_222) (fun _ h9 => h9) rfl d_Wm_feed_32 ?_
    refine lv_iload_n hx hb d_Wm_feed_35 rfl (lv_at hl 2 rfl) ?_
    refine mw_cVN (ci := 0) (k := 1) C0 (c_By_putFour l D9 cB cI cJ cG _ 1 2 _ _ (by decide) (by decide) _ _ rfl rfl _) g_452 g_2 g_449 g_451 gs_By_putFour ⟨by decide +kernel, by decide +kernel, show Option.map (fun d => d.parameters.length) (parseMethodDescriptor y_By_putFour.desc) = some 1 by decide +kernel⟩ ⟨by decide, by decide⟩ rfl rfl hP hD hS hA rfl rfl hl.1 (Nat.le_of_ble_eq_true rfl) rfl d_Wm_feed_36 ⟨by decide, by decide⟩ (fun v9 w9 H locs hq hP hD hS => ?_)
    obtain ⟨rfl, hw9⟩ := hq
    rw [hw9] at hP hD
    have hP : va_P D9 cls9 [(b, .inr (6, [.ref tp, .ref ga, .ref re, .ref wr, .ref na, .int (-1), .int 0])), (tp, .inr (0, [.ref tpr, .int _])), (tpr, .inl (cB, 65536, .inl _))] H := hP
    have hD : va_D _ [(b, .inr (6, [.ref tp, .ref ga, .ref re, .ref wr, .ref na, .int (-1), .int 0])), (tp, .inr (0, [.ref tpr, .int _])), (tpr, .inl (cB, 65536, .inl _))] := hD
    refine lv_aload_n hx hb d_Wm_feed_39 rfl (lv_at hl 0 rfl) ?_
    refine va_get (D := D9) (ci := 6) (C := R_Wm) (T := F_Wm) (N := 7) hx hb hts i_Wm hown hK hP 0 rfl rfl 0 (by decide) (hts _ g_222) (fun _ h9 => h9) rfl d_Wm_feed_40 ?_
    refine lv_iload_n hx hb d_Wm_feed_43 rfl (lv_at hl 3 rfl) ?_
    refine mw_cVN (ci := 0) (k := 1) C0 (c_By_putFour l D9 cB cI cJ cG _ 1 2 _ _ (by decide) (by decide) _ _ rfl rfl _) g_452 g_2 g_449 g_451 gs_By_putFour ⟨by decide +kernel, by decide +kernel, show Option.map (fun d => d.parameters.length) (parseMethodDescriptor y_By_putFour.desc) = some 1 by decide +kernel⟩ ⟨by decide, by decide⟩ rfl rfl hP hD hS hA rfl rfl hl.1 (Nat.le_of_ble_eq_true rfl) rfl d_Wm_feed_44 ⟨by decide, by decide⟩ (fun v9 w9 H locs hq hP hD hS => ?_)
    obtain ⟨rfl, hw9⟩ := hq
    rw [hw9] at hP hD
    have hP : va_P D9 cls9 [(b, .inr (6, [.ref tp, .ref ga, .ref re, .ref wr, .ref na, .int (-1), .int 0])), (tp, .inr (0, [.ref tpr, .int _])), (tpr, .inl (cB, 65536, .inl _))] H := hP
    have hD : va_D _ [(b, .inr (6, [.ref tp, .ref ga, .ref re, .ref wr, .ref na, .int (-1), .int 0])), (tp, .inr (0, [.ref tpr, .int _])), (tpr, .inl (cB, 65536, .inl _))] := hD
    refine lv_aload_n hx hb d_Wm_feed_47 rfl (lv_at hl 0 rfl) ?_
    refine va_get (D := D9) (ci := 6) (C := R_Wm) (T := F_Wm) (N := 7) hx hb hts i_Wm hown hK hP 0 rfl rfl 0 (by decide) (hts _ g_222) (fun _ h9 => h9) rfl d_Wm_feed_48 ?_
    refine lv_iload hx hb d_Wm_feed_51 (lv_at hl 4 rfl) ?_
    refine mw_cVN (ci := 0) (k := 1) C0 (c_By_putFour l D9 cB cI cJ cG _ 1 2 _ _ (by decide) (by decide) _ _ rfl rfl _) g_452 g_2 g_449 g_451 gs_By_putFour ⟨by decide +kernel, by decide +kernel, show Option.map (fun d => d.parameters.length) (parseMethodDescriptor y_By_putFour.desc) = some 1 by decide +kernel⟩ ⟨by decide, by decide⟩ rfl rfl hP hD hS hA rfl rfl hl.1 (Nat.le_of_ble_eq_true rfl) rfl d_Wm_feed_53 ⟨by decide, by decide⟩ (fun v9 w9 H locs hq hP hD hS => ?_)
    obtain ⟨rfl, hw9⟩ := hq
    rw [hw9] at hP hD
    have hP : va_P D9 cls9 [(b, .inr (6, [.ref tp, .ref ga, .ref re, .ref wr, .ref na, .int (-1), .int 0])), (tp, .inr (0, [.ref tpr, .int _])), (tpr, .inl (cB, 65536, .inl _))] H := hP
    have hD : va_D _ [(b, .inr (6, [.ref tp, .ref ga, .ref re, .ref wr, .ref na, .int (-1), .int 0])), (tp, .inr (0, [.ref tpr, .int _])), (tpr, .inl (cB, 65536, .inl _))] := hD
    refine lv_aload_n hx hb d_Wm_feed_56 rfl (lv_at hl 0 rfl) ?_
    refine va_get (D := D9) (ci := 6) (C := R_Wm) (T := F_Wm) (N := 7) hx hb hts i_Wm hown hK hP 0 rfl rfl 0 (by decide) (hts _ g_222) (fun _ h9 => h9) rfl d_Wm_feed_57 ?_
    refine lv_iload hx hb d_Wm_feed_60 (lv_at hl 5 rfl) ?_
    refine mw_cVN (ci := 0) (k := 1) C0 (c_By_putFour l D9 cB cI cJ cG _ 1 2 _ _ (by decide) (by decide) _ _ rfl rfl _) g_452 g_2 g_449 g_451 gs_By_putFour ⟨by decide +kernel, by decide +kernel, show Option.map (fun d => d.parameters.length) (parseMethodDescriptor y_By_putFour.desc) = some 1 by decide +kernel⟩ ⟨by decide, by decide⟩ rfl rfl hP hD hS hA rfl rfl hl.1 (Nat.le_of_ble_eq_true rfl) rfl d_Wm_feed_62 ⟨by decide, by decide⟩ (fun v9 w9 H locs hq hP hD hS => ?_)
    obtain ⟨rfl, hw9⟩ := hq
    rw [hw9] at hP hD
    have hP : va_P D9 cls9 [(b, .inr (6, [.ref tp, .ref ga, .ref re, .ref wr, .ref na, .int (-1), .int 0])), (tp, .inr (0, [.ref tpr, .int _])), (tpr, .inl (cB, 65536, .inl _))] H := hP
    have hD : va_D _ [(b, .inr (6, [.ref tp, .ref ga, .ref re, .ref wr, .ref na, .int (-1), .int 0])), (tp, .inr (0, [.ref tpr, .int _])), (tpr, .inl (cB, 65536, .inl _))] := hD
    refine lv_aload_n hx hb d_Wm_feed_65 rfl (lv_at hl 0 rfl) ?_
    refine va_get (D := D9) (ci := 6) (C := R_Wm) (T := F_Wm) (N := 7) hx hb hts i_Wm hown hK hP 0 rfl rfl 0 (by decide) (hts _ g_222) (fun _ h9 => h9) rfl d_Wm_feed_66 ?_
    refine va_getN (D := D9) (ci := 0) (C := R_By) (T := F_By) (N := 2) hx hb hts i_By hown hK hP 1 rfl rfl 1 (by decide) (hts _ g_36) (fun _ h9 => h9) rfl d_Wm_feed_69 ?_
    exact mw_zret hx hb hr hlocks hS hP hD (by decide) (by decide) d_Wm_feed_72 (by first | rfl | decide +kernel) (rfl)
  · exact absurd c1 (by decide +kernel)
set_option maxHeartbeats 4000000 in
set_option maxRecDepth 100000 in
theorem c_Wm_read (l : Launch) (D9 : va_G) (cB cI cJ cG : ClassId) (b tp ga re wr na tpr gbr gb st nl dl ty ki ti rw sz : Nat) : MW l D9 cls9 (ty9 cB cI cJ cG) y_Wm_read b_Wm_read 2 (some .int) (rm9 3 0 0) [.ref b] [(b, .inr (6, [.ref tp, .ref ga, .ref re, .ref wr, .ref na, .int (-1), .int 0])), (re, .inr (4, [.ref tp, .ref ga, .int 0, .int 0, .int 0, .int 0, .int 0, .int 0])), (tp, .inr (0, [.ref tpr, .int 0])), (tpr, .inl (cB, 65536, .inl (fun _ => 0))), (ga, .inr (2, [.ref gb, .ref st, .ref nl, .ref dl, .ref ty, .ref ki, .ref ti, .ref rw, .ref sz, .int 0, .int 0])), (gb, .inr (0, [.ref gbr, .int 0])), (sz, .inl (cI, 4, .inl (fun _ => 0)))] (fun v8 _ => v8 = some (.int 1)) 0 0 := by
  refine mw_of (by decide) (Nat.le_of_ble_eq_true rfl) ?_
  intro p e s m below meth c ls C0 hin hP hD hA hS hl
  obtain ⟨hx, hb, hml, hr, hlocks, hown, hts, hK⟩ := id C0
  have hl : lv_has ls 2 [(0, .ref b)] := hl
  refine lv_aload_n hx hb d_Wm_read_0 rfl (lv_at hl 0 rfl) ?_
  refine va_get (D := D9) (ci := 6) (C := R_Wm) (T := F_Wm) (N := 7) hx hb hts i_Wm hown hK hP 0 rfl rfl 2 (by decide) (hts _ g_224) (fun _ h9 => h9) rfl d_Wm_read_1 ?_
  refine mf_cVN (wr := [_]) (ci := 4) (k := 0) C0 (c_Re_takeMessage l D9 cB cI cJ cG re tp tpr ga gbr gb st nl dl ty ki ti rw sz _ _ _ _) g_251 g_4 g_248 g_250 gs_Re_takeMessage ⟨by decide +kernel, by decide +kernel, show Option.map (fun d => d.parameters.length) (parseMethodDescriptor y_Re_takeMessage.desc) = some 0 by decide +kernel⟩ ⟨by decide, by decide⟩ rfl rfl hP hD hS hA [1, 2, 3, 4, 5, 6] [0] rfl rfl (by decide) (by decide) (by decide) rfl rfl hl.1 (Nat.le_of_ble_eq_true rfl) rfl d_Wm_read_4 ⟨by decide, by decide⟩ (fun v9 w9 H locs hq hP hD hS => ?_)
  obtain ⟨rfl, y4_0, y4_1, y4_2, y4_3, y4_4, y4_5, y4_6, y4_7, y4_8, hw9⟩ := hq
  rw [hw9] at hP hD
  have hP : va_P D9 cls9 [(b, .inr (6, [.ref tp, .ref ga, .ref re, .ref wr, .ref na, .int (-1), .int 0])), (tp, .inr (0, [.ref tpr, .int 0])), (tpr, .inl (cB, 65536, .inl (fun _ => 0))), (re, .inr (4, [.ref tp, .ref ga, .int y4_0, .int y4_1, .int y4_2, .int y4_3, .int y4_4, .int y4_5])), (ga, .inr (2, [.ref gb, .ref st, .ref nl, .ref dl, .ref ty, .ref ki, .ref ti, .ref rw, .ref sz, .int y4_6, .int y4_7])), (gb, .inr (0, [.ref gbr, .int (0)])), (sz, .inl (cI, 4, .inl y4_8))] H := hP
  have hD : va_D _ [(b, .inr (6, [.ref tp, .ref ga, .ref re, .ref wr, .ref na, .int (-1), .int 0])), (tp, .inr (0, [.ref tpr, .int 0])), (tpr, .inl (cB, 65536, .inl (fun _ => 0))), (re, .inr (4, [.ref tp, .ref ga, .int y4_0, .int y4_1, .int y4_2, .int y4_3, .int y4_4, .int y4_5])), (ga, .inr (2, [.ref gb, .ref st, .ref nl, .ref dl, .ref ty, .ref ki, .ref ti, .ref rw, .ref sz, .int y4_6, .int y4_7])), (gb, .inr (0, [.ref gbr, .int (0)])), (sz, .inl (cI, 4, .inl y4_8))] := hD
  refine lv_istore_n (lv' := [(1, _), (0, _)]) hx hb d_Wm_read_7 rfl hl (by decide) rfl (fun ls hl => ?_)
  refine lv_aload_n hx hb d_Wm_read_8 rfl (lv_at hl 1 rfl) ?_
  refine lv_aload_n hx hb d_Wm_read_9 rfl (lv_at hl 1 rfl) ?_
  refine va_get (D := D9) (ci := 6) (C := R_Wm) (T := F_Wm) (N := 7) hx hb hts i_Wm hown hK hP 0 rfl rfl 2 (by decide) (hts _ g_224) (fun _ h9 => h9) rfl d_Wm_read_10 ?_
  refine va_getN (D := D9) (ci := 4) (C := R_Re) (T := F_Re) (N := 8) hx hb hts i_Re hown hK hP 3 rfl rfl 3 (by decide) (hts _ g_124) (fun _ h9 => h9) rfl d_Wm_read_13 ?_
  refine va_put (D := D9) (ty := .int) (ci := 6) (C := R_Wm) (T := F_Wm) (N := 7) hx hb hts i_Wm t_Wm t_Wm_ok n_Wm hown hK hP hD hS 0 rfl rfl 5 (by decide) (hts _ g_227) (fun _ h9 => h9) rfl (by decide +kernel) rfl rfl (Nat.le_of_ble_eq_true rfl) d_Wm_read_16 (fun H locs hP hD hS => ?_)
  have hP : va_P D9 cls9 [(b, .inr (6, [.ref tp, .ref ga, .ref re, .ref wr, .ref na, .int _, .int 0])), (tp, .inr (0, [.ref tpr, .int 0])), (tpr, .inl (cB, 65536, .inl (fun _ => 0))), (re, .inr (4, [.ref tp, .ref ga, .int y4_0, .int y4_1, .int y4_2, .int y4_3, .int y4_4, .int y4_5])), (ga, .inr (2, [.ref gb, .ref st, .ref nl, .ref dl, .ref ty, .ref ki, .ref ti, .ref rw, .ref sz, .int y4_6, .int y4_7])), (gb, .inr (0, [.ref gbr, .int (0)])), (sz, .inl (cI, 4, .inl y4_8))] H := hP
  have hD : va_D _ [(b, .inr (6, [.ref tp, .ref ga, .ref re, .ref wr, .ref na, .int _, .int 0])), (tp, .inr (0, [.ref tpr, .int 0])), (tpr, .inl (cB, 65536, .inl (fun _ => 0))), (re, .inr (4, [.ref tp, .ref ga, .int y4_0, .int y4_1, .int y4_2, .int y4_3, .int y4_4, .int y4_5])), (ga, .inr (2, [.ref gb, .ref st, .ref nl, .ref dl, .ref ty, .ref ki, .ref ti, .ref rw, .ref sz, .int y4_6, .int y4_7])), (gb, .inr (0, [.ref gbr, .int (0)])), (sz, .inl (cI, 4, .inl y4_8))] := hD
  refine lv_iload_n hx hb d_Wm_read_19 rfl (lv_at hl 0 rfl) ?_
  refine lv_if_ne (tgt := 34) hx hb d_Wm_read_20 (by decide) (fun c1 => ?_) (fun c1 => ?_)
  · refine lv_aload_n hx hb d_Wm_read_34 rfl (lv_at hl 1 rfl) ?_
    refine va_get (D := D9) (ci := 6) (C := R_Wm) (T := F_Wm) (N := 7) hx hb hts i_Wm hown hK hP 0 rfl rfl 0 (by decide) (hts _ g_222) (fun _ h9 => h9) rfl d_Wm_read_35 ?_
    refine lv_iconst (v := 0) hx hb d_Wm_read_38 (by decide) ?_
    refine va_putN (D := D9) (ty := .int) (ci := 0) (C := R_By) (T := F_By) (N := 2) hx hb hts i_By t_By t_By_ok n_By hown hK hP hD hS 1 rfl rfl 1 (by decide) (hts _ g_36) (fun _ h9 => h9) rfl (by decide +kernel) rfl rfl (Nat.le_of_ble_eq_true rfl) d_Wm_read_39 (fun H locs hP hD hS => ?_)
    have hP : va_P D9 cls9 [(b, .inr (6, [.ref tp, .ref ga, .ref re, .ref wr, .ref na, .int _, .int 0])), (tp, .inr (0, [.ref tpr, .int (0)])), (tpr, .inl (cB, 65536, .inl (fun _ => 0))), (re, .inr (4, [.ref tp, .ref ga, .int y4_0, .int y4_1, .int y4_2, .int y4_3, .int y4_4, .int y4_5])), (ga, .inr (2, [.ref gb, .ref st, .ref nl, .ref dl, .ref ty, .ref ki, .ref ti, .ref rw, .ref sz, .int y4_6, .int y4_7])), (gb, .inr (0, [.ref gbr, .int (0)])), (sz, .inl (cI, 4, .inl y4_8))] H := hP
    have hD : va_D _ [(b, .inr (6, [.ref tp, .ref ga, .ref re, .ref wr, .ref na, .int _, .int 0])), (tp, .inr (0, [.ref tpr, .int (0)])), (tpr, .inl (cB, 65536, .inl (fun _ => 0))), (re, .inr (4, [.ref tp, .ref ga, .int y4_0, .int y4_1, .int y4_2, .int y4_3, .int y4_4, .int y4_5])), (ga, .inr (2, [.ref gb, .ref st, .ref nl, .ref dl, .ref ty, .ref ki, .ref ti, .ref rw, .ref sz, .int y4_6, .int y4_7])), (gb, .inr (0, [.ref gbr, .int (0)])), (sz, .inl (cI, 4, .inl y4_8))] := hD
    refine lv_iload_n hx hb d_Wm_read_42 rfl (lv_at hl 0 rfl) ?_
    exact mw_zret hx hb hr hlocks hS hP hD (by decide) (by decide) d_Wm_read_43 (by first | rfl | decide +kernel) (rfl)
  · exact absurd c1 (by decide +kernel)
set_option maxHeartbeats 4000000 in
set_option maxRecDepth 100000 in
theorem c_Wm_faultAt (l : Launch) (D9 : va_G) (cB cI cJ cG : ClassId) (b tp ga re wr na : Nat) : MW l D9 cls9 (ty9 cB cI cJ cG) y_Wm_faultAt b_Wm_faultAt 1 (some .int) (rm9 0 0 0) [.ref b] [(b, .inr (6, [.ref tp, .ref ga, .ref re, .ref wr, .ref na, .int (-1), .int 0]))] (fun v8 _ => v8 = some (.int (-1))) 0 0 := by
  refine mw_of (by decide) (Nat.le_of_ble_eq_true rfl) ?_
  intro p e s m below meth c ls C0 hin hP hD hA hS hl
  obtain ⟨hx, hb, hml, hr, hlocks, hown, hts, hK⟩ := id C0
  have hl : lv_has ls 1 [(0, .ref b)] := hl
  refine lv_aload_n hx hb d_Wm_faultAt_0 rfl (lv_at hl 0 rfl) ?_
  refine va_get (D := D9) (ci := 6) (C := R_Wm) (T := F_Wm) (N := 7) hx hb hts i_Wm hown hK hP 0 rfl rfl 5 (by decide) (hts _ g_227) (fun _ h9 => h9) rfl d_Wm_faultAt_1 ?_
  exact mw_zret hx hb hr hlocks hS hP hD (by decide) (by decide) d_Wm_faultAt_4 (by first | rfl | decide +kernel) (rfl)
set_option maxHeartbeats 4000000 in
set_option maxRecDepth 100000 in
theorem c_Wm_begin (l : Launch) (D9 : va_G) (cB cI cJ cG : ClassId) (b tp ga re wr na gbr gb st nl dl ty ki ti rw sz : Nat) (u1 u2 : Int32) : MW l D9 cls9 (ty9 cB cI cJ cG) y_Wm_begin b_Wm_begin 3 none (rm9 2 0 0) [.ref b, .int u1, .int u2] [(b, .inr (6, [.ref tp, .ref ga, .ref re, .ref wr, .ref na, .int (-1), .int 0])), (ga, .inr (2, [.ref gb, .ref st, .ref nl, .ref dl, .ref ty, .ref ki, .ref ti, .ref rw, .ref sz, .int 0, .int 0])), (gb, .inr (0, [.ref gbr, .int 0])), (sz, .inl (cI, 4, .inl (fun _ => 0)))] (fun v8 _ => v8 = none) 0 0 := by
  refine mw_of (by decide) (Nat.le_of_ble_eq_true rfl) ?_
  intro p e s m below meth c ls C0 hin hP hD hA hS hl
  obtain ⟨hx, hb, hml, hr, hlocks, hown, hts, hK⟩ := id C0
  have hl : lv_has ls 3 [(0, .ref b), (1, .int u1), (2, .int u2)] := hl
  refine lv_aload_n hx hb d_Wm_begin_0 rfl (lv_at hl 0 rfl) ?_
  refine va_get (D := D9) (ci := 6) (C := R_Wm) (T := F_Wm) (N := 7) hx hb hts i_Wm hown hK hP 0 rfl rfl 1 (by decide) (hts _ g_223) (fun _ h9 => h9) rfl d_Wm_begin_1 ?_
  refine lv_iload_n hx hb d_Wm_begin_4 rfl (lv_at hl 1 rfl) ?_
  refine lv_ldc hx hb hown (hts _ g_369) d_Wm_begin_5 ?_
  refine lv_iand hx hb d_Wm_begin_7 ?_
  refine lv_iload_n hx hb d_Wm_begin_8 rfl (lv_at hl 2 rfl) ?_
  refine lv_ldc hx hb hown (hts _ g_369) d_Wm_begin_9 ?_
  refine lv_iand hx hb d_Wm_begin_11 ?_
  refine mf_cVN (wr := [_]) (ci := 2) (k := 0) C0 (c_Ga_startAnew l D9 cB cI cJ cG ga gbr gb st nl dl ty ki ti rw sz _ _ _ _ _ _) g_263 g_3 g_370 g_262 gs_Ga_startAnew ⟨by decide +kernel, by decide +kernel, show Option.map (fun d => d.parameters.length) (parseMethodDescriptor y_Ga_startAnew.desc) = some 2 by decide +kernel⟩ ⟨by decide, by decide⟩ rfl rfl hP hD hS hA [1, 2, 3] [0] rfl rfl (by decide) (by decide) (by decide) rfl rfl hl.1 (Nat.le_of_ble_eq_true rfl) rfl d_Wm_begin_12 ⟨by decide, by decide⟩ (fun v9 w9 H locs hq hP hD hS => ?_)
  obtain ⟨rfl, y5_0, hw9⟩ := hq
  rw [hw9] at hP hD
  have hP : va_P D9 cls9 [(b, .inr (6, [.ref tp, .ref ga, .ref re, .ref wr, .ref na, .int (-1), .int 0])), (ga, .inr (2, [.ref gb, .ref st, .ref nl, .ref dl, .ref ty, .ref ki, .ref ti, .ref rw, .ref sz, .int _, .int _])), (gb, .inr (0, [.ref gbr, .int (0)])), (sz, .inl (cI, 4, .inl y5_0))] H := hP
  have hD : va_D _ [(b, .inr (6, [.ref tp, .ref ga, .ref re, .ref wr, .ref na, .int (-1), .int 0])), (ga, .inr (2, [.ref gb, .ref st, .ref nl, .ref dl, .ref ty, .ref ki, .ref ti, .ref rw, .ref sz, .int _, .int _])), (gb, .inr (0, [.ref gbr, .int (0)])), (sz, .inl (cI, 4, .inl y5_0))] := hD
  exact mw_vret hx hb hr hlocks hS hP hD (by decide) (by decide) d_Wm_begin_15 (rfl)
