theorem il_1 {x : Int32} (h : x < 1) : x ≤ 0 := by
  have h1 := Int32.lt_iff_toInt_lt.mp h
  rw [Int32.le_iff_toInt_le]
  simp at h1 ⊢
  omega
theorem il_1r {x : Int32} (h : x ≤ 0) : x < 1 := by
  have h1 := Int32.le_iff_toInt_le.mp h
  rw [Int32.lt_iff_toInt_lt]
  simp at h1 ⊢
  omega
theorem il_4 {x : Int32} (h : 3 < x) : 4 ≤ x := by
  have h1 := Int32.lt_iff_toInt_lt.mp h
  rw [Int32.le_iff_toInt_le]
  simp at h1 ⊢
  omega
theorem il_3 {x : Int32} (h : x ≤ 3) : x < 4 := by
  have h1 := Int32.le_iff_toInt_le.mp h
  rw [Int32.lt_iff_toInt_lt]
  simp at h1 ⊢
  omega
theorem g_8 : (Cond.initialized "WireMessagesModel") ∈ GT := gt_mem 8 (by decide +kernel) rfl
theorem g_722 : (Cond.fieldLink "WireMessagesModel" (61 : Nat) "WireMessagesModel" "thrown" "I") ∈ GT := gt_mem 722 (by decide +kernel) rfl
theorem g_724 : (Cond.fieldLink "WireMessagesModel" (86 : Nat) "WireMessagesModel" "tapes" "I") ∈ GT := gt_mem 724 (by decide +kernel) rfl
theorem g_726 : (Cond.fieldLink "WireMessagesModel" (64 : Nat) "WireMessagesModel" "stored" "I") ∈ GT := gt_mem 726 (by decide +kernel) rfl
theorem g_727 : (Cond.fieldLink "WireMessagesModel" (67 : Nat) "WireMessagesModel" "entries" "I") ∈ GT := gt_mem 727 (by decide +kernel) rfl
theorem g_728 : (Cond.fieldLink "WireMessagesModel" (70 : Nat) "WireMessagesModel" "id" "I") ∈ GT := gt_mem 728 (by decide +kernel) rfl
theorem g_729 : (Cond.fieldLink "WireMessagesModel" (73 : Nat) "WireMessagesModel" "flags" "I") ∈ GT := gt_mem 729 (by decide +kernel) rfl
theorem g_740 : (Cond.fieldLink "WireMessagesModel" (134 : Nat) "WireMessagesModel" "lastFollowed" "I") ∈ GT := gt_mem 740 (by decide +kernel) rfl
theorem g_746 : (Cond.fieldLink "WireMessagesModel" (153 : Nat) "WireMessagesModel" "length" "I") ∈ GT := gt_mem 746 (by decide +kernel) rfl
theorem g_747 : (Cond.fieldLink "WireMessagesModel" (173 : Nat) "WireMessagesModel" "pointers" "I") ∈ GT := gt_mem 747 (by decide +kernel) rfl
theorem g_821 : (Cond.methodLink "WireMessagesModel" (128 : Nat) ({ cls := "WireMessagesModel", name := "none", desc := "()V" } : MethodName)) ∈ GT := gt_mem 821 (by decide +kernel) rfl
theorem g_823 : (Cond.instanceMethod ({ cls := "WireMessagesModel", name := "none", desc := "()V" } : MethodName)) ∈ GT := gt_mem 823 (by decide +kernel) rfl
theorem g_824 : (Cond.code ({ cls := "WireMessagesModel", name := "none", desc := "()V" } : MethodName) prog_10_method_4_code (1 : Nat) (Option.none : Option FieldType)) ∈ GT := gt_mem 824 (by decide +kernel) rfl
theorem g_857 : (Cond.methodLink "WireMessagesModel" (76 : Nat) ({ cls := "WireMessagesModel", name := "countOf", desc := "(I)I" } : MethodName)) ∈ GT := gt_mem 857 (by decide +kernel) rfl
theorem g_859 : (Cond.instanceMethod ({ cls := "WireMessagesModel", name := "countOf", desc := "(I)I" } : MethodName)) ∈ GT := gt_mem 859 (by decide +kernel) rfl
theorem g_860 : (Cond.code ({ cls := "WireMessagesModel", name := "countOf", desc := "(I)I" } : MethodName) prog_10_method_5_code (4 : Nat) (Option.some FieldType.int)) ∈ GT := gt_mem 860 (by decide +kernel) rfl
theorem g_874 : (Cond.methodLink "WireMessagesModel" (138 : Nat) ({ cls := "WireMessagesModel", name := "fail", desc := "(I)I" } : MethodName)) ∈ GT := gt_mem 874 (by decide +kernel) rfl
theorem g_876 : (Cond.instanceMethod ({ cls := "WireMessagesModel", name := "fail", desc := "(I)I" } : MethodName)) ∈ GT := gt_mem 876 (by decide +kernel) rfl
theorem g_877 : (Cond.code ({ cls := "WireMessagesModel", name := "fail", desc := "(I)I" } : MethodName) prog_10_method_3_code (2 : Nat) (Option.some FieldType.int)) ∈ GT := gt_mem 877 (by decide +kernel) rfl
theorem g_886 : (Cond.constant "WireMessagesModel" (141 : Nat) (65535 : Int32)) ∈ GT := gt_mem 886 (by decide +kernel) rfl
theorem g_891 : (Cond.methodLink "WireMessagesModel" (142 : Nat) ({ cls := "WireMessagesModel", name := "wholeName", desc := "(I)I" } : MethodName)) ∈ GT := gt_mem 891 (by decide +kernel) rfl
theorem g_893 : (Cond.instanceMethod ({ cls := "WireMessagesModel", name := "wholeName", desc := "(I)I" } : MethodName)) ∈ GT := gt_mem 893 (by decide +kernel) rfl
theorem g_894 : (Cond.code ({ cls := "WireMessagesModel", name := "wholeName", desc := "(I)I" } : MethodName) prog_10_method_21_code (3 : Nat) (Option.some FieldType.int)) ∈ GT := gt_mem 894 (by decide +kernel) rfl
theorem g_960 : (Cond.methodLink "WireMessagesModel" (190 : Nat) ({ cls := "WireMessagesModel", name := "place", desc := "(II)I" } : MethodName)) ∈ GT := gt_mem 960 (by decide +kernel) rfl
theorem g_962 : (Cond.instanceMethod ({ cls := "WireMessagesModel", name := "place", desc := "(II)I" } : MethodName)) ∈ GT := gt_mem 962 (by decide +kernel) rfl
theorem g_963 : (Cond.code ({ cls := "WireMessagesModel", name := "place", desc := "(II)I" } : MethodName) prog_10_method_7_code (5 : Nat) (Option.some FieldType.int)) ∈ GT := gt_mem 963 (by decide +kernel) rfl
theorem gs_Mo_none : Cond.selects R_Mo y_Mo_none y_Mo_none ∈ GT := gt_sel (q := (⟨"WireMessagesModel", "none", "()V"⟩, 30)) (by decide +kernel)
theorem gs_Mo_fail : Cond.selects R_Mo y_Mo_fail y_Mo_fail ∈ GT := gt_sel (q := (⟨"WireMessagesModel", "fail", "(I)I"⟩, 30)) (by decide +kernel)
theorem gs_Mo_wholeName : Cond.selects R_Mo y_Mo_wholeName y_Mo_wholeName ∈ GT := gt_sel (q := (⟨"WireMessagesModel", "wholeName", "(I)I"⟩, 30)) (by decide +kernel)
theorem gs_Mo_countOf : Cond.selects R_Mo y_Mo_countOf y_Mo_countOf ∈ GT := gt_sel (q := (⟨"WireMessagesModel", "countOf", "(I)I"⟩, 30)) (by decide +kernel)
theorem gs_Mo_place : Cond.selects R_Mo y_Mo_place y_Mo_place ∈ GT := gt_sel (q := (⟨"WireMessagesModel", "place", "(II)I"⟩, 30)) (by decide +kernel)
theorem d_Mo_fail_0 : decode b_Mo_fail 0 = .ok (.aload_n 0, 1) := by decide +kernel
theorem d_Mo_fail_1 : decode b_Mo_fail 1 = .ok (.iload_n 1, 1) := by decide +kernel
theorem d_Mo_fail_2 : decode b_Mo_fail 2 = .ok (.putfield 61, 3) := by decide +kernel
theorem d_Mo_fail_5 : decode b_Mo_fail 5 = .ok (.iconst 0, 1) := by decide +kernel
theorem d_Mo_fail_6 : decode b_Mo_fail 6 = .ok (.ireturn, 1) := by decide +kernel
theorem d_Mo_none_0 : decode b_Mo_none 0 = .ok (.aload_n 0, 1) := by decide +kernel
theorem d_Mo_none_1 : decode b_Mo_none 1 = .ok (.iconst 0, 1) := by decide +kernel
theorem d_Mo_none_2 : decode b_Mo_none 2 = .ok (.putfield 64, 3) := by decide +kernel
theorem d_Mo_none_5 : decode b_Mo_none 5 = .ok (.aload_n 0, 1) := by decide +kernel
theorem d_Mo_none_6 : decode b_Mo_none 6 = .ok (.iconst 0, 1) := by decide +kernel
theorem d_Mo_none_7 : decode b_Mo_none 7 = .ok (.putfield 67, 3) := by decide +kernel
theorem d_Mo_none_10 : decode b_Mo_none 10 = .ok (.aload_n 0, 1) := by decide +kernel
theorem d_Mo_none_11 : decode b_Mo_none 11 = .ok (.iconst 0, 1) := by decide +kernel
theorem d_Mo_none_12 : decode b_Mo_none 12 = .ok (.putfield 70, 3) := by decide +kernel
theorem d_Mo_none_15 : decode b_Mo_none 15 = .ok (.aload_n 0, 1) := by decide +kernel
theorem d_Mo_none_16 : decode b_Mo_none 16 = .ok (.iconst 0, 1) := by decide +kernel
theorem d_Mo_none_17 : decode b_Mo_none 17 = .ok (.putfield 73, 3) := by decide +kernel
theorem d_Mo_none_20 : decode b_Mo_none 20 = .ok (.return_, 1) := by decide +kernel
theorem d_Mo_wholeName_0 : decode b_Mo_wholeName 0 = .ok (.iload_n 1, 1) := by decide +kernel
theorem d_Mo_wholeName_1 : decode b_Mo_wholeName 1 = .ok (.istore_n 2, 1) := by decide +kernel
theorem d_Mo_wholeName_2 : decode b_Mo_wholeName 2 = .ok (.iload_n 2, 1) := by decide +kernel
theorem d_Mo_wholeName_3 : decode b_Mo_wholeName 3 = .ok (.aload_n 0, 1) := by decide +kernel
theorem d_Mo_wholeName_4 : decode b_Mo_wholeName 4 = .ok (.getfield 86, 3) := by decide +kernel
theorem d_Mo_wholeName_7 : decode b_Mo_wholeName 7 = .ok (.if_icmp .ge 36, 3) := by decide +kernel
theorem d_Mo_wholeName_10 : decode b_Mo_wholeName 10 = .ok (.aload_n 0, 1) := by decide +kernel
theorem d_Mo_wholeName_11 : decode b_Mo_wholeName 11 = .ok (.iload_n 2, 1) := by decide +kernel
theorem d_Mo_wholeName_12 : decode b_Mo_wholeName 12 = .ok (.invokevirtual 83, 3) := by decide +kernel
theorem d_Mo_wholeName_15 : decode b_Mo_wholeName 15 = .ok (.ifCond .le 28, 3) := by decide +kernel
theorem d_Mo_wholeName_18 : decode b_Mo_wholeName 18 = .ok (.aload_n 0, 1) := by decide +kernel
theorem d_Mo_wholeName_19 : decode b_Mo_wholeName 19 = .ok (.iload_n 2, 1) := by decide +kernel
theorem d_Mo_wholeName_20 : decode b_Mo_wholeName 20 = .ok (.invokevirtual 83, 3) := by decide +kernel
theorem d_Mo_wholeName_23 : decode b_Mo_wholeName 23 = .ok (.bipush 63, 2) := by decide +kernel
theorem d_Mo_wholeName_25 : decode b_Mo_wholeName 25 = .ok (.if_icmp .le 5, 3) := by decide +kernel
theorem d_Mo_wholeName_28 : decode b_Mo_wholeName 28 = .ok (.iconst (-1), 1) := by decide +kernel
theorem d_Mo_wholeName_29 : decode b_Mo_wholeName 29 = .ok (.ireturn, 1) := by decide +kernel
theorem d_Mo_wholeName_30 : decode b_Mo_wholeName 30 = .ok (.iload_n 2, 1) := by decide +kernel
theorem d_Mo_wholeName_31 : decode b_Mo_wholeName 31 = .ok (.iconst 1, 1) := by decide +kernel
theorem d_Mo_wholeName_32 : decode b_Mo_wholeName 32 = .ok (.aload_n 0, 1) := by decide +kernel
theorem d_Mo_wholeName_33 : decode b_Mo_wholeName 33 = .ok (.iload_n 2, 1) := by decide +kernel
theorem d_Mo_wholeName_34 : decode b_Mo_wholeName 34 = .ok (.invokevirtual 83, 3) := by decide +kernel
theorem d_Mo_wholeName_37 : decode b_Mo_wholeName 37 = .ok (.iadd, 1) := by decide +kernel
theorem d_Mo_wholeName_38 : decode b_Mo_wholeName 38 = .ok (.iadd, 1) := by decide +kernel
theorem d_Mo_wholeName_39 : decode b_Mo_wholeName 39 = .ok (.istore_n 2, 1) := by decide +kernel
theorem d_Mo_wholeName_40 : decode b_Mo_wholeName 40 = .ok (.goto (-38), 3) := by decide +kernel
theorem d_Mo_wholeName_43 : decode b_Mo_wholeName 43 = .ok (.iload_n 2, 1) := by decide +kernel
theorem d_Mo_wholeName_44 : decode b_Mo_wholeName 44 = .ok (.aload_n 0, 1) := by decide +kernel
theorem d_Mo_wholeName_45 : decode b_Mo_wholeName 45 = .ok (.getfield 86, 3) := by decide +kernel
theorem d_Mo_wholeName_48 : decode b_Mo_wholeName 48 = .ok (.if_icmp .ge 14, 3) := by decide +kernel
theorem d_Mo_wholeName_51 : decode b_Mo_wholeName 51 = .ok (.iload_n 2, 1) := by decide +kernel
theorem d_Mo_wholeName_52 : decode b_Mo_wholeName 52 = .ok (.iconst 1, 1) := by decide +kernel
theorem d_Mo_wholeName_53 : decode b_Mo_wholeName 53 = .ok (.iadd, 1) := by decide +kernel
theorem d_Mo_wholeName_54 : decode b_Mo_wholeName 54 = .ok (.iload_n 1, 1) := by decide +kernel
theorem d_Mo_wholeName_55 : decode b_Mo_wholeName 55 = .ok (.isub, 1) := by decide +kernel
theorem d_Mo_wholeName_56 : decode b_Mo_wholeName 56 = .ok (.sipush 255, 3) := by decide +kernel
theorem d_Mo_wholeName_59 : decode b_Mo_wholeName 59 = .ok (.if_icmp .le 7, 3) := by decide +kernel
theorem d_Mo_wholeName_62 : decode b_Mo_wholeName 62 = .ok (.iconst (-1), 1) := by decide +kernel
theorem d_Mo_wholeName_63 : decode b_Mo_wholeName 63 = .ok (.goto 6, 3) := by decide +kernel
theorem d_Mo_wholeName_66 : decode b_Mo_wholeName 66 = .ok (.iload_n 2, 1) := by decide +kernel
theorem d_Mo_wholeName_67 : decode b_Mo_wholeName 67 = .ok (.iconst 1, 1) := by decide +kernel
theorem d_Mo_wholeName_68 : decode b_Mo_wholeName 68 = .ok (.iadd, 1) := by decide +kernel
theorem d_Mo_wholeName_69 : decode b_Mo_wholeName 69 = .ok (.ireturn, 1) := by decide +kernel
theorem d_Mo_countOf_0 : decode b_Mo_countOf 0 = .ok (.iconst 0, 1) := by decide +kernel
theorem d_Mo_countOf_1 : decode b_Mo_countOf 1 = .ok (.istore_n 2, 1) := by decide +kernel
theorem d_Mo_countOf_2 : decode b_Mo_countOf 2 = .ok (.iconst 0, 1) := by decide +kernel
theorem d_Mo_countOf_3 : decode b_Mo_countOf 3 = .ok (.istore_n 3, 1) := by decide +kernel
theorem d_Mo_countOf_4 : decode b_Mo_countOf 4 = .ok (.iload_n 3, 1) := by decide +kernel
theorem d_Mo_countOf_5 : decode b_Mo_countOf 5 = .ok (.aload_n 0, 1) := by decide +kernel
theorem d_Mo_countOf_6 : decode b_Mo_countOf 6 = .ok (.getfield 67, 3) := by decide +kernel
theorem d_Mo_countOf_9 : decode b_Mo_countOf 9 = .ok (.if_icmp .ge 22, 3) := by decide +kernel
theorem d_Mo_countOf_12 : decode b_Mo_countOf 12 = .ok (.aload_n 0, 1) := by decide +kernel
theorem d_Mo_countOf_13 : decode b_Mo_countOf 13 = .ok (.getfield 18, 3) := by decide +kernel
theorem d_Mo_countOf_16 : decode b_Mo_countOf 16 = .ok (.iload_n 3, 1) := by decide +kernel
theorem d_Mo_countOf_17 : decode b_Mo_countOf 17 = .ok (.iaload, 1) := by decide +kernel
theorem d_Mo_countOf_18 : decode b_Mo_countOf 18 = .ok (.iload_n 1, 1) := by decide +kernel
theorem d_Mo_countOf_19 : decode b_Mo_countOf 19 = .ok (.if_icmp .ne 6, 3) := by decide +kernel
theorem d_Mo_countOf_22 : decode b_Mo_countOf 22 = .ok (.iinc 2 1, 3) := by decide +kernel
theorem d_Mo_countOf_25 : decode b_Mo_countOf 25 = .ok (.iinc 3 1, 3) := by decide +kernel
theorem d_Mo_countOf_28 : decode b_Mo_countOf 28 = .ok (.goto (-24), 3) := by decide +kernel
theorem d_Mo_countOf_31 : decode b_Mo_countOf 31 = .ok (.iload_n 2, 1) := by decide +kernel
theorem d_Mo_countOf_32 : decode b_Mo_countOf 32 = .ok (.ireturn, 1) := by decide +kernel
theorem d_Mo_place_0 : decode b_Mo_place 0 = .ok (.iload_n 2, 1) := by decide +kernel
theorem d_Mo_place_1 : decode b_Mo_place 1 = .ok (.istore_n 3, 1) := by decide +kernel
theorem d_Mo_place_2 : decode b_Mo_place 2 = .ok (.iload_n 2, 1) := by decide +kernel
theorem d_Mo_place_3 : decode b_Mo_place 3 = .ok (.ifCond .ge 5, 3) := by decide +kernel
theorem d_Mo_place_6 : decode b_Mo_place 6 = .ok (.iconst (-1), 1) := by decide +kernel
theorem d_Mo_place_7 : decode b_Mo_place 7 = .ok (.ireturn, 1) := by decide +kernel
theorem d_Mo_place_8 : decode b_Mo_place 8 = .ok (.iconst 0, 1) := by decide +kernel
theorem d_Mo_place_9 : decode b_Mo_place 9 = .ok (.istore 4, 2) := by decide +kernel
theorem d_Mo_place_11 : decode b_Mo_place 11 = .ok (.iload 4, 2) := by decide +kernel
theorem d_Mo_place_13 : decode b_Mo_place 13 = .ok (.aload_n 0, 1) := by decide +kernel
theorem d_Mo_place_14 : decode b_Mo_place 14 = .ok (.getfield 67, 3) := by decide +kernel
theorem d_Mo_place_17 : decode b_Mo_place 17 = .ok (.if_icmp .ge 33, 3) := by decide +kernel
theorem d_Mo_place_20 : decode b_Mo_place 20 = .ok (.aload_n 0, 1) := by decide +kernel
theorem d_Mo_place_21 : decode b_Mo_place 21 = .ok (.getfield 18, 3) := by decide +kernel
theorem d_Mo_place_24 : decode b_Mo_place 24 = .ok (.iload 4, 2) := by decide +kernel
theorem d_Mo_place_26 : decode b_Mo_place 26 = .ok (.iaload, 1) := by decide +kernel
theorem d_Mo_place_27 : decode b_Mo_place 27 = .ok (.iload_n 1, 1) := by decide +kernel
theorem d_Mo_place_28 : decode b_Mo_place 28 = .ok (.if_icmp .eq 6, 3) := by decide +kernel
theorem d_Mo_place_31 : decode b_Mo_place 31 = .ok (.goto 13, 3) := by decide +kernel
theorem d_Mo_place_34 : decode b_Mo_place 34 = .ok (.iload_n 3, 1) := by decide +kernel
theorem d_Mo_place_35 : decode b_Mo_place 35 = .ok (.ifCond .ne 6, 3) := by decide +kernel
theorem d_Mo_place_38 : decode b_Mo_place 38 = .ok (.iload 4, 2) := by decide +kernel
theorem d_Mo_place_40 : decode b_Mo_place 40 = .ok (.ireturn, 1) := by decide +kernel
theorem d_Mo_place_41 : decode b_Mo_place 41 = .ok (.iinc 3 (-1), 3) := by decide +kernel
theorem d_Mo_place_44 : decode b_Mo_place 44 = .ok (.iinc 4 1, 3) := by decide +kernel
theorem d_Mo_place_47 : decode b_Mo_place 47 = .ok (.goto (-36), 3) := by decide +kernel
theorem d_Mo_place_50 : decode b_Mo_place 50 = .ok (.iconst (-1), 1) := by decide +kernel
theorem d_Mo_place_51 : decode b_Mo_place 51 = .ok (.ireturn, 1) := by decide +kernel
theorem d_Mo_faultAt_0 : decode b_Mo_faultAt 0 = .ok (.aload_n 0, 1) := by decide +kernel
theorem d_Mo_faultAt_1 : decode b_Mo_faultAt 1 = .ok (.iconst 0, 1) := by decide +kernel
theorem d_Mo_faultAt_2 : decode b_Mo_faultAt 2 = .ok (.putfield 61, 3) := by decide +kernel
theorem d_Mo_faultAt_5 : decode b_Mo_faultAt 5 = .ok (.aload_n 0, 1) := by decide +kernel
theorem d_Mo_faultAt_6 : decode b_Mo_faultAt 6 = .ok (.getfield 43, 3) := by decide +kernel
theorem d_Mo_faultAt_9 : decode b_Mo_faultAt 9 = .ok (.ireturn, 1) := by decide +kernel
theorem d_Mo_begin_0 : decode b_Mo_begin 0 = .ok (.aload_n 0, 1) := by decide +kernel
theorem d_Mo_begin_1 : decode b_Mo_begin 1 = .ok (.iconst 0, 1) := by decide +kernel
theorem d_Mo_begin_2 : decode b_Mo_begin 2 = .ok (.putfield 61, 3) := by decide +kernel
theorem d_Mo_begin_5 : decode b_Mo_begin 5 = .ok (.aload_n 0, 1) := by decide +kernel
theorem d_Mo_begin_6 : decode b_Mo_begin 6 = .ok (.invokevirtual 128, 3) := by decide +kernel
theorem d_Mo_begin_9 : decode b_Mo_begin 9 = .ok (.aload_n 0, 1) := by decide +kernel
theorem d_Mo_begin_10 : decode b_Mo_begin 10 = .ok (.iload_n 1, 1) := by decide +kernel
theorem d_Mo_begin_11 : decode b_Mo_begin 11 = .ok (.ldc 141, 2) := by decide +kernel
theorem d_Mo_begin_13 : decode b_Mo_begin 13 = .ok (.iand, 1) := by decide +kernel
theorem d_Mo_begin_14 : decode b_Mo_begin 14 = .ok (.putfield 70, 3) := by decide +kernel
theorem d_Mo_begin_17 : decode b_Mo_begin 17 = .ok (.aload_n 0, 1) := by decide +kernel
theorem d_Mo_begin_18 : decode b_Mo_begin 18 = .ok (.iload_n 2, 1) := by decide +kernel
theorem d_Mo_begin_19 : decode b_Mo_begin 19 = .ok (.ldc 141, 2) := by decide +kernel
theorem d_Mo_begin_21 : decode b_Mo_begin 21 = .ok (.iand, 1) := by decide +kernel
theorem d_Mo_begin_22 : decode b_Mo_begin 22 = .ok (.putfield 73, 3) := by decide +kernel
theorem d_Mo_begin_25 : decode b_Mo_begin 25 = .ok (.return_, 1) := by decide +kernel
theorem d_Mo_end_0 : decode b_Mo_end 0 = .ok (.aload_n 0, 1) := by decide +kernel
theorem d_Mo_end_1 : decode b_Mo_end 1 = .ok (.iconst 0, 1) := by decide +kernel
theorem d_Mo_end_2 : decode b_Mo_end 2 = .ok (.putfield 61, 3) := by decide +kernel
theorem d_Mo_end_5 : decode b_Mo_end 5 = .ok (.iload_n 1, 1) := by decide +kernel
theorem d_Mo_end_6 : decode b_Mo_end 6 = .ok (.ifCond .lt 11, 3) := by decide +kernel
theorem d_Mo_end_9 : decode b_Mo_end 9 = .ok (.iload_n 1, 1) := by decide +kernel
theorem d_Mo_end_10 : decode b_Mo_end 10 = .ok (.aload_n 0, 1) := by decide +kernel
theorem d_Mo_end_11 : decode b_Mo_end 11 = .ok (.getfield 86, 3) := by decide +kernel
theorem d_Mo_end_14 : decode b_Mo_end 14 = .ok (.if_icmp .le 9, 3) := by decide +kernel
theorem d_Mo_end_17 : decode b_Mo_end 17 = .ok (.aload_n 0, 1) := by decide +kernel
theorem d_Mo_end_18 : decode b_Mo_end 18 = .ok (.iconst 1, 1) := by decide +kernel
theorem d_Mo_end_19 : decode b_Mo_end 19 = .ok (.invokevirtual 138, 3) := by decide +kernel
theorem d_Mo_end_22 : decode b_Mo_end 22 = .ok (.ireturn, 1) := by decide +kernel
theorem d_Mo_end_23 : decode b_Mo_end 23 = .ok (.aload_n 0, 1) := by decide +kernel
theorem d_Mo_end_24 : decode b_Mo_end 24 = .ok (.iload_n 1, 1) := by decide +kernel
theorem d_Mo_end_25 : decode b_Mo_end 25 = .ok (.putfield 86, 3) := by decide +kernel
theorem d_Mo_end_28 : decode b_Mo_end 28 = .ok (.iload_n 1, 1) := by decide +kernel
theorem d_Mo_end_29 : decode b_Mo_end 29 = .ok (.ireturn, 1) := by decide +kernel
theorem d_Mo_question_0 : decode b_Mo_question 0 = .ok (.aload_n 0, 1) := by decide +kernel
theorem d_Mo_question_1 : decode b_Mo_question 1 = .ok (.iconst 0, 1) := by decide +kernel
theorem d_Mo_question_2 : decode b_Mo_question 2 = .ok (.putfield 61, 3) := by decide +kernel
theorem d_Mo_question_5 : decode b_Mo_question 5 = .ok (.aload_n 0, 1) := by decide +kernel
theorem d_Mo_question_6 : decode b_Mo_question 6 = .ok (.iconst 0, 1) := by decide +kernel
theorem d_Mo_question_7 : decode b_Mo_question 7 = .ok (.invokevirtual 142, 3) := by decide +kernel
theorem d_Mo_question_10 : decode b_Mo_question 10 = .ok (.aload_n 0, 1) := by decide +kernel
theorem d_Mo_question_11 : decode b_Mo_question 11 = .ok (.getfield 86, 3) := by decide +kernel
theorem d_Mo_question_14 : decode b_Mo_question 14 = .ok (.if_icmp .eq 9, 3) := by decide +kernel
theorem d_Mo_question_17 : decode b_Mo_question 17 = .ok (.aload_n 0, 1) := by decide +kernel
theorem d_Mo_question_18 : decode b_Mo_question 18 = .ok (.iconst 1, 1) := by decide +kernel
theorem d_Mo_question_19 : decode b_Mo_question 19 = .ok (.invokevirtual 138, 3) := by decide +kernel
theorem d_Mo_question_22 : decode b_Mo_question 22 = .ok (.ireturn, 1) := by decide +kernel
theorem d_Mo_question_23 : decode b_Mo_question 23 = .ok (.aload_n 0, 1) := by decide +kernel
theorem d_Mo_question_24 : decode b_Mo_question 24 = .ok (.iconst 0, 1) := by decide +kernel
theorem d_Mo_question_25 : decode b_Mo_question 25 = .ok (.invokevirtual 76, 3) := by decide +kernel
theorem d_Mo_question_28 : decode b_Mo_question 28 = .ok (.bipush 100, 2) := by decide +kernel
theorem d_Mo_question_30 : decode b_Mo_question 30 = .ok (.if_icmp .eq 17, 3) := by decide +kernel
theorem d_Mo_question_33 : decode b_Mo_question 33 = .ok (.aload_n 0, 1) := by decide +kernel
theorem d_Mo_question_34 : decode b_Mo_question 34 = .ok (.getfield 64, 3) := by decide +kernel
theorem d_Mo_question_37 : decode b_Mo_question 37 = .ok (.aload_n 0, 1) := by decide +kernel
theorem d_Mo_question_38 : decode b_Mo_question 38 = .ok (.getfield 86, 3) := by decide +kernel
theorem d_Mo_question_41 : decode b_Mo_question 41 = .ok (.iadd, 1) := by decide +kernel
theorem d_Mo_question_42 : decode b_Mo_question 42 = .ok (.ldc 7, 2) := by decide +kernel
theorem d_Mo_question_44 : decode b_Mo_question 44 = .ok (.if_icmp .le 9, 3) := by decide +kernel
theorem d_Mo_question_47 : decode b_Mo_question 47 = .ok (.aload_n 0, 1) := by decide +kernel
theorem d_Mo_question_48 : decode b_Mo_question 48 = .ok (.iconst 2, 1) := by decide +kernel
theorem d_Mo_question_49 : decode b_Mo_question 49 = .ok (.invokevirtual 138, 3) := by decide +kernel
theorem d_Mo_question_52 : decode b_Mo_question 52 = .ok (.ireturn, 1) := by decide +kernel
theorem d_Mo_question_53 : decode b_Mo_question 53 = .ok (.aload_n 0, 1) := by decide +kernel
theorem d_Mo_question_54 : decode b_Mo_question 54 = .ok (.iconst 0, 1) := by decide +kernel
theorem d_Mo_question_55 : decode b_Mo_question 55 = .ok (.iload_n 1, 1) := by decide +kernel
theorem d_Mo_question_56 : decode b_Mo_question 56 = .ok (.ldc 141, 2) := by decide +kernel
theorem d_Mo_question_58 : decode b_Mo_question 58 = .ok (.iand, 1) := by decide +kernel
theorem d_Mo_question_59 : decode b_Mo_question 59 = .ok (.iload_n 2, 1) := by decide +kernel
theorem d_Mo_question_60 : decode b_Mo_question 60 = .ok (.iconst 0, 1) := by decide +kernel
theorem d_Mo_question_61 : decode b_Mo_question 61 = .ok (.aload_n 0, 1) := by decide +kernel
theorem d_Mo_question_62 : decode b_Mo_question 62 = .ok (.getfield 86, 3) := by decide +kernel
theorem d_Mo_question_65 : decode b_Mo_question 65 = .ok (.invokevirtual 145, 3) := by decide +kernel
theorem d_Mo_question_68 : decode b_Mo_question 68 = .ok (.ireturn, 1) := by decide +kernel
theorem d_Mo_record_0 : decode b_Mo_record 0 = .ok (.aload_n 0, 1) := by decide +kernel
theorem d_Mo_record_1 : decode b_Mo_record 1 = .ok (.iconst 0, 1) := by decide +kernel
theorem d_Mo_record_2 : decode b_Mo_record 2 = .ok (.putfield 61, 3) := by decide +kernel
theorem d_Mo_record_5 : decode b_Mo_record 5 = .ok (.iload_n 1, 1) := by decide +kernel
theorem d_Mo_record_6 : decode b_Mo_record 6 = .ok (.iconst 1, 1) := by decide +kernel
theorem d_Mo_record_7 : decode b_Mo_record 7 = .ok (.if_icmp .lt 8, 3) := by decide +kernel
theorem d_Mo_record_10 : decode b_Mo_record 10 = .ok (.iload_n 1, 1) := by decide +kernel
theorem d_Mo_record_11 : decode b_Mo_record 11 = .ok (.iconst 3, 1) := by decide +kernel
theorem d_Mo_record_12 : decode b_Mo_record 12 = .ok (.if_icmp .le 9, 3) := by decide +kernel
theorem d_Mo_record_15 : decode b_Mo_record 15 = .ok (.aload_n 0, 1) := by decide +kernel
theorem d_Mo_record_16 : decode b_Mo_record 16 = .ok (.iconst 1, 1) := by decide +kernel
theorem d_Mo_record_17 : decode b_Mo_record 17 = .ok (.invokevirtual 138, 3) := by decide +kernel
theorem d_Mo_record_20 : decode b_Mo_record 20 = .ok (.ireturn, 1) := by decide +kernel
theorem d_Mo_record_21 : decode b_Mo_record 21 = .ok (.aload_n 0, 1) := by decide +kernel
theorem d_Mo_record_22 : decode b_Mo_record 22 = .ok (.iconst 0, 1) := by decide +kernel
theorem d_Mo_record_23 : decode b_Mo_record 23 = .ok (.invokevirtual 142, 3) := by decide +kernel
theorem d_Mo_record_26 : decode b_Mo_record 26 = .ok (.istore 5, 2) := by decide +kernel
theorem d_Mo_record_28 : decode b_Mo_record 28 = .ok (.iload 5, 2) := by decide +kernel
theorem d_Mo_record_30 : decode b_Mo_record 30 = .ok (.ifCond .lt 27, 3) := by decide +kernel
theorem d_Mo_record_33 : decode b_Mo_record 33 = .ok (.aload_n 0, 1) := by decide +kernel
theorem d_Mo_record_34 : decode b_Mo_record 34 = .ok (.iload_n 2, 1) := by decide +kernel
theorem d_Mo_record_35 : decode b_Mo_record 35 = .ok (.ldc 141, 2) := by decide +kernel
theorem d_Mo_record_37 : decode b_Mo_record 37 = .ok (.iand, 1) := by decide +kernel
theorem d_Mo_record_38 : decode b_Mo_record 38 = .ok (.iload 5, 2) := by decide +kernel
theorem d_Mo_record_40 : decode b_Mo_record 40 = .ok (.iload 5, 2) := by decide +kernel
theorem d_Mo_record_42 : decode b_Mo_record 42 = .ok (.iconst 1, 1) := by decide +kernel
theorem d_Mo_record_43 : decode b_Mo_record 43 = .ok (.if_icmp .ne 7, 3) := by decide +kernel
theorem d_Mo_record_46 : decode b_Mo_record 46 = .ok (.iconst 1, 1) := by decide +kernel
theorem d_Mo_record_47 : decode b_Mo_record 47 = .ok (.goto 4, 3) := by decide +kernel
theorem d_Mo_record_50 : decode b_Mo_record 50 = .ok (.iconst 0, 1) := by decide +kernel
theorem d_Mo_record_51 : decode b_Mo_record 51 = .ok (.invokevirtual 149, 3) := by decide +kernel
theorem d_Mo_record_54 : decode b_Mo_record 54 = .ok (.ifCond .ne 9, 3) := by decide +kernel
theorem d_Mo_record_57 : decode b_Mo_record 57 = .ok (.aload_n 0, 1) := by decide +kernel
theorem d_Mo_record_58 : decode b_Mo_record 58 = .ok (.iconst 2, 1) := by decide +kernel
theorem d_Mo_record_59 : decode b_Mo_record 59 = .ok (.invokevirtual 138, 3) := by decide +kernel
theorem d_Mo_record_62 : decode b_Mo_record 62 = .ok (.ireturn, 1) := by decide +kernel
theorem d_Mo_record_63 : decode b_Mo_record 63 = .ok (.aload_n 0, 1) := by decide +kernel
theorem d_Mo_record_64 : decode b_Mo_record 64 = .ok (.invokevirtual 124, 3) := by decide +kernel
theorem d_Mo_record_67 : decode b_Mo_record 67 = .ok (.sipush 1000, 3) := by decide +kernel
theorem d_Mo_record_70 : decode b_Mo_record 70 = .ok (.if_icmp .eq 17, 3) := by decide +kernel
theorem d_Mo_record_73 : decode b_Mo_record 73 = .ok (.aload_n 0, 1) := by decide +kernel
theorem d_Mo_record_74 : decode b_Mo_record 74 = .ok (.getfield 64, 3) := by decide +kernel
theorem d_Mo_record_77 : decode b_Mo_record 77 = .ok (.aload_n 0, 1) := by decide +kernel
theorem d_Mo_record_78 : decode b_Mo_record 78 = .ok (.getfield 86, 3) := by decide +kernel
theorem d_Mo_record_81 : decode b_Mo_record 81 = .ok (.iadd, 1) := by decide +kernel
theorem d_Mo_record_82 : decode b_Mo_record 82 = .ok (.ldc 7, 2) := by decide +kernel
theorem d_Mo_record_84 : decode b_Mo_record 84 = .ok (.if_icmp .le 9, 3) := by decide +kernel
theorem d_Mo_record_87 : decode b_Mo_record 87 = .ok (.aload_n 0, 1) := by decide +kernel
theorem d_Mo_record_88 : decode b_Mo_record 88 = .ok (.iconst 3, 1) := by decide +kernel
theorem d_Mo_record_89 : decode b_Mo_record 89 = .ok (.invokevirtual 138, 3) := by decide +kernel
theorem d_Mo_record_92 : decode b_Mo_record 92 = .ok (.ireturn, 1) := by decide +kernel
theorem d_Mo_record_93 : decode b_Mo_record 93 = .ok (.aload_n 0, 1) := by decide +kernel
theorem d_Mo_record_94 : decode b_Mo_record 94 = .ok (.iload_n 1, 1) := by decide +kernel
theorem d_Mo_record_95 : decode b_Mo_record 95 = .ok (.iload_n 2, 1) := by decide +kernel
theorem d_Mo_record_96 : decode b_Mo_record 96 = .ok (.ldc 141, 2) := by decide +kernel
theorem d_Mo_record_98 : decode b_Mo_record 98 = .ok (.iand, 1) := by decide +kernel
theorem d_Mo_record_99 : decode b_Mo_record 99 = .ok (.iload_n 3, 1) := by decide +kernel
theorem d_Mo_record_100 : decode b_Mo_record 100 = .ok (.iload 4, 2) := by decide +kernel
theorem d_Mo_record_102 : decode b_Mo_record 102 = .ok (.iload 5, 2) := by decide +kernel
theorem d_Mo_record_104 : decode b_Mo_record 104 = .ok (.invokevirtual 145, 3) := by decide +kernel
theorem d_Mo_record_107 : decode b_Mo_record 107 = .ok (.ireturn, 1) := by decide +kernel
theorem d_Mo_back_0 : decode b_Mo_back 0 = .ok (.aload_n 0, 1) := by decide +kernel
theorem d_Mo_back_1 : decode b_Mo_back 1 = .ok (.iconst 0, 1) := by decide +kernel
theorem d_Mo_back_2 : decode b_Mo_back 2 = .ok (.putfield 61, 3) := by decide +kernel
theorem d_Mo_back_5 : decode b_Mo_back 5 = .ok (.iload_n 1, 1) := by decide +kernel
theorem d_Mo_back_6 : decode b_Mo_back 6 = .ok (.iconst (-1), 1) := by decide +kernel
theorem d_Mo_back_7 : decode b_Mo_back 7 = .ok (.if_icmp .lt 11, 3) := by decide +kernel
theorem d_Mo_back_10 : decode b_Mo_back 10 = .ok (.iload_n 1, 1) := by decide +kernel
theorem d_Mo_back_11 : decode b_Mo_back 11 = .ok (.aload_n 0, 1) := by decide +kernel
theorem d_Mo_back_12 : decode b_Mo_back 12 = .ok (.getfield 153, 3) := by decide +kernel
theorem d_Mo_back_15 : decode b_Mo_back 15 = .ok (.if_icmp .lt 9, 3) := by decide +kernel
theorem d_Mo_back_18 : decode b_Mo_back 18 = .ok (.aload_n 0, 1) := by decide +kernel
theorem d_Mo_back_19 : decode b_Mo_back 19 = .ok (.iconst 1, 1) := by decide +kernel
theorem d_Mo_back_20 : decode b_Mo_back 20 = .ok (.invokevirtual 138, 3) := by decide +kernel
theorem d_Mo_back_23 : decode b_Mo_back 23 = .ok (.ireturn, 1) := by decide +kernel
theorem d_Mo_back_24 : decode b_Mo_back 24 = .ok (.iconst 0, 1) := by decide +kernel
theorem d_Mo_back_25 : decode b_Mo_back 25 = .ok (.istore_n 3, 1) := by decide +kernel
theorem d_Mo_back_26 : decode b_Mo_back 26 = .ok (.iload_n 3, 1) := by decide +kernel
theorem d_Mo_back_27 : decode b_Mo_back 27 = .ok (.aload_n 0, 1) := by decide +kernel
theorem d_Mo_back_28 : decode b_Mo_back 28 = .ok (.getfield 153, 3) := by decide +kernel
theorem d_Mo_back_31 : decode b_Mo_back 31 = .ok (.if_icmp .ge 33, 3) := by decide +kernel
theorem d_Mo_back_34 : decode b_Mo_back 34 = .ok (.aload_n 0, 1) := by decide +kernel
theorem d_Mo_back_35 : decode b_Mo_back 35 = .ok (.getfield 8, 3) := by decide +kernel
theorem d_Mo_back_38 : decode b_Mo_back 38 = .ok (.iload_n 3, 1) := by decide +kernel
theorem d_Mo_back_39 : decode b_Mo_back 39 = .ok (.aload_n 0, 1) := by decide +kernel
theorem d_Mo_back_40 : decode b_Mo_back 40 = .ok (.getfield 48, 3) := by decide +kernel
theorem d_Mo_back_43 : decode b_Mo_back 43 = .ok (.iload_n 3, 1) := by decide +kernel
theorem d_Mo_back_44 : decode b_Mo_back 44 = .ok (.baload, 1) := by decide +kernel
theorem d_Mo_back_45 : decode b_Mo_back 45 = .ok (.iload_n 3, 1) := by decide +kernel
theorem d_Mo_back_46 : decode b_Mo_back 46 = .ok (.iload_n 1, 1) := by decide +kernel
theorem d_Mo_back_47 : decode b_Mo_back 47 = .ok (.if_icmp .ne 7, 3) := by decide +kernel
theorem d_Mo_back_50 : decode b_Mo_back 50 = .ok (.iload_n 2, 1) := by decide +kernel
theorem d_Mo_back_51 : decode b_Mo_back 51 = .ok (.goto 4, 3) := by decide +kernel
theorem d_Mo_back_54 : decode b_Mo_back 54 = .ok (.iconst 0, 1) := by decide +kernel
theorem d_Mo_back_55 : decode b_Mo_back 55 = .ok (.ixor, 1) := by decide +kernel
theorem d_Mo_back_56 : decode b_Mo_back 56 = .ok (.i2b, 1) := by decide +kernel
theorem d_Mo_back_57 : decode b_Mo_back 57 = .ok (.bastore, 1) := by decide +kernel
theorem d_Mo_back_58 : decode b_Mo_back 58 = .ok (.iinc 3 1, 3) := by decide +kernel
theorem d_Mo_back_61 : decode b_Mo_back 61 = .ok (.goto (-35), 3) := by decide +kernel
theorem d_Mo_back_64 : decode b_Mo_back 64 = .ok (.aload_n 0, 1) := by decide +kernel
theorem d_Mo_back_65 : decode b_Mo_back 65 = .ok (.aload_n 0, 1) := by decide +kernel
theorem d_Mo_back_66 : decode b_Mo_back 66 = .ok (.getfield 153, 3) := by decide +kernel
theorem d_Mo_back_69 : decode b_Mo_back 69 = .ok (.putfield 86, 3) := by decide +kernel
theorem d_Mo_back_72 : decode b_Mo_back 72 = .ok (.aload_n 0, 1) := by decide +kernel
theorem d_Mo_back_73 : decode b_Mo_back 73 = .ok (.getfield 86, 3) := by decide +kernel
theorem d_Mo_back_76 : decode b_Mo_back 76 = .ok (.ireturn, 1) := by decide +kernel
theorem d_Mo_written_0 : decode b_Mo_written 0 = .ok (.aload_n 0, 1) := by decide +kernel
theorem d_Mo_written_1 : decode b_Mo_written 1 = .ok (.iconst 0, 1) := by decide +kernel
theorem d_Mo_written_2 : decode b_Mo_written 2 = .ok (.putfield 61, 3) := by decide +kernel
theorem d_Mo_written_5 : decode b_Mo_written 5 = .ok (.iload_n 1, 1) := by decide +kernel
theorem d_Mo_written_6 : decode b_Mo_written 6 = .ok (.ifCond .lt 11, 3) := by decide +kernel
theorem d_Mo_written_9 : decode b_Mo_written 9 = .ok (.iload_n 1, 1) := by decide +kernel
theorem d_Mo_written_10 : decode b_Mo_written 10 = .ok (.aload_n 0, 1) := by decide +kernel
theorem d_Mo_written_11 : decode b_Mo_written 11 = .ok (.getfield 153, 3) := by decide +kernel
theorem d_Mo_written_14 : decode b_Mo_written 14 = .ok (.if_icmp .lt 9, 3) := by decide +kernel
theorem d_Mo_written_17 : decode b_Mo_written 17 = .ok (.aload_n 0, 1) := by decide +kernel
theorem d_Mo_written_18 : decode b_Mo_written 18 = .ok (.iconst 1, 1) := by decide +kernel
theorem d_Mo_written_19 : decode b_Mo_written 19 = .ok (.invokevirtual 138, 3) := by decide +kernel
theorem d_Mo_written_22 : decode b_Mo_written 22 = .ok (.ireturn, 1) := by decide +kernel
theorem d_Mo_written_23 : decode b_Mo_written 23 = .ok (.aload_n 0, 1) := by decide +kernel
theorem d_Mo_written_24 : decode b_Mo_written 24 = .ok (.getfield 48, 3) := by decide +kernel
theorem d_Mo_written_27 : decode b_Mo_written 27 = .ok (.iload_n 1, 1) := by decide +kernel
theorem d_Mo_written_28 : decode b_Mo_written 28 = .ok (.baload, 1) := by decide +kernel
theorem d_Mo_written_29 : decode b_Mo_written 29 = .ok (.sipush 255, 3) := by decide +kernel
theorem d_Mo_written_32 : decode b_Mo_written 32 = .ok (.iand, 1) := by decide +kernel
theorem d_Mo_written_33 : decode b_Mo_written 33 = .ok (.ireturn, 1) := by decide +kernel
theorem d_Mo_header_0 : decode b_Mo_header 0 = .ok (.aload_n 0, 1) := by decide +kernel
theorem d_Mo_header_1 : decode b_Mo_header 1 = .ok (.iconst 0, 1) := by decide +kernel
theorem d_Mo_header_2 : decode b_Mo_header 2 = .ok (.putfield 61, 3) := by decide +kernel
theorem d_Mo_header_5 : decode b_Mo_header 5 = .ok (.iload_n 1, 1) := by decide +kernel
theorem d_Mo_header_6 : decode b_Mo_header 6 = .ok (.tableswitch 56 0 5 #[38, 43, 48, 48, 48, 48], 38) := by decide +kernel
theorem d_Mo_header_44 : decode b_Mo_header 44 = .ok (.aload_n 0, 1) := by decide +kernel
theorem d_Mo_header_45 : decode b_Mo_header 45 = .ok (.getfield 70, 3) := by decide +kernel
theorem d_Mo_header_48 : decode b_Mo_header 48 = .ok (.ireturn, 1) := by decide +kernel
theorem d_Mo_header_49 : decode b_Mo_header 49 = .ok (.aload_n 0, 1) := by decide +kernel
theorem d_Mo_header_50 : decode b_Mo_header 50 = .ok (.getfield 73, 3) := by decide +kernel
theorem d_Mo_header_53 : decode b_Mo_header 53 = .ok (.ireturn, 1) := by decide +kernel
theorem d_Mo_header_54 : decode b_Mo_header 54 = .ok (.aload_n 0, 1) := by decide +kernel
theorem d_Mo_header_55 : decode b_Mo_header 55 = .ok (.iload_n 1, 1) := by decide +kernel
theorem d_Mo_header_56 : decode b_Mo_header 56 = .ok (.iconst 2, 1) := by decide +kernel
theorem d_Mo_header_57 : decode b_Mo_header 57 = .ok (.isub, 1) := by decide +kernel
theorem d_Mo_header_58 : decode b_Mo_header 58 = .ok (.invokevirtual 76, 3) := by decide +kernel
theorem d_Mo_header_61 : decode b_Mo_header 61 = .ok (.ireturn, 1) := by decide +kernel
theorem d_Mo_header_62 : decode b_Mo_header 62 = .ok (.aload_n 0, 1) := by decide +kernel
theorem d_Mo_header_63 : decode b_Mo_header 63 = .ok (.iconst 1, 1) := by decide +kernel
theorem d_Mo_header_64 : decode b_Mo_header 64 = .ok (.invokevirtual 138, 3) := by decide +kernel
theorem d_Mo_header_67 : decode b_Mo_header 67 = .ok (.ireturn, 1) := by decide +kernel
theorem d_Mo_count_0 : decode b_Mo_count 0 = .ok (.aload_n 0, 1) := by decide +kernel
theorem d_Mo_count_1 : decode b_Mo_count 1 = .ok (.iconst 0, 1) := by decide +kernel
theorem d_Mo_count_2 : decode b_Mo_count 2 = .ok (.putfield 61, 3) := by decide +kernel
theorem d_Mo_count_5 : decode b_Mo_count 5 = .ok (.iload_n 1, 1) := by decide +kernel
theorem d_Mo_count_6 : decode b_Mo_count 6 = .ok (.tableswitch 50 0 3 #[30, 35, 40, 45], 30) := by decide +kernel
theorem d_Mo_count_36 : decode b_Mo_count 36 = .ok (.aload_n 0, 1) := by decide +kernel
theorem d_Mo_count_37 : decode b_Mo_count 37 = .ok (.getfield 86, 3) := by decide +kernel
theorem d_Mo_count_40 : decode b_Mo_count 40 = .ok (.ireturn, 1) := by decide +kernel
theorem d_Mo_count_41 : decode b_Mo_count 41 = .ok (.aload_n 0, 1) := by decide +kernel
theorem d_Mo_count_42 : decode b_Mo_count 42 = .ok (.getfield 153, 3) := by decide +kernel
theorem d_Mo_count_45 : decode b_Mo_count 45 = .ok (.ireturn, 1) := by decide +kernel
theorem d_Mo_count_46 : decode b_Mo_count 46 = .ok (.aload_n 0, 1) := by decide +kernel
theorem d_Mo_count_47 : decode b_Mo_count 47 = .ok (.getfield 173, 3) := by decide +kernel
theorem d_Mo_count_50 : decode b_Mo_count 50 = .ok (.ireturn, 1) := by decide +kernel
theorem d_Mo_count_51 : decode b_Mo_count 51 = .ok (.aload_n 0, 1) := by decide +kernel
theorem d_Mo_count_52 : decode b_Mo_count 52 = .ok (.getfield 134, 3) := by decide +kernel
theorem d_Mo_count_55 : decode b_Mo_count 55 = .ok (.ireturn, 1) := by decide +kernel
theorem d_Mo_count_56 : decode b_Mo_count 56 = .ok (.iconst (-1), 1) := by decide +kernel
theorem d_Mo_count_57 : decode b_Mo_count 57 = .ok (.ireturn, 1) := by decide +kernel
theorem d_Mo_told_0 : decode b_Mo_told 0 = .ok (.aload_n 0, 1) := by decide +kernel
theorem d_Mo_told_1 : decode b_Mo_told 1 = .ok (.iconst 0, 1) := by decide +kernel
theorem d_Mo_told_2 : decode b_Mo_told 2 = .ok (.putfield 61, 3) := by decide +kernel
theorem d_Mo_told_5 : decode b_Mo_told 5 = .ok (.aload_n 0, 1) := by decide +kernel
theorem d_Mo_told_6 : decode b_Mo_told 6 = .ok (.iload_n 1, 1) := by decide +kernel
theorem d_Mo_told_7 : decode b_Mo_told 7 = .ok (.iload_n 2, 1) := by decide +kernel
theorem d_Mo_told_8 : decode b_Mo_told 8 = .ok (.invokevirtual 190, 3) := by decide +kernel
theorem d_Mo_told_11 : decode b_Mo_told 11 = .ok (.istore 4, 2) := by decide +kernel
theorem d_Mo_told_13 : decode b_Mo_told 13 = .ok (.iload 4, 2) := by decide +kernel
theorem d_Mo_told_15 : decode b_Mo_told 15 = .ok (.ifCond .ge 9, 3) := by decide +kernel
theorem d_Mo_told_18 : decode b_Mo_told 18 = .ok (.aload_n 0, 1) := by decide +kernel
theorem d_Mo_told_19 : decode b_Mo_told 19 = .ok (.iconst 1, 1) := by decide +kernel
theorem d_Mo_told_20 : decode b_Mo_told 20 = .ok (.invokevirtual 138, 3) := by decide +kernel
theorem d_Mo_told_23 : decode b_Mo_told 23 = .ok (.ireturn, 1) := by decide +kernel
theorem d_Mo_told_24 : decode b_Mo_told 24 = .ok (.iload_n 3, 1) := by decide +kernel
theorem d_Mo_told_25 : decode b_Mo_told 25 = .ok (.ifCond .lt 17, 3) := by decide +kernel
theorem d_Mo_told_28 : decode b_Mo_told 28 = .ok (.iload_n 3, 1) := by decide +kernel
theorem d_Mo_told_29 : decode b_Mo_told 29 = .ok (.iconst 4, 1) := by decide +kernel
theorem d_Mo_told_30 : decode b_Mo_told 30 = .ok (.if_icmp .gt 12, 3) := by decide +kernel
theorem d_Mo_told_33 : decode b_Mo_told 33 = .ok (.iload_n 3, 1) := by decide +kernel
theorem d_Mo_told_34 : decode b_Mo_told 34 = .ok (.iconst 2, 1) := by decide +kernel
theorem d_Mo_told_35 : decode b_Mo_told 35 = .ok (.if_icmp .le 13, 3) := by decide +kernel
theorem d_Mo_told_38 : decode b_Mo_told 38 = .ok (.iload_n 1, 1) := by decide +kernel
theorem d_Mo_told_39 : decode b_Mo_told 39 = .ok (.ifCond .ne 9, 3) := by decide +kernel
theorem d_Mo_told_42 : decode b_Mo_told 42 = .ok (.aload_n 0, 1) := by decide +kernel
theorem d_Mo_told_43 : decode b_Mo_told 43 = .ok (.iconst 2, 1) := by decide +kernel
theorem d_Mo_told_44 : decode b_Mo_told 44 = .ok (.invokevirtual 138, 3) := by decide +kernel
theorem d_Mo_told_47 : decode b_Mo_told 47 = .ok (.ireturn, 1) := by decide +kernel
theorem d_Mo_told_48 : decode b_Mo_told 48 = .ok (.iload_n 3, 1) := by decide +kernel
theorem d_Mo_told_49 : decode b_Mo_told 49 = .ok (.tableswitch 63 0 3 #[31, 39, 47, 55], 31) := by decide +kernel
theorem d_Mo_told_80 : decode b_Mo_told 80 = .ok (.aload_n 0, 1) := by decide +kernel
theorem d_Mo_told_81 : decode b_Mo_told 81 = .ok (.getfield 22, 3) := by decide +kernel
theorem d_Mo_told_84 : decode b_Mo_told 84 = .ok (.iload 4, 2) := by decide +kernel
theorem d_Mo_told_86 : decode b_Mo_told 86 = .ok (.iaload, 1) := by decide +kernel
theorem d_Mo_told_87 : decode b_Mo_told 87 = .ok (.ireturn, 1) := by decide +kernel
theorem d_Mo_told_88 : decode b_Mo_told 88 = .ok (.aload_n 0, 1) := by decide +kernel
theorem d_Mo_told_89 : decode b_Mo_told 89 = .ok (.getfield 25, 3) := by decide +kernel
theorem d_Mo_told_92 : decode b_Mo_told 92 = .ok (.iload 4, 2) := by decide +kernel
theorem d_Mo_told_94 : decode b_Mo_told 94 = .ok (.iaload, 1) := by decide +kernel
theorem d_Mo_told_95 : decode b_Mo_told 95 = .ok (.ireturn, 1) := by decide +kernel
theorem d_Mo_told_96 : decode b_Mo_told 96 = .ok (.aload_n 0, 1) := by decide +kernel
theorem d_Mo_told_97 : decode b_Mo_told 97 = .ok (.getfield 34, 3) := by decide +kernel
theorem d_Mo_told_100 : decode b_Mo_told 100 = .ok (.iload 4, 2) := by decide +kernel
theorem d_Mo_told_102 : decode b_Mo_told 102 = .ok (.iaload, 1) := by decide +kernel
theorem d_Mo_told_103 : decode b_Mo_told 103 = .ok (.ireturn, 1) := by decide +kernel
theorem d_Mo_told_104 : decode b_Mo_told 104 = .ok (.aload_n 0, 1) := by decide +kernel
theorem d_Mo_told_105 : decode b_Mo_told 105 = .ok (.getfield 40, 3) := by decide +kernel
theorem d_Mo_told_108 : decode b_Mo_told 108 = .ok (.iload 4, 2) := by decide +kernel
theorem d_Mo_told_110 : decode b_Mo_told 110 = .ok (.iaload, 1) := by decide +kernel
theorem d_Mo_told_111 : decode b_Mo_told 111 = .ok (.ireturn, 1) := by decide +kernel
theorem d_Mo_told_112 : decode b_Mo_told 112 = .ok (.aload_n 0, 1) := by decide +kernel
theorem d_Mo_told_113 : decode b_Mo_told 113 = .ok (.getfield 28, 3) := by decide +kernel
theorem d_Mo_told_116 : decode b_Mo_told 116 = .ok (.iload 4, 2) := by decide +kernel
theorem d_Mo_told_118 : decode b_Mo_told 118 = .ok (.iaload, 1) := by decide +kernel
theorem d_Mo_told_119 : decode b_Mo_told 119 = .ok (.ireturn, 1) := by decide +kernel
theorem d_Mo_byteOf_0 : decode b_Mo_byteOf 0 = .ok (.aload_n 0, 1) := by decide +kernel
theorem d_Mo_byteOf_1 : decode b_Mo_byteOf 1 = .ok (.iconst 0, 1) := by decide +kernel
theorem d_Mo_byteOf_2 : decode b_Mo_byteOf 2 = .ok (.putfield 61, 3) := by decide +kernel
theorem d_Mo_byteOf_5 : decode b_Mo_byteOf 5 = .ok (.aload_n 0, 1) := by decide +kernel
theorem d_Mo_byteOf_6 : decode b_Mo_byteOf 6 = .ok (.iload_n 1, 1) := by decide +kernel
theorem d_Mo_byteOf_7 : decode b_Mo_byteOf 7 = .ok (.iload_n 2, 1) := by decide +kernel
theorem d_Mo_byteOf_8 : decode b_Mo_byteOf 8 = .ok (.invokevirtual 190, 3) := by decide +kernel
theorem d_Mo_byteOf_11 : decode b_Mo_byteOf 11 = .ok (.istore 4, 2) := by decide +kernel
theorem d_Mo_byteOf_13 : decode b_Mo_byteOf 13 = .ok (.iload 4, 2) := by decide +kernel
theorem d_Mo_byteOf_15 : decode b_Mo_byteOf 15 = .ok (.ifCond .ge 9, 3) := by decide +kernel
theorem d_Mo_byteOf_18 : decode b_Mo_byteOf 18 = .ok (.aload_n 0, 1) := by decide +kernel
theorem d_Mo_byteOf_19 : decode b_Mo_byteOf 19 = .ok (.iconst 1, 1) := by decide +kernel
theorem d_Mo_byteOf_20 : decode b_Mo_byteOf 20 = .ok (.invokevirtual 138, 3) := by decide +kernel
theorem d_Mo_byteOf_23 : decode b_Mo_byteOf 23 = .ok (.ireturn, 1) := by decide +kernel
theorem d_Mo_byteOf_24 : decode b_Mo_byteOf 24 = .ok (.iload_n 3, 1) := by decide +kernel
theorem d_Mo_byteOf_25 : decode b_Mo_byteOf 25 = .ok (.ifCond .lt 22, 3) := by decide +kernel
theorem d_Mo_byteOf_28 : decode b_Mo_byteOf 28 = .ok (.iload_n 3, 1) := by decide +kernel
theorem d_Mo_byteOf_29 : decode b_Mo_byteOf 29 = .ok (.aload_n 0, 1) := by decide +kernel
theorem d_Mo_byteOf_30 : decode b_Mo_byteOf 30 = .ok (.getfield 34, 3) := by decide +kernel
theorem d_Mo_byteOf_33 : decode b_Mo_byteOf 33 = .ok (.iload 4, 2) := by decide +kernel
theorem d_Mo_byteOf_35 : decode b_Mo_byteOf 35 = .ok (.iaload, 1) := by decide +kernel
theorem d_Mo_byteOf_36 : decode b_Mo_byteOf 36 = .ok (.aload_n 0, 1) := by decide +kernel
theorem d_Mo_byteOf_37 : decode b_Mo_byteOf 37 = .ok (.getfield 40, 3) := by decide +kernel
theorem d_Mo_byteOf_40 : decode b_Mo_byteOf 40 = .ok (.iload 4, 2) := by decide +kernel
theorem d_Mo_byteOf_42 : decode b_Mo_byteOf 42 = .ok (.iaload, 1) := by decide +kernel
theorem d_Mo_byteOf_43 : decode b_Mo_byteOf 43 = .ok (.iadd, 1) := by decide +kernel
theorem d_Mo_byteOf_44 : decode b_Mo_byteOf 44 = .ok (.if_icmp .lt 9, 3) := by decide +kernel
theorem d_Mo_byteOf_47 : decode b_Mo_byteOf 47 = .ok (.aload_n 0, 1) := by decide +kernel
theorem d_Mo_byteOf_48 : decode b_Mo_byteOf 48 = .ok (.iconst 2, 1) := by decide +kernel
theorem d_Mo_byteOf_49 : decode b_Mo_byteOf 49 = .ok (.invokevirtual 138, 3) := by decide +kernel
theorem d_Mo_byteOf_52 : decode b_Mo_byteOf 52 = .ok (.ireturn, 1) := by decide +kernel
theorem d_Mo_byteOf_53 : decode b_Mo_byteOf 53 = .ok (.aload_n 0, 1) := by decide +kernel
theorem d_Mo_byteOf_54 : decode b_Mo_byteOf 54 = .ok (.getfield 15, 3) := by decide +kernel
theorem d_Mo_byteOf_57 : decode b_Mo_byteOf 57 = .ok (.iload_n 3, 1) := by decide +kernel
theorem d_Mo_byteOf_58 : decode b_Mo_byteOf 58 = .ok (.aload_n 0, 1) := by decide +kernel
theorem d_Mo_byteOf_59 : decode b_Mo_byteOf 59 = .ok (.getfield 34, 3) := by decide +kernel
theorem d_Mo_byteOf_62 : decode b_Mo_byteOf 62 = .ok (.iload 4, 2) := by decide +kernel
theorem d_Mo_byteOf_64 : decode b_Mo_byteOf 64 = .ok (.iaload, 1) := by decide +kernel
theorem d_Mo_byteOf_65 : decode b_Mo_byteOf 65 = .ok (.if_icmp .ge 15, 3) := by decide +kernel
theorem d_Mo_byteOf_68 : decode b_Mo_byteOf 68 = .ok (.aload_n 0, 1) := by decide +kernel
theorem d_Mo_byteOf_69 : decode b_Mo_byteOf 69 = .ok (.getfield 31, 3) := by decide +kernel
theorem d_Mo_byteOf_72 : decode b_Mo_byteOf 72 = .ok (.iload 4, 2) := by decide +kernel
theorem d_Mo_byteOf_74 : decode b_Mo_byteOf 74 = .ok (.iaload, 1) := by decide +kernel
theorem d_Mo_byteOf_75 : decode b_Mo_byteOf 75 = .ok (.iload_n 3, 1) := by decide +kernel
theorem d_Mo_byteOf_76 : decode b_Mo_byteOf 76 = .ok (.iadd, 1) := by decide +kernel
theorem d_Mo_byteOf_77 : decode b_Mo_byteOf 77 = .ok (.goto 20, 3) := by decide +kernel
theorem d_Mo_byteOf_80 : decode b_Mo_byteOf 80 = .ok (.aload_n 0, 1) := by decide +kernel
theorem d_Mo_byteOf_81 : decode b_Mo_byteOf 81 = .ok (.getfield 37, 3) := by decide +kernel
theorem d_Mo_byteOf_84 : decode b_Mo_byteOf 84 = .ok (.iload 4, 2) := by decide +kernel
theorem d_Mo_byteOf_86 : decode b_Mo_byteOf 86 = .ok (.iaload, 1) := by decide +kernel
theorem d_Mo_byteOf_87 : decode b_Mo_byteOf 87 = .ok (.iload_n 3, 1) := by decide +kernel
theorem d_Mo_byteOf_88 : decode b_Mo_byteOf 88 = .ok (.iadd, 1) := by decide +kernel
theorem d_Mo_byteOf_89 : decode b_Mo_byteOf 89 = .ok (.aload_n 0, 1) := by decide +kernel
theorem d_Mo_byteOf_90 : decode b_Mo_byteOf 90 = .ok (.getfield 34, 3) := by decide +kernel
theorem d_Mo_byteOf_93 : decode b_Mo_byteOf 93 = .ok (.iload 4, 2) := by decide +kernel
theorem d_Mo_byteOf_95 : decode b_Mo_byteOf 95 = .ok (.iaload, 1) := by decide +kernel
theorem d_Mo_byteOf_96 : decode b_Mo_byteOf 96 = .ok (.isub, 1) := by decide +kernel
theorem d_Mo_byteOf_97 : decode b_Mo_byteOf 97 = .ok (.baload, 1) := by decide +kernel
theorem d_Mo_byteOf_98 : decode b_Mo_byteOf 98 = .ok (.sipush 255, 3) := by decide +kernel
theorem d_Mo_byteOf_101 : decode b_Mo_byteOf 101 = .ok (.iand, 1) := by decide +kernel
theorem d_Mo_byteOf_102 : decode b_Mo_byteOf 102 = .ok (.ireturn, 1) := by decide +kernel
theorem d_Mo_same_0 : decode b_Mo_same 0 = .ok (.aload_n 0, 1) := by decide +kernel
theorem d_Mo_same_1 : decode b_Mo_same 1 = .ok (.iconst 0, 1) := by decide +kernel
theorem d_Mo_same_2 : decode b_Mo_same 2 = .ok (.putfield 61, 3) := by decide +kernel
theorem d_Mo_same_5 : decode b_Mo_same 5 = .ok (.aload_n 0, 1) := by decide +kernel
theorem d_Mo_same_6 : decode b_Mo_same 6 = .ok (.iload_n 1, 1) := by decide +kernel
theorem d_Mo_same_7 : decode b_Mo_same 7 = .ok (.iload_n 2, 1) := by decide +kernel
theorem d_Mo_same_8 : decode b_Mo_same 8 = .ok (.invokevirtual 190, 3) := by decide +kernel
theorem d_Mo_same_11 : decode b_Mo_same 11 = .ok (.istore 5, 2) := by decide +kernel
theorem d_Mo_same_13 : decode b_Mo_same 13 = .ok (.aload_n 0, 1) := by decide +kernel
theorem d_Mo_same_14 : decode b_Mo_same 14 = .ok (.iload_n 3, 1) := by decide +kernel
theorem d_Mo_same_15 : decode b_Mo_same 15 = .ok (.iload 4, 2) := by decide +kernel
theorem d_Mo_same_17 : decode b_Mo_same 17 = .ok (.invokevirtual 190, 3) := by decide +kernel
theorem d_Mo_same_20 : decode b_Mo_same 20 = .ok (.istore 6, 2) := by decide +kernel
theorem d_Mo_same_22 : decode b_Mo_same 22 = .ok (.iload 5, 2) := by decide +kernel
theorem d_Mo_same_24 : decode b_Mo_same 24 = .ok (.ifCond .lt 8, 3) := by decide +kernel
theorem d_Mo_same_27 : decode b_Mo_same 27 = .ok (.iload 6, 2) := by decide +kernel
theorem d_Mo_same_29 : decode b_Mo_same 29 = .ok (.ifCond .ge 10, 3) := by decide +kernel
theorem d_Mo_same_32 : decode b_Mo_same 32 = .ok (.aload_n 0, 1) := by decide +kernel
theorem d_Mo_same_33 : decode b_Mo_same 33 = .ok (.iconst 1, 1) := by decide +kernel
theorem d_Mo_same_34 : decode b_Mo_same 34 = .ok (.putfield 61, 3) := by decide +kernel
theorem d_Mo_same_37 : decode b_Mo_same 37 = .ok (.iconst 0, 1) := by decide +kernel
theorem d_Mo_same_38 : decode b_Mo_same 38 = .ok (.ireturn, 1) := by decide +kernel
theorem d_Mo_same_39 : decode b_Mo_same 39 = .ok (.aload_n 0, 1) := by decide +kernel
theorem d_Mo_same_40 : decode b_Mo_same 40 = .ok (.getfield 34, 3) := by decide +kernel
theorem d_Mo_same_43 : decode b_Mo_same 43 = .ok (.iload 5, 2) := by decide +kernel
theorem d_Mo_same_45 : decode b_Mo_same 45 = .ok (.iaload, 1) := by decide +kernel
theorem d_Mo_same_46 : decode b_Mo_same 46 = .ok (.aload_n 0, 1) := by decide +kernel
theorem d_Mo_same_47 : decode b_Mo_same 47 = .ok (.getfield 34, 3) := by decide +kernel
theorem d_Mo_same_50 : decode b_Mo_same 50 = .ok (.iload 6, 2) := by decide +kernel
theorem d_Mo_same_52 : decode b_Mo_same 52 = .ok (.iaload, 1) := by decide +kernel
theorem d_Mo_same_53 : decode b_Mo_same 53 = .ok (.if_icmp .eq 5, 3) := by decide +kernel
theorem d_Mo_same_56 : decode b_Mo_same 56 = .ok (.iconst 0, 1) := by decide +kernel
theorem d_Mo_same_57 : decode b_Mo_same 57 = .ok (.ireturn, 1) := by decide +kernel
theorem d_Mo_same_58 : decode b_Mo_same 58 = .ok (.iconst 0, 1) := by decide +kernel
theorem d_Mo_same_59 : decode b_Mo_same 59 = .ok (.istore 7, 2) := by decide +kernel
theorem d_Mo_same_61 : decode b_Mo_same 61 = .ok (.iload 7, 2) := by decide +kernel
theorem d_Mo_same_63 : decode b_Mo_same 63 = .ok (.aload_n 0, 1) := by decide +kernel
theorem d_Mo_same_64 : decode b_Mo_same 64 = .ok (.getfield 34, 3) := by decide +kernel
theorem d_Mo_same_67 : decode b_Mo_same 67 = .ok (.iload 5, 2) := by decide +kernel
theorem d_Mo_same_69 : decode b_Mo_same 69 = .ok (.iaload, 1) := by decide +kernel
theorem d_Mo_same_70 : decode b_Mo_same 70 = .ok (.if_icmp .ge 50, 3) := by decide +kernel
theorem d_Mo_same_73 : decode b_Mo_same 73 = .ok (.aload_n 0, 1) := by decide +kernel
theorem d_Mo_same_74 : decode b_Mo_same 74 = .ok (.getfield 15, 3) := by decide +kernel
theorem d_Mo_same_77 : decode b_Mo_same 77 = .ok (.aload_n 0, 1) := by decide +kernel
theorem d_Mo_same_78 : decode b_Mo_same 78 = .ok (.getfield 31, 3) := by decide +kernel
theorem d_Mo_same_81 : decode b_Mo_same 81 = .ok (.iload 5, 2) := by decide +kernel
theorem d_Mo_same_83 : decode b_Mo_same 83 = .ok (.iaload, 1) := by decide +kernel
theorem d_Mo_same_84 : decode b_Mo_same 84 = .ok (.iload 7, 2) := by decide +kernel
theorem d_Mo_same_86 : decode b_Mo_same 86 = .ok (.iadd, 1) := by decide +kernel
theorem d_Mo_same_87 : decode b_Mo_same 87 = .ok (.baload, 1) := by decide +kernel
theorem d_Mo_same_88 : decode b_Mo_same 88 = .ok (.invokestatic 194, 3) := by decide +kernel
theorem d_Mo_same_91 : decode b_Mo_same 91 = .ok (.aload_n 0, 1) := by decide +kernel
theorem d_Mo_same_92 : decode b_Mo_same 92 = .ok (.getfield 15, 3) := by decide +kernel
theorem d_Mo_same_95 : decode b_Mo_same 95 = .ok (.aload_n 0, 1) := by decide +kernel
theorem d_Mo_same_96 : decode b_Mo_same 96 = .ok (.getfield 31, 3) := by decide +kernel
theorem d_Mo_same_99 : decode b_Mo_same 99 = .ok (.iload 6, 2) := by decide +kernel
theorem d_Mo_same_101 : decode b_Mo_same 101 = .ok (.iaload, 1) := by decide +kernel
theorem d_Mo_same_102 : decode b_Mo_same 102 = .ok (.iload 7, 2) := by decide +kernel
theorem d_Mo_same_104 : decode b_Mo_same 104 = .ok (.iadd, 1) := by decide +kernel
theorem d_Mo_same_105 : decode b_Mo_same 105 = .ok (.baload, 1) := by decide +kernel
theorem d_Mo_same_106 : decode b_Mo_same 106 = .ok (.invokestatic 194, 3) := by decide +kernel
theorem d_Mo_same_109 : decode b_Mo_same 109 = .ok (.if_icmp .eq 5, 3) := by decide +kernel
theorem d_Mo_same_112 : decode b_Mo_same 112 = .ok (.iconst 0, 1) := by decide +kernel
theorem d_Mo_same_113 : decode b_Mo_same 113 = .ok (.ireturn, 1) := by decide +kernel
theorem d_Mo_same_114 : decode b_Mo_same 114 = .ok (.iinc 7 1, 3) := by decide +kernel
theorem d_Mo_same_117 : decode b_Mo_same 117 = .ok (.goto (-56), 3) := by decide +kernel
theorem d_Mo_same_120 : decode b_Mo_same 120 = .ok (.iconst 1, 1) := by decide +kernel
theorem d_Mo_same_121 : decode b_Mo_same 121 = .ok (.ireturn, 1) := by decide +kernel
theorem d_Mo_order_0 : decode b_Mo_order 0 = .ok (.aload_n 0, 1) := by decide +kernel
theorem d_Mo_order_1 : decode b_Mo_order 1 = .ok (.iconst 0, 1) := by decide +kernel
theorem d_Mo_order_2 : decode b_Mo_order 2 = .ok (.putfield 61, 3) := by decide +kernel
theorem d_Mo_order_5 : decode b_Mo_order 5 = .ok (.aload_n 0, 1) := by decide +kernel
theorem d_Mo_order_6 : decode b_Mo_order 6 = .ok (.iload_n 1, 1) := by decide +kernel
theorem d_Mo_order_7 : decode b_Mo_order 7 = .ok (.iload_n 2, 1) := by decide +kernel
theorem d_Mo_order_8 : decode b_Mo_order 8 = .ok (.invokevirtual 190, 3) := by decide +kernel
theorem d_Mo_order_11 : decode b_Mo_order 11 = .ok (.istore 5, 2) := by decide +kernel
theorem d_Mo_order_13 : decode b_Mo_order 13 = .ok (.aload_n 0, 1) := by decide +kernel
theorem d_Mo_order_14 : decode b_Mo_order 14 = .ok (.iload_n 3, 1) := by decide +kernel
theorem d_Mo_order_15 : decode b_Mo_order 15 = .ok (.iload 4, 2) := by decide +kernel
theorem d_Mo_order_17 : decode b_Mo_order 17 = .ok (.invokevirtual 190, 3) := by decide +kernel
theorem d_Mo_order_20 : decode b_Mo_order 20 = .ok (.istore 6, 2) := by decide +kernel
theorem d_Mo_order_22 : decode b_Mo_order 22 = .ok (.iload 5, 2) := by decide +kernel
theorem d_Mo_order_24 : decode b_Mo_order 24 = .ok (.ifCond .lt 8, 3) := by decide +kernel
theorem d_Mo_order_27 : decode b_Mo_order 27 = .ok (.iload 6, 2) := by decide +kernel
theorem d_Mo_order_29 : decode b_Mo_order 29 = .ok (.ifCond .ge 9, 3) := by decide +kernel
theorem d_Mo_order_32 : decode b_Mo_order 32 = .ok (.aload_n 0, 1) := by decide +kernel
theorem d_Mo_order_33 : decode b_Mo_order 33 = .ok (.iconst 1, 1) := by decide +kernel
theorem d_Mo_order_34 : decode b_Mo_order 34 = .ok (.invokevirtual 138, 3) := by decide +kernel
theorem d_Mo_order_37 : decode b_Mo_order 37 = .ok (.ireturn, 1) := by decide +kernel
theorem d_Mo_order_38 : decode b_Mo_order 38 = .ok (.aload_n 0, 1) := by decide +kernel
theorem d_Mo_order_39 : decode b_Mo_order 39 = .ok (.iload 5, 2) := by decide +kernel
theorem d_Mo_order_41 : decode b_Mo_order 41 = .ok (.invokevirtual 197, 3) := by decide +kernel
theorem d_Mo_order_44 : decode b_Mo_order 44 = .ok (.istore 7, 2) := by decide +kernel
theorem d_Mo_order_46 : decode b_Mo_order 46 = .ok (.aload_n 0, 1) := by decide +kernel
theorem d_Mo_order_47 : decode b_Mo_order 47 = .ok (.iload 6, 2) := by decide +kernel
theorem d_Mo_order_49 : decode b_Mo_order 49 = .ok (.invokevirtual 197, 3) := by decide +kernel
theorem d_Mo_order_52 : decode b_Mo_order 52 = .ok (.istore 8, 2) := by decide +kernel
theorem d_Mo_order_54 : decode b_Mo_order 54 = .ok (.iconst 1, 1) := by decide +kernel
theorem d_Mo_order_55 : decode b_Mo_order 55 = .ok (.istore 9, 2) := by decide +kernel
theorem d_Mo_order_57 : decode b_Mo_order 57 = .ok (.iload 9, 2) := by decide +kernel
theorem d_Mo_order_59 : decode b_Mo_order 59 = .ok (.iload 7, 2) := by decide +kernel
theorem d_Mo_order_61 : decode b_Mo_order 61 = .ok (.if_icmp .gt 46, 3) := by decide +kernel
theorem d_Mo_order_64 : decode b_Mo_order 64 = .ok (.iload 9, 2) := by decide +kernel
theorem d_Mo_order_66 : decode b_Mo_order 66 = .ok (.iload 8, 2) := by decide +kernel
theorem d_Mo_order_68 : decode b_Mo_order 68 = .ok (.if_icmp .gt 39, 3) := by decide +kernel
theorem d_Mo_order_71 : decode b_Mo_order 71 = .ok (.aload_n 0, 1) := by decide +kernel
theorem d_Mo_order_72 : decode b_Mo_order 72 = .ok (.aload_n 0, 1) := by decide +kernel
theorem d_Mo_order_73 : decode b_Mo_order 73 = .ok (.iload 5, 2) := by decide +kernel
theorem d_Mo_order_75 : decode b_Mo_order 75 = .ok (.iload 9, 2) := by decide +kernel
theorem d_Mo_order_77 : decode b_Mo_order 77 = .ok (.invokevirtual 200, 3) := by decide +kernel
theorem d_Mo_order_80 : decode b_Mo_order 80 = .ok (.aload_n 0, 1) := by decide +kernel
theorem d_Mo_order_81 : decode b_Mo_order 81 = .ok (.iload 6, 2) := by decide +kernel
theorem d_Mo_order_83 : decode b_Mo_order 83 = .ok (.iload 9, 2) := by decide +kernel
theorem d_Mo_order_85 : decode b_Mo_order 85 = .ok (.invokevirtual 200, 3) := by decide +kernel
theorem d_Mo_order_88 : decode b_Mo_order 88 = .ok (.invokevirtual 203, 3) := by decide +kernel
theorem d_Mo_order_91 : decode b_Mo_order 91 = .ok (.istore 10, 2) := by decide +kernel
theorem d_Mo_order_93 : decode b_Mo_order 93 = .ok (.iload 10, 2) := by decide +kernel
theorem d_Mo_order_95 : decode b_Mo_order 95 = .ok (.ifCond .eq 6, 3) := by decide +kernel
theorem d_Mo_order_98 : decode b_Mo_order 98 = .ok (.iload 10, 2) := by decide +kernel
theorem d_Mo_order_100 : decode b_Mo_order 100 = .ok (.ireturn, 1) := by decide +kernel
theorem d_Mo_order_101 : decode b_Mo_order 101 = .ok (.iinc 9 1, 3) := by decide +kernel
theorem d_Mo_order_104 : decode b_Mo_order 104 = .ok (.goto (-47), 3) := by decide +kernel
theorem d_Mo_order_107 : decode b_Mo_order 107 = .ok (.iload 7, 2) := by decide +kernel
theorem d_Mo_order_109 : decode b_Mo_order 109 = .ok (.iload 8, 2) := by decide +kernel
theorem d_Mo_order_111 : decode b_Mo_order 111 = .ok (.if_icmp .ne 7, 3) := by decide +kernel
theorem d_Mo_order_114 : decode b_Mo_order 114 = .ok (.iconst 0, 1) := by decide +kernel
theorem d_Mo_order_115 : decode b_Mo_order 115 = .ok (.goto 15, 3) := by decide +kernel
theorem d_Mo_order_118 : decode b_Mo_order 118 = .ok (.iload 7, 2) := by decide +kernel
theorem d_Mo_order_120 : decode b_Mo_order 120 = .ok (.iload 8, 2) := by decide +kernel
theorem d_Mo_order_122 : decode b_Mo_order 122 = .ok (.if_icmp .ge 7, 3) := by decide +kernel
theorem d_Mo_order_125 : decode b_Mo_order 125 = .ok (.iconst (-1), 1) := by decide +kernel
theorem d_Mo_order_126 : decode b_Mo_order 126 = .ok (.goto 4, 3) := by decide +kernel
theorem d_Mo_order_129 : decode b_Mo_order 129 = .ok (.iconst 1, 1) := by decide +kernel
theorem d_Mo_order_130 : decode b_Mo_order 130 = .ok (.ireturn, 1) := by decide +kernel
set_option maxHeartbeats 4000000 in
set_option maxRecDepth 100000 in
theorem c_Mo_fail (l : Launch) (D9 : va_G) (cB cI cJ cG : ClassId) (mo xta xst xse xty xki xti xna xns xda xds xme xep xea xcw : Nat) (u1 : Int32) : MW l D9 cls9 (ty9 cB cI cJ cG) y_Mo_fail b_Mo_fail 2 (some .int) (rm9 0 0 0) [.ref mo, .int u1] [(mo, .inr (7, [.int 0, .ref xta, .int 0, .ref xst, .int 0, .int 0, .int 0, .int 0, .ref xse, .ref xty, .ref xki, .ref xti, .ref xna, .ref xns, .ref xda, .ref xds, .int (-1), .int 0, .int 0, .int 0, .int 0, .int 0, .int 0, .ref xme, .int 0, .int 0, .ref xep, .ref xea, .int 0, .ref xcw]))] (fun v8 w2 => v8 = some (.int 0) ∧ w2 = [(mo, .inr (7, [.int (u1), .ref xta, .int 0, .ref xst, .int 0, .int 0, .int 0, .int 0, .ref xse, .ref xty, .ref xki, .ref xti, .ref xna, .ref xns, .ref xda, .ref xds, .int (-1), .int 0, .int 0, .int 0, .int 0, .int 0, .int 0, .ref xme, .int 0, .int 0, .ref xep, .ref xea, .int 0, .ref xcw]))]) 0 0 := by
  refine mw_of (by decide) (Nat.le_of_ble_eq_true rfl) ?_
  intro p e s m below meth c ls C0 hin hP hD hA hS hl
  obtain ⟨hx, hb, hml, hr, hlocks, hown, hts, hK⟩ := id C0
  have hl : lv_has ls 2 [(0, .ref mo), (1, .int u1)] := hl
  refine lv_aload_n hx hb d_Mo_fail_0 rfl (lv_at hl 0 rfl) ?_
  refine lv_iload_n hx hb d_Mo_fail_1 rfl (lv_at hl 1 rfl) ?_
  refine va_put (D := D9) (ty := .int) (ci := 7) (C := R_Mo) (T := F_Mo) (N := 30) hx hb hts i_Mo t_Mo t_Mo_ok n_Mo hown hK hP hD hS 0 rfl rfl 0 (by decide) (hts _ g_722) (fun _ h9 => h9) rfl (by decide +kernel) rfl rfl (Nat.le_of_ble_eq_true rfl) d_Mo_fail_2 (fun H locs hP hD hS => ?_)
  have hP : va_P D9 cls9 [(mo, .inr (7, [.int (u1), .ref xta, .int 0, .ref xst, .int 0, .int 0, .int 0, .int 0, .ref xse, .ref xty, .ref xki, .ref xti, .ref xna, .ref xns, .ref xda, .ref xds, .int (-1), .int 0, .int 0, .int 0, .int 0, .int 0, .int 0, .ref xme, .int 0, .int 0, .ref xep, .ref xea, .int 0, .ref xcw]))] H := hP
  have hD : va_D _ [(mo, .inr (7, [.int (u1), .ref xta, .int 0, .ref xst, .int 0, .int 0, .int 0, .int 0, .ref xse, .ref xty, .ref xki, .ref xti, .ref xna, .ref xns, .ref xda, .ref xds, .int (-1), .int 0, .int 0, .int 0, .int 0, .int 0, .int 0, .ref xme, .int 0, .int 0, .ref xep, .ref xea, .int 0, .ref xcw]))] := hD
  refine lv_iconst (v := 0) hx hb d_Mo_fail_5 (by decide) ?_
  exact mw_zret hx hb hr hlocks hS hP hD (by decide) (by decide) d_Mo_fail_6 (by first | rfl | decide +kernel) (⟨rfl, rfl⟩)
set_option maxHeartbeats 4000000 in
set_option maxRecDepth 100000 in
theorem c_Mo_none (l : Launch) (D9 : va_G) (cB cI cJ cG : ClassId) (mo xta xst xse xty xki xti xna xns xda xds xme xep xea xcw : Nat) : MW l D9 cls9 (ty9 cB cI cJ cG) y_Mo_none b_Mo_none 1 none (rm9 0 0 0) [.ref mo] [(mo, .inr (7, [.int 0, .ref xta, .int 0, .ref xst, .int 0, .int 0, .int 0, .int 0, .ref xse, .ref xty, .ref xki, .ref xti, .ref xna, .ref xns, .ref xda, .ref xds, .int (-1), .int 0, .int 0, .int 0, .int 0, .int 0, .int 0, .ref xme, .int 0, .int 0, .ref xep, .ref xea, .int 0, .ref xcw]))] (fun v8 w2 => v8 = none ∧ w2 = [(mo, .inr (7, [.int 0, .ref xta, .int 0, .ref xst, .int (0), .int (0), .int (0), .int (0), .ref xse, .ref xty, .ref xki, .ref xti, .ref xna, .ref xns, .ref xda, .ref xds, .int (-1), .int 0, .int 0, .int 0, .int 0, .int 0, .int 0, .ref xme, .int 0, .int 0, .ref xep, .ref xea, .int 0, .ref xcw]))]) 0 0 := by
  refine mw_of (by decide) (Nat.le_of_ble_eq_true rfl) ?_
  intro p e s m below meth c ls C0 hin hP hD hA hS hl
  obtain ⟨hx, hb, hml, hr, hlocks, hown, hts, hK⟩ := id C0
  have hl : lv_has ls 1 [(0, .ref mo)] := hl
  refine lv_aload_n hx hb d_Mo_none_0 rfl (lv_at hl 0 rfl) ?_
  refine lv_iconst (v := 0) hx hb d_Mo_none_1 (by decide) ?_
  refine va_put (D := D9) (ty := .int) (ci := 7) (C := R_Mo) (T := F_Mo) (N := 30) hx hb hts i_Mo t_Mo t_Mo_ok n_Mo hown hK hP hD hS 0 rfl rfl 4 (by decide) (hts _ g_726) (fun _ h9 => h9) rfl (by decide +kernel) rfl rfl (Nat.le_of_ble_eq_true rfl) d_Mo_none_2 (fun H locs hP hD hS => ?_)
  have hP : va_P D9 cls9 [(mo, .inr (7, [.int 0, .ref xta, .int 0, .ref xst, .int (0), .int 0, .int 0, .int 0, .ref xse, .ref xty, .ref xki, .ref xti, .ref xna, .ref xns, .ref xda, .ref xds, .int (-1), .int 0, .int 0, .int 0, .int 0, .int 0, .int 0, .ref xme, .int 0, .int 0, .ref xep, .ref xea, .int 0, .ref xcw]))] H := hP
  have hD : va_D _ [(mo, .inr (7, [.int 0, .ref xta, .int 0, .ref xst, .int (0), .int 0, .int 0, .int 0, .ref xse, .ref xty, .ref xki, .ref xti, .ref xna, .ref xns, .ref xda, .ref xds, .int (-1), .int 0, .int 0, .int 0, .int 0, .int 0, .int 0, .ref xme, .int 0, .int 0, .ref xep, .ref xea, .int 0, .ref xcw]))] := hD
  refine lv_aload_n hx hb d_Mo_none_5 rfl (lv_at hl 0 rfl) ?_
  refine lv_iconst (v := 0) hx hb d_Mo_none_6 (by decide) ?_
  refine va_put (D := D9) (ty := .int) (ci := 7) (C := R_Mo) (T := F_Mo) (N := 30) hx hb hts i_Mo t_Mo t_Mo_ok n_Mo hown hK hP hD hS 0 rfl rfl 5 (by decide) (hts _ g_727) (fun _ h9 => h9) rfl (by decide +kernel) rfl rfl (Nat.le_of_ble_eq_true rfl) d_Mo_none_7 (fun H locs hP hD hS => ?_)
  have hP : va_P D9 cls9 [(mo, .inr (7, [.int 0, .ref xta, .int 0, .ref xst, .int (0), .int (0), .int 0, .int 0, .ref xse, .ref xty, .ref xki, .ref xti, .ref xna, .ref xns, .ref xda, .ref xds, .int (-1), .int 0, .int 0, .int 0, .int 0, .int 0, .int 0, .ref xme, .int 0, .int 0, .ref xep, .ref xea, .int 0, .ref xcw]))] H := hP
  have hD : va_D _ [(mo, .inr (7, [.int 0, .ref xta, .int 0, .ref xst, .int (0), .int (0), .int 0, .int 0, .ref xse, .ref xty, .ref xki, .ref xti, .ref xna, .ref xns, .ref xda, .ref xds, .int (-1), .int 0, .int 0, .int 0, .int 0, .int 0, .int 0, .ref xme, .int 0, .int 0, .ref xep, .ref xea, .int 0, .ref xcw]))] := hD
  refine lv_aload_n hx hb d_Mo_none_10 rfl (lv_at hl 0 rfl) ?_
  refine lv_iconst (v := 0) hx hb d_Mo_none_11 (by decide) ?_
  refine va_put (D := D9) (ty := .int) (ci := 7) (C := R_Mo) (T := F_Mo) (N := 30) hx hb hts i_Mo t_Mo t_Mo_ok n_Mo hown hK hP hD hS 0 rfl rfl 6 (by decide) (hts _ g_728) (fun _ h9 => h9) rfl (by decide +kernel) rfl rfl (Nat.le_of_ble_eq_true rfl) d_Mo_none_12 (fun H locs hP hD hS => ?_)
  have hP : va_P D9 cls9 [(mo, .inr (7, [.int 0, .ref xta, .int 0, .ref xst, .int (0), .int (0), .int (0), .int 0, .ref xse, .ref xty, .ref xki, .ref xti, .ref xna, .ref xns, .ref xda, .ref xds, .int (-1), .int 0, .int 0, .int 0, .int 0, .int 0, .int 0, .ref xme, .int 0, .int 0, .ref xep, .ref xea, .int 0, .ref xcw]))] H := hP
  have hD : va_D _ [(mo, .inr (7, [.int 0, .ref xta, .int 0, .ref xst, .int (0), .int (0), .int (0), .int 0, .ref xse, .ref xty, .ref xki, .ref xti, .ref xna, .ref xns, .ref xda, .ref xds, .int (-1), .int 0, .int 0, .int 0, .int 0, .int 0, .int 0, .ref xme, .int 0, .int 0, .ref xep, .ref xea, .int 0, .ref xcw]))] := hD
  refine lv_aload_n hx hb d_Mo_none_15 rfl (lv_at hl 0 rfl) ?_
  refine lv_iconst (v := 0) hx hb d_Mo_none_16 (by decide) ?_
  refine va_put (D := D9) (ty := .int) (ci := 7) (C := R_Mo) (T := F_Mo) (N := 30) hx hb hts i_Mo t_Mo t_Mo_ok n_Mo hown hK hP hD hS 0 rfl rfl 7 (by decide) (hts _ g_729) (fun _ h9 => h9) rfl (by decide +kernel) rfl rfl (Nat.le_of_ble_eq_true rfl) d_Mo_none_17 (fun H locs hP hD hS => ?_)
  have hP : va_P D9 cls9 [(mo, .inr (7, [.int 0, .ref xta, .int 0, .ref xst, .int (0), .int (0), .int (0), .int (0), .ref xse, .ref xty, .ref xki, .ref xti, .ref xna, .ref xns, .ref xda, .ref xds, .int (-1), .int 0, .int 0, .int 0, .int 0, .int 0, .int 0, .ref xme, .int 0, .int 0, .ref xep, .ref xea, .int 0, .ref xcw]))] H := hP
  have hD : va_D _ [(mo, .inr (7, [.int 0, .ref xta, .int 0, .ref xst, .int (0), .int (0), .int (0), .int (0), .ref xse, .ref xty, .ref xki, .ref xti, .ref xna, .ref xns, .ref xda, .ref xds, .int (-1), .int 0, .int 0, .int 0, .int 0, .int 0, .int 0, .ref xme, .int 0, .int 0, .ref xep, .ref xea, .int 0, .ref xcw]))] := hD
  exact mw_vret hx hb hr hlocks hS hP hD (by decide) (by decide) d_Mo_none_20 (⟨rfl, rfl⟩)
set_option maxHeartbeats 4000000 in
set_option maxRecDepth 100000 in
theorem c_Mo_wholeName (l : Launch) (D9 : va_G) (cB cI cJ cG : ClassId) (mo xta xst xse xty xki xti xna xns xda xds xme xep xea xcw : Nat) : MW l D9 cls9 (ty9 cB cI cJ cG) y_Mo_wholeName b_Mo_wholeName 3 (some .int) (rm9 0 0 0) [.ref mo, .int 0] [(mo, .inr (7, [.int 0, .ref xta, .int 0, .ref xst, .int 0, .int 0, .int 0, .int 0, .ref xse, .ref xty, .ref xki, .ref xti, .ref xna, .ref xns, .ref xda, .ref xds, .int (-1), .int 0, .int 0, .int 0, .int 0, .int 0, .int 0, .ref xme, .int 0, .int 0, .ref xep, .ref xea, .int 0, .ref xcw]))] (fun v8 w2 => v8 = some (.int (-1)) ∧ w2 = [(mo, .inr (7, [.int 0, .ref xta, .int 0, .ref xst, .int 0, .int 0, .int 0, .int 0, .ref xse, .ref xty, .ref xki, .ref xti, .ref xna, .ref xns, .ref xda, .ref xds, .int (-1), .int 0, .int 0, .int 0, .int 0, .int 0, .int 0, .ref xme, .int 0, .int 0, .ref xep, .ref xea, .int 0, .ref xcw]))]) 0 0 := by
  refine mw_of (by decide) (Nat.le_of_ble_eq_true rfl) ?_
  intro p e s m below meth c ls C0 hin hP hD hA hS hl
  obtain ⟨hx, hb, hml, hr, hlocks, hown, hts, hK⟩ := id C0
  have hl : lv_has ls 3 [(0, .ref mo), (1, .int 0)] := hl
  refine lv_iload_n hx hb d_Mo_wholeName_0 rfl (lv_at hl 1 rfl) ?_
  refine lv_istore_n (lv' := [(2, _), (0, _), (1, _)]) hx hb d_Mo_wholeName_1 rfl hl (by decide) rfl (fun ls hl => ?_)
  refine lv_iload_n hx hb d_Mo_wholeName_2 rfl (lv_at hl 0 rfl) ?_
  refine lv_aload_n hx hb d_Mo_wholeName_3 rfl (lv_at hl 1 rfl) ?_
  refine va_get (D := D9) (ci := 7) (C := R_Mo) (T := F_Mo) (N := 30) hx hb hts i_Mo hown hK hP 0 rfl rfl 2 (by decide) (hts _ g_724) (fun _ h9 => h9) rfl d_Mo_wholeName_4 ?_
  refine lv_icmp_ge (tgt := 43) hx hb d_Mo_wholeName_7 (by decide) (fun c1 => ?_) (fun c1 => ?_)
  · refine lv_iload_n hx hb d_Mo_wholeName_43 rfl (lv_at hl 0 rfl) ?_
    refine lv_aload_n hx hb d_Mo_wholeName_44 rfl (lv_at hl 1 rfl) ?_
    refine va_get (D := D9) (ci := 7) (C := R_Mo) (T := F_Mo) (N := 30) hx hb hts i_Mo hown hK hP 0 rfl rfl 2 (by decide) (hts _ g_724) (fun _ h9 => h9) rfl d_Mo_wholeName_45 ?_
    refine lv_icmp_ge (tgt := 62) hx hb d_Mo_wholeName_48 (by decide) (fun c2 => ?_) (fun c2 => ?_)
    · refine lv_iconst (v := -1) hx hb d_Mo_wholeName_62 (by decide) ?_
      refine lv_goto (tgt := 69) hx hb d_Mo_wholeName_63 (by decide) ?_
      exact mw_zret hx hb hr hlocks hS hP hD (by decide) (by decide) d_Mo_wholeName_69 (by first | rfl | decide +kernel) (⟨rfl, rfl⟩)
    · exact absurd c2 (by decide +kernel)
  · exact absurd c1 (by decide +kernel)
set_option maxHeartbeats 4000000 in
set_option maxRecDepth 100000 in
theorem c_Mo_countOf (l : Launch) (D9 : va_G) (cB cI cJ cG : ClassId) (mo xta xst xse xty xki xti xna xns xda xds xme xep xea xcw : Nat) (u1 : Int32) : MW l D9 cls9 (ty9 cB cI cJ cG) y_Mo_countOf b_Mo_countOf 4 (some .int) (rm9 0 0 0) [.ref mo, .int u1] [(mo, .inr (7, [.int 0, .ref xta, .int 0, .ref xst, .int 0, .int 0, .int 0, .int 0, .ref xse, .ref xty, .ref xki, .ref xti, .ref xna, .ref xns, .ref xda, .ref xds, .int (-1), .int 0, .int 0, .int 0, .int 0, .int 0, .int 0, .ref xme, .int 0, .int 0, .ref xep, .ref xea, .int 0, .ref xcw]))] (fun v8 w2 => v8 = some (.int 0) ∧ w2 = [(mo, .inr (7, [.int 0, .ref xta, .int 0, .ref xst, .int 0, .int 0, .int 0, .int 0, .ref xse, .ref xty, .ref xki, .ref xti, .ref xna, .ref xns, .ref xda, .ref xds, .int (-1), .int 0, .int 0, .int 0, .int 0, .int 0, .int 0, .ref xme, .int 0, .int 0, .ref xep, .ref xea, .int 0, .ref xcw]))]) 0 0 := by
  refine mw_of (by decide) (Nat.le_of_ble_eq_true rfl) ?_
  intro p e s m below meth c ls C0 hin hP hD hA hS hl
  obtain ⟨hx, hb, hml, hr, hlocks, hown, hts, hK⟩ := id C0
  have hl : lv_has ls 4 [(0, .ref mo), (1, .int u1)] := hl
  refine lv_iconst (v := 0) hx hb d_Mo_countOf_0 (by decide) ?_
  refine lv_istore_n (lv' := [(2, _), (0, _), (1, _)]) hx hb d_Mo_countOf_1 rfl hl (by decide) rfl (fun ls hl => ?_)
  refine lv_iconst (v := 0) hx hb d_Mo_countOf_2 (by decide) ?_
  refine lv_istore_n (lv' := [(3, _), (2, _), (0, _), (1, _)]) hx hb d_Mo_countOf_3 rfl hl (by decide) rfl (fun ls hl => ?_)
  refine lv_iload_n hx hb d_Mo_countOf_4 rfl (lv_at hl 0 rfl) ?_
  refine lv_aload_n hx hb d_Mo_countOf_5 rfl (lv_at hl 2 rfl) ?_
  refine va_get (D := D9) (ci := 7) (C := R_Mo) (T := F_Mo) (N := 30) hx hb hts i_Mo hown hK hP 0 rfl rfl 5 (by decide) (hts _ g_727) (fun _ h9 => h9) rfl d_Mo_countOf_6 ?_
  refine lv_icmp_ge (tgt := 31) hx hb d_Mo_countOf_9 (by decide) (fun c1 => ?_) (fun c1 => ?_)
  · refine lv_iload_n hx hb d_Mo_countOf_31 rfl (lv_at hl 1 rfl) ?_
    exact mw_zret hx hb hr hlocks hS hP hD (by decide) (by decide) d_Mo_countOf_32 (by first | rfl | decide +kernel) (⟨rfl, rfl⟩)
  · exact absurd c1 (by decide +kernel)
set_option maxHeartbeats 4000000 in
set_option maxRecDepth 100000 in
theorem c_Mo_place (l : Launch) (D9 : va_G) (cB cI cJ cG : ClassId) (mo xta xst xse xty xki xti xna xns xda xds xme xep xea xcw : Nat) (u1 u2 : Int32) : MW l D9 cls9 (ty9 cB cI cJ cG) y_Mo_place b_Mo_place 5 (some .int) (rm9 0 0 0) [.ref mo, .int u1, .int u2] [(mo, .inr (7, [.int 0, .ref xta, .int 0, .ref xst, .int 0, .int 0, .int 0, .int 0, .ref xse, .ref xty, .ref xki, .ref xti, .ref xna, .ref xns, .ref xda, .ref xds, .int (-1), .int 0, .int 0, .int 0, .int 0, .int 0, .int 0, .ref xme, .int 0, .int 0, .ref xep, .ref xea, .int 0, .ref xcw]))] (fun v8 w2 => v8 = some (.int (-1)) ∧ w2 = [(mo, .inr (7, [.int 0, .ref xta, .int 0, .ref xst, .int 0, .int 0, .int 0, .int 0, .ref xse, .ref xty, .ref xki, .ref xti, .ref xna, .ref xns, .ref xda, .ref xds, .int (-1), .int 0, .int 0, .int 0, .int 0, .int 0, .int 0, .ref xme, .int 0, .int 0, .ref xep, .ref xea, .int 0, .ref xcw]))]) 0 0 := by
  refine mw_of (by decide) (Nat.le_of_ble_eq_true rfl) ?_
  intro p e s m below meth c ls C0 hin hP hD hA hS hl
  obtain ⟨hx, hb, hml, hr, hlocks, hown, hts, hK⟩ := id C0
  have hl : lv_has ls 5 [(0, .ref mo), (1, .int u1), (2, .int u2)] := hl
  refine lv_iload_n hx hb d_Mo_place_0 rfl (lv_at hl 2 rfl) ?_
  refine lv_istore_n (lv' := [(3, _), (0, _), (1, _), (2, _)]) hx hb d_Mo_place_1 rfl hl (by decide) rfl (fun ls hl => ?_)
  refine lv_iload_n hx hb d_Mo_place_2 rfl (lv_at hl 3 rfl) ?_
  refine lv_if_ge (tgt := 8) hx hb d_Mo_place_3 (by decide) (fun c1 => ?_) (fun c1 => ?_)
  · refine lv_iconst (v := 0) hx hb d_Mo_place_8 (by decide) ?_
    refine lv_istore (lv' := [(4, _), (3, _), (0, _), (1, _), (2, _)]) hx hb d_Mo_place_9 hl (by decide) rfl (fun ls hl => ?_)
    refine lv_iload hx hb d_Mo_place_11 (lv_at hl 0 rfl) ?_
    refine lv_aload_n hx hb d_Mo_place_13 rfl (lv_at hl 2 rfl) ?_
    refine va_get (D := D9) (ci := 7) (C := R_Mo) (T := F_Mo) (N := 30) hx hb hts i_Mo hown hK hP 0 rfl rfl 5 (by decide) (hts _ g_727) (fun _ h9 => h9) rfl d_Mo_place_14 ?_
    refine lv_icmp_ge (tgt := 50) hx hb d_Mo_place_17 (by decide) (fun c2 => ?_) (fun c2 => ?_)
    · refine lv_iconst (v := -1) hx hb d_Mo_place_50 (by decide) ?_
      exact mw_zret hx hb hr hlocks hS hP hD (by decide) (by decide) d_Mo_place_51 (by first | rfl | decide +kernel) (⟨rfl, rfl⟩)
    · exact absurd c2 (by decide +kernel)
  · refine lv_iconst (v := -1) hx hb d_Mo_place_6 (by decide) ?_
    exact mw_zret hx hb hr hlocks hS hP hD (by decide) (by decide) d_Mo_place_7 (by first | rfl | decide +kernel) (⟨rfl, rfl⟩)
set_option maxHeartbeats 4000000 in
set_option maxRecDepth 100000 in
theorem c_Mo_faultAt (l : Launch) (D9 : va_G) (cB cI cJ cG : ClassId) (mo xta xst xse xty xki xti xna xns xda xds xme xep xea xcw : Nat) : MW l D9 cls9 (ty9 cB cI cJ cG) y_Mo_faultAt b_Mo_faultAt 1 (some .int) (rm9 0 0 0) [.ref mo] [(mo, .inr (7, [.int 0, .ref xta, .int 0, .ref xst, .int 0, .int 0, .int 0, .int 0, .ref xse, .ref xty, .ref xki, .ref xti, .ref xna, .ref xns, .ref xda, .ref xds, .int (-1), .int 0, .int 0, .int 0, .int 0, .int 0, .int 0, .ref xme, .int 0, .int 0, .ref xep, .ref xea, .int 0, .ref xcw]))] (fun v8 w2 => ∃ (r : Int32) (x0 : Int32) (x1 : Int32) (x2 : Int32) (x3 : Int32) (x4 : Int32) (x5 : Int32) (x6 : Int32) (x7 : Int32) (x8 : Int32) (x9 : Int32) (x10 : Int32) (x11 : Int32) (x12 : Int32) (x13 : Int32) (x14 : Int32) (x15 : Int32), v8 = some (.int r) ∧ w2 = [(mo, .inr (7, [.int x0, .ref xta, .int x1, .ref xst, .int x2, .int x3, .int x4, .int x5, .ref xse, .ref xty, .ref xki, .ref xti, .ref xna, .ref xns, .ref xda, .ref xds, .int x6, .int x7, .int x8, .int x9, .int x10, .int x11, .int x12, .ref xme, .int x13, .int x14, .ref xep, .ref xea, .int x15, .ref xcw]))] ∧ (r = -1 ∧ x0 = 0)) 0 0 := by
  refine mw_of (by decide) (Nat.le_of_ble_eq_true rfl) ?_
  intro p e s m below meth c ls C0 hin hP hD hA hS hl
  obtain ⟨hx, hb, hml, hr, hlocks, hown, hts, hK⟩ := id C0
  have hl : lv_has ls 1 [(0, .ref mo)] := hl
  refine lv_aload_n hx hb d_Mo_faultAt_0 rfl (lv_at hl 0 rfl) ?_
  refine lv_iconst (v := 0) hx hb d_Mo_faultAt_1 (by decide) ?_
  refine va_put (D := D9) (ty := .int) (ci := 7) (C := R_Mo) (T := F_Mo) (N := 30) hx hb hts i_Mo t_Mo t_Mo_ok n_Mo hown hK hP hD hS 0 rfl rfl 0 (by decide) (hts _ g_722) (fun _ h9 => h9) rfl (by decide +kernel) rfl rfl (Nat.le_of_ble_eq_true rfl) d_Mo_faultAt_2 (fun H locs hP hD hS => ?_)
  have hP : va_P D9 cls9 [(mo, .inr (7, [.int (0), .ref xta, .int 0, .ref xst, .int 0, .int 0, .int 0, .int 0, .ref xse, .ref xty, .ref xki, .ref xti, .ref xna, .ref xns, .ref xda, .ref xds, .int (-1), .int 0, .int 0, .int 0, .int 0, .int 0, .int 0, .ref xme, .int 0, .int 0, .ref xep, .ref xea, .int 0, .ref xcw]))] H := hP
  have hD : va_D _ [(mo, .inr (7, [.int (0), .ref xta, .int 0, .ref xst, .int 0, .int 0, .int 0, .int 0, .ref xse, .ref xty, .ref xki, .ref xti, .ref xna, .ref xns, .ref xda, .ref xds, .int (-1), .int 0, .int 0, .int 0, .int 0, .int 0, .int 0, .ref xme, .int 0, .int 0, .ref xep, .ref xea, .int 0, .ref xcw]))] := hD
  refine lv_aload_n hx hb d_Mo_faultAt_5 rfl (lv_at hl 0 rfl) ?_
  refine va_get (D := D9) (ci := 7) (C := R_Mo) (T := F_Mo) (N := 30) hx hb hts i_Mo hown hK hP 0 rfl rfl 16 (by decide) (hts _ g_738) (fun _ h9 => h9) rfl d_Mo_faultAt_6 ?_
  exact mw_zret hx hb hr hlocks hS hP hD (by decide) (by decide) d_Mo_faultAt_9 (by first | rfl | decide +kernel) (⟨_, _, _, _, _, _, _, _, _, _, _, _, _, _, _, _, _, rfl, rfl, ⟨rfl, rfl⟩⟩)
set_option maxHeartbeats 4000000 in
set_option maxRecDepth 100000 in
theorem c_Mo_begin (l : Launch) (D9 : va_G) (cB cI cJ cG : ClassId) (mo xta xst xse xty xki xti xna xns xda xds xme xep xea xcw : Nat) (u1 u2 : Int32) : MW l D9 cls9 (ty9 cB cI cJ cG) y_Mo_begin b_Mo_begin 3 none (rm9 1 0 0) [.ref mo, .int u1, .int u2] [(mo, .inr (7, [.int 0, .ref xta, .int 0, .ref xst, .int 0, .int 0, .int 0, .int 0, .ref xse, .ref xty, .ref xki, .ref xti, .ref xna, .ref xns, .ref xda, .ref xds, .int (-1), .int 0, .int 0, .int 0, .int 0, .int 0, .int 0, .ref xme, .int 0, .int 0, .ref xep, .ref xea, .int 0, .ref xcw]))] (fun v8 w2 => ∃ (x0 : Int32) (x1 : Int32) (x2 : Int32) (x3 : Int32) (x4 : Int32) (x5 : Int32) (x6 : Int32) (x7 : Int32) (x8 : Int32) (x9 : Int32) (x10 : Int32) (x11 : Int32) (x12 : Int32) (x13 : Int32) (x14 : Int32) (x15 : Int32), v8 = none ∧ w2 = [(mo, .inr (7, [.int x0, .ref xta, .int x1, .ref xst, .int x2, .int x3, .int x4, .int x5, .ref xse, .ref xty, .ref xki, .ref xti, .ref xna, .ref xns, .ref xda, .ref xds, .int x6, .int x7, .int x8, .int x9, .int x10, .int x11, .int x12, .ref xme, .int x13, .int x14, .ref xep, .ref xea, .int x15, .ref xcw]))] ∧ (x0 = 0)) 0 0 := by
  refine mw_of (by decide) (Nat.le_of_ble_eq_true rfl) ?_
  intro p e s m below meth c ls C0 hin hP hD hA hS hl
  obtain ⟨hx, hb, hml, hr, hlocks, hown, hts, hK⟩ := id C0
  have hl : lv_has ls 3 [(0, .ref mo), (1, .int u1), (2, .int u2)] := hl
  refine lv_aload_n hx hb d_Mo_begin_0 rfl (lv_at hl 0 rfl) ?_
  refine lv_iconst (v := 0) hx hb d_Mo_begin_1 (by decide) ?_
  refine va_put (D := D9) (ty := .int) (ci := 7) (C := R_Mo) (T := F_Mo) (N := 30) hx hb hts i_Mo t_Mo t_Mo_ok n_Mo hown hK hP hD hS 0 rfl rfl 0 (by decide) (hts _ g_722) (fun _ h9 => h9) rfl (by decide +kernel) rfl rfl (Nat.le_of_ble_eq_true rfl) d_Mo_begin_2 (fun H locs hP hD hS => ?_)
  have hP : va_P D9 cls9 [(mo, .inr (7, [.int (0), .ref xta, .int 0, .ref xst, .int 0, .int 0, .int 0, .int 0, .ref xse, .ref xty, .ref xki, .ref xti, .ref xna, .ref xns, .ref xda, .ref xds, .int (-1), .int 0, .int 0, .int 0, .int 0, .int 0, .int 0, .ref xme, .int 0, .int 0, .ref xep, .ref xea, .int 0, .ref xcw]))] H := hP
  have hD : va_D _ [(mo, .inr (7, [.int (0), .ref xta, .int 0, .ref xst, .int 0, .int 0, .int 0, .int 0, .ref xse, .ref xty, .ref xki, .ref xti, .ref xna, .ref xns, .ref xda, .ref xds, .int (-1), .int 0, .int 0, .int 0, .int 0, .int 0, .int 0, .ref xme, .int 0, .int 0, .ref xep, .ref xea, .int 0, .ref xcw]))] := hD
  refine lv_aload_n hx hb d_Mo_begin_5 rfl (lv_at hl 0 rfl) ?_
  refine mf_cV (wr := []) (ci := 7) (k := 0) C0 (c_Mo_none l D9 cB cI cJ cG mo xta xst xse xty xki xti xna xns xda xds xme xep xea xcw) g_824 g_8 g_821 g_823 gs_Mo_none ⟨by decide +kernel, by decide +kernel, show Option.map (fun d => d.parameters.length) (parseMethodDescriptor y_Mo_none.desc) = some 0 by decide +kernel⟩ ⟨by decide, by decide⟩ rfl rfl hP hD hS hA [0] [] rfl rfl (by decide) (by decide) (by decide) rfl rfl hl.1 (Nat.le_of_ble_eq_true rfl) rfl d_Mo_begin_6 ⟨by decide, by decide⟩ (fun v9 w9 H locs hq hP hD hS => ?_)
  obtain ⟨rfl, hw9⟩ := hq
  rw [hw9] at hP hD
  have hP : va_P D9 cls9 [(mo, .inr (7, [.int 0, .ref xta, .int 0, .ref xst, .int (0), .int (0), .int (0), .int (0), .ref xse, .ref xty, .ref xki, .ref xti, .ref xna, .ref xns, .ref xda, .ref xds, .int (-1), .int 0, .int 0, .int 0, .int 0, .int 0, .int 0, .ref xme, .int 0, .int 0, .ref xep, .ref xea, .int 0, .ref xcw]))] H := hP
  have hD : va_D _ [(mo, .inr (7, [.int 0, .ref xta, .int 0, .ref xst, .int (0), .int (0), .int (0), .int (0), .ref xse, .ref xty, .ref xki, .ref xti, .ref xna, .ref xns, .ref xda, .ref xds, .int (-1), .int 0, .int 0, .int 0, .int 0, .int 0, .int 0, .ref xme, .int 0, .int 0, .ref xep, .ref xea, .int 0, .ref xcw]))] := hD
  refine lv_aload_n hx hb d_Mo_begin_9 rfl (lv_at hl 0 rfl) ?_
  refine lv_iload_n hx hb d_Mo_begin_10 rfl (lv_at hl 1 rfl) ?_
  refine lv_ldc hx hb hown (hts _ g_886) d_Mo_begin_11 ?_
  refine lv_iand hx hb d_Mo_begin_13 ?_
  refine va_put (D := D9) (ty := .int) (ci := 7) (C := R_Mo) (T := F_Mo) (N := 30) hx hb hts i_Mo t_Mo t_Mo_ok n_Mo hown hK hP hD hS 0 rfl rfl 6 (by decide) (hts _ g_728) (fun _ h9 => h9) rfl (by decide +kernel) rfl rfl (Nat.le_of_ble_eq_true rfl) d_Mo_begin_14 (fun H locs hP hD hS => ?_)
  have hP : va_P D9 cls9 [(mo, .inr (7, [.int 0, .ref xta, .int 0, .ref xst, .int (0), .int (0), .int _, .int (0), .ref xse, .ref xty, .ref xki, .ref xti, .ref xna, .ref xns, .ref xda, .ref xds, .int (-1), .int 0, .int 0, .int 0, .int 0, .int 0, .int 0, .ref xme, .int 0, .int 0, .ref xep, .ref xea, .int 0, .ref xcw]))] H := hP
  have hD : va_D _ [(mo, .inr (7, [.int 0, .ref xta, .int 0, .ref xst, .int (0), .int (0), .int _, .int (0), .ref xse, .ref xty, .ref xki, .ref xti, .ref xna, .ref xns, .ref xda, .ref xds, .int (-1), .int 0, .int 0, .int 0, .int 0, .int 0, .int 0, .ref xme, .int 0, .int 0, .ref xep, .ref xea, .int 0, .ref xcw]))] := hD
  refine lv_aload_n hx hb d_Mo_begin_17 rfl (lv_at hl 0 rfl) ?_
  refine lv_iload_n hx hb d_Mo_begin_18 rfl (lv_at hl 2 rfl) ?_
  refine lv_ldc hx hb hown (hts _ g_886) d_Mo_begin_19 ?_
  refine lv_iand hx hb d_Mo_begin_21 ?_
  refine va_put (D := D9) (ty := .int) (ci := 7) (C := R_Mo) (T := F_Mo) (N := 30) hx hb hts i_Mo t_Mo t_Mo_ok n_Mo hown hK hP hD hS 0 rfl rfl 7 (by decide) (hts _ g_729) (fun _ h9 => h9) rfl (by decide +kernel) rfl rfl (Nat.le_of_ble_eq_true rfl) d_Mo_begin_22 (fun H locs hP hD hS => ?_)
  have hP : va_P D9 cls9 [(mo, .inr (7, [.int 0, .ref xta, .int 0, .ref xst, .int (0), .int (0), .int _, .int _, .ref xse, .ref xty, .ref xki, .ref xti, .ref xna, .ref xns, .ref xda, .ref xds, .int (-1), .int 0, .int 0, .int 0, .int 0, .int 0, .int 0, .ref xme, .int 0, .int 0, .ref xep, .ref xea, .int 0, .ref xcw]))] H := hP
  have hD : va_D _ [(mo, .inr (7, [.int 0, .ref xta, .int 0, .ref xst, .int (0), .int (0), .int _, .int _, .ref xse, .ref xty, .ref xki, .ref xti, .ref xna, .ref xns, .ref xda, .ref xds, .int (-1), .int 0, .int 0, .int 0, .int 0, .int 0, .int 0, .ref xme, .int 0, .int 0, .ref xep, .ref xea, .int 0, .ref xcw]))] := hD
  exact mw_vret hx hb hr hlocks hS hP hD (by decide) (by decide) d_Mo_begin_25 (⟨_, _, _, _, _, _, _, _, _, _, _, _, _, _, _, _, rfl, rfl, rfl⟩)
set_option maxHeartbeats 4000000 in
set_option maxRecDepth 100000 in
theorem c_Mo_end (l : Launch) (D9 : va_G) (cB cI cJ cG : ClassId) (mo xta xst xse xty xki xti xna xns xda xds xme xep xea xcw : Nat) (u1 : Int32) : MW l D9 cls9 (ty9 cB cI cJ cG) y_Mo_end b_Mo_end 2 (some .int) (rm9 1 0 0) [.ref mo, .int u1] [(mo, .inr (7, [.int 0, .ref xta, .int 0, .ref xst, .int 0, .int 0, .int 0, .int 0, .ref xse, .ref xty, .ref xki, .ref xti, .ref xna, .ref xns, .ref xda, .ref xds, .int (-1), .int 0, .int 0, .int 0, .int 0, .int 0, .int 0, .ref xme, .int 0, .int 0, .ref xep, .ref xea, .int 0, .ref xcw]))] (fun v8 w2 => ∃ (r : Int32) (x0 : Int32) (x1 : Int32) (x2 : Int32) (x3 : Int32) (x4 : Int32) (x5 : Int32) (x6 : Int32) (x7 : Int32) (x8 : Int32) (x9 : Int32) (x10 : Int32) (x11 : Int32) (x12 : Int32) (x13 : Int32) (x14 : Int32) (x15 : Int32), v8 = some (.int r) ∧ w2 = [(mo, .inr (7, [.int x0, .ref xta, .int x1, .ref xst, .int x2, .int x3, .int x4, .int x5, .ref xse, .ref xty, .ref xki, .ref xti, .ref xna, .ref xns, .ref xda, .ref xds, .int x6, .int x7, .int x8, .int x9, .int x10, .int x11, .int x12, .ref xme, .int x13, .int x14, .ref xep, .ref xea, .int x15, .ref xcw]))] ∧ ((r = u1 ∧ x0 = 0 ∧ ¬ u1 < 0 ∧ u1 ≤ 0) ∨ (x0 = 1 ∧ (u1 < 0 ∨ 0 < u1)))) 0 0 := by
  refine mw_of (by decide) (Nat.le_of_ble_eq_true rfl) ?_
  intro p e s m below meth c ls C0 hin hP hD hA hS hl
  obtain ⟨hx, hb, hml, hr, hlocks, hown, hts, hK⟩ := id C0
  have hl : lv_has ls 2 [(0, .ref mo), (1, .int u1)] := hl
  refine lv_aload_n hx hb d_Mo_end_0 rfl (lv_at hl 0 rfl) ?_
  refine lv_iconst (v := 0) hx hb d_Mo_end_1 (by decide) ?_
  refine va_put (D := D9) (ty := .int) (ci := 7) (C := R_Mo) (T := F_Mo) (N := 30) hx hb hts i_Mo t_Mo t_Mo_ok n_Mo hown hK hP hD hS 0 rfl rfl 0 (by decide) (hts _ g_722) (fun _ h9 => h9) rfl (by decide +kernel) rfl rfl (Nat.le_of_ble_eq_true rfl) d_Mo_end_2 (fun H locs hP hD hS => ?_)
  have hP : va_P D9 cls9 [(mo, .inr (7, [.int (0), .ref xta, .int 0, .ref xst, .int 0, .int 0, .int 0, .int 0, .ref xse, .ref xty, .ref xki, .ref xti, .ref xna, .ref xns, .ref xda, .ref xds, .int (-1), .int 0, .int 0, .int 0, .int 0, .int 0, .int 0, .ref xme, .int 0, .int 0, .ref xep, .ref xea, .int 0, .ref xcw]))] H := hP
  have hD : va_D _ [(mo, .inr (7, [.int (0), .ref xta, .int 0, .ref xst, .int 0, .int 0, .int 0, .int 0, .ref xse, .ref xty, .ref xki, .ref xti, .ref xna, .ref xns, .ref xda, .ref xds, .int (-1), .int 0, .int 0, .int 0, .int 0, .int 0, .int 0, .ref xme, .int 0, .int 0, .ref xep, .ref xea, .int 0, .ref xcw]))] := hD
  refine lv_iload_n hx hb d_Mo_end_5 rfl (lv_at hl 1 rfl) ?_
  refine lv_if_lt (tgt := 17) hx hb d_Mo_end_6 (by decide) (fun c1 => ?_) (fun c1 => ?_)
  · refine lv_aload_n hx hb d_Mo_end_17 rfl (lv_at hl 0 rfl) ?_
    refine lv_iconst (v := 1) hx hb d_Mo_end_18 (by decide) ?_
    refine mf_cV (wr := []) (ci := 7) (k := 0) C0 (c_Mo_fail l D9 cB cI cJ cG mo xta xst xse xty xki xti xna xns xda xds xme xep xea xcw _) g_877 g_8 g_874 g_876 gs_Mo_fail ⟨by decide +kernel, by decide +kernel, show Option.map (fun d => d.parameters.length) (parseMethodDescriptor y_Mo_fail.desc) = some 1 by decide +kernel⟩ ⟨by decide, by decide⟩ rfl rfl hP hD hS hA [0] [] rfl rfl (by decide) (by decide) (by decide) rfl rfl hl.1 (Nat.le_of_ble_eq_true rfl) rfl d_Mo_end_19 ⟨by decide, by decide⟩ (fun v9 w9 H locs hq hP hD hS => ?_)
    obtain ⟨rfl, hw9⟩ := hq
    rw [hw9] at hP hD
    have hP : va_P D9 cls9 [(mo, .inr (7, [.int (1), .ref xta, .int 0, .ref xst, .int 0, .int 0, .int 0, .int 0, .ref xse, .ref xty, .ref xki, .ref xti, .ref xna, .ref xns, .ref xda, .ref xds, .int (-1), .int 0, .int 0, .int 0, .int 0, .int 0, .int 0, .ref xme, .int 0, .int 0, .ref xep, .ref xea, .int 0, .ref xcw]))] H := hP
    have hD : va_D _ [(mo, .inr (7, [.int (1), .ref xta, .int 0, .ref xst, .int 0, .int 0, .int 0, .int 0, .ref xse, .ref xty, .ref xki, .ref xti, .ref xna, .ref xns, .ref xda, .ref xds, .int (-1), .int 0, .int 0, .int 0, .int 0, .int 0, .int 0, .ref xme, .int 0, .int 0, .ref xep, .ref xea, .int 0, .ref xcw]))] := hD
    exact mw_zret hx hb hr hlocks hS hP hD (by decide) (by decide) d_Mo_end_22 (by first | rfl | decide +kernel) (⟨_, _, _, _, _, _, _, _, _, _, _, _, _, _, _, _, _, rfl, rfl, Or.inr ⟨rfl, Or.inl c1⟩⟩)
  · refine lv_iload_n hx hb d_Mo_end_9 rfl (lv_at hl 1 rfl) ?_
    refine lv_aload_n hx hb d_Mo_end_10 rfl (lv_at hl 0 rfl) ?_
    refine va_get (D := D9) (ci := 7) (C := R_Mo) (T := F_Mo) (N := 30) hx hb hts i_Mo hown hK hP 0 rfl rfl 2 (by decide) (hts _ g_724) (fun _ h9 => h9) rfl d_Mo_end_11 ?_
    refine lv_icmp_le (tgt := 23) hx hb d_Mo_end_14 (by decide) (fun c2 => ?_) (fun c2 => ?_)
    · refine lv_aload_n hx hb d_Mo_end_23 rfl (lv_at hl 0 rfl) ?_
      refine lv_iload_n hx hb d_Mo_end_24 rfl (lv_at hl 1 rfl) ?_
      refine va_put (D := D9) (ty := .int) (ci := 7) (C := R_Mo) (T := F_Mo) (N := 30) hx hb hts i_Mo t_Mo t_Mo_ok n_Mo hown hK hP hD hS 0 rfl rfl 2 (by decide) (hts _ g_724) (fun _ h9 => h9) rfl (by decide +kernel) rfl rfl (Nat.le_of_ble_eq_true rfl) d_Mo_end_25 (fun H locs hP hD hS => ?_)
      have hP : va_P D9 cls9 [(mo, .inr (7, [.int (0), .ref xta, .int (u1), .ref xst, .int 0, .int 0, .int 0, .int 0, .ref xse, .ref xty, .ref xki, .ref xti, .ref xna, .ref xns, .ref xda, .ref xds, .int (-1), .int 0, .int 0, .int 0, .int 0, .int 0, .int 0, .ref xme, .int 0, .int 0, .ref xep, .ref xea, .int 0, .ref xcw]))] H := hP
      have hD : va_D _ [(mo, .inr (7, [.int (0), .ref xta, .int (u1), .ref xst, .int 0, .int 0, .int 0, .int 0, .ref xse, .ref xty, .ref xki, .ref xti, .ref xna, .ref xns, .ref xda, .ref xds, .int (-1), .int 0, .int 0, .int 0, .int 0, .int 0, .int 0, .ref xme, .int 0, .int 0, .ref xep, .ref xea, .int 0, .ref xcw]))] := hD
      refine lv_iload_n hx hb d_Mo_end_28 rfl (lv_at hl 1 rfl) ?_
      exact mw_zret hx hb hr hlocks hS hP hD (by decide) (by decide) d_Mo_end_29 (by first | rfl | decide +kernel) (⟨_, _, _, _, _, _, _, _, _, _, _, _, _, _, _, _, _, rfl, rfl, Or.inl ⟨rfl, rfl, c1, c2⟩⟩)
    · refine lv_aload_n hx hb d_Mo_end_17 rfl (lv_at hl 0 rfl) ?_
      refine lv_iconst (v := 1) hx hb d_Mo_end_18 (by decide) ?_
      refine mf_cV (wr := []) (ci := 7) (k := 0) C0 (c_Mo_fail l D9 cB cI cJ cG mo xta xst xse xty xki xti xna xns xda xds xme xep xea xcw _) g_877 g_8 g_874 g_876 gs_Mo_fail ⟨by decide +kernel, by decide +kernel, show Option.map (fun d => d.parameters.length) (parseMethodDescriptor y_Mo_fail.desc) = some 1 by decide +kernel⟩ ⟨by decide, by decide⟩ rfl rfl hP hD hS hA [0] [] rfl rfl (by decide) (by decide) (by decide) rfl rfl hl.1 (Nat.le_of_ble_eq_true rfl) rfl d_Mo_end_19 ⟨by decide, by decide⟩ (fun v9 w9 H locs hq hP hD hS => ?_)
      obtain ⟨rfl, hw9⟩ := hq
      rw [hw9] at hP hD
      have hP : va_P D9 cls9 [(mo, .inr (7, [.int (1), .ref xta, .int 0, .ref xst, .int 0, .int 0, .int 0, .int 0, .ref xse, .ref xty, .ref xki, .ref xti, .ref xna, .ref xns, .ref xda, .ref xds, .int (-1), .int 0, .int 0, .int 0, .int 0, .int 0, .int 0, .ref xme, .int 0, .int 0, .ref xep, .ref xea, .int 0, .ref xcw]))] H := hP
      have hD : va_D _ [(mo, .inr (7, [.int (1), .ref xta, .int 0, .ref xst, .int 0, .int 0, .int 0, .int 0, .ref xse, .ref xty, .ref xki, .ref xti, .ref xna, .ref xns, .ref xda, .ref xds, .int (-1), .int 0, .int 0, .int 0, .int 0, .int 0, .int 0, .ref xme, .int 0, .int 0, .ref xep, .ref xea, .int 0, .ref xcw]))] := hD
      exact mw_zret hx hb hr hlocks hS hP hD (by decide) (by decide) d_Mo_end_22 (by first | rfl | decide +kernel) (⟨_, _, _, _, _, _, _, _, _, _, _, _, _, _, _, _, _, rfl, rfl, Or.inr ⟨rfl, Or.inr (Int32.not_le.mp c2)⟩⟩)
set_option maxHeartbeats 4000000 in
set_option maxRecDepth 100000 in
theorem c_Mo_question (l : Launch) (D9 : va_G) (cB cI cJ cG : ClassId) (mo xta xst xse xty xki xti xna xns xda xds xme xep xea xcw : Nat) (u1 u2 : Int32) : MW l D9 cls9 (ty9 cB cI cJ cG) y_Mo_question b_Mo_question 3 (some .int) (rm9 1 0 0) [.ref mo, .int u1, .int u2] [(mo, .inr (7, [.int 0, .ref xta, .int 0, .ref xst, .int 0, .int 0, .int 0, .int 0, .ref xse, .ref xty, .ref xki, .ref xti, .ref xna, .ref xns, .ref xda, .ref xds, .int (-1), .int 0, .int 0, .int 0, .int 0, .int 0, .int 0, .ref xme, .int 0, .int 0, .ref xep, .ref xea, .int 0, .ref xcw]))] (fun v8 w2 => ∃ (r : Int32) (x0 : Int32) (x1 : Int32) (x2 : Int32) (x3 : Int32) (x4 : Int32) (x5 : Int32) (x6 : Int32) (x7 : Int32) (x8 : Int32) (x9 : Int32) (x10 : Int32) (x11 : Int32) (x12 : Int32) (x13 : Int32) (x14 : Int32) (x15 : Int32), v8 = some (.int r) ∧ w2 = [(mo, .inr (7, [.int x0, .ref xta, .int x1, .ref xst, .int x2, .int x3, .int x4, .int x5, .ref xse, .ref xty, .ref xki, .ref xti, .ref xna, .ref xns, .ref xda, .ref xds, .int x6, .int x7, .int x8, .int x9, .int x10, .int x11, .int x12, .ref xme, .int x13, .int x14, .ref xep, .ref xea, .int x15, .ref xcw]))] ∧ (x0 = 1)) 0 0 := by
  refine mw_of (by decide) (Nat.le_of_ble_eq_true rfl) ?_
  intro p e s m below meth c ls C0 hin hP hD hA hS hl
  obtain ⟨hx, hb, hml, hr, hlocks, hown, hts, hK⟩ := id C0
  have hl : lv_has ls 3 [(0, .ref mo), (1, .int u1), (2, .int u2)] := hl
  refine lv_aload_n hx hb d_Mo_question_0 rfl (lv_at hl 0 rfl) ?_
  refine lv_iconst (v := 0) hx hb d_Mo_question_1 (by decide) ?_
  refine va_put (D := D9) (ty := .int) (ci := 7) (C := R_Mo) (T := F_Mo) (N := 30) hx hb hts i_Mo t_Mo t_Mo_ok n_Mo hown hK hP hD hS 0 rfl rfl 0 (by decide) (hts _ g_722) (fun _ h9 => h9) rfl (by decide +kernel) rfl rfl (Nat.le_of_ble_eq_true rfl) d_Mo_question_2 (fun H locs hP hD hS => ?_)
  have hP : va_P D9 cls9 [(mo, .inr (7, [.int (0), .ref xta, .int 0, .ref xst, .int 0, .int 0, .int 0, .int 0, .ref xse, .ref xty, .ref xki, .ref xti, .ref xna, .ref xns, .ref xda, .ref xds, .int (-1), .int 0, .int 0, .int 0, .int 0, .int 0, .int 0, .ref xme, .int 0, .int 0, .ref xep, .ref xea, .int 0, .ref xcw]))] H := hP
  have hD : va_D _ [(mo, .inr (7, [.int (0), .ref xta, .int 0, .ref xst, .int 0, .int 0, .int 0, .int 0, .ref xse, .ref xty, .ref xki, .ref xti, .ref xna, .ref xns, .ref xda, .ref xds, .int (-1), .int 0, .int 0, .int 0, .int 0, .int 0, .int 0, .ref xme, .int 0, .int 0, .ref xep, .ref xea, .int 0, .ref xcw]))] := hD
  refine lv_aload_n hx hb d_Mo_question_5 rfl (lv_at hl 0 rfl) ?_
  refine lv_iconst (v := 0) hx hb d_Mo_question_6 (by decide) ?_
  refine mf_cV (wr := []) (ci := 7) (k := 0) C0 (c_Mo_wholeName l D9 cB cI cJ cG mo xta xst xse xty xki xti xna xns xda xds xme xep xea xcw) g_894 g_8 g_891 g_893 gs_Mo_wholeName ⟨by decide +kernel, by decide +kernel, show Option.map (fun d => d.parameters.length) (parseMethodDescriptor y_Mo_wholeName.desc) = some 1 by decide +kernel⟩ ⟨by decide, by decide⟩ rfl rfl hP hD hS hA [0] [] rfl rfl (by decide) (by decide) (by decide) rfl rfl hl.1 (Nat.le_of_ble_eq_true rfl) rfl d_Mo_question_7 ⟨by decide, by decide⟩ (fun v9 w9 H locs hq hP hD hS => ?_)
  obtain ⟨rfl, hw9⟩ := hq
  rw [hw9] at hP hD
  have hP : va_P D9 cls9 [(mo, .inr (7, [.int 0, .ref xta, .int 0, .ref xst, .int 0, .int 0, .int 0, .int 0, .ref xse, .ref xty, .ref xki, .ref xti, .ref xna, .ref xns, .ref xda, .ref xds, .int (-1), .int 0, .int 0, .int 0, .int 0, .int 0, .int 0, .ref xme, .int 0, .int 0, .ref xep, .ref xea, .int 0, .ref xcw]))] H := hP
  have hD : va_D _ [(mo, .inr (7, [.int 0, .ref xta, .int 0, .ref xst, .int 0, .int 0, .int 0, .int 0, .ref xse, .ref xty, .ref xki, .ref xti, .ref xna, .ref xns, .ref xda, .ref xds, .int (-1), .int 0, .int 0, .int 0, .int 0, .int 0, .int 0, .ref xme, .int 0, .int 0, .ref xep, .ref xea, .int 0, .ref xcw]))] := hD
  refine lv_aload_n hx hb d_Mo_question_10 rfl (lv_at hl 0 rfl) ?_
  refine va_get (D := D9) (ci := 7) (C := R_Mo) (T := F_Mo) (N := 30) hx hb hts i_Mo hown hK hP 0 rfl rfl 2 (by decide) (hts _ g_724) (fun _ h9 => h9) rfl d_Mo_question_11 ?_
  refine lv_icmp_eq (tgt := 23) hx hb d_Mo_question_14 (by decide) (fun c1 => ?_) (fun c1 => ?_)
  · exact absurd c1 (by decide +kernel)
  · refine lv_aload_n hx hb d_Mo_question_17 rfl (lv_at hl 0 rfl) ?_
    refine lv_iconst (v := 1) hx hb d_Mo_question_18 (by decide) ?_
    refine mf_cV (wr := []) (ci := 7) (k := 0) C0 (c_Mo_fail l D9 cB cI cJ cG mo xta xst xse xty xki xti xna xns xda xds xme xep xea xcw _) g_877 g_8 g_874 g_876 gs_Mo_fail ⟨by decide +kernel, by decide +kernel, show Option.map (fun d => d.parameters.length) (parseMethodDescriptor y_Mo_fail.desc) = some 1 by decide +kernel⟩ ⟨by decide, by decide⟩ rfl rfl hP hD hS hA [0] [] rfl rfl (by decide) (by decide) (by decide) rfl rfl hl.1 (Nat.le_of_ble_eq_true rfl) rfl d_Mo_question_19 ⟨by decide, by decide⟩ (fun v9 w9 H locs hq hP hD hS => ?_)
    obtain ⟨rfl, hw9⟩ := hq
    rw [hw9] at hP hD
    have hP : va_P D9 cls9 [(mo, .inr (7, [.int (1), .ref xta, .int 0, .ref xst, .int 0, .int 0, .int 0, .int 0, .ref xse, .ref xty, .ref xki, .ref xti, .ref xna, .ref xns, .ref xda, .ref xds, .int (-1), .int 0, .int 0, .int 0, .int 0, .int 0, .int 0, .ref xme, .int 0, .int 0, .ref xep, .ref xea, .int 0, .ref xcw]))] H := hP
    have hD : va_D _ [(mo, .inr (7, [.int (1), .ref xta, .int 0, .ref xst, .int 0, .int 0, .int 0, .int 0, .ref xse, .ref xty, .ref xki, .ref xti, .ref xna, .ref xns, .ref xda, .ref xds, .int (-1), .int 0, .int 0, .int 0, .int 0, .int 0, .int 0, .ref xme, .int 0, .int 0, .ref xep, .ref xea, .int 0, .ref xcw]))] := hD
    exact mw_zret hx hb hr hlocks hS hP hD (by decide) (by decide) d_Mo_question_22 (by first | rfl | decide +kernel) (⟨_, _, _, _, _, _, _, _, _, _, _, _, _, _, _, _, _, rfl, rfl, rfl⟩)
set_option maxHeartbeats 4000000 in
set_option maxRecDepth 100000 in
theorem c_Mo_record (l : Launch) (D9 : va_G) (cB cI cJ cG : ClassId) (mo xta xst xse xty xki xti xna xns xda xds xme xep xea xcw : Nat) (u1 u2 u3 u4 : Int32) : MW l D9 cls9 (ty9 cB cI cJ cG) y_Mo_record b_Mo_record 6 (some .int) (rm9 1 0 0) [.ref mo, .int u1, .int u2, .int u3, .int u4] [(mo, .inr (7, [.int 0, .ref xta, .int 0, .ref xst, .int 0, .int 0, .int 0, .int 0, .ref xse, .ref xty, .ref xki, .ref xti, .ref xna, .ref xns, .ref xda, .ref xds, .int (-1), .int 0, .int 0, .int 0, .int 0, .int 0, .int 0, .ref xme, .int 0, .int 0, .ref xep, .ref xea, .int 0, .ref xcw]))] (fun v8 w2 => ∃ (r : Int32) (x0 : Int32) (x1 : Int32) (x2 : Int32) (x3 : Int32) (x4 : Int32) (x5 : Int32) (x6 : Int32) (x7 : Int32) (x8 : Int32) (x9 : Int32) (x10 : Int32) (x11 : Int32) (x12 : Int32) (x13 : Int32) (x14 : Int32) (x15 : Int32), v8 = some (.int r) ∧ w2 = [(mo, .inr (7, [.int x0, .ref xta, .int x1, .ref xst, .int x2, .int x3, .int x4, .int x5, .ref xse, .ref xty, .ref xki, .ref xti, .ref xna, .ref xns, .ref xda, .ref xds, .int x6, .int x7, .int x8, .int x9, .int x10, .int x11, .int x12, .ref xme, .int x13, .int x14, .ref xep, .ref xea, .int x15, .ref xcw]))] ∧ ((x0 = 1 ∧ (u1 ≤ 0 ∨ 4 ≤ u1)) ∨ (x0 = 2 ∧ ¬ u1 ≤ 0 ∧ u1 < 4))) 0 0 := by
  refine mw_of (by decide) (Nat.le_of_ble_eq_true rfl) ?_
  intro p e s m below meth c ls C0 hin hP hD hA hS hl
  obtain ⟨hx, hb, hml, hr, hlocks, hown, hts, hK⟩ := id C0
  have hl : lv_has ls 6 [(0, .ref mo), (1, .int u1), (2, .int u2), (3, .int u3), (4, .int u4)] := hl
  refine lv_aload_n hx hb d_Mo_record_0 rfl (lv_at hl 0 rfl) ?_
  refine lv_iconst (v := 0) hx hb d_Mo_record_1 (by decide) ?_
  refine va_put (D := D9) (ty := .int) (ci := 7) (C := R_Mo) (T := F_Mo) (N := 30) hx hb hts i_Mo t_Mo t_Mo_ok n_Mo hown hK hP hD hS 0 rfl rfl 0 (by decide) (hts _ g_722) (fun _ h9 => h9) rfl (by decide +kernel) rfl rfl (Nat.le_of_ble_eq_true rfl) d_Mo_record_2 (fun H locs hP hD hS => ?_)
  have hP : va_P D9 cls9 [(mo, .inr (7, [.int (0), .ref xta, .int 0, .ref xst, .int 0, .int 0, .int 0, .int 0, .ref xse, .ref xty, .ref xki, .ref xti, .ref xna, .ref xns, .ref xda, .ref xds, .int (-1), .int 0, .int 0, .int 0, .int 0, .int 0, .int 0, .ref xme, .int 0, .int 0, .ref xep, .ref xea, .int 0, .ref xcw]))] H := hP
  have hD : va_D _ [(mo, .inr (7, [.int (0), .ref xta, .int 0, .ref xst, .int 0, .int 0, .int 0, .int 0, .ref xse, .ref xty, .ref xki, .ref xti, .ref xna, .ref xns, .ref xda, .ref xds, .int (-1), .int 0, .int 0, .int 0, .int 0, .int 0, .int 0, .ref xme, .int 0, .int 0, .ref xep, .ref xea, .int 0, .ref xcw]))] := hD
  refine lv_iload_n hx hb d_Mo_record_5 rfl (lv_at hl 1 rfl) ?_
  refine lv_iconst (v := 1) hx hb d_Mo_record_6 (by decide) ?_
  refine lv_icmp_lt (tgt := 15) hx hb d_Mo_record_7 (by decide) (fun c1 => ?_) (fun c1 => ?_)
  · refine lv_aload_n hx hb d_Mo_record_15 rfl (lv_at hl 0 rfl) ?_
    refine lv_iconst (v := 1) hx hb d_Mo_record_16 (by decide) ?_
    refine mf_cV (wr := []) (ci := 7) (k := 0) C0 (c_Mo_fail l D9 cB cI cJ cG mo xta xst xse xty xki xti xna xns xda xds xme xep xea xcw _) g_877 g_8 g_874 g_876 gs_Mo_fail ⟨by decide +kernel, by decide +kernel, show Option.map (fun d => d.parameters.length) (parseMethodDescriptor y_Mo_fail.desc) = some 1 by decide +kernel⟩ ⟨by decide, by decide⟩ rfl rfl hP hD hS hA [0] [] rfl rfl (by decide) (by decide) (by decide) rfl rfl hl.1 (Nat.le_of_ble_eq_true rfl) rfl d_Mo_record_17 ⟨by decide, by decide⟩ (fun v9 w9 H locs hq hP hD hS => ?_)
    obtain ⟨rfl, hw9⟩ := hq
    rw [hw9] at hP hD
    have hP : va_P D9 cls9 [(mo, .inr (7, [.int (1), .ref xta, .int 0, .ref xst, .int 0, .int 0, .int 0, .int 0, .ref xse, .ref xty, .ref xki, .ref xti, .ref xna, .ref xns, .ref xda, .ref xds, .int (-1), .int 0, .int 0, .int 0, .int 0, .int 0, .int 0, .ref xme, .int 0, .int 0, .ref xep, .ref xea, .int 0, .ref xcw]))] H := hP
    have hD : va_D _ [(mo, .inr (7, [.int (1), .ref xta, .int 0, .ref xst, .int 0, .int 0, .int 0, .int 0, .ref xse, .ref xty, .ref xki, .ref xti, .ref xna, .ref xns, .ref xda, .ref xds, .int (-1), .int 0, .int 0, .int 0, .int 0, .int 0, .int 0, .ref xme, .int 0, .int 0, .ref xep, .ref xea, .int 0, .ref xcw]))] := hD
    exact mw_zret hx hb hr hlocks hS hP hD (by decide) (by decide) d_Mo_record_20 (by first | rfl | decide +kernel) (⟨_, _, _, _, _, _, _, _, _, _, _, _, _, _, _, _, _, rfl, rfl, Or.inl ⟨rfl, Or.inl (il_1 c1)⟩⟩)
  · refine lv_iload_n hx hb d_Mo_record_10 rfl (lv_at hl 1 rfl) ?_
    refine lv_iconst (v := 3) hx hb d_Mo_record_11 (by decide) ?_
    refine lv_icmp_le (tgt := 21) hx hb d_Mo_record_12 (by decide) (fun c2 => ?_) (fun c2 => ?_)
    · refine lv_aload_n hx hb d_Mo_record_21 rfl (lv_at hl 0 rfl) ?_
      refine lv_iconst (v := 0) hx hb d_Mo_record_22 (by decide) ?_
      refine mf_cV (wr := []) (ci := 7) (k := 0) C0 (c_Mo_wholeName l D9 cB cI cJ cG mo xta xst xse xty xki xti xna xns xda xds xme xep xea xcw) g_894 g_8 g_891 g_893 gs_Mo_wholeName ⟨by decide +kernel, by decide +kernel, show Option.map (fun d => d.parameters.length) (parseMethodDescriptor y_Mo_wholeName.desc) = some 1 by decide +kernel⟩ ⟨by decide, by decide⟩ rfl rfl hP hD hS hA [0] [] rfl rfl (by decide) (by decide) (by decide) rfl rfl hl.1 (Nat.le_of_ble_eq_true rfl) rfl d_Mo_record_23 ⟨by decide, by decide⟩ (fun v9 w9 H locs hq hP hD hS => ?_)
      obtain ⟨rfl, hw9⟩ := hq
      rw [hw9] at hP hD
      have hP : va_P D9 cls9 [(mo, .inr (7, [.int 0, .ref xta, .int 0, .ref xst, .int 0, .int 0, .int 0, .int 0, .ref xse, .ref xty, .ref xki, .ref xti, .ref xna, .ref xns, .ref xda, .ref xds, .int (-1), .int 0, .int 0, .int 0, .int 0, .int 0, .int 0, .ref xme, .int 0, .int 0, .ref xep, .ref xea, .int 0, .ref xcw]))] H := hP
      have hD : va_D _ [(mo, .inr (7, [.int 0, .ref xta, .int 0, .ref xst, .int 0, .int 0, .int 0, .int 0, .ref xse, .ref xty, .ref xki, .ref xti, .ref xna, .ref xns, .ref xda, .ref xds, .int (-1), .int 0, .int 0, .int 0, .int 0, .int 0, .int 0, .ref xme, .int 0, .int 0, .ref xep, .ref xea, .int 0, .ref xcw]))] := hD
      refine lv_istore (lv' := [(5, _), (0, _), (1, _), (2, _), (3, _), (4, _)]) hx hb d_Mo_record_26 hl (by decide) rfl (fun ls hl => ?_)
      refine lv_iload hx hb d_Mo_record_28 (lv_at hl 0 rfl) ?_
      refine lv_if_lt (tgt := 57) hx hb d_Mo_record_30 (by decide) (fun c3 => ?_) (fun c3 => ?_)
      · refine lv_aload_n hx hb d_Mo_record_57 rfl (lv_at hl 1 rfl) ?_
        refine lv_iconst (v := 2) hx hb d_Mo_record_58 (by decide) ?_
        refine mf_cV (wr := []) (ci := 7) (k := 0) C0 (c_Mo_fail l D9 cB cI cJ cG mo xta xst xse xty xki xti xna xns xda xds xme xep xea xcw _) g_877 g_8 g_874 g_876 gs_Mo_fail ⟨by decide +kernel, by decide +kernel, show Option.map (fun d => d.parameters.length) (parseMethodDescriptor y_Mo_fail.desc) = some 1 by decide +kernel⟩ ⟨by decide, by decide⟩ rfl rfl hP hD hS hA [0] [] rfl rfl (by decide) (by decide) (by decide) rfl rfl hl.1 (Nat.le_of_ble_eq_true rfl) rfl d_Mo_record_59 ⟨by decide, by decide⟩ (fun v9 w9 H locs hq hP hD hS => ?_)
        obtain ⟨rfl, hw9⟩ := hq
        rw [hw9] at hP hD
        have hP : va_P D9 cls9 [(mo, .inr (7, [.int (2), .ref xta, .int 0, .ref xst, .int 0, .int 0, .int 0, .int 0, .ref xse, .ref xty, .ref xki, .ref xti, .ref xna, .ref xns, .ref xda, .ref xds, .int (-1), .int 0, .int 0, .int 0, .int 0, .int 0, .int 0, .ref xme, .int 0, .int 0, .ref xep, .ref xea, .int 0, .ref xcw]))] H := hP
        have hD : va_D _ [(mo, .inr (7, [.int (2), .ref xta, .int 0, .ref xst, .int 0, .int 0, .int 0, .int 0, .ref xse, .ref xty, .ref xki, .ref xti, .ref xna, .ref xns, .ref xda, .ref xds, .int (-1), .int 0, .int 0, .int 0, .int 0, .int 0, .int 0, .ref xme, .int 0, .int 0, .ref xep, .ref xea, .int 0, .ref xcw]))] := hD
        exact mw_zret hx hb hr hlocks hS hP hD (by decide) (by decide) d_Mo_record_62 (by first | rfl | decide +kernel) (⟨_, _, _, _, _, _, _, _, _, _, _, _, _, _, _, _, _, rfl, rfl, Or.inr ⟨rfl, fun h => c1 (il_1r h), il_3 c2⟩⟩)
      · exact absurd c3 (by decide +kernel)
    · refine lv_aload_n hx hb d_Mo_record_15 rfl (lv_at hl 0 rfl) ?_
      refine lv_iconst (v := 1) hx hb d_Mo_record_16 (by decide) ?_
      refine mf_cV (wr := []) (ci := 7) (k := 0) C0 (c_Mo_fail l D9 cB cI cJ cG mo xta xst xse xty xki xti xna xns xda xds xme xep xea xcw _) g_877 g_8 g_874 g_876 gs_Mo_fail ⟨by decide +kernel, by decide +kernel, show Option.map (fun d => d.parameters.length) (parseMethodDescriptor y_Mo_fail.desc) = some 1 by decide +kernel⟩ ⟨by decide, by decide⟩ rfl rfl hP hD hS hA [0] [] rfl rfl (by decide) (by decide) (by decide) rfl rfl hl.1 (Nat.le_of_ble_eq_true rfl) rfl d_Mo_record_17 ⟨by decide, by decide⟩ (fun v9 w9 H locs hq hP hD hS => ?_)
      obtain ⟨rfl, hw9⟩ := hq
      rw [hw9] at hP hD
      have hP : va_P D9 cls9 [(mo, .inr (7, [.int (1), .ref xta, .int 0, .ref xst, .int 0, .int 0, .int 0, .int 0, .ref xse, .ref xty, .ref xki, .ref xti, .ref xna, .ref xns, .ref xda, .ref xds, .int (-1), .int 0, .int 0, .int 0, .int 0, .int 0, .int 0, .ref xme, .int 0, .int 0, .ref xep, .ref xea, .int 0, .ref xcw]))] H := hP
      have hD : va_D _ [(mo, .inr (7, [.int (1), .ref xta, .int 0, .ref xst, .int 0, .int 0, .int 0, .int 0, .ref xse, .ref xty, .ref xki, .ref xti, .ref xna, .ref xns, .ref xda, .ref xds, .int (-1), .int 0, .int 0, .int 0, .int 0, .int 0, .int 0, .ref xme, .int 0, .int 0, .ref xep, .ref xea, .int 0, .ref xcw]))] := hD
      exact mw_zret hx hb hr hlocks hS hP hD (by decide) (by decide) d_Mo_record_20 (by first | rfl | decide +kernel) (⟨_, _, _, _, _, _, _, _, _, _, _, _, _, _, _, _, _, rfl, rfl, Or.inl ⟨rfl, Or.inr (il_4 (Int32.not_le.mp c2))⟩⟩)
set_option maxHeartbeats 4000000 in
set_option maxRecDepth 100000 in
theorem c_Mo_back (l : Launch) (D9 : va_G) (cB cI cJ cG : ClassId) (mo xta xst xse xty xki xti xna xns xda xds xme xep xea xcw : Nat) (u1 u2 : Int32) : MW l D9 cls9 (ty9 cB cI cJ cG) y_Mo_back b_Mo_back 4 (some .int) (rm9 1 0 0) [.ref mo, .int u1, .int u2] [(mo, .inr (7, [.int 0, .ref xta, .int 0, .ref xst, .int 0, .int 0, .int 0, .int 0, .ref xse, .ref xty, .ref xki, .ref xti, .ref xna, .ref xns, .ref xda, .ref xds, .int (-1), .int 0, .int 0, .int 0, .int 0, .int 0, .int 0, .ref xme, .int 0, .int 0, .ref xep, .ref xea, .int 0, .ref xcw])), (xta, .inl (cB, 65536, .inl (fun _ => 0))), (xme, .inl (cB, 131200, .inl (fun _ => 0)))] (fun v8 w2 => ∃ (r : Int32) (x0 : Int32) (x1 : Int32) (x2 : Int32) (x3 : Int32) (x4 : Int32) (x5 : Int32) (x6 : Int32) (x7 : Int32) (x8 : Int32) (x9 : Int32) (x10 : Int32) (x11 : Int32) (x12 : Int32) (x13 : Int32) (x14 : Int32) (x15 : Int32) (x16 : Nat → Int32) (x17 : Nat → Int32), v8 = some (.int r) ∧ w2 = [(mo, .inr (7, [.int x0, .ref xta, .int x1, .ref xst, .int x2, .int x3, .int x4, .int x5, .ref xse, .ref xty, .ref xki, .ref xti, .ref xna, .ref xns, .ref xda, .ref xds, .int x6, .int x7, .int x8, .int x9, .int x10, .int x11, .int x12, .ref xme, .int x13, .int x14, .ref xep, .ref xea, .int x15, .ref xcw])), (xta, .inl (cB, 65536, .inl x16)), (xme, .inl (cB, 131200, .inl x17))] ∧ ((r = 0 ∧ x0 = 0 ∧ ¬ u1 < -1 ∧ u1 < 0) ∨ (x0 = 1 ∧ (u1 < -1 ∨ 0 ≤ u1)))) 0 0 := by
  refine mw_of (by decide) (Nat.le_of_ble_eq_true rfl) ?_
  intro p e s m below meth c ls C0 hin hP hD hA hS hl
  obtain ⟨hx, hb, hml, hr, hlocks, hown, hts, hK⟩ := id C0
  have hl : lv_has ls 4 [(0, .ref mo), (1, .int u1), (2, .int u2)] := hl
  refine lv_aload_n hx hb d_Mo_back_0 rfl (lv_at hl 0 rfl) ?_
  refine lv_iconst (v := 0) hx hb d_Mo_back_1 (by decide) ?_
  refine va_put (D := D9) (ty := .int) (ci := 7) (C := R_Mo) (T := F_Mo) (N := 30) hx hb hts i_Mo t_Mo t_Mo_ok n_Mo hown hK hP hD hS 0 rfl rfl 0 (by decide) (hts _ g_722) (fun _ h9 => h9) rfl (by decide +kernel) rfl rfl (Nat.le_of_ble_eq_true rfl) d_Mo_back_2 (fun H locs hP hD hS => ?_)
  have hP : va_P D9 cls9 [(mo, .inr (7, [.int (0), .ref xta, .int 0, .ref xst, .int 0, .int 0, .int 0, .int 0, .ref xse, .ref xty, .ref xki, .ref xti, .ref xna, .ref xns, .ref xda, .ref xds, .int (-1), .int 0, .int 0, .int 0, .int 0, .int 0, .int 0, .ref xme, .int 0, .int 0, .ref xep, .ref xea, .int 0, .ref xcw])), (xta, .inl (cB, 65536, .inl (fun _ => 0))), (xme, .inl (cB, 131200, .inl (fun _ => 0)))] H := hP
  have hD : va_D _ [(mo, .inr (7, [.int (0), .ref xta, .int 0, .ref xst, .int 0, .int 0, .int 0, .int 0, .ref xse, .ref xty, .ref xki, .ref xti, .ref xna, .ref xns, .ref xda, .ref xds, .int (-1), .int 0, .int 0, .int 0, .int 0, .int 0, .int 0, .ref xme, .int 0, .int 0, .ref xep, .ref xea, .int 0, .ref xcw])), (xta, .inl (cB, 65536, .inl (fun _ => 0))), (xme, .inl (cB, 131200, .inl (fun _ => 0)))] := hD
  refine lv_iload_n hx hb d_Mo_back_5 rfl (lv_at hl 1 rfl) ?_
  refine lv_iconst (v := -1) hx hb d_Mo_back_6 (by decide) ?_
  refine lv_icmp_lt (tgt := 18) hx hb d_Mo_back_7 (by decide) (fun c1 => ?_) (fun c1 => ?_)
  · refine lv_aload_n hx hb d_Mo_back_18 rfl (lv_at hl 0 rfl) ?_
    refine lv_iconst (v := 1) hx hb d_Mo_back_19 (by decide) ?_
    refine mf_cV (wr := [_, _]) (ci := 7) (k := 0) C0 (c_Mo_fail l D9 cB cI cJ cG mo xta xst xse xty xki xti xna xns xda xds xme xep xea xcw _) g_877 g_8 g_874 g_876 gs_Mo_fail ⟨by decide +kernel, by decide +kernel, show Option.map (fun d => d.parameters.length) (parseMethodDescriptor y_Mo_fail.desc) = some 1 by decide +kernel⟩ ⟨by decide, by decide⟩ rfl rfl hP hD hS hA [0] [1, 2] rfl rfl (by decide) (by decide) (by decide) rfl rfl hl.1 (Nat.le_of_ble_eq_true rfl) rfl d_Mo_back_20 ⟨by decide, by decide⟩ (fun v9 w9 H locs hq hP hD hS => ?_)
    obtain ⟨rfl, hw9⟩ := hq
    rw [hw9] at hP hD
    have hP : va_P D9 cls9 [(xta, .inl (cB, 65536, .inl (fun _ => 0))), (xme, .inl (cB, 131200, .inl (fun _ => 0))), (mo, .inr (7, [.int (1), .ref xta, .int 0, .ref xst, .int 0, .int 0, .int 0, .int 0, .ref xse, .ref xty, .ref xki, .ref xti, .ref xna, .ref xns, .ref xda, .ref xds, .int (-1), .int 0, .int 0, .int 0, .int 0, .int 0, .int 0, .ref xme, .int 0, .int 0, .ref xep, .ref xea, .int 0, .ref xcw]))] H := hP
    have hD : va_D _ [(xta, .inl (cB, 65536, .inl (fun _ => 0))), (xme, .inl (cB, 131200, .inl (fun _ => 0))), (mo, .inr (7, [.int (1), .ref xta, .int 0, .ref xst, .int 0, .int 0, .int 0, .int 0, .ref xse, .ref xty, .ref xki, .ref xti, .ref xna, .ref xns, .ref xda, .ref xds, .int (-1), .int 0, .int 0, .int 0, .int 0, .int 0, .int 0, .ref xme, .int 0, .int 0, .ref xep, .ref xea, .int 0, .ref xcw]))] := hD
    have hP := hP.sub (ws' := [(mo, .inr (7, [.int (1), .ref xta, .int 0, .ref xst, .int 0, .int 0, .int 0, .int 0, .ref xse, .ref xty, .ref xki, .ref xti, .ref xna, .ref xns, .ref xda, .ref xds, .int (-1), .int 0, .int 0, .int 0, .int 0, .int 0, .int 0, .ref xme, .int 0, .int 0, .ref xep, .ref xea, .int 0, .ref xcw])), (xta, .inl (cB, 65536, .inl (fun _ => 0))), (xme, .inl (cB, 131200, .inl (fun _ => 0)))]) [2, 0, 1] rfl
    have hD := hD.sub (ws' := [(mo, .inr (7, [.int (1), .ref xta, .int 0, .ref xst, .int 0, .int 0, .int 0, .int 0, .ref xse, .ref xty, .ref xki, .ref xti, .ref xna, .ref xns, .ref xda, .ref xds, .int (-1), .int 0, .int 0, .int 0, .int 0, .int 0, .int 0, .ref xme, .int 0, .int 0, .ref xep, .ref xea, .int 0, .ref xcw])), (xta, .inl (cB, 65536, .inl (fun _ => 0))), (xme, .inl (cB, 131200, .inl (fun _ => 0)))]) [2, 0, 1] (by decide) rfl
    exact mw_zret hx hb hr hlocks hS hP hD (by decide) (by decide) d_Mo_back_23 (by first | rfl | decide +kernel) (⟨_, _, _, _, _, _, _, _, _, _, _, _, _, _, _, _, _, _, _, rfl, rfl, Or.inr ⟨rfl, Or.inl c1⟩⟩)
  · refine lv_iload_n hx hb d_Mo_back_10 rfl (lv_at hl 1 rfl) ?_
    refine lv_aload_n hx hb d_Mo_back_11 rfl (lv_at hl 0 rfl) ?_
    refine va_get (D := D9) (ci := 7) (C := R_Mo) (T := F_Mo) (N := 30) hx hb hts i_Mo hown hK hP 0 rfl rfl 24 (by decide) (hts _ g_746) (fun _ h9 => h9) rfl d_Mo_back_12 ?_
    refine lv_icmp_lt (tgt := 24) hx hb d_Mo_back_15 (by decide) (fun c2 => ?_) (fun c2 => ?_)
    · refine lv_iconst (v := 0) hx hb d_Mo_back_24 (by decide) ?_
      refine lv_istore_n (lv' := [(3, _), (0, _), (1, _), (2, _)]) hx hb d_Mo_back_25 rfl hl (by decide) rfl (fun ls hl => ?_)
      refine lv_iload_n hx hb d_Mo_back_26 rfl (lv_at hl 0 rfl) ?_
      refine lv_aload_n hx hb d_Mo_back_27 rfl (lv_at hl 1 rfl) ?_
      refine va_get (D := D9) (ci := 7) (C := R_Mo) (T := F_Mo) (N := 30) hx hb hts i_Mo hown hK hP 0 rfl rfl 24 (by decide) (hts _ g_746) (fun _ h9 => h9) rfl d_Mo_back_28 ?_
      refine lv_icmp_ge (tgt := 64) hx hb d_Mo_back_31 (by decide) (fun c3 => ?_) (fun c3 => ?_)
      · refine lv_aload_n hx hb d_Mo_back_64 rfl (lv_at hl 1 rfl) ?_
        refine lv_aload_n hx hb d_Mo_back_65 rfl (lv_at hl 1 rfl) ?_
        refine va_get (D := D9) (ci := 7) (C := R_Mo) (T := F_Mo) (N := 30) hx hb hts i_Mo hown hK hP 0 rfl rfl 24 (by decide) (hts _ g_746) (fun _ h9 => h9) rfl d_Mo_back_66 ?_
        refine va_put (D := D9) (ty := .int) (ci := 7) (C := R_Mo) (T := F_Mo) (N := 30) hx hb hts i_Mo t_Mo t_Mo_ok n_Mo hown hK hP hD hS 0 rfl rfl 2 (by decide) (hts _ g_724) (fun _ h9 => h9) rfl (by decide +kernel) rfl rfl (Nat.le_of_ble_eq_true rfl) d_Mo_back_69 (fun H locs hP hD hS => ?_)
        have hP : va_P D9 cls9 [(mo, .inr (7, [.int (0), .ref xta, .int _, .ref xst, .int 0, .int 0, .int 0, .int 0, .ref xse, .ref xty, .ref xki, .ref xti, .ref xna, .ref xns, .ref xda, .ref xds, .int (-1), .int 0, .int 0, .int 0, .int 0, .int 0, .int 0, .ref xme, .int 0, .int 0, .ref xep, .ref xea, .int 0, .ref xcw])), (xta, .inl (cB, 65536, .inl (fun _ => 0))), (xme, .inl (cB, 131200, .inl (fun _ => 0)))] H := hP
        have hD : va_D _ [(mo, .inr (7, [.int (0), .ref xta, .int _, .ref xst, .int 0, .int 0, .int 0, .int 0, .ref xse, .ref xty, .ref xki, .ref xti, .ref xna, .ref xns, .ref xda, .ref xds, .int (-1), .int 0, .int 0, .int 0, .int 0, .int 0, .int 0, .ref xme, .int 0, .int 0, .ref xep, .ref xea, .int 0, .ref xcw])), (xta, .inl (cB, 65536, .inl (fun _ => 0))), (xme, .inl (cB, 131200, .inl (fun _ => 0)))] := hD
        refine lv_aload_n hx hb d_Mo_back_72 rfl (lv_at hl 1 rfl) ?_
        refine va_get (D := D9) (ci := 7) (C := R_Mo) (T := F_Mo) (N := 30) hx hb hts i_Mo hown hK hP 0 rfl rfl 2 (by decide) (hts _ g_724) (fun _ h9 => h9) rfl d_Mo_back_73 ?_
        exact mw_zret hx hb hr hlocks hS hP hD (by decide) (by decide) d_Mo_back_76 (by first | rfl | decide +kernel) (⟨_, _, _, _, _, _, _, _, _, _, _, _, _, _, _, _, _, _, _, rfl, rfl, Or.inl ⟨rfl, rfl, c1, c2⟩⟩)
      · exact absurd c3 (by decide +kernel)
    · refine lv_aload_n hx hb d_Mo_back_18 rfl (lv_at hl 0 rfl) ?_
      refine lv_iconst (v := 1) hx hb d_Mo_back_19 (by decide) ?_
      refine mf_cV (wr := [_, _]) (ci := 7) (k := 0) C0 (c_Mo_fail l D9 cB cI cJ cG mo xta xst xse xty xki xti xna xns xda xds xme xep xea xcw _) g_877 g_8 g_874 g_876 gs_Mo_fail ⟨by decide +kernel, by decide +kernel, show Option.map (fun d => d.parameters.length) (parseMethodDescriptor y_Mo_fail.desc) = some 1 by decide +kernel⟩ ⟨by decide, by decide⟩ rfl rfl hP hD hS hA [0] [1, 2] rfl rfl (by decide) (by decide) (by decide) rfl rfl hl.1 (Nat.le_of_ble_eq_true rfl) rfl d_Mo_back_20 ⟨by decide, by decide⟩ (fun v9 w9 H locs hq hP hD hS => ?_)
      obtain ⟨rfl, hw9⟩ := hq
      rw [hw9] at hP hD
      have hP : va_P D9 cls9 [(xta, .inl (cB, 65536, .inl (fun _ => 0))), (xme, .inl (cB, 131200, .inl (fun _ => 0))), (mo, .inr (7, [.int (1), .ref xta, .int 0, .ref xst, .int 0, .int 0, .int 0, .int 0, .ref xse, .ref xty, .ref xki, .ref xti, .ref xna, .ref xns, .ref xda, .ref xds, .int (-1), .int 0, .int 0, .int 0, .int 0, .int 0, .int 0, .ref xme, .int 0, .int 0, .ref xep, .ref xea, .int 0, .ref xcw]))] H := hP
      have hD : va_D _ [(xta, .inl (cB, 65536, .inl (fun _ => 0))), (xme, .inl (cB, 131200, .inl (fun _ => 0))), (mo, .inr (7, [.int (1), .ref xta, .int 0, .ref xst, .int 0, .int 0, .int 0, .int 0, .ref xse, .ref xty, .ref xki, .ref xti, .ref xna, .ref xns, .ref xda, .ref xds, .int (-1), .int 0, .int 0, .int 0, .int 0, .int 0, .int 0, .ref xme, .int 0, .int 0, .ref xep, .ref xea, .int 0, .ref xcw]))] := hD
      have hP := hP.sub (ws' := [(mo, .inr (7, [.int (1), .ref xta, .int 0, .ref xst, .int 0, .int 0, .int 0, .int 0, .ref xse, .ref xty, .ref xki, .ref xti, .ref xna, .ref xns, .ref xda, .ref xds, .int (-1), .int 0, .int 0, .int 0, .int 0, .int 0, .int 0, .ref xme, .int 0, .int 0, .ref xep, .ref xea, .int 0, .ref xcw])), (xta, .inl (cB, 65536, .inl (fun _ => 0))), (xme, .inl (cB, 131200, .inl (fun _ => 0)))]) [2, 0, 1] rfl
      have hD := hD.sub (ws' := [(mo, .inr (7, [.int (1), .ref xta, .int 0, .ref xst, .int 0, .int 0, .int 0, .int 0, .ref xse, .ref xty, .ref xki, .ref xti, .ref xna, .ref xns, .ref xda, .ref xds, .int (-1), .int 0, .int 0, .int 0, .int 0, .int 0, .int 0, .ref xme, .int 0, .int 0, .ref xep, .ref xea, .int 0, .ref xcw])), (xta, .inl (cB, 65536, .inl (fun _ => 0))), (xme, .inl (cB, 131200, .inl (fun _ => 0)))]) [2, 0, 1] (by decide) rfl
      exact mw_zret hx hb hr hlocks hS hP hD (by decide) (by decide) d_Mo_back_23 (by first | rfl | decide +kernel) (⟨_, _, _, _, _, _, _, _, _, _, _, _, _, _, _, _, _, _, _, rfl, rfl, Or.inr ⟨rfl, Or.inr (Int32.not_lt.mp c2)⟩⟩)
set_option maxHeartbeats 4000000 in
set_option maxRecDepth 100000 in
theorem c_Mo_written (l : Launch) (D9 : va_G) (cB cI cJ cG : ClassId) (mo xta xst xse xty xki xti xna xns xda xds xme xep xea xcw : Nat) (u1 : Int32) : MW l D9 cls9 (ty9 cB cI cJ cG) y_Mo_written b_Mo_written 2 (some .int) (rm9 1 0 0) [.ref mo, .int u1] [(mo, .inr (7, [.int 0, .ref xta, .int 0, .ref xst, .int 0, .int 0, .int 0, .int 0, .ref xse, .ref xty, .ref xki, .ref xti, .ref xna, .ref xns, .ref xda, .ref xds, .int (-1), .int 0, .int 0, .int 0, .int 0, .int 0, .int 0, .ref xme, .int 0, .int 0, .ref xep, .ref xea, .int 0, .ref xcw]))] (fun v8 w2 => ∃ (r : Int32) (x0 : Int32) (x1 : Int32) (x2 : Int32) (x3 : Int32) (x4 : Int32) (x5 : Int32) (x6 : Int32) (x7 : Int32) (x8 : Int32) (x9 : Int32) (x10 : Int32) (x11 : Int32) (x12 : Int32) (x13 : Int32) (x14 : Int32) (x15 : Int32), v8 = some (.int r) ∧ w2 = [(mo, .inr (7, [.int x0, .ref xta, .int x1, .ref xst, .int x2, .int x3, .int x4, .int x5, .ref xse, .ref xty, .ref xki, .ref xti, .ref xna, .ref xns, .ref xda, .ref xds, .int x6, .int x7, .int x8, .int x9, .int x10, .int x11, .int x12, .ref xme, .int x13, .int x14, .ref xep, .ref xea, .int x15, .ref xcw]))] ∧ (x0 = 1)) 0 0 := by
  refine mw_of (by decide) (Nat.le_of_ble_eq_true rfl) ?_
  intro p e s m below meth c ls C0 hin hP hD hA hS hl
  obtain ⟨hx, hb, hml, hr, hlocks, hown, hts, hK⟩ := id C0
  have hl : lv_has ls 2 [(0, .ref mo), (1, .int u1)] := hl
  refine lv_aload_n hx hb d_Mo_written_0 rfl (lv_at hl 0 rfl) ?_
  refine lv_iconst (v := 0) hx hb d_Mo_written_1 (by decide) ?_
  refine va_put (D := D9) (ty := .int) (ci := 7) (C := R_Mo) (T := F_Mo) (N := 30) hx hb hts i_Mo t_Mo t_Mo_ok n_Mo hown hK hP hD hS 0 rfl rfl 0 (by decide) (hts _ g_722) (fun _ h9 => h9) rfl (by decide +kernel) rfl rfl (Nat.le_of_ble_eq_true rfl) d_Mo_written_2 (fun H locs hP hD hS => ?_)
  have hP : va_P D9 cls9 [(mo, .inr (7, [.int (0), .ref xta, .int 0, .ref xst, .int 0, .int 0, .int 0, .int 0, .ref xse, .ref xty, .ref xki, .ref xti, .ref xna, .ref xns, .ref xda, .ref xds, .int (-1), .int 0, .int 0, .int 0, .int 0, .int 0, .int 0, .ref xme, .int 0, .int 0, .ref xep, .ref xea, .int 0, .ref xcw]))] H := hP
  have hD : va_D _ [(mo, .inr (7, [.int (0), .ref xta, .int 0, .ref xst, .int 0, .int 0, .int 0, .int 0, .ref xse, .ref xty, .ref xki, .ref xti, .ref xna, .ref xns, .ref xda, .ref xds, .int (-1), .int 0, .int 0, .int 0, .int 0, .int 0, .int 0, .ref xme, .int 0, .int 0, .ref xep, .ref xea, .int 0, .ref xcw]))] := hD
  refine lv_iload_n hx hb d_Mo_written_5 rfl (lv_at hl 1 rfl) ?_
  refine lv_if_lt (tgt := 17) hx hb d_Mo_written_6 (by decide) (fun c1 => ?_) (fun c1 => ?_)
  · refine lv_aload_n hx hb d_Mo_written_17 rfl (lv_at hl 0 rfl) ?_
    refine lv_iconst (v := 1) hx hb d_Mo_written_18 (by decide) ?_
    refine mf_cV (wr := []) (ci := 7) (k := 0) C0 (c_Mo_fail l D9 cB cI cJ cG mo xta xst xse xty xki xti xna xns xda xds xme xep xea xcw _) g_877 g_8 g_874 g_876 gs_Mo_fail ⟨by decide +kernel, by decide +kernel, show Option.map (fun d => d.parameters.length) (parseMethodDescriptor y_Mo_fail.desc) = some 1 by decide +kernel⟩ ⟨by decide, by decide⟩ rfl rfl hP hD hS hA [0] [] rfl rfl (by decide) (by decide) (by decide) rfl rfl hl.1 (Nat.le_of_ble_eq_true rfl) rfl d_Mo_written_19 ⟨by decide, by decide⟩ (fun v9 w9 H locs hq hP hD hS => ?_)
    obtain ⟨rfl, hw9⟩ := hq
    rw [hw9] at hP hD
    have hP : va_P D9 cls9 [(mo, .inr (7, [.int (1), .ref xta, .int 0, .ref xst, .int 0, .int 0, .int 0, .int 0, .ref xse, .ref xty, .ref xki, .ref xti, .ref xna, .ref xns, .ref xda, .ref xds, .int (-1), .int 0, .int 0, .int 0, .int 0, .int 0, .int 0, .ref xme, .int 0, .int 0, .ref xep, .ref xea, .int 0, .ref xcw]))] H := hP
    have hD : va_D _ [(mo, .inr (7, [.int (1), .ref xta, .int 0, .ref xst, .int 0, .int 0, .int 0, .int 0, .ref xse, .ref xty, .ref xki, .ref xti, .ref xna, .ref xns, .ref xda, .ref xds, .int (-1), .int 0, .int 0, .int 0, .int 0, .int 0, .int 0, .ref xme, .int 0, .int 0, .ref xep, .ref xea, .int 0, .ref xcw]))] := hD
    exact mw_zret hx hb hr hlocks hS hP hD (by decide) (by decide) d_Mo_written_22 (by first | rfl | decide +kernel) (⟨_, _, _, _, _, _, _, _, _, _, _, _, _, _, _, _, _, rfl, rfl, rfl⟩)
  · refine lv_iload_n hx hb d_Mo_written_9 rfl (lv_at hl 1 rfl) ?_
    refine lv_aload_n hx hb d_Mo_written_10 rfl (lv_at hl 0 rfl) ?_
    refine va_get (D := D9) (ci := 7) (C := R_Mo) (T := F_Mo) (N := 30) hx hb hts i_Mo hown hK hP 0 rfl rfl 24 (by decide) (hts _ g_746) (fun _ h9 => h9) rfl d_Mo_written_11 ?_
    refine lv_icmp_lt (tgt := 23) hx hb d_Mo_written_14 (by decide) (fun c2 => ?_) (fun c2 => ?_)
    · exact absurd c2 c1
    · refine lv_aload_n hx hb d_Mo_written_17 rfl (lv_at hl 0 rfl) ?_
      refine lv_iconst (v := 1) hx hb d_Mo_written_18 (by decide) ?_
      refine mf_cV (wr := []) (ci := 7) (k := 0) C0 (c_Mo_fail l D9 cB cI cJ cG mo xta xst xse xty xki xti xna xns xda xds xme xep xea xcw _) g_877 g_8 g_874 g_876 gs_Mo_fail ⟨by decide +kernel, by decide +kernel, show Option.map (fun d => d.parameters.length) (parseMethodDescriptor y_Mo_fail.desc) = some 1 by decide +kernel⟩ ⟨by decide, by decide⟩ rfl rfl hP hD hS hA [0] [] rfl rfl (by decide) (by decide) (by decide) rfl rfl hl.1 (Nat.le_of_ble_eq_true rfl) rfl d_Mo_written_19 ⟨by decide, by decide⟩ (fun v9 w9 H locs hq hP hD hS => ?_)
      obtain ⟨rfl, hw9⟩ := hq
      rw [hw9] at hP hD
      have hP : va_P D9 cls9 [(mo, .inr (7, [.int (1), .ref xta, .int 0, .ref xst, .int 0, .int 0, .int 0, .int 0, .ref xse, .ref xty, .ref xki, .ref xti, .ref xna, .ref xns, .ref xda, .ref xds, .int (-1), .int 0, .int 0, .int 0, .int 0, .int 0, .int 0, .ref xme, .int 0, .int 0, .ref xep, .ref xea, .int 0, .ref xcw]))] H := hP
      have hD : va_D _ [(mo, .inr (7, [.int (1), .ref xta, .int 0, .ref xst, .int 0, .int 0, .int 0, .int 0, .ref xse, .ref xty, .ref xki, .ref xti, .ref xna, .ref xns, .ref xda, .ref xds, .int (-1), .int 0, .int 0, .int 0, .int 0, .int 0, .int 0, .ref xme, .int 0, .int 0, .ref xep, .ref xea, .int 0, .ref xcw]))] := hD
      exact mw_zret hx hb hr hlocks hS hP hD (by decide) (by decide) d_Mo_written_22 (by first | rfl | decide +kernel) (⟨_, _, _, _, _, _, _, _, _, _, _, _, _, _, _, _, _, rfl, rfl, rfl⟩)
set_option maxHeartbeats 4000000 in
set_option maxRecDepth 100000 in
theorem c_Mo_header (l : Launch) (D9 : va_G) (cB cI cJ cG : ClassId) (mo xta xst xse xty xki xti xna xns xda xds xme xep xea xcw : Nat) (u1 : Int32) : MW l D9 cls9 (ty9 cB cI cJ cG) y_Mo_header b_Mo_header 2 (some .int) (rm9 1 0 0) [.ref mo, .int u1] [(mo, .inr (7, [.int 0, .ref xta, .int 0, .ref xst, .int 0, .int 0, .int 0, .int 0, .ref xse, .ref xty, .ref xki, .ref xti, .ref xna, .ref xns, .ref xda, .ref xds, .int (-1), .int 0, .int 0, .int 0, .int 0, .int 0, .int 0, .ref xme, .int 0, .int 0, .ref xep, .ref xea, .int 0, .ref xcw]))] (fun v8 w2 => ∃ (r : Int32) (x0 : Int32) (x1 : Int32) (x2 : Int32) (x3 : Int32) (x4 : Int32) (x5 : Int32) (x6 : Int32) (x7 : Int32) (x8 : Int32) (x9 : Int32) (x10 : Int32) (x11 : Int32) (x12 : Int32) (x13 : Int32) (x14 : Int32) (x15 : Int32), v8 = some (.int r) ∧ w2 = [(mo, .inr (7, [.int x0, .ref xta, .int x1, .ref xst, .int x2, .int x3, .int x4, .int x5, .ref xse, .ref xty, .ref xki, .ref xti, .ref xna, .ref xns, .ref xda, .ref xds, .int x6, .int x7, .int x8, .int x9, .int x10, .int x11, .int x12, .ref xme, .int x13, .int x14, .ref xep, .ref xea, .int x15, .ref xcw]))] ∧ ((r = 0 ∧ x0 = 0 ∧ ¬ u1 < 0 ∧ ¬ nI 6 ≤ u1) ∨ (x0 = 1 ∧ (u1 < 0 ∨ nI 6 ≤ u1)))) 0 0 := by
  refine mw_of (by decide) (Nat.le_of_ble_eq_true rfl) ?_
  intro p e s m below meth c ls C0 hin hP hD hA hS hl
  obtain ⟨hx, hb, hml, hr, hlocks, hown, hts, hK⟩ := id C0
  have hl : lv_has ls 2 [(0, .ref mo), (1, .int u1)] := hl
  refine lv_aload_n hx hb d_Mo_header_0 rfl (lv_at hl 0 rfl) ?_
  refine lv_iconst (v := 0) hx hb d_Mo_header_1 (by decide) ?_
  refine va_put (D := D9) (ty := .int) (ci := 7) (C := R_Mo) (T := F_Mo) (N := 30) hx hb hts i_Mo t_Mo t_Mo_ok n_Mo hown hK hP hD hS 0 rfl rfl 0 (by decide) (hts _ g_722) (fun _ h9 => h9) rfl (by decide +kernel) rfl rfl (Nat.le_of_ble_eq_true rfl) d_Mo_header_2 (fun H locs hP hD hS => ?_)
  have hP : va_P D9 cls9 [(mo, .inr (7, [.int (0), .ref xta, .int 0, .ref xst, .int 0, .int 0, .int 0, .int 0, .ref xse, .ref xty, .ref xki, .ref xti, .ref xna, .ref xns, .ref xda, .ref xds, .int (-1), .int 0, .int 0, .int 0, .int 0, .int 0, .int 0, .ref xme, .int 0, .int 0, .ref xep, .ref xea, .int 0, .ref xcw]))] H := hP
  have hD : va_D _ [(mo, .inr (7, [.int (0), .ref xta, .int 0, .ref xst, .int 0, .int 0, .int 0, .int 0, .ref xse, .ref xty, .ref xki, .ref xti, .ref xna, .ref xns, .ref xda, .ref xds, .int (-1), .int 0, .int 0, .int 0, .int 0, .int 0, .int 0, .ref xme, .int 0, .int 0, .ref xep, .ref xea, .int 0, .ref xcw]))] := hD
  refine lv_iload_n hx hb d_Mo_header_5 rfl (lv_at hl 1 rfl) ?_
  rcases pk_ix u1 (n := 6) (by decide) with h9 | h9 | ⟨j9, hj9, e9⟩
  · refine lv_tableOut (tgt := 62) hx hb d_Mo_header_6 (Or.inl (sw_lo h9)) (by decide) ?_
    refine lv_aload_n hx hb d_Mo_header_62 rfl (lv_at hl 0 rfl) ?_
    refine lv_iconst (v := 1) hx hb d_Mo_header_63 (by decide) ?_
    refine mf_cV (wr := []) (ci := 7) (k := 0) C0 (c_Mo_fail l D9 cB cI cJ cG mo xta xst xse xty xki xti xna xns xda xds xme xep xea xcw _) g_877 g_8 g_874 g_876 gs_Mo_fail ⟨by decide +kernel, by decide +kernel, show Option.map (fun d => d.parameters.length) (parseMethodDescriptor y_Mo_fail.desc) = some 1 by decide +kernel⟩ ⟨by decide, by decide⟩ rfl rfl hP hD hS hA [0] [] rfl rfl (by decide) (by decide) (by decide) rfl rfl hl.1 (Nat.le_of_ble_eq_true rfl) rfl d_Mo_header_64 ⟨by decide, by decide⟩ (fun v9 w9 H locs hq hP hD hS => ?_)
    obtain ⟨rfl, hw9⟩ := hq
    rw [hw9] at hP hD
    have hP : va_P D9 cls9 [(mo, .inr (7, [.int (1), .ref xta, .int 0, .ref xst, .int 0, .int 0, .int 0, .int 0, .ref xse, .ref xty, .ref xki, .ref xti, .ref xna, .ref xns, .ref xda, .ref xds, .int (-1), .int 0, .int 0, .int 0, .int 0, .int 0, .int 0, .ref xme, .int 0, .int 0, .ref xep, .ref xea, .int 0, .ref xcw]))] H := hP
    have hD : va_D _ [(mo, .inr (7, [.int (1), .ref xta, .int 0, .ref xst, .int 0, .int 0, .int 0, .int 0, .ref xse, .ref xty, .ref xki, .ref xti, .ref xna, .ref xns, .ref xda, .ref xds, .int (-1), .int 0, .int 0, .int 0, .int 0, .int 0, .int 0, .ref xme, .int 0, .int 0, .ref xep, .ref xea, .int 0, .ref xcw]))] := hD
    exact mw_zret hx hb hr hlocks hS hP hD (by decide) (by decide) d_Mo_header_67 (by first | rfl | decide +kernel) (⟨_, _, _, _, _, _, _, _, _, _, _, _, _, _, _, _, _, rfl, rfl, Or.inr ⟨rfl, Or.inl h9⟩⟩)
  · refine lv_tableOut (tgt := 62) hx hb d_Mo_header_6 (Or.inr (sw_hi h9 (by decide) (by decide))) (by decide) ?_
    refine lv_aload_n hx hb d_Mo_header_62 rfl (lv_at hl 0 rfl) ?_
    refine lv_iconst (v := 1) hx hb d_Mo_header_63 (by decide) ?_
    refine mf_cV (wr := []) (ci := 7) (k := 0) C0 (c_Mo_fail l D9 cB cI cJ cG mo xta xst xse xty xki xti xna xns xda xds xme xep xea xcw _) g_877 g_8 g_874 g_876 gs_Mo_fail ⟨by decide +kernel, by decide +kernel, show Option.map (fun d => d.parameters.length) (parseMethodDescriptor y_Mo_fail.desc) = some 1 by decide +kernel⟩ ⟨by decide, by decide⟩ rfl rfl hP hD hS hA [0] [] rfl rfl (by decide) (by decide) (by decide) rfl rfl hl.1 (Nat.le_of_ble_eq_true rfl) rfl d_Mo_header_64 ⟨by decide, by decide⟩ (fun v9 w9 H locs hq hP hD hS => ?_)
    obtain ⟨rfl, hw9⟩ := hq
    rw [hw9] at hP hD
    have hP : va_P D9 cls9 [(mo, .inr (7, [.int (1), .ref xta, .int 0, .ref xst, .int 0, .int 0, .int 0, .int 0, .ref xse, .ref xty, .ref xki, .ref xti, .ref xna, .ref xns, .ref xda, .ref xds, .int (-1), .int 0, .int 0, .int 0, .int 0, .int 0, .int 0, .ref xme, .int 0, .int 0, .ref xep, .ref xea, .int 0, .ref xcw]))] H := hP
    have hD : va_D _ [(mo, .inr (7, [.int (1), .ref xta, .int 0, .ref xst, .int 0, .int 0, .int 0, .int 0, .ref xse, .ref xty, .ref xki, .ref xti, .ref xna, .ref xns, .ref xda, .ref xds, .int (-1), .int 0, .int 0, .int 0, .int 0, .int 0, .int 0, .ref xme, .int 0, .int 0, .ref xep, .ref xea, .int 0, .ref xcw]))] := hD
    exact mw_zret hx hb hr hlocks hS hP hD (by decide) (by decide) d_Mo_header_67 (by first | rfl | decide +kernel) (⟨_, _, _, _, _, _, _, _, _, _, _, _, _, _, _, _, _, rfl, rfl, Or.inr ⟨rfl, Or.inr h9⟩⟩)
  · rcases (show j9 = 0 ∨ j9 = 1 ∨ j9 = 2 ∨ j9 = 3 ∨ j9 = 4 ∨ j9 = 5 by omega) with rfl | rfl | rfl | rfl | rfl | rfl
    · subst e9
      refine lv_tableIn (tgt := 44) hx hb d_Mo_header_6 (by decide) (by decide) rfl (by decide) ?_
      refine lv_aload_n hx hb d_Mo_header_44 rfl (lv_at hl 0 rfl) ?_
      refine va_get (D := D9) (ci := 7) (C := R_Mo) (T := F_Mo) (N := 30) hx hb hts i_Mo hown hK hP 0 rfl rfl 6 (by decide) (hts _ g_728) (fun _ h9 => h9) rfl d_Mo_header_45 ?_
      exact mw_zret hx hb hr hlocks hS hP hD (by decide) (by decide) d_Mo_header_48 (by first | rfl | decide +kernel) (⟨_, _, _, _, _, _, _, _, _, _, _, _, _, _, _, _, _, rfl, rfl, Or.inl ⟨rfl, rfl, by decide, by decide⟩⟩)
    · subst e9
      refine lv_tableIn (tgt := 49) hx hb d_Mo_header_6 (by decide) (by decide) rfl (by decide) ?_
      refine lv_aload_n hx hb d_Mo_header_49 rfl (lv_at hl 0 rfl) ?_
      refine va_get (D := D9) (ci := 7) (C := R_Mo) (T := F_Mo) (N := 30) hx hb hts i_Mo hown hK hP 0 rfl rfl 7 (by decide) (hts _ g_729) (fun _ h9 => h9) rfl d_Mo_header_50 ?_
      exact mw_zret hx hb hr hlocks hS hP hD (by decide) (by decide) d_Mo_header_53 (by first | rfl | decide +kernel) (⟨_, _, _, _, _, _, _, _, _, _, _, _, _, _, _, _, _, rfl, rfl, Or.inl ⟨rfl, rfl, by decide, by decide⟩⟩)
    · subst e9
      refine lv_tableIn (tgt := 54) hx hb d_Mo_header_6 (by decide) (by decide) rfl (by decide) ?_
      refine lv_aload_n hx hb d_Mo_header_54 rfl (lv_at hl 0 rfl) ?_
      refine lv_iload_n hx hb d_Mo_header_55 rfl (lv_at hl 1 rfl) ?_
      refine lv_iconst (v := 2) hx hb d_Mo_header_56 (by decide) ?_
      refine lv_isub hx hb d_Mo_header_57 ?_
      refine mf_cV (wr := []) (ci := 7) (k := 0) C0 (c_Mo_countOf l D9 cB cI cJ cG mo xta xst xse xty xki xti xna xns xda xds xme xep xea xcw _) g_860 g_8 g_857 g_859 gs_Mo_countOf ⟨by decide +kernel, by decide +kernel, show Option.map (fun d => d.parameters.length) (parseMethodDescriptor y_Mo_countOf.desc) = some 1 by decide +kernel⟩ ⟨by decide, by decide⟩ rfl rfl hP hD hS hA [0] [] rfl rfl (by decide) (by decide) (by decide) rfl rfl hl.1 (Nat.le_of_ble_eq_true rfl) rfl d_Mo_header_58 ⟨by decide, by decide⟩ (fun v9 w9 H locs hq hP hD hS => ?_)
      obtain ⟨rfl, hw9⟩ := hq
      rw [hw9] at hP hD
      have hP : va_P D9 cls9 [(mo, .inr (7, [.int 0, .ref xta, .int 0, .ref xst, .int 0, .int 0, .int 0, .int 0, .ref xse, .ref xty, .ref xki, .ref xti, .ref xna, .ref xns, .ref xda, .ref xds, .int (-1), .int 0, .int 0, .int 0, .int 0, .int 0, .int 0, .ref xme, .int 0, .int 0, .ref xep, .ref xea, .int 0, .ref xcw]))] H := hP
      have hD : va_D _ [(mo, .inr (7, [.int 0, .ref xta, .int 0, .ref xst, .int 0, .int 0, .int 0, .int 0, .ref xse, .ref xty, .ref xki, .ref xti, .ref xna, .ref xns, .ref xda, .ref xds, .int (-1), .int 0, .int 0, .int 0, .int 0, .int 0, .int 0, .ref xme, .int 0, .int 0, .ref xep, .ref xea, .int 0, .ref xcw]))] := hD
      exact mw_zret hx hb hr hlocks hS hP hD (by decide) (by decide) d_Mo_header_61 (by first | rfl | decide +kernel) (⟨_, _, _, _, _, _, _, _, _, _, _, _, _, _, _, _, _, rfl, rfl, Or.inl ⟨rfl, rfl, by decide, by decide⟩⟩)
    · subst e9
      refine lv_tableIn (tgt := 54) hx hb d_Mo_header_6 (by decide) (by decide) rfl (by decide) ?_
      refine lv_aload_n hx hb d_Mo_header_54 rfl (lv_at hl 0 rfl) ?_
      refine lv_iload_n hx hb d_Mo_header_55 rfl (lv_at hl 1 rfl) ?_
      refine lv_iconst (v := 2) hx hb d_Mo_header_56 (by decide) ?_
      refine lv_isub hx hb d_Mo_header_57 ?_
      refine mf_cV (wr := []) (ci := 7) (k := 0) C0 (c_Mo_countOf l D9 cB cI cJ cG mo xta xst xse xty xki xti xna xns xda xds xme xep xea xcw _) g_860 g_8 g_857 g_859 gs_Mo_countOf ⟨by decide +kernel, by decide +kernel, show Option.map (fun d => d.parameters.length) (parseMethodDescriptor y_Mo_countOf.desc) = some 1 by decide +kernel⟩ ⟨by decide, by decide⟩ rfl rfl hP hD hS hA [0] [] rfl rfl (by decide) (by decide) (by decide) rfl rfl hl.1 (Nat.le_of_ble_eq_true rfl) rfl d_Mo_header_58 ⟨by decide, by decide⟩ (fun v9 w9 H locs hq hP hD hS => ?_)
      obtain ⟨rfl, hw9⟩ := hq
      rw [hw9] at hP hD
      have hP : va_P D9 cls9 [(mo, .inr (7, [.int 0, .ref xta, .int 0, .ref xst, .int 0, .int 0, .int 0, .int 0, .ref xse, .ref xty, .ref xki, .ref xti, .ref xna, .ref xns, .ref xda, .ref xds, .int (-1), .int 0, .int 0, .int 0, .int 0, .int 0, .int 0, .ref xme, .int 0, .int 0, .ref xep, .ref xea, .int 0, .ref xcw]))] H := hP
      have hD : va_D _ [(mo, .inr (7, [.int 0, .ref xta, .int 0, .ref xst, .int 0, .int 0, .int 0, .int 0, .ref xse, .ref xty, .ref xki, .ref xti, .ref xna, .ref xns, .ref xda, .ref xds, .int (-1), .int 0, .int 0, .int 0, .int 0, .int 0, .int 0, .ref xme, .int 0, .int 0, .ref xep, .ref xea, .int 0, .ref xcw]))] := hD
      exact mw_zret hx hb hr hlocks hS hP hD (by decide) (by decide) d_Mo_header_61 (by first | rfl | decide +kernel) (⟨_, _, _, _, _, _, _, _, _, _, _, _, _, _, _, _, _, rfl, rfl, Or.inl ⟨rfl, rfl, by decide, by decide⟩⟩)
    · subst e9
      refine lv_tableIn (tgt := 54) hx hb d_Mo_header_6 (by decide) (by decide) rfl (by decide) ?_
      refine lv_aload_n hx hb d_Mo_header_54 rfl (lv_at hl 0 rfl) ?_
      refine lv_iload_n hx hb d_Mo_header_55 rfl (lv_at hl 1 rfl) ?_
      refine lv_iconst (v := 2) hx hb d_Mo_header_56 (by decide) ?_
      refine lv_isub hx hb d_Mo_header_57 ?_
      refine mf_cV (wr := []) (ci := 7) (k := 0) C0 (c_Mo_countOf l D9 cB cI cJ cG mo xta xst xse xty xki xti xna xns xda xds xme xep xea xcw _) g_860 g_8 g_857 g_859 gs_Mo_countOf ⟨by decide +kernel, by decide +kernel, show Option.map (fun d => d.parameters.length) (parseMethodDescriptor y_Mo_countOf.desc) = some 1 by decide +kernel⟩ ⟨by decide, by decide⟩ rfl rfl hP hD hS hA [0] [] rfl rfl (by decide) (by decide) (by decide) rfl rfl hl.1 (Nat.le_of_ble_eq_true rfl) rfl d_Mo_header_58 ⟨by decide, by decide⟩ (fun v9 w9 H locs hq hP hD hS => ?_)
      obtain ⟨rfl, hw9⟩ := hq
      rw [hw9] at hP hD
      have hP : va_P D9 cls9 [(mo, .inr (7, [.int 0, .ref xta, .int 0, .ref xst, .int 0, .int 0, .int 0, .int 0, .ref xse, .ref xty, .ref xki, .ref xti, .ref xna, .ref xns, .ref xda, .ref xds, .int (-1), .int 0, .int 0, .int 0, .int 0, .int 0, .int 0, .ref xme, .int 0, .int 0, .ref xep, .ref xea, .int 0, .ref xcw]))] H := hP
      have hD : va_D _ [(mo, .inr (7, [.int 0, .ref xta, .int 0, .ref xst, .int 0, .int 0, .int 0, .int 0, .ref xse, .ref xty, .ref xki, .ref xti, .ref xna, .ref xns, .ref xda, .ref xds, .int (-1), .int 0, .int 0, .int 0, .int 0, .int 0, .int 0, .ref xme, .int 0, .int 0, .ref xep, .ref xea, .int 0, .ref xcw]))] := hD
      exact mw_zret hx hb hr hlocks hS hP hD (by decide) (by decide) d_Mo_header_61 (by first | rfl | decide +kernel) (⟨_, _, _, _, _, _, _, _, _, _, _, _, _, _, _, _, _, rfl, rfl, Or.inl ⟨rfl, rfl, by decide, by decide⟩⟩)
    · subst e9
      refine lv_tableIn (tgt := 54) hx hb d_Mo_header_6 (by decide) (by decide) rfl (by decide) ?_
      refine lv_aload_n hx hb d_Mo_header_54 rfl (lv_at hl 0 rfl) ?_
      refine lv_iload_n hx hb d_Mo_header_55 rfl (lv_at hl 1 rfl) ?_
      refine lv_iconst (v := 2) hx hb d_Mo_header_56 (by decide) ?_
      refine lv_isub hx hb d_Mo_header_57 ?_
      refine mf_cV (wr := []) (ci := 7) (k := 0) C0 (c_Mo_countOf l D9 cB cI cJ cG mo xta xst xse xty xki xti xna xns xda xds xme xep xea xcw _) g_860 g_8 g_857 g_859 gs_Mo_countOf ⟨by decide +kernel, by decide +kernel, show Option.map (fun d => d.parameters.length) (parseMethodDescriptor y_Mo_countOf.desc) = some 1 by decide +kernel⟩ ⟨by decide, by decide⟩ rfl rfl hP hD hS hA [0] [] rfl rfl (by decide) (by decide) (by decide) rfl rfl hl.1 (Nat.le_of_ble_eq_true rfl) rfl d_Mo_header_58 ⟨by decide, by decide⟩ (fun v9 w9 H locs hq hP hD hS => ?_)
      obtain ⟨rfl, hw9⟩ := hq
      rw [hw9] at hP hD
      have hP : va_P D9 cls9 [(mo, .inr (7, [.int 0, .ref xta, .int 0, .ref xst, .int 0, .int 0, .int 0, .int 0, .ref xse, .ref xty, .ref xki, .ref xti, .ref xna, .ref xns, .ref xda, .ref xds, .int (-1), .int 0, .int 0, .int 0, .int 0, .int 0, .int 0, .ref xme, .int 0, .int 0, .ref xep, .ref xea, .int 0, .ref xcw]))] H := hP
      have hD : va_D _ [(mo, .inr (7, [.int 0, .ref xta, .int 0, .ref xst, .int 0, .int 0, .int 0, .int 0, .ref xse, .ref xty, .ref xki, .ref xti, .ref xna, .ref xns, .ref xda, .ref xds, .int (-1), .int 0, .int 0, .int 0, .int 0, .int 0, .int 0, .ref xme, .int 0, .int 0, .ref xep, .ref xea, .int 0, .ref xcw]))] := hD
      exact mw_zret hx hb hr hlocks hS hP hD (by decide) (by decide) d_Mo_header_61 (by first | rfl | decide +kernel) (⟨_, _, _, _, _, _, _, _, _, _, _, _, _, _, _, _, _, rfl, rfl, Or.inl ⟨rfl, rfl, by decide, by decide⟩⟩)
set_option maxHeartbeats 4000000 in
set_option maxRecDepth 100000 in
theorem c_Mo_count (l : Launch) (D9 : va_G) (cB cI cJ cG : ClassId) (mo xta xst xse xty xki xti xna xns xda xds xme xep xea xcw : Nat) (u1 : Int32) : MW l D9 cls9 (ty9 cB cI cJ cG) y_Mo_count b_Mo_count 2 (some .int) (rm9 0 0 0) [.ref mo, .int u1] [(mo, .inr (7, [.int 0, .ref xta, .int 0, .ref xst, .int 0, .int 0, .int 0, .int 0, .ref xse, .ref xty, .ref xki, .ref xti, .ref xna, .ref xns, .ref xda, .ref xds, .int (-1), .int 0, .int 0, .int 0, .int 0, .int 0, .int 0, .ref xme, .int 0, .int 0, .ref xep, .ref xea, .int 0, .ref xcw]))] (fun v8 w2 => ∃ (r : Int32) (x0 : Int32) (x1 : Int32) (x2 : Int32) (x3 : Int32) (x4 : Int32) (x5 : Int32) (x6 : Int32) (x7 : Int32) (x8 : Int32) (x9 : Int32) (x10 : Int32) (x11 : Int32) (x12 : Int32) (x13 : Int32) (x14 : Int32) (x15 : Int32), v8 = some (.int r) ∧ w2 = [(mo, .inr (7, [.int x0, .ref xta, .int x1, .ref xst, .int x2, .int x3, .int x4, .int x5, .ref xse, .ref xty, .ref xki, .ref xti, .ref xna, .ref xns, .ref xda, .ref xds, .int x6, .int x7, .int x8, .int x9, .int x10, .int x11, .int x12, .ref xme, .int x13, .int x14, .ref xep, .ref xea, .int x15, .ref xcw]))] ∧ (r = (if u1 < 0 ∨ nI 4 ≤ u1 then -1 else 0) ∧ x0 = 0)) 0 0 := by
  refine mw_of (by decide) (Nat.le_of_ble_eq_true rfl) ?_
  intro p e s m below meth c ls C0 hin hP hD hA hS hl
  obtain ⟨hx, hb, hml, hr, hlocks, hown, hts, hK⟩ := id C0
  have hl : lv_has ls 2 [(0, .ref mo), (1, .int u1)] := hl
  refine lv_aload_n hx hb d_Mo_count_0 rfl (lv_at hl 0 rfl) ?_
  refine lv_iconst (v := 0) hx hb d_Mo_count_1 (by decide) ?_
  refine va_put (D := D9) (ty := .int) (ci := 7) (C := R_Mo) (T := F_Mo) (N := 30) hx hb hts i_Mo t_Mo t_Mo_ok n_Mo hown hK hP hD hS 0 rfl rfl 0 (by decide) (hts _ g_722) (fun _ h9 => h9) rfl (by decide +kernel) rfl rfl (Nat.le_of_ble_eq_true rfl) d_Mo_count_2 (fun H locs hP hD hS => ?_)
  have hP : va_P D9 cls9 [(mo, .inr (7, [.int (0), .ref xta, .int 0, .ref xst, .int 0, .int 0, .int 0, .int 0, .ref xse, .ref xty, .ref xki, .ref xti, .ref xna, .ref xns, .ref xda, .ref xds, .int (-1), .int 0, .int 0, .int 0, .int 0, .int 0, .int 0, .ref xme, .int 0, .int 0, .ref xep, .ref xea, .int 0, .ref xcw]))] H := hP
  have hD : va_D _ [(mo, .inr (7, [.int (0), .ref xta, .int 0, .ref xst, .int 0, .int 0, .int 0, .int 0, .ref xse, .ref xty, .ref xki, .ref xti, .ref xna, .ref xns, .ref xda, .ref xds, .int (-1), .int 0, .int 0, .int 0, .int 0, .int 0, .int 0, .ref xme, .int 0, .int 0, .ref xep, .ref xea, .int 0, .ref xcw]))] := hD
  refine lv_iload_n hx hb d_Mo_count_5 rfl (lv_at hl 1 rfl) ?_
  rcases pk_ix u1 (n := 4) (by decide) with h9 | h9 | ⟨j9, hj9, e9⟩
  · refine lv_tableOut (tgt := 56) hx hb d_Mo_count_6 (Or.inl (sw_lo h9)) (by decide) ?_
    refine lv_iconst (v := -1) hx hb d_Mo_count_56 (by decide) ?_
    exact mw_zret hx hb hr hlocks hS hP hD (by decide) (by decide) d_Mo_count_57 (by first | rfl | decide +kernel) (⟨_, _, _, _, _, _, _, _, _, _, _, _, _, _, _, _, _, rfl, rfl, ⟨by rw [if_pos (Or.inl h9)], rfl⟩⟩)
  · refine lv_tableOut (tgt := 56) hx hb d_Mo_count_6 (Or.inr (sw_hi h9 (by decide) (by decide))) (by decide) ?_
    refine lv_iconst (v := -1) hx hb d_Mo_count_56 (by decide) ?_
    exact mw_zret hx hb hr hlocks hS hP hD (by decide) (by decide) d_Mo_count_57 (by first | rfl | decide +kernel) (⟨_, _, _, _, _, _, _, _, _, _, _, _, _, _, _, _, _, rfl, rfl, ⟨by rw [if_pos (Or.inr h9)], rfl⟩⟩)
  · rcases (show j9 = 0 ∨ j9 = 1 ∨ j9 = 2 ∨ j9 = 3 by omega) with rfl | rfl | rfl | rfl
    · subst e9
      refine lv_tableIn (tgt := 36) hx hb d_Mo_count_6 (by decide) (by decide) rfl (by decide) ?_
      refine lv_aload_n hx hb d_Mo_count_36 rfl (lv_at hl 0 rfl) ?_
      refine va_get (D := D9) (ci := 7) (C := R_Mo) (T := F_Mo) (N := 30) hx hb hts i_Mo hown hK hP 0 rfl rfl 2 (by decide) (hts _ g_724) (fun _ h9 => h9) rfl d_Mo_count_37 ?_
      exact mw_zret hx hb hr hlocks hS hP hD (by decide) (by decide) d_Mo_count_40 (by first | rfl | decide +kernel) (⟨_, _, _, _, _, _, _, _, _, _, _, _, _, _, _, _, _, rfl, rfl, ⟨by decide, rfl⟩⟩)
    · subst e9
      refine lv_tableIn (tgt := 41) hx hb d_Mo_count_6 (by decide) (by decide) rfl (by decide) ?_
      refine lv_aload_n hx hb d_Mo_count_41 rfl (lv_at hl 0 rfl) ?_
      refine va_get (D := D9) (ci := 7) (C := R_Mo) (T := F_Mo) (N := 30) hx hb hts i_Mo hown hK hP 0 rfl rfl 24 (by decide) (hts _ g_746) (fun _ h9 => h9) rfl d_Mo_count_42 ?_
      exact mw_zret hx hb hr hlocks hS hP hD (by decide) (by decide) d_Mo_count_45 (by first | rfl | decide +kernel) (⟨_, _, _, _, _, _, _, _, _, _, _, _, _, _, _, _, _, rfl, rfl, ⟨by decide, rfl⟩⟩)
    · subst e9
      refine lv_tableIn (tgt := 46) hx hb d_Mo_count_6 (by decide) (by decide) rfl (by decide) ?_
      refine lv_aload_n hx hb d_Mo_count_46 rfl (lv_at hl 0 rfl) ?_
      refine va_get (D := D9) (ci := 7) (C := R_Mo) (T := F_Mo) (N := 30) hx hb hts i_Mo hown hK hP 0 rfl rfl 25 (by decide) (hts _ g_747) (fun _ h9 => h9) rfl d_Mo_count_47 ?_
      exact mw_zret hx hb hr hlocks hS hP hD (by decide) (by decide) d_Mo_count_50 (by first | rfl | decide +kernel) (⟨_, _, _, _, _, _, _, _, _, _, _, _, _, _, _, _, _, rfl, rfl, ⟨by decide, rfl⟩⟩)
    · subst e9
      refine lv_tableIn (tgt := 51) hx hb d_Mo_count_6 (by decide) (by decide) rfl (by decide) ?_
      refine lv_aload_n hx hb d_Mo_count_51 rfl (lv_at hl 0 rfl) ?_
      refine va_get (D := D9) (ci := 7) (C := R_Mo) (T := F_Mo) (N := 30) hx hb hts i_Mo hown hK hP 0 rfl rfl 18 (by decide) (hts _ g_740) (fun _ h9 => h9) rfl d_Mo_count_52 ?_
      exact mw_zret hx hb hr hlocks hS hP hD (by decide) (by decide) d_Mo_count_55 (by first | rfl | decide +kernel) (⟨_, _, _, _, _, _, _, _, _, _, _, _, _, _, _, _, _, rfl, rfl, ⟨by decide, rfl⟩⟩)
set_option maxHeartbeats 4000000 in
set_option maxRecDepth 100000 in
theorem c_Mo_told (l : Launch) (D9 : va_G) (cB cI cJ cG : ClassId) (mo xta xst xse xty xki xti xna xns xda xds xme xep xea xcw : Nat) (u1 u2 u3 : Int32) : MW l D9 cls9 (ty9 cB cI cJ cG) y_Mo_told b_Mo_told 5 (some .int) (rm9 1 0 0) [.ref mo, .int u1, .int u2, .int u3] [(mo, .inr (7, [.int 0, .ref xta, .int 0, .ref xst, .int 0, .int 0, .int 0, .int 0, .ref xse, .ref xty, .ref xki, .ref xti, .ref xna, .ref xns, .ref xda, .ref xds, .int (-1), .int 0, .int 0, .int 0, .int 0, .int 0, .int 0, .ref xme, .int 0, .int 0, .ref xep, .ref xea, .int 0, .ref xcw]))] (fun v8 w2 => ∃ (r : Int32) (x0 : Int32) (x1 : Int32) (x2 : Int32) (x3 : Int32) (x4 : Int32) (x5 : Int32) (x6 : Int32) (x7 : Int32) (x8 : Int32) (x9 : Int32) (x10 : Int32) (x11 : Int32) (x12 : Int32) (x13 : Int32) (x14 : Int32) (x15 : Int32), v8 = some (.int r) ∧ w2 = [(mo, .inr (7, [.int x0, .ref xta, .int x1, .ref xst, .int x2, .int x3, .int x4, .int x5, .ref xse, .ref xty, .ref xki, .ref xti, .ref xna, .ref xns, .ref xda, .ref xds, .int x6, .int x7, .int x8, .int x9, .int x10, .int x11, .int x12, .ref xme, .int x13, .int x14, .ref xep, .ref xea, .int x15, .ref xcw]))] ∧ (x0 = 1)) 0 0 := by
  refine mw_of (by decide) (Nat.le_of_ble_eq_true rfl) ?_
  intro p e s m below meth c ls C0 hin hP hD hA hS hl
  obtain ⟨hx, hb, hml, hr, hlocks, hown, hts, hK⟩ := id C0
  have hl : lv_has ls 5 [(0, .ref mo), (1, .int u1), (2, .int u2), (3, .int u3)] := hl
  refine lv_aload_n hx hb d_Mo_told_0 rfl (lv_at hl 0 rfl) ?_
  refine lv_iconst (v := 0) hx hb d_Mo_told_1 (by decide) ?_
  refine va_put (D := D9) (ty := .int) (ci := 7) (C := R_Mo) (T := F_Mo) (N := 30) hx hb hts i_Mo t_Mo t_Mo_ok n_Mo hown hK hP hD hS 0 rfl rfl 0 (by decide) (hts _ g_722) (fun _ h9 => h9) rfl (by decide +kernel) rfl rfl (Nat.le_of_ble_eq_true rfl) d_Mo_told_2 (fun H locs hP hD hS => ?_)
  have hP : va_P D9 cls9 [(mo, .inr (7, [.int (0), .ref xta, .int 0, .ref xst, .int 0, .int 0, .int 0, .int 0, .ref xse, .ref xty, .ref xki, .ref xti, .ref xna, .ref xns, .ref xda, .ref xds, .int (-1), .int 0, .int 0, .int 0, .int 0, .int 0, .int 0, .ref xme, .int 0, .int 0, .ref xep, .ref xea, .int 0, .ref xcw]))] H := hP
  have hD : va_D _ [(mo, .inr (7, [.int (0), .ref xta, .int 0, .ref xst, .int 0, .int 0, .int 0, .int 0, .ref xse, .ref xty, .ref xki, .ref xti, .ref xna, .ref xns, .ref xda, .ref xds, .int (-1), .int 0, .int 0, .int 0, .int 0, .int 0, .int 0, .ref xme, .int 0, .int 0, .ref xep, .ref xea, .int 0, .ref xcw]))] := hD
  refine lv_aload_n hx hb d_Mo_told_5 rfl (lv_at hl 0 rfl) ?_
  refine lv_iload_n hx hb d_Mo_told_6 rfl (lv_at hl 1 rfl) ?_
  refine lv_iload_n hx hb d_Mo_told_7 rfl (lv_at hl 2 rfl) ?_
  refine mf_cV (wr := []) (ci := 7) (k := 0) C0 (c_Mo_place l D9 cB cI cJ cG mo xta xst xse xty xki xti xna xns xda xds xme xep xea xcw _ _) g_963 g_8 g_960 g_962 gs_Mo_place ⟨by decide +kernel, by decide +kernel, show Option.map (fun d => d.parameters.length) (parseMethodDescriptor y_Mo_place.desc) = some 2 by decide +kernel⟩ ⟨by decide, by decide⟩ rfl rfl hP hD hS hA [0] [] rfl rfl (by decide) (by decide) (by decide) rfl rfl hl.1 (Nat.le_of_ble_eq_true rfl) rfl d_Mo_told_8 ⟨by decide, by decide⟩ (fun v9 w9 H locs hq hP hD hS => ?_)
  obtain ⟨rfl, hw9⟩ := hq
  rw [hw9] at hP hD
  have hP : va_P D9 cls9 [(mo, .inr (7, [.int 0, .ref xta, .int 0, .ref xst, .int 0, .int 0, .int 0, .int 0, .ref xse, .ref xty, .ref xki, .ref xti, .ref xna, .ref xns, .ref xda, .ref xds, .int (-1), .int 0, .int 0, .int 0, .int 0, .int 0, .int 0, .ref xme, .int 0, .int 0, .ref xep, .ref xea, .int 0, .ref xcw]))] H := hP
  have hD : va_D _ [(mo, .inr (7, [.int 0, .ref xta, .int 0, .ref xst, .int 0, .int 0, .int 0, .int 0, .ref xse, .ref xty, .ref xki, .ref xti, .ref xna, .ref xns, .ref xda, .ref xds, .int (-1), .int 0, .int 0, .int 0, .int 0, .int 0, .int 0, .ref xme, .int 0, .int 0, .ref xep, .ref xea, .int 0, .ref xcw]))] := hD
  refine lv_istore (lv' := [(4, _), (0, _), (1, _), (2, _), (3, _)]) hx hb d_Mo_told_11 hl (by decide) rfl (fun ls hl => ?_)
  refine lv_iload hx hb d_Mo_told_13 (lv_at hl 0 rfl) ?_
  refine lv_if_ge (tgt := 24) hx hb d_Mo_told_15 (by decide) (fun c1 => ?_) (fun c1 => ?_)
  · exact absurd c1 (by decide +kernel)
  · refine lv_aload_n hx hb d_Mo_told_18 rfl (lv_at hl 1 rfl) ?_
    refine lv_iconst (v := 1) hx hb d_Mo_told_19 (by decide) ?_
    refine mf_cV (wr := []) (ci := 7) (k := 0) C0 (c_Mo_fail l D9 cB cI cJ cG mo xta xst xse xty xki xti xna xns xda xds xme xep xea xcw _) g_877 g_8 g_874 g_876 gs_Mo_fail ⟨by decide +kernel, by decide +kernel, show Option.map (fun d => d.parameters.length) (parseMethodDescriptor y_Mo_fail.desc) = some 1 by decide +kernel⟩ ⟨by decide, by decide⟩ rfl rfl hP hD hS hA [0] [] rfl rfl (by decide) (by decide) (by decide) rfl rfl hl.1 (Nat.le_of_ble_eq_true rfl) rfl d_Mo_told_20 ⟨by decide, by decide⟩ (fun v9 w9 H locs hq hP hD hS => ?_)
    obtain ⟨rfl, hw9⟩ := hq
    rw [hw9] at hP hD
    have hP : va_P D9 cls9 [(mo, .inr (7, [.int (1), .ref xta, .int 0, .ref xst, .int 0, .int 0, .int 0, .int 0, .ref xse, .ref xty, .ref xki, .ref xti, .ref xna, .ref xns, .ref xda, .ref xds, .int (-1), .int 0, .int 0, .int 0, .int 0, .int 0, .int 0, .ref xme, .int 0, .int 0, .ref xep, .ref xea, .int 0, .ref xcw]))] H := hP
    have hD : va_D _ [(mo, .inr (7, [.int (1), .ref xta, .int 0, .ref xst, .int 0, .int 0, .int 0, .int 0, .ref xse, .ref xty, .ref xki, .ref xti, .ref xna, .ref xns, .ref xda, .ref xds, .int (-1), .int 0, .int 0, .int 0, .int 0, .int 0, .int 0, .ref xme, .int 0, .int 0, .ref xep, .ref xea, .int 0, .ref xcw]))] := hD
    exact mw_zret hx hb hr hlocks hS hP hD (by decide) (by decide) d_Mo_told_23 (by first | rfl | decide +kernel) (⟨_, _, _, _, _, _, _, _, _, _, _, _, _, _, _, _, _, rfl, rfl, rfl⟩)
set_option maxHeartbeats 4000000 in
set_option maxRecDepth 100000 in
theorem c_Mo_byteOf (l : Launch) (D9 : va_G) (cB cI cJ cG : ClassId) (mo xta xst xse xty xki xti xna xns xda xds xme xep xea xcw : Nat) (u1 u2 u3 : Int32) : MW l D9 cls9 (ty9 cB cI cJ cG) y_Mo_byteOf b_Mo_byteOf 5 (some .int) (rm9 1 0 0) [.ref mo, .int u1, .int u2, .int u3] [(mo, .inr (7, [.int 0, .ref xta, .int 0, .ref xst, .int 0, .int 0, .int 0, .int 0, .ref xse, .ref xty, .ref xki, .ref xti, .ref xna, .ref xns, .ref xda, .ref xds, .int (-1), .int 0, .int 0, .int 0, .int 0, .int 0, .int 0, .ref xme, .int 0, .int 0, .ref xep, .ref xea, .int 0, .ref xcw]))] (fun v8 w2 => ∃ (r : Int32) (x0 : Int32) (x1 : Int32) (x2 : Int32) (x3 : Int32) (x4 : Int32) (x5 : Int32) (x6 : Int32) (x7 : Int32) (x8 : Int32) (x9 : Int32) (x10 : Int32) (x11 : Int32) (x12 : Int32) (x13 : Int32) (x14 : Int32) (x15 : Int32), v8 = some (.int r) ∧ w2 = [(mo, .inr (7, [.int x0, .ref xta, .int x1, .ref xst, .int x2, .int x3, .int x4, .int x5, .ref xse, .ref xty, .ref xki, .ref xti, .ref xna, .ref xns, .ref xda, .ref xds, .int x6, .int x7, .int x8, .int x9, .int x10, .int x11, .int x12, .ref xme, .int x13, .int x14, .ref xep, .ref xea, .int x15, .ref xcw]))] ∧ (x0 = 1)) 0 0 := by
  refine mw_of (by decide) (Nat.le_of_ble_eq_true rfl) ?_
  intro p e s m below meth c ls C0 hin hP hD hA hS hl
  obtain ⟨hx, hb, hml, hr, hlocks, hown, hts, hK⟩ := id C0
  have hl : lv_has ls 5 [(0, .ref mo), (1, .int u1), (2, .int u2), (3, .int u3)] := hl
  refine lv_aload_n hx hb d_Mo_byteOf_0 rfl (lv_at hl 0 rfl) ?_
  refine lv_iconst (v := 0) hx hb d_Mo_byteOf_1 (by decide) ?_
  refine va_put (D := D9) (ty := .int) (ci := 7) (C := R_Mo) (T := F_Mo) (N := 30) hx hb hts i_Mo t_Mo t_Mo_ok n_Mo hown hK hP hD hS 0 rfl rfl 0 (by decide) (hts _ g_722) (fun _ h9 => h9) rfl (by decide +kernel) rfl rfl (Nat.le_of_ble_eq_true rfl) d_Mo_byteOf_2 (fun H locs hP hD hS => ?_)
  have hP : va_P D9 cls9 [(mo, .inr (7, [.int (0), .ref xta, .int 0, .ref xst, .int 0, .int 0, .int 0, .int 0, .ref xse, .ref xty, .ref xki, .ref xti, .ref xna, .ref xns, .ref xda, .ref xds, .int (-1), .int 0, .int 0, .int 0, .int 0, .int 0, .int 0, .ref xme, .int 0, .int 0, .ref xep, .ref xea, .int 0, .ref xcw]))] H := hP
  have hD : va_D _ [(mo, .inr (7, [.int (0), .ref xta, .int 0, .ref xst, .int 0, .int 0, .int 0, .int 0, .ref xse, .ref xty, .ref xki, .ref xti, .ref xna, .ref xns, .ref xda, .ref xds, .int (-1), .int 0, .int 0, .int 0, .int 0, .int 0, .int 0, .ref xme, .int 0, .int 0, .ref xep, .ref xea, .int 0, .ref xcw]))] := hD
  refine lv_aload_n hx hb d_Mo_byteOf_5 rfl (lv_at hl 0 rfl) ?_
  refine lv_iload_n hx hb d_Mo_byteOf_6 rfl (lv_at hl 1 rfl) ?_
  refine lv_iload_n hx hb d_Mo_byteOf_7 rfl (lv_at hl 2 rfl) ?_
  refine mf_cV (wr := []) (ci := 7) (k := 0) C0 (c_Mo_place l D9 cB cI cJ cG mo xta xst xse xty xki xti xna xns xda xds xme xep xea xcw _ _) g_963 g_8 g_960 g_962 gs_Mo_place ⟨by decide +kernel, by decide +kernel, show Option.map (fun d => d.parameters.length) (parseMethodDescriptor y_Mo_place.desc) = some 2 by decide +kernel⟩ ⟨by decide, by decide⟩ rfl rfl hP hD hS hA [0] [] rfl rfl (by decide) (by decide) (by decide) rfl rfl hl.1 (Nat.le_of_ble_eq_true rfl) rfl d_Mo_byteOf_8 ⟨by decide, by decide⟩ (fun v9 w9 H locs hq hP hD hS => ?_)
  obtain ⟨rfl, hw9⟩ := hq
  rw [hw9] at hP hD
  have hP : va_P D9 cls9 [(mo, .inr (7, [.int 0, .ref xta, .int 0, .ref xst, .int 0, .int 0, .int 0, .int 0, .ref xse, .ref xty, .ref xki, .ref xti, .ref xna, .ref xns, .ref xda, .ref xds, .int (-1), .int 0, .int 0, .int 0, .int 0, .int 0, .int 0, .ref xme, .int 0, .int 0, .ref xep, .ref xea, .int 0, .ref xcw]))] H := hP
  have hD : va_D _ [(mo, .inr (7, [.int 0, .ref xta, .int 0, .ref xst, .int 0, .int 0, .int 0, .int 0, .ref xse, .ref xty, .ref xki, .ref xti, .ref xna, .ref xns, .ref xda, .ref xds, .int (-1), .int 0, .int 0, .int 0, .int 0, .int 0, .int 0, .ref xme, .int 0, .int 0, .ref xep, .ref xea, .int 0, .ref xcw]))] := hD
  refine lv_istore (lv' := [(4, _), (0, _), (1, _), (2, _), (3, _)]) hx hb d_Mo_byteOf_11 hl (by decide) rfl (fun ls hl => ?_)
  refine lv_iload hx hb d_Mo_byteOf_13 (lv_at hl 0 rfl) ?_
  refine lv_if_ge (tgt := 24) hx hb d_Mo_byteOf_15 (by decide) (fun c1 => ?_) (fun c1 => ?_)
  · exact absurd c1 (by decide +kernel)
  · refine lv_aload_n hx hb d_Mo_byteOf_18 rfl (lv_at hl 1 rfl) ?_
    refine lv_iconst (v := 1) hx hb d_Mo_byteOf_19 (by decide) ?_
    refine mf_cV (wr := []) (ci := 7) (k := 0) C0 (c_Mo_fail l D9 cB cI cJ cG mo xta xst xse xty xki xti xna xns xda xds xme xep xea xcw _) g_877 g_8 g_874 g_876 gs_Mo_fail ⟨by decide +kernel, by decide +kernel, show Option.map (fun d => d.parameters.length) (parseMethodDescriptor y_Mo_fail.desc) = some 1 by decide +kernel⟩ ⟨by decide, by decide⟩ rfl rfl hP hD hS hA [0] [] rfl rfl (by decide) (by decide) (by decide) rfl rfl hl.1 (Nat.le_of_ble_eq_true rfl) rfl d_Mo_byteOf_20 ⟨by decide, by decide⟩ (fun v9 w9 H locs hq hP hD hS => ?_)
    obtain ⟨rfl, hw9⟩ := hq
    rw [hw9] at hP hD
    have hP : va_P D9 cls9 [(mo, .inr (7, [.int (1), .ref xta, .int 0, .ref xst, .int 0, .int 0, .int 0, .int 0, .ref xse, .ref xty, .ref xki, .ref xti, .ref xna, .ref xns, .ref xda, .ref xds, .int (-1), .int 0, .int 0, .int 0, .int 0, .int 0, .int 0, .ref xme, .int 0, .int 0, .ref xep, .ref xea, .int 0, .ref xcw]))] H := hP
    have hD : va_D _ [(mo, .inr (7, [.int (1), .ref xta, .int 0, .ref xst, .int 0, .int 0, .int 0, .int 0, .ref xse, .ref xty, .ref xki, .ref xti, .ref xna, .ref xns, .ref xda, .ref xds, .int (-1), .int 0, .int 0, .int 0, .int 0, .int 0, .int 0, .ref xme, .int 0, .int 0, .ref xep, .ref xea, .int 0, .ref xcw]))] := hD
    exact mw_zret hx hb hr hlocks hS hP hD (by decide) (by decide) d_Mo_byteOf_23 (by first | rfl | decide +kernel) (⟨_, _, _, _, _, _, _, _, _, _, _, _, _, _, _, _, _, rfl, rfl, rfl⟩)
set_option maxHeartbeats 4000000 in
set_option maxRecDepth 100000 in
theorem c_Mo_same (l : Launch) (D9 : va_G) (cB cI cJ cG : ClassId) (mo xta xst xse xty xki xti xna xns xda xds xme xep xea xcw : Nat) (u1 u2 u3 u4 : Int32) : MW l D9 cls9 (ty9 cB cI cJ cG) y_Mo_same b_Mo_same 8 (some .boolean) (rm9 1 0 0) [.ref mo, .int u1, .int u2, .int u3, .int u4] [(mo, .inr (7, [.int 0, .ref xta, .int 0, .ref xst, .int 0, .int 0, .int 0, .int 0, .ref xse, .ref xty, .ref xki, .ref xti, .ref xna, .ref xns, .ref xda, .ref xds, .int (-1), .int 0, .int 0, .int 0, .int 0, .int 0, .int 0, .ref xme, .int 0, .int 0, .ref xep, .ref xea, .int 0, .ref xcw]))] (fun v8 w2 => ∃ (r : Int32) (x0 : Int32) (x1 : Int32) (x2 : Int32) (x3 : Int32) (x4 : Int32) (x5 : Int32) (x6 : Int32) (x7 : Int32) (x8 : Int32) (x9 : Int32) (x10 : Int32) (x11 : Int32) (x12 : Int32) (x13 : Int32) (x14 : Int32) (x15 : Int32), v8 = some (.int r) ∧ w2 = [(mo, .inr (7, [.int x0, .ref xta, .int x1, .ref xst, .int x2, .int x3, .int x4, .int x5, .ref xse, .ref xty, .ref xki, .ref xti, .ref xna, .ref xns, .ref xda, .ref xds, .int x6, .int x7, .int x8, .int x9, .int x10, .int x11, .int x12, .ref xme, .int x13, .int x14, .ref xep, .ref xea, .int x15, .ref xcw]))] ∧ (x0 = 1)) 0 0 := by
  refine mw_of (by decide) (Nat.le_of_ble_eq_true rfl) ?_
  intro p e s m below meth c ls C0 hin hP hD hA hS hl
  obtain ⟨hx, hb, hml, hr, hlocks, hown, hts, hK⟩ := id C0
  have hl : lv_has ls 8 [(0, .ref mo), (1, .int u1), (2, .int u2), (3, .int u3), (4, .int u4)] := hl
  refine lv_aload_n hx hb d_Mo_same_0 rfl (lv_at hl 0 rfl) ?_
  refine lv_iconst (v := 0) hx hb d_Mo_same_1 (by decide) ?_
  refine va_put (D := D9) (ty := .int) (ci := 7) (C := R_Mo) (T := F_Mo) (N := 30) hx hb hts i_Mo t_Mo t_Mo_ok n_Mo hown hK hP hD hS 0 rfl rfl 0 (by decide) (hts _ g_722) (fun _ h9 => h9) rfl (by decide +kernel) rfl rfl (Nat.le_of_ble_eq_true rfl) d_Mo_same_2 (fun H locs hP hD hS => ?_)
  have hP : va_P D9 cls9 [(mo, .inr (7, [.int (0), .ref xta, .int 0, .ref xst, .int 0, .int 0, .int 0, .int 0, .ref xse, .ref xty, .ref xki, .ref xti, .ref xna, .ref xns, .ref xda, .ref xds, .int (-1), .int 0, .int 0, .int 0, .int 0, .int 0, .int 0, .ref xme, .int 0, .int 0, .ref xep, .ref xea, .int 0, .ref xcw]))] H := hP
  have hD : va_D _ [(mo, .inr (7, [.int (0), .ref xta, .int 0, .ref xst, .int 0, .int 0, .int 0, .int 0, .ref xse, .ref xty, .ref xki, .ref xti, .ref xna, .ref xns, .ref xda, .ref xds, .int (-1), .int 0, .int 0, .int 0, .int 0, .int 0, .int 0, .ref xme, .int 0, .int 0, .ref xep, .ref xea, .int 0, .ref xcw]))] := hD
  refine lv_aload_n hx hb d_Mo_same_5 rfl (lv_at hl 0 rfl) ?_
  refine lv_iload_n hx hb d_Mo_same_6 rfl (lv_at hl 1 rfl) ?_
  refine lv_iload_n hx hb d_Mo_same_7 rfl (lv_at hl 2 rfl) ?_
  refine mf_cV (wr := []) (ci := 7) (k := 0) C0 (c_Mo_place l D9 cB cI cJ cG mo xta xst xse xty xki xti xna xns xda xds xme xep xea xcw _ _) g_963 g_8 g_960 g_962 gs_Mo_place ⟨by decide +kernel, by decide +kernel, show Option.map (fun d => d.parameters.length) (parseMethodDescriptor y_Mo_place.desc) = some 2 by decide +kernel⟩ ⟨by decide, by decide⟩ rfl rfl hP hD hS hA [0] [] rfl rfl (by decide) (by decide) (by decide) rfl rfl hl.1 (Nat.le_of_ble_eq_true rfl) rfl d_Mo_same_8 ⟨by decide, by decide⟩ (fun v9 w9 H locs hq hP hD hS => ?_)
  obtain ⟨rfl, hw9⟩ := hq
  rw [hw9] at hP hD
  have hP : va_P D9 cls9 [(mo, .inr (7, [.int 0, .ref xta, .int 0, .ref xst, .int 0, .int 0, .int 0, .int 0, .ref xse, .ref xty, .ref xki, .ref xti, .ref xna, .ref xns, .ref xda, .ref xds, .int (-1), .int 0, .int 0, .int 0, .int 0, .int 0, .int 0, .ref xme, .int 0, .int 0, .ref xep, .ref xea, .int 0, .ref xcw]))] H := hP
  have hD : va_D _ [(mo, .inr (7, [.int 0, .ref xta, .int 0, .ref xst, .int 0, .int 0, .int 0, .int 0, .ref xse, .ref xty, .ref xki, .ref xti, .ref xna, .ref xns, .ref xda, .ref xds, .int (-1), .int 0, .int 0, .int 0, .int 0, .int 0, .int 0, .ref xme, .int 0, .int 0, .ref xep, .ref xea, .int 0, .ref xcw]))] := hD
  refine lv_istore (lv' := [(5, _), (0, _), (1, _), (2, _), (3, _), (4, _)]) hx hb d_Mo_same_11 hl (by decide) rfl (fun ls hl => ?_)
  refine lv_aload_n hx hb d_Mo_same_13 rfl (lv_at hl 1 rfl) ?_
  refine lv_iload_n hx hb d_Mo_same_14 rfl (lv_at hl 4 rfl) ?_
  refine lv_iload hx hb d_Mo_same_15 (lv_at hl 5 rfl) ?_
  refine mf_cV (wr := []) (ci := 7) (k := 0) C0 (c_Mo_place l D9 cB cI cJ cG mo xta xst xse xty xki xti xna xns xda xds xme xep xea xcw _ _) g_963 g_8 g_960 g_962 gs_Mo_place ⟨by decide +kernel, by decide +kernel, show Option.map (fun d => d.parameters.length) (parseMethodDescriptor y_Mo_place.desc) = some 2 by decide +kernel⟩ ⟨by decide, by decide⟩ rfl rfl hP hD hS hA [0] [] rfl rfl (by decide) (by decide) (by decide) rfl rfl hl.1 (Nat.le_of_ble_eq_true rfl) rfl d_Mo_same_17 ⟨by decide, by decide⟩ (fun v9 w9 H locs hq hP hD hS => ?_)
  obtain ⟨rfl, hw9⟩ := hq
  rw [hw9] at hP hD
  have hP : va_P D9 cls9 [(mo, .inr (7, [.int 0, .ref xta, .int 0, .ref xst, .int 0, .int 0, .int 0, .int 0, .ref xse, .ref xty, .ref xki, .ref xti, .ref xna, .ref xns, .ref xda, .ref xds, .int (-1), .int 0, .int 0, .int 0, .int 0, .int 0, .int 0, .ref xme, .int 0, .int 0, .ref xep, .ref xea, .int 0, .ref xcw]))] H := hP
  have hD : va_D _ [(mo, .inr (7, [.int 0, .ref xta, .int 0, .ref xst, .int 0, .int 0, .int 0, .int 0, .ref xse, .ref xty, .ref xki, .ref xti, .ref xna, .ref xns, .ref xda, .ref xds, .int (-1), .int 0, .int 0, .int 0, .int 0, .int 0, .int 0, .ref xme, .int 0, .int 0, .ref xep, .ref xea, .int 0, .ref xcw]))] := hD
  refine lv_istore (lv' := [(6, _), (5, _), (0, _), (1, _), (2, _), (3, _), (4, _)]) hx hb d_Mo_same_20 hl (by decide) rfl (fun ls hl => ?_)
  refine lv_iload hx hb d_Mo_same_22 (lv_at hl 1 rfl) ?_
  refine lv_if_lt (tgt := 32) hx hb d_Mo_same_24 (by decide) (fun c1 => ?_) (fun c1 => ?_)
  · refine lv_aload_n hx hb d_Mo_same_32 rfl (lv_at hl 2 rfl) ?_
    refine lv_iconst (v := 1) hx hb d_Mo_same_33 (by decide) ?_
    refine va_put (D := D9) (ty := .int) (ci := 7) (C := R_Mo) (T := F_Mo) (N := 30) hx hb hts i_Mo t_Mo t_Mo_ok n_Mo hown hK hP hD hS 0 rfl rfl 0 (by decide) (hts _ g_722) (fun _ h9 => h9) rfl (by decide +kernel) rfl rfl (Nat.le_of_ble_eq_true rfl) d_Mo_same_34 (fun H locs hP hD hS => ?_)
    have hP : va_P D9 cls9 [(mo, .inr (7, [.int (1), .ref xta, .int 0, .ref xst, .int 0, .int 0, .int 0, .int 0, .ref xse, .ref xty, .ref xki, .ref xti, .ref xna, .ref xns, .ref xda, .ref xds, .int (-1), .int 0, .int 0, .int 0, .int 0, .int 0, .int 0, .ref xme, .int 0, .int 0, .ref xep, .ref xea, .int 0, .ref xcw]))] H := hP
    have hD : va_D _ [(mo, .inr (7, [.int (1), .ref xta, .int 0, .ref xst, .int 0, .int 0, .int 0, .int 0, .ref xse, .ref xty, .ref xki, .ref xti, .ref xna, .ref xns, .ref xda, .ref xds, .int (-1), .int 0, .int 0, .int 0, .int 0, .int 0, .int 0, .ref xme, .int 0, .int 0, .ref xep, .ref xea, .int 0, .ref xcw]))] := hD
    refine lv_iconst (v := 0) hx hb d_Mo_same_37 (by decide) ?_
    exact mw_zret hx hb hr hlocks hS hP hD (by decide) (by decide) d_Mo_same_38 (by first | rfl | decide +kernel) (⟨_, _, _, _, _, _, _, _, _, _, _, _, _, _, _, _, _, rfl, rfl, rfl⟩)
  · exact absurd c1 (by decide +kernel)
set_option maxHeartbeats 4000000 in
set_option maxRecDepth 100000 in
theorem c_Mo_order (l : Launch) (D9 : va_G) (cB cI cJ cG : ClassId) (mo xta xst xse xty xki xti xna xns xda xds xme xep xea xcw : Nat) (u1 u2 u3 u4 : Int32) : MW l D9 cls9 (ty9 cB cI cJ cG) y_Mo_order b_Mo_order 11 (some .int) (rm9 1 0 0) [.ref mo, .int u1, .int u2, .int u3, .int u4] [(mo, .inr (7, [.int 0, .ref xta, .int 0, .ref xst, .int 0, .int 0, .int 0, .int 0, .ref xse, .ref xty, .ref xki, .ref xti, .ref xna, .ref xns, .ref xda, .ref xds, .int (-1), .int 0, .int 0, .int 0, .int 0, .int 0, .int 0, .ref xme, .int 0, .int 0, .ref xep, .ref xea, .int 0, .ref xcw]))] (fun v8 w2 => ∃ (r : Int32) (x0 : Int32) (x1 : Int32) (x2 : Int32) (x3 : Int32) (x4 : Int32) (x5 : Int32) (x6 : Int32) (x7 : Int32) (x8 : Int32) (x9 : Int32) (x10 : Int32) (x11 : Int32) (x12 : Int32) (x13 : Int32) (x14 : Int32) (x15 : Int32), v8 = some (.int r) ∧ w2 = [(mo, .inr (7, [.int x0, .ref xta, .int x1, .ref xst, .int x2, .int x3, .int x4, .int x5, .ref xse, .ref xty, .ref xki, .ref xti, .ref xna, .ref xns, .ref xda, .ref xds, .int x6, .int x7, .int x8, .int x9, .int x10, .int x11, .int x12, .ref xme, .int x13, .int x14, .ref xep, .ref xea, .int x15, .ref xcw]))] ∧ (x0 = 1)) 0 0 := by
  refine mw_of (by decide) (Nat.le_of_ble_eq_true rfl) ?_
  intro p e s m below meth c ls C0 hin hP hD hA hS hl
  obtain ⟨hx, hb, hml, hr, hlocks, hown, hts, hK⟩ := id C0
  have hl : lv_has ls 11 [(0, .ref mo), (1, .int u1), (2, .int u2), (3, .int u3), (4, .int u4)] := hl
  refine lv_aload_n hx hb d_Mo_order_0 rfl (lv_at hl 0 rfl) ?_
  refine lv_iconst (v := 0) hx hb d_Mo_order_1 (by decide) ?_
  refine va_put (D := D9) (ty := .int) (ci := 7) (C := R_Mo) (T := F_Mo) (N := 30) hx hb hts i_Mo t_Mo t_Mo_ok n_Mo hown hK hP hD hS 0 rfl rfl 0 (by decide) (hts _ g_722) (fun _ h9 => h9) rfl (by decide +kernel) rfl rfl (Nat.le_of_ble_eq_true rfl) d_Mo_order_2 (fun H locs hP hD hS => ?_)
  have hP : va_P D9 cls9 [(mo, .inr (7, [.int (0), .ref xta, .int 0, .ref xst, .int 0, .int 0, .int 0, .int 0, .ref xse, .ref xty, .ref xki, .ref xti, .ref xna, .ref xns, .ref xda, .ref xds, .int (-1), .int 0, .int 0, .int 0, .int 0, .int 0, .int 0, .ref xme, .int 0, .int 0, .ref xep, .ref xea, .int 0, .ref xcw]))] H := hP
  have hD : va_D _ [(mo, .inr (7, [.int (0), .ref xta, .int 0, .ref xst, .int 0, .int 0, .int 0, .int 0, .ref xse, .ref xty, .ref xki, .ref xti, .ref xna, .ref xns, .ref xda, .ref xds, .int (-1), .int 0, .int 0, .int 0, .int 0, .int 0, .int 0, .ref xme, .int 0, .int 0, .ref xep, .ref xea, .int 0, .ref xcw]))] := hD
  refine lv_aload_n hx hb d_Mo_order_5 rfl (lv_at hl 0 rfl) ?_
  refine lv_iload_n hx hb d_Mo_order_6 rfl (lv_at hl 1 rfl) ?_
  refine lv_iload_n hx hb d_Mo_order_7 rfl (lv_at hl 2 rfl) ?_
  refine mf_cV (wr := []) (ci := 7) (k := 0) C0 (c_Mo_place l D9 cB cI cJ cG mo xta xst xse xty xki xti xna xns xda xds xme xep xea xcw _ _) g_963 g_8 g_960 g_962 gs_Mo_place ⟨by decide +kernel, by decide +kernel, show Option.map (fun d => d.parameters.length) (parseMethodDescriptor y_Mo_place.desc) = some 2 by decide +kernel⟩ ⟨by decide, by decide⟩ rfl rfl hP hD hS hA [0] [] rfl rfl (by decide) (by decide) (by decide) rfl rfl hl.1 (Nat.le_of_ble_eq_true rfl) rfl d_Mo_order_8 ⟨by decide, by decide⟩ (fun v9 w9 H locs hq hP hD hS => ?_)
  obtain ⟨rfl, hw9⟩ := hq
  rw [hw9] at hP hD
  have hP : va_P D9 cls9 [(mo, .inr (7, [.int 0, .ref xta, .int 0, .ref xst, .int 0, .int 0, .int 0, .int 0, .ref xse, .ref xty, .ref xki, .ref xti, .ref xna, .ref xns, .ref xda, .ref xds, .int (-1), .int 0, .int 0, .int 0, .int 0, .int 0, .int 0, .ref xme, .int 0, .int 0, .ref xep, .ref xea, .int 0, .ref xcw]))] H := hP
  have hD : va_D _ [(mo, .inr (7, [.int 0, .ref xta, .int 0, .ref xst, .int 0, .int 0, .int 0, .int 0, .ref xse, .ref xty, .ref xki, .ref xti, .ref xna, .ref xns, .ref xda, .ref xds, .int (-1), .int 0, .int 0, .int 0, .int 0, .int 0, .int 0, .ref xme, .int 0, .int 0, .ref xep, .ref xea, .int 0, .ref xcw]))] := hD
  refine lv_istore (lv' := [(5, _), (0, _), (1, _), (2, _), (3, _), (4, _)]) hx hb d_Mo_order_11 hl (by decide) rfl (fun ls hl => ?_)
  refine lv_aload_n hx hb d_Mo_order_13 rfl (lv_at hl 1 rfl) ?_
  refine lv_iload_n hx hb d_Mo_order_14 rfl (lv_at hl 4 rfl) ?_
  refine lv_iload hx hb d_Mo_order_15 (lv_at hl 5 rfl) ?_
  refine mf_cV (wr := []) (ci := 7) (k := 0) C0 (c_Mo_place l D9 cB cI cJ cG mo xta xst xse xty xki xti xna xns xda xds xme xep xea xcw _ _) g_963 g_8 g_960 g_962 gs_Mo_place ⟨by decide +kernel, by decide +kernel, show Option.map (fun d => d.parameters.length) (parseMethodDescriptor y_Mo_place.desc) = some 2 by decide +kernel⟩ ⟨by decide, by decide⟩ rfl rfl hP hD hS hA [0] [] rfl rfl (by decide) (by decide) (by decide) rfl rfl hl.1 (Nat.le_of_ble_eq_true rfl) rfl d_Mo_order_17 ⟨by decide, by decide⟩ (fun v9 w9 H locs hq hP hD hS => ?_)
  obtain ⟨rfl, hw9⟩ := hq
  rw [hw9] at hP hD
  have hP : va_P D9 cls9 [(mo, .inr (7, [.int 0, .ref xta, .int 0, .ref xst, .int 0, .int 0, .int 0, .int 0, .ref xse, .ref xty, .ref xki, .ref xti, .ref xna, .ref xns, .ref xda, .ref xds, .int (-1), .int 0, .int 0, .int 0, .int 0, .int 0, .int 0, .ref xme, .int 0, .int 0, .ref xep, .ref xea, .int 0, .ref xcw]))] H := hP
  have hD : va_D _ [(mo, .inr (7, [.int 0, .ref xta, .int 0, .ref xst, .int 0, .int 0, .int 0, .int 0, .ref xse, .ref xty, .ref xki, .ref xti, .ref xna, .ref xns, .ref xda, .ref xds, .int (-1), .int 0, .int 0, .int 0, .int 0, .int 0, .int 0, .ref xme, .int 0, .int 0, .ref xep, .ref xea, .int 0, .ref xcw]))] := hD
  refine lv_istore (lv' := [(6, _), (5, _), (0, _), (1, _), (2, _), (3, _), (4, _)]) hx hb d_Mo_order_20 hl (by decide) rfl (fun ls hl => ?_)
  refine lv_iload hx hb d_Mo_order_22 (lv_at hl 1 rfl) ?_
  refine lv_if_lt (tgt := 32) hx hb d_Mo_order_24 (by decide) (fun c1 => ?_) (fun c1 => ?_)
  · refine lv_aload_n hx hb d_Mo_order_32 rfl (lv_at hl 2 rfl) ?_
    refine lv_iconst (v := 1) hx hb d_Mo_order_33 (by decide) ?_
    refine mf_cV (wr := []) (ci := 7) (k := 0) C0 (c_Mo_fail l D9 cB cI cJ cG mo xta xst xse xty xki xti xna xns xda xds xme xep xea xcw _) g_877 g_8 g_874 g_876 gs_Mo_fail ⟨by decide +kernel, by decide +kernel, show Option.map (fun d => d.parameters.length) (parseMethodDescriptor y_Mo_fail.desc) = some 1 by decide +kernel⟩ ⟨by decide, by decide⟩ rfl rfl hP hD hS hA [0] [] rfl rfl (by decide) (by decide) (by decide) rfl rfl hl.1 (Nat.le_of_ble_eq_true rfl) rfl d_Mo_order_34 ⟨by decide, by decide⟩ (fun v9 w9 H locs hq hP hD hS => ?_)
    obtain ⟨rfl, hw9⟩ := hq
    rw [hw9] at hP hD
    have hP : va_P D9 cls9 [(mo, .inr (7, [.int (1), .ref xta, .int 0, .ref xst, .int 0, .int 0, .int 0, .int 0, .ref xse, .ref xty, .ref xki, .ref xti, .ref xna, .ref xns, .ref xda, .ref xds, .int (-1), .int 0, .int 0, .int 0, .int 0, .int 0, .int 0, .ref xme, .int 0, .int 0, .ref xep, .ref xea, .int 0, .ref xcw]))] H := hP
    have hD : va_D _ [(mo, .inr (7, [.int (1), .ref xta, .int 0, .ref xst, .int 0, .int 0, .int 0, .int 0, .ref xse, .ref xty, .ref xki, .ref xti, .ref xna, .ref xns, .ref xda, .ref xds, .int (-1), .int 0, .int 0, .int 0, .int 0, .int 0, .int 0, .ref xme, .int 0, .int 0, .ref xep, .ref xea, .int 0, .ref xcw]))] := hD
    exact mw_zret hx hb hr hlocks hS hP hD (by decide) (by decide) d_Mo_order_37 (by first | rfl | decide +kernel) (⟨_, _, _, _, _, _, _, _, _, _, _, _, _, _, _, _, _, rfl, rfl, rfl⟩)
  · exact absurd c1 (by decide +kernel)
