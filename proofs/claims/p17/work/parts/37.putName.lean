theorem lb_lt {G : List Nat} {fr i j : Nat} (h : i < j) : lb G fr i < lb G fr j := by
  induction j with
  | zero => omega
  | succ j ih =>
    have e : lb G fr (j + 1) = lb G fr j + (tb G (lb G fr j) + 1) := rfl
    rcases Nat.lt_or_eq_of_le (Nat.le_of_lt_succ h) with z | z
    · have := ih z; omega
    · rw [e, z]; omega
theorem isN_last {G : List Nat} {k fr r : Nat} (h : isN G k fr r) (hk : 0 < k) : lb G fr (k - 1) + 1 + tb G (lb G fr (k - 1)) = r := by
  obtain ⟨j, rfl⟩ : ∃ j, k = j + 1 := ⟨k - 1, by omega⟩
  have h1 := isN_end h
  rw [Nat.add_sub_cancel, ← h1]
  show _ = lb G fr j + (tb G (lb G fr j) + 1)
  omega
theorem isN_zero {G : List Nat} {k fr r : Nat} (h : isN G k fr r) (hk : k = 0) : fr = r := by subst hk; exact h.1
theorem un_nI {n : Nat} (h : n < 2 ^ 32) : un (nI n) = n := pk_tn h
theorem or_ptr {pl : Nat} (h : pl < 16384) : nI 49152 ||| nI pl = nI (49152 + pl) := by
  rw [nI_or (by omega) (by omega)]
  congr 1
  rw [show 49152 = 2 ^ 14 * 3 by decide, Nat.two_pow_add_eq_or_of_lt h]
theorem g_38 : (Cond.fieldLinkNest "WireMessages$Writer" (47 : Nat) "WireMessages$Bytes" "length" "I" "WireMessages") ∈ GT := gt_mem 38 (by decide +kernel) rfl
theorem g_191 : (Cond.fieldLink "WireMessages$Writer" (51 : Nat) "WireMessages$Writer" "pointers" "I") ∈ GT := gt_mem 191 (by decide +kernel) rfl
theorem g_582 : (Cond.methodLinkNest "WireMessages$Writer" (136 : Nat) ({ cls := "WireMessages$Names", name := "findLabels", desc := "(LWireMessages$Bytes;I[I)I" } : MethodName) "WireMessages") ∈ GT := gt_mem 582 (by decide +kernel) rfl
theorem g_586 : (Cond.methodLinkNest "WireMessages$Writer" (142 : Nat) ({ cls := "WireMessages$Bytes", name := "at", desc := "(I)I" } : MethodName) "WireMessages") ∈ GT := gt_mem 586 (by decide +kernel) rfl
theorem g_587 : (Cond.methodLink "WireMessages$Writer" (145 : Nat) ({ cls := "WireMessages$Writer", name := "markEnds", desc := "(II)V" } : MethodName)) ∈ GT := gt_mem 587 (by decide +kernel) rfl
theorem g_589 : (Cond.instanceMethod ({ cls := "WireMessages$Writer", name := "markEnds", desc := "(II)V" } : MethodName)) ∈ GT := gt_mem 589 (by decide +kernel) rfl
theorem g_590 : (Cond.code ({ cls := "WireMessages$Writer", name := "markEnds", desc := "(II)V" } : MethodName) prog_8_method_6_code (6 : Nat) (Option.none : Option FieldType)) ∈ GT := gt_mem 590 (by decide +kernel) rfl
theorem g_591 : (Cond.methodLinkNest "WireMessages$Writer" (148 : Nat) ({ cls := "WireMessages$Ends", name := "placeOf", desc := "(III)I" } : MethodName) "WireMessages") ∈ GT := gt_mem 591 (by decide +kernel) rfl
theorem g_593 : (Cond.instanceMethod ({ cls := "WireMessages$Ends", name := "placeOf", desc := "(III)I" } : MethodName)) ∈ GT := gt_mem 593 (by decide +kernel) rfl
theorem g_594 : (Cond.code ({ cls := "WireMessages$Ends", name := "placeOf", desc := "(III)I" } : MethodName) prog_3_method_5_code (6 : Nat) (Option.some FieldType.int)) ∈ GT := gt_mem 594 (by decide +kernel) rfl
theorem g_600 : (Cond.methodLinkNest "WireMessages$Writer" (152 : Nat) ({ cls := "WireMessages$Ends", name := "add", desc := "(III)V" } : MethodName) "WireMessages") ∈ GT := gt_mem 600 (by decide +kernel) rfl
theorem g_602 : (Cond.instanceMethod ({ cls := "WireMessages$Ends", name := "add", desc := "(III)V" } : MethodName)) ∈ GT := gt_mem 602 (by decide +kernel) rfl
theorem g_603 : (Cond.code ({ cls := "WireMessages$Ends", name := "add", desc := "(III)V" } : MethodName) prog_3_method_3_code (5 : Nat) (Option.none : Option FieldType)) ∈ GT := gt_mem 603 (by decide +kernel) rfl
theorem g_604 : (Cond.methodLinkNest "WireMessages$Writer" (132 : Nat) ({ cls := "WireMessages$Bytes", name := "putFrom", desc := "(LWireMessages$Bytes;II)V" } : MethodName) "WireMessages") ∈ GT := gt_mem 604 (by decide +kernel) rfl
theorem g_605 : (Cond.methodLinkNest "WireMessages$Writer" (156 : Nat) ({ cls := "WireMessages$Bytes", name := "put", desc := "(I)V" } : MethodName) "WireMessages") ∈ GT := gt_mem 605 (by decide +kernel) rfl
theorem g_606 : (Cond.constant "WireMessages$Writer" (159 : Nat) (49152 : Int32)) ∈ GT := gt_mem 606 (by decide +kernel) rfl
theorem g_607 : (Cond.methodLinkNest "WireMessages$Writer" (99 : Nat) ({ cls := "WireMessages$Bytes", name := "putTwo", desc := "(I)V" } : MethodName) "WireMessages") ∈ GT := gt_mem 607 (by decide +kernel) rfl
theorem gs_Wr_markEnds : Cond.selects R_Wr y_Wr_markEnds y_Wr_markEnds ∈ GT := gt_sel (q := (⟨"WireMessages$Writer", "markEnds", "(II)V"⟩, 6)) (by decide +kernel)
theorem gs_En_placeOf : Cond.selects R_En y_En_placeOf y_En_placeOf ∈ GT := gt_sel (q := (⟨"WireMessages$Ends", "placeOf", "(III)I"⟩, 7)) (by decide +kernel)
theorem gs_En_add : Cond.selects R_En y_En_add y_En_add ∈ GT := gt_sel (q := (⟨"WireMessages$Ends", "add", "(III)V"⟩, 7)) (by decide +kernel)
theorem d_Wr_markEnds_0 : decode b_Wr_markEnds 0 = .ok (.iconst 0, 1) := by decide +kernel
theorem d_Wr_markEnds_1 : decode b_Wr_markEnds 1 = .ok (.istore_n 3, 1) := by decide +kernel
theorem d_Wr_markEnds_2 : decode b_Wr_markEnds 2 = .ok (.iload_n 1, 1) := by decide +kernel
theorem d_Wr_markEnds_3 : decode b_Wr_markEnds 3 = .ok (.iconst 1, 1) := by decide +kernel
theorem d_Wr_markEnds_4 : decode b_Wr_markEnds 4 = .ok (.isub, 1) := by decide +kernel
theorem d_Wr_markEnds_5 : decode b_Wr_markEnds 5 = .ok (.istore 4, 2) := by decide +kernel
theorem d_Wr_markEnds_7 : decode b_Wr_markEnds 7 = .ok (.iload_n 2, 1) := by decide +kernel
theorem d_Wr_markEnds_8 : decode b_Wr_markEnds 8 = .ok (.iconst 1, 1) := by decide +kernel
theorem d_Wr_markEnds_9 : decode b_Wr_markEnds 9 = .ok (.isub, 1) := by decide +kernel
theorem d_Wr_markEnds_10 : decode b_Wr_markEnds 10 = .ok (.istore 5, 2) := by decide +kernel
theorem d_Wr_markEnds_12 : decode b_Wr_markEnds 12 = .ok (.iload 5, 2) := by decide +kernel
theorem d_Wr_markEnds_14 : decode b_Wr_markEnds 14 = .ok (.ifCond .lt 55, 3) := by decide +kernel
theorem d_Wr_markEnds_17 : decode b_Wr_markEnds 17 = .ok (.iload 4, 2) := by decide +kernel
theorem d_Wr_markEnds_19 : decode b_Wr_markEnds 19 = .ok (.ifCond .lt 50, 3) := by decide +kernel
theorem d_Wr_markEnds_22 : decode b_Wr_markEnds 22 = .ok (.iload_n 3, 1) := by decide +kernel
theorem d_Wr_markEnds_23 : decode b_Wr_markEnds 23 = .ok (.bipush 31, 2) := by decide +kernel
theorem d_Wr_markEnds_25 : decode b_Wr_markEnds 25 = .ok (.imul, 1) := by decide +kernel
theorem d_Wr_markEnds_26 : decode b_Wr_markEnds 26 = .ok (.aload_n 0, 1) := by decide +kernel
theorem d_Wr_markEnds_27 : decode b_Wr_markEnds 27 = .ok (.getfield 25, 3) := by decide +kernel
theorem d_Wr_markEnds_30 : decode b_Wr_markEnds 30 = .ok (.getfield 31, 3) := by decide +kernel
theorem d_Wr_markEnds_33 : decode b_Wr_markEnds 33 = .ok (.iload 5, 2) := by decide +kernel
theorem d_Wr_markEnds_35 : decode b_Wr_markEnds 35 = .ok (.invokevirtual 142, 3) := by decide +kernel
theorem d_Wr_markEnds_38 : decode b_Wr_markEnds 38 = .ok (.iadd, 1) := by decide +kernel
theorem d_Wr_markEnds_39 : decode b_Wr_markEnds 39 = .ok (.istore_n 3, 1) := by decide +kernel
theorem d_Wr_markEnds_40 : decode b_Wr_markEnds 40 = .ok (.iload 5, 2) := by decide +kernel
theorem d_Wr_markEnds_42 : decode b_Wr_markEnds 42 = .ok (.aload_n 0, 1) := by decide +kernel
theorem d_Wr_markEnds_43 : decode b_Wr_markEnds 43 = .ok (.getfield 18, 3) := by decide +kernel
theorem d_Wr_markEnds_46 : decode b_Wr_markEnds 46 = .ok (.iload 4, 2) := by decide +kernel
theorem d_Wr_markEnds_48 : decode b_Wr_markEnds 48 = .ok (.iaload, 1) := by decide +kernel
theorem d_Wr_markEnds_49 : decode b_Wr_markEnds 49 = .ok (.if_icmp .ne 14, 3) := by decide +kernel
theorem d_Wr_markEnds_52 : decode b_Wr_markEnds 52 = .ok (.aload_n 0, 1) := by decide +kernel
theorem d_Wr_markEnds_53 : decode b_Wr_markEnds 53 = .ok (.getfield 22, 3) := by decide +kernel
theorem d_Wr_markEnds_56 : decode b_Wr_markEnds 56 = .ok (.iload 4, 2) := by decide +kernel
theorem d_Wr_markEnds_58 : decode b_Wr_markEnds 58 = .ok (.iload_n 3, 1) := by decide +kernel
theorem d_Wr_markEnds_59 : decode b_Wr_markEnds 59 = .ok (.iastore, 1) := by decide +kernel
theorem d_Wr_markEnds_60 : decode b_Wr_markEnds 60 = .ok (.iinc 4 (-1), 3) := by decide +kernel
theorem d_Wr_markEnds_63 : decode b_Wr_markEnds 63 = .ok (.iinc 5 (-1), 3) := by decide +kernel
theorem d_Wr_markEnds_66 : decode b_Wr_markEnds 66 = .ok (.goto (-54), 3) := by decide +kernel
theorem d_Wr_markEnds_69 : decode b_Wr_markEnds 69 = .ok (.return_, 1) := by decide +kernel
theorem d_Wr_putSharedName_0 : decode b_Wr_putSharedName 0 = .ok (.aload_n 0, 1) := by decide +kernel
theorem d_Wr_putSharedName_1 : decode b_Wr_putSharedName 1 = .ok (.getfield 25, 3) := by decide +kernel
theorem d_Wr_putSharedName_4 : decode b_Wr_putSharedName 4 = .ok (.getfield 31, 3) := by decide +kernel
theorem d_Wr_putSharedName_7 : decode b_Wr_putSharedName 7 = .ok (.astore_n 2, 1) := by decide +kernel
theorem d_Wr_putSharedName_8 : decode b_Wr_putSharedName 8 = .ok (.aload_n 2, 1) := by decide +kernel
theorem d_Wr_putSharedName_9 : decode b_Wr_putSharedName 9 = .ok (.iload_n 1, 1) := by decide +kernel
theorem d_Wr_putSharedName_10 : decode b_Wr_putSharedName 10 = .ok (.aload_n 0, 1) := by decide +kernel
theorem d_Wr_putSharedName_11 : decode b_Wr_putSharedName 11 = .ok (.getfield 18, 3) := by decide +kernel
theorem d_Wr_putSharedName_14 : decode b_Wr_putSharedName 14 = .ok (.invokestatic 136, 3) := by decide +kernel
theorem d_Wr_putSharedName_17 : decode b_Wr_putSharedName 17 = .ok (.istore_n 3, 1) := by decide +kernel
theorem d_Wr_putSharedName_18 : decode b_Wr_putSharedName 18 = .ok (.iload_n 3, 1) := by decide +kernel
theorem d_Wr_putSharedName_19 : decode b_Wr_putSharedName 19 = .ok (.ifCond .ne 7, 3) := by decide +kernel
theorem d_Wr_putSharedName_22 : decode b_Wr_putSharedName 22 = .ok (.iload_n 1, 1) := by decide +kernel
theorem d_Wr_putSharedName_23 : decode b_Wr_putSharedName 23 = .ok (.goto 26, 3) := by decide +kernel
theorem d_Wr_putSharedName_26 : decode b_Wr_putSharedName 26 = .ok (.aload_n 0, 1) := by decide +kernel
theorem d_Wr_putSharedName_27 : decode b_Wr_putSharedName 27 = .ok (.getfield 18, 3) := by decide +kernel
theorem d_Wr_putSharedName_30 : decode b_Wr_putSharedName 30 = .ok (.iload_n 3, 1) := by decide +kernel
theorem d_Wr_putSharedName_31 : decode b_Wr_putSharedName 31 = .ok (.iconst 1, 1) := by decide +kernel
theorem d_Wr_putSharedName_32 : decode b_Wr_putSharedName 32 = .ok (.isub, 1) := by decide +kernel
theorem d_Wr_putSharedName_33 : decode b_Wr_putSharedName 33 = .ok (.iaload, 1) := by decide +kernel
theorem d_Wr_putSharedName_34 : decode b_Wr_putSharedName 34 = .ok (.iconst 1, 1) := by decide +kernel
theorem d_Wr_putSharedName_35 : decode b_Wr_putSharedName 35 = .ok (.iadd, 1) := by decide +kernel
theorem d_Wr_putSharedName_36 : decode b_Wr_putSharedName 36 = .ok (.aload_n 2, 1) := by decide +kernel
theorem d_Wr_putSharedName_37 : decode b_Wr_putSharedName 37 = .ok (.aload_n 0, 1) := by decide +kernel
theorem d_Wr_putSharedName_38 : decode b_Wr_putSharedName 38 = .ok (.getfield 18, 3) := by decide +kernel
theorem d_Wr_putSharedName_41 : decode b_Wr_putSharedName 41 = .ok (.iload_n 3, 1) := by decide +kernel
theorem d_Wr_putSharedName_42 : decode b_Wr_putSharedName 42 = .ok (.iconst 1, 1) := by decide +kernel
theorem d_Wr_putSharedName_43 : decode b_Wr_putSharedName 43 = .ok (.isub, 1) := by decide +kernel
theorem d_Wr_putSharedName_44 : decode b_Wr_putSharedName 44 = .ok (.iaload, 1) := by decide +kernel
theorem d_Wr_putSharedName_45 : decode b_Wr_putSharedName 45 = .ok (.invokevirtual 142, 3) := by decide +kernel
theorem d_Wr_putSharedName_48 : decode b_Wr_putSharedName 48 = .ok (.iadd, 1) := by decide +kernel
theorem d_Wr_putSharedName_49 : decode b_Wr_putSharedName 49 = .ok (.istore 4, 2) := by decide +kernel
theorem d_Wr_putSharedName_51 : decode b_Wr_putSharedName 51 = .ok (.aload_n 0, 1) := by decide +kernel
theorem d_Wr_putSharedName_52 : decode b_Wr_putSharedName 52 = .ok (.iload_n 3, 1) := by decide +kernel
theorem d_Wr_putSharedName_53 : decode b_Wr_putSharedName 53 = .ok (.iload 4, 2) := by decide +kernel
theorem d_Wr_putSharedName_55 : decode b_Wr_putSharedName 55 = .ok (.invokevirtual 145, 3) := by decide +kernel
theorem d_Wr_putSharedName_58 : decode b_Wr_putSharedName 58 = .ok (.iconst (-1), 1) := by decide +kernel
theorem d_Wr_putSharedName_59 : decode b_Wr_putSharedName 59 = .ok (.istore 5, 2) := by decide +kernel
theorem d_Wr_putSharedName_61 : decode b_Wr_putSharedName 61 = .ok (.iconst 0, 1) := by decide +kernel
theorem d_Wr_putSharedName_62 : decode b_Wr_putSharedName 62 = .ok (.istore 6, 2) := by decide +kernel
theorem d_Wr_putSharedName_64 : decode b_Wr_putSharedName 64 = .ok (.iload 6, 2) := by decide +kernel
theorem d_Wr_putSharedName_66 : decode b_Wr_putSharedName 66 = .ok (.iload_n 3, 1) := by decide +kernel
theorem d_Wr_putSharedName_67 : decode b_Wr_putSharedName 67 = .ok (.if_icmp .ge 94, 3) := by decide +kernel
theorem d_Wr_putSharedName_70 : decode b_Wr_putSharedName 70 = .ok (.iload 5, 2) := by decide +kernel
theorem d_Wr_putSharedName_72 : decode b_Wr_putSharedName 72 = .ok (.ifCond .ge 89, 3) := by decide +kernel
theorem d_Wr_putSharedName_75 : decode b_Wr_putSharedName 75 = .ok (.aload_n 0, 1) := by decide +kernel
theorem d_Wr_putSharedName_76 : decode b_Wr_putSharedName 76 = .ok (.getfield 18, 3) := by decide +kernel
theorem d_Wr_putSharedName_79 : decode b_Wr_putSharedName 79 = .ok (.iload 6, 2) := by decide +kernel
theorem d_Wr_putSharedName_81 : decode b_Wr_putSharedName 81 = .ok (.iaload, 1) := by decide +kernel
theorem d_Wr_putSharedName_82 : decode b_Wr_putSharedName 82 = .ok (.istore 7, 2) := by decide +kernel
theorem d_Wr_putSharedName_84 : decode b_Wr_putSharedName 84 = .ok (.aload_n 0, 1) := by decide +kernel
theorem d_Wr_putSharedName_85 : decode b_Wr_putSharedName 85 = .ok (.getfield 39, 3) := by decide +kernel
theorem d_Wr_putSharedName_88 : decode b_Wr_putSharedName 88 = .ok (.aload_n 0, 1) := by decide +kernel
theorem d_Wr_putSharedName_89 : decode b_Wr_putSharedName 89 = .ok (.getfield 22, 3) := by decide +kernel
theorem d_Wr_putSharedName_92 : decode b_Wr_putSharedName 92 = .ok (.iload 6, 2) := by decide +kernel
theorem d_Wr_putSharedName_94 : decode b_Wr_putSharedName 94 = .ok (.iaload, 1) := by decide +kernel
theorem d_Wr_putSharedName_95 : decode b_Wr_putSharedName 95 = .ok (.iload 7, 2) := by decide +kernel
theorem d_Wr_putSharedName_97 : decode b_Wr_putSharedName 97 = .ok (.iload 4, 2) := by decide +kernel
theorem d_Wr_putSharedName_99 : decode b_Wr_putSharedName 99 = .ok (.iconst 1, 1) := by decide +kernel
theorem d_Wr_putSharedName_100 : decode b_Wr_putSharedName 100 = .ok (.iadd, 1) := by decide +kernel
theorem d_Wr_putSharedName_101 : decode b_Wr_putSharedName 101 = .ok (.iload 7, 2) := by decide +kernel
theorem d_Wr_putSharedName_103 : decode b_Wr_putSharedName 103 = .ok (.isub, 1) := by decide +kernel
theorem d_Wr_putSharedName_104 : decode b_Wr_putSharedName 104 = .ok (.invokevirtual 148, 3) := by decide +kernel
theorem d_Wr_putSharedName_107 : decode b_Wr_putSharedName 107 = .ok (.istore 5, 2) := by decide +kernel
theorem d_Wr_putSharedName_109 : decode b_Wr_putSharedName 109 = .ok (.iload 5, 2) := by decide +kernel
theorem d_Wr_putSharedName_111 : decode b_Wr_putSharedName 111 = .ok (.ifCond .ge 44, 3) := by decide +kernel
theorem d_Wr_putSharedName_114 : decode b_Wr_putSharedName 114 = .ok (.aload_n 0, 1) := by decide +kernel
theorem d_Wr_putSharedName_115 : decode b_Wr_putSharedName 115 = .ok (.getfield 39, 3) := by decide +kernel
theorem d_Wr_putSharedName_118 : decode b_Wr_putSharedName 118 = .ok (.aload_n 0, 1) := by decide +kernel
theorem d_Wr_putSharedName_119 : decode b_Wr_putSharedName 119 = .ok (.getfield 22, 3) := by decide +kernel
theorem d_Wr_putSharedName_122 : decode b_Wr_putSharedName 122 = .ok (.iload 6, 2) := by decide +kernel
theorem d_Wr_putSharedName_124 : decode b_Wr_putSharedName 124 = .ok (.iaload, 1) := by decide +kernel
theorem d_Wr_putSharedName_125 : decode b_Wr_putSharedName 125 = .ok (.iload 7, 2) := by decide +kernel
theorem d_Wr_putSharedName_127 : decode b_Wr_putSharedName 127 = .ok (.aload_n 0, 1) := by decide +kernel
theorem d_Wr_putSharedName_128 : decode b_Wr_putSharedName 128 = .ok (.getfield 12, 3) := by decide +kernel
theorem d_Wr_putSharedName_131 : decode b_Wr_putSharedName 131 = .ok (.getfield 47, 3) := by decide +kernel
theorem d_Wr_putSharedName_134 : decode b_Wr_putSharedName 134 = .ok (.invokevirtual 152, 3) := by decide +kernel
theorem d_Wr_putSharedName_137 : decode b_Wr_putSharedName 137 = .ok (.aload_n 0, 1) := by decide +kernel
theorem d_Wr_putSharedName_138 : decode b_Wr_putSharedName 138 = .ok (.getfield 12, 3) := by decide +kernel
theorem d_Wr_putSharedName_141 : decode b_Wr_putSharedName 141 = .ok (.aload_n 2, 1) := by decide +kernel
theorem d_Wr_putSharedName_142 : decode b_Wr_putSharedName 142 = .ok (.iload 7, 2) := by decide +kernel
theorem d_Wr_putSharedName_144 : decode b_Wr_putSharedName 144 = .ok (.aload_n 2, 1) := by decide +kernel
theorem d_Wr_putSharedName_145 : decode b_Wr_putSharedName 145 = .ok (.iload 7, 2) := by decide +kernel
theorem d_Wr_putSharedName_147 : decode b_Wr_putSharedName 147 = .ok (.invokevirtual 142, 3) := by decide +kernel
theorem d_Wr_putSharedName_150 : decode b_Wr_putSharedName 150 = .ok (.iconst 1, 1) := by decide +kernel
theorem d_Wr_putSharedName_151 : decode b_Wr_putSharedName 151 = .ok (.iadd, 1) := by decide +kernel
theorem d_Wr_putSharedName_152 : decode b_Wr_putSharedName 152 = .ok (.invokevirtual 132, 3) := by decide +kernel
theorem d_Wr_putSharedName_155 : decode b_Wr_putSharedName 155 = .ok (.iinc 6 1, 3) := by decide +kernel
theorem d_Wr_putSharedName_158 : decode b_Wr_putSharedName 158 = .ok (.goto (-94), 3) := by decide +kernel
theorem d_Wr_putSharedName_161 : decode b_Wr_putSharedName 161 = .ok (.iload 5, 2) := by decide +kernel
theorem d_Wr_putSharedName_163 : decode b_Wr_putSharedName 163 = .ok (.ifCond .ge 14, 3) := by decide +kernel
theorem d_Wr_putSharedName_166 : decode b_Wr_putSharedName 166 = .ok (.aload_n 0, 1) := by decide +kernel
theorem d_Wr_putSharedName_167 : decode b_Wr_putSharedName 167 = .ok (.getfield 12, 3) := by decide +kernel
theorem d_Wr_putSharedName_170 : decode b_Wr_putSharedName 170 = .ok (.iconst 0, 1) := by decide +kernel
theorem d_Wr_putSharedName_171 : decode b_Wr_putSharedName 171 = .ok (.invokevirtual 156, 3) := by decide +kernel
theorem d_Wr_putSharedName_174 : decode b_Wr_putSharedName 174 = .ok (.goto 25, 3) := by decide +kernel
theorem d_Wr_putSharedName_177 : decode b_Wr_putSharedName 177 = .ok (.aload_n 0, 1) := by decide +kernel
theorem d_Wr_putSharedName_178 : decode b_Wr_putSharedName 178 = .ok (.getfield 12, 3) := by decide +kernel
theorem d_Wr_putSharedName_181 : decode b_Wr_putSharedName 181 = .ok (.ldc 159, 2) := by decide +kernel
theorem d_Wr_putSharedName_183 : decode b_Wr_putSharedName 183 = .ok (.iload 5, 2) := by decide +kernel
theorem d_Wr_putSharedName_185 : decode b_Wr_putSharedName 185 = .ok (.ior, 1) := by decide +kernel
theorem d_Wr_putSharedName_186 : decode b_Wr_putSharedName 186 = .ok (.invokevirtual 99, 3) := by decide +kernel
theorem d_Wr_putSharedName_189 : decode b_Wr_putSharedName 189 = .ok (.aload_n 0, 1) := by decide +kernel
theorem d_Wr_putSharedName_190 : decode b_Wr_putSharedName 190 = .ok (.dup, 1) := by decide +kernel
theorem d_Wr_putSharedName_191 : decode b_Wr_putSharedName 191 = .ok (.getfield 51, 3) := by decide +kernel
theorem d_Wr_putSharedName_194 : decode b_Wr_putSharedName 194 = .ok (.iconst 1, 1) := by decide +kernel
theorem d_Wr_putSharedName_195 : decode b_Wr_putSharedName 195 = .ok (.iadd, 1) := by decide +kernel
theorem d_Wr_putSharedName_196 : decode b_Wr_putSharedName 196 = .ok (.putfield 51, 3) := by decide +kernel
theorem d_Wr_putSharedName_199 : decode b_Wr_putSharedName 199 = .ok (.iload 4, 2) := by decide +kernel
theorem d_Wr_putSharedName_201 : decode b_Wr_putSharedName 201 = .ok (.iconst 1, 1) := by decide +kernel
theorem d_Wr_putSharedName_202 : decode b_Wr_putSharedName 202 = .ok (.iadd, 1) := by decide +kernel
theorem d_Wr_putSharedName_203 : decode b_Wr_putSharedName 203 = .ok (.ireturn, 1) := by decide +kernel
set_option maxHeartbeats 4000000 in
set_option maxRecDepth 100000 in
/-- Writer.markEnds -/
theorem m_Wr_markEnds (l : Launch) (D9 : va_G) (cB cI cJ cG : ClassId) (a : Nat → Nat) (O : Nat → Int64) (I : Nat → Int32) (F : Nat → Nat → Int32) (G : List Nat) (hGl : G.length ≤ 65536) (hGB : BR 0 65536 (F 4) G) (k fr r : Nat) (hN : isN G k fr r) (hk : k ≤ 127) (hL : ∀ j, j < k → F 22 j = nI (lb G fr j)) : MC l D9 cB cI cJ cG a O y_Wr_markEnds b_Wr_markEnds 6 (none) 1 [.ref (a 18), .int (nI k), .int (nI r)] I F (fun v I' F' => v = none ∧ I = I' ∧ sm [23] F F' ∧ ∀ j, j < k → F' 23 j = mkN G (lb G fr j) r) := by
  refine mc_ofv (by decide) (Nat.le_of_ble_eq_true rfl) ?_
  intro p e s m below meth c ls A0 Q C0 hP hD hA hS hl hret
  obtain ⟨hx, hb, hml, hr, hlocks, hown, hts, hK⟩ := id C0
  have hl : lv_has ls 6 [(0, .ref (a 18)), (1, .int (nI k)), (2, .int (nI r))] := hl
  have hmk0 := mkN_end G r
  refine lv_iconst (v := 0) hx hb d_Wr_markEnds_0 (by decide) ?_
  refine lv_topq (y := nI 0) (rfl) ?_
  refine lv_topq (y := mkN G r r) (hmk0.symm) ?_
  refine lv_istore_n (lv' := [(3, _), (0, _), (1, _), (2, _)]) hx hb d_Wr_markEnds_1 rfl hl (by decide) rfl (fun ls hl => ?_)
  refine lv_iload_n hx hb d_Wr_markEnds_2 rfl (lv_at hl 2 rfl) ?_
  refine lv_iconst (v := 1) hx hb d_Wr_markEnds_3 (by decide) ?_
  refine lv_topq (y := nI 1) (rfl) ?_
  refine lv_isub hx hb d_Wr_markEnds_4 ?_
  refine lv_topq (y := lI k) (rfl) ?_
  refine lv_istore (lv' := [(4, _), (3, _), (0, _), (1, _), (2, _)]) hx hb d_Wr_markEnds_5 hl (by decide) rfl (fun ls hl => ?_)
  refine lv_iload_n hx hb d_Wr_markEnds_7 rfl (lv_at hl 4 rfl) ?_
  refine lv_iconst (v := 1) hx hb d_Wr_markEnds_8 (by decide) ?_
  refine lv_topq (y := nI 1) (rfl) ?_
  refine lv_isub hx hb d_Wr_markEnds_9 ?_
  refine lv_topq (y := lI r) (rfl) ?_
  refine lv_istore (lv' := [(5, _), (4, _), (3, _), (0, _), (1, _), (2, _)]) hx hb d_Wr_markEnds_10 hl (by decide) rfl (fun ls hl => ?_)
  have loop1 : ∀ (n9 : Nat) (y : Nat) (q : Nat) (I9 : Nat → Int32) (F9 : Nat → Nat → Int32) (H : Heap) (locs : List Loc) (ls : Array Slot), (I = I9) → (sm [23] F F9) → (y = n9) → (q ≤ k) → (y ≤ r ∧ (0 < q → lb G fr (q - 1) < y)) → (∀ j, q ≤ j → j < k → F9 23 j = mkN G (lb G fr j) r) → va_P D9 cls9 (WW a cB cI cJ cG I9 F9 O) H → va_D A0 (WW a cB cI cJ cG I9 F9 O) → va_S A0 s.heap H locs → lv_has ls 6 [(0, .ref (a 18)), (1, .int (nI k)), (2, .int (nI r)), (3, .int (mkN G y r)), (4, .int (lI q)), (5, .int (lI y))] → W p l e (rm9 1 0 0) s m ([.ref (a 18), .int (nI k), .int (nI r)] : List Value).toArray below meth c H locs 0 0 Q (F0 m 12 ls []) := by
    intro n9
    induction n9 using Nat.strongRecOn with
    | ind n9 ih =>
      intro y q I9 F9 H locs ls hsI hsF hn9 hq hy hKm hP hD hS hl
      subst hsI
      have hrN := isN_r hN
      have hz1 := lI_lt (j := y) (q := 0) (by omega) (by decide)
      have hz2 := lI_lt (j := q) (q := 0) (by omega) (by decide)
      refine lv_iload hx hb d_Wr_markEnds_12 (lv_at hl 5 rfl) ?_
      refine lv_if_lt (tgt := 69) hx hb d_Wr_markEnds_14 (by decide) (fun c1 => ?_) (fun c1 => ?_)
      · have hq0 : q = 0 := by have := hz1.mp c1; rcases Nat.eq_zero_or_pos q with z | z; exact z; have := hy.2 z; omega
        exact hret _ _ _ _ _ _ hS hP hD d_Wr_markEnds_69 (⟨rfl, rfl, (sm_mo hsF (by decide)), fun j hj => hKm j (by omega) hj⟩)
      · obtain ⟨i, rfl⟩ : ∃ i, y = i + 1 := ⟨y - 1, by rcases Nat.eq_zero_or_pos y with z | z; exact absurd (hz1.mpr (by omega)) c1; omega⟩
        rw [lI_s (j := i + 1) (by omega), Nat.add_sub_cancel] at hl
        refine lv_iload hx hb d_Wr_markEnds_17 (lv_at hl 4 rfl) ?_
        refine lv_if_lt (tgt := 69) hx hb d_Wr_markEnds_19 (by decide) (fun c2 => ?_) (fun c2 => ?_)
        · have hq0 : q = 0 := by have := hz2.mp c2; omega
          exact hret _ _ _ _ _ _ hS hP hD d_Wr_markEnds_69 (⟨rfl, rfl, (sm_mo hsF (by decide)), fun j hj => hKm j (by omega) hj⟩)
        · obtain ⟨d, rfl⟩ : ∃ d, q = d + 1 := ⟨q - 1, by rcases Nat.eq_zero_or_pos q with z | z; exact absurd (hz2.mpr (by omega)) c2; omega⟩
          rw [lI_s (j := d + 1) (by omega), Nat.add_sub_cancel] at hl
          have hyd : lb G fr d < i + 1 := hy.2 (by omega)
          refine lv_iload_n hx hb d_Wr_markEnds_22 rfl (lv_at hl 3 rfl) ?_
          refine lv_bipush (v := 31) hx hb d_Wr_markEnds_23 (by decide) ?_
          refine lv_topq (y := nI 31) (rfl) ?_
          refine lv_imul hx hb d_Wr_markEnds_25 ?_
          refine lv_aload_n hx hb d_Wr_markEnds_26 rfl (lv_at hl 0 rfl) ?_
          refine va_get (D := D9) (ci := 5) (C := R_Wr) (T := F_Wr) (N := 6) hx hb hts i_Wr hown hK hP 18 ww_18 rfl 0 (by decide) (hts _ g_185) (fun _ h9 => h9) rfl d_Wr_markEnds_27 ?_
          refine va_getN (D := D9) (ci := 2) (C := R_Ga) (T := F_Ga) (N := 11) hx hb hts i_Ga hown hK hP 19 ww_19 rfl 0 (by decide) (hts _ g_58) (fun _ h9 => h9) rfl d_Wr_markEnds_30 ?_
          refine lv_iload hx hb d_Wr_markEnds_33 (lv_at hl 5 rfl) ?_
          refine mw_cVN (ci := 0) (k := 3) C0 (m_By_atL_gb l D9 cB cI cJ cG a O _ _ G i (BR_eq hGB (hsF 4 (by decide))) hGl (by omega)) g_259 g_2 g_586 g_258 gs_By_at ⟨by decide +kernel, by decide +kernel, show Option.map (fun d => d.parameters.length) (parseMethodDescriptor y_By_at.desc) = some 1 by decide +kernel⟩ ⟨by decide, by decide⟩ rfl rfl hP hD hS hA rfl ww_3 hl.1 (Nat.le_of_ble_eq_true rfl) rfl d_Wr_markEnds_35 ⟨by decide, by decide⟩ (fun v9 w9 H locs hq hP hD hS => ?_)
          obtain ⟨I3, F4, hw9, q5⟩ := hq
          subst hw9
          obtain ⟨rfl, rfl, rfl⟩ := q5
          refine lv_iadd hx hb d_Wr_markEnds_38 ?_
          refine lv_topq (y := mkN G i r) ((mkN_step (by omega) (by omega)).symm) ?_
          refine lv_istore_n (lv' := [(3, _), (0, _), (1, _), (2, _), (4, _), (5, _)]) hx hb d_Wr_markEnds_39 rfl hl (by decide) rfl (fun ls hl => ?_)
          refine lv_iload hx hb d_Wr_markEnds_40 (lv_at hl 5 rfl) ?_
          refine lv_aload_n hx hb d_Wr_markEnds_42 rfl (lv_at hl 1 rfl) ?_
          refine va_get (D := D9) (ci := 5) (C := R_Wr) (T := F_Wr) (N := 6) hx hb hts i_Wr hown hK hP 18 ww_18 rfl 3 (by decide) (hts _ g_189) (fun _ h9 => h9) rfl d_Wr_markEnds_43 ?_
          refine lv_iload hx hb d_Wr_markEnds_46 (lv_at hl 4 rfl) ?_
          refine va_iald (D := D9) hx hb hK hP 22 1 ww_22 rfl (vp_in_nI (by omega) (by decide)) d_Wr_markEnds_48 ?_
          refine lv_topq (y := nI (lb G fr d)) (by rw [nI_clamp (by omega)]; exact ((congrFun (hsF 22 (by decide)) _).trans (hL d (by omega)))) ?_
          refine lv_icmp_ne (tgt := 63) hx hb d_Wr_markEnds_49 (by decide) (fun c6 => ?_) (fun c6 => ?_)
          · have c6 : ¬ (i = lb G fr d) := fun z9 => c6 ((nI_eq (a := i) (b := lb G fr d) (by omega) (by omega)).mpr z9)
            refine lv_iinc (lv' := [(5, .int (lI i)), (3, _), (0, _), (1, _), (2, _), (4, _)]) hx hb d_Wr_markEnds_63 hl (k := 5) rfl (lI_d _) (by decide) rfl (fun ls hl => ?_)
            refine lv_goto (tgt := 12) hx hb d_Wr_markEnds_66 (by decide) ?_
            rw [show nI d = lI (d + 1) from (lI_s (j := d + 1) (by omega)).symm] at hl
            exact ih _ (by omega) i (d + 1) _ _ _ _ _ rfl (sm_mo hsF (by decide)) rfl (by omega) ⟨by omega, fun z9 => by show lb G fr d < i; omega⟩ hKm hP hD hS (lv_pk hl [2, 3, 4, 1, 5, 0] rfl)
          · have c6 : i = lb G fr d := (nI_eq (a := i) (b := lb G fr d) (by omega) (by omega)).mp c6
            refine lv_aload_n hx hb d_Wr_markEnds_52 rfl (lv_at hl 1 rfl) ?_
            refine va_get (D := D9) (ci := 5) (C := R_Wr) (T := F_Wr) (N := 6) hx hb hts i_Wr hown hK hP 18 ww_18 rfl 4 (by decide) (hts _ g_190) (fun _ h9 => h9) rfl d_Wr_markEnds_53 ?_
            refine lv_iload hx hb d_Wr_markEnds_56 (lv_at hl 4 rfl) ?_
            refine lv_iload_n hx hb d_Wr_markEnds_58 rfl (lv_at hl 0 rfl) ?_
            refine va_iast (D := D9) hx hb hK hP hD hS 23 1 ww_23 rfl (vp_in_nI (by omega) (by decide)) d_Wr_markEnds_59 (fun H locs hP hD hS => ?_)
            obtain ⟨F7, aF7, sF7, hP, hD⟩ := fx (P := fun z => va_P D9 cls9 (WW a cB cI cJ cG _ z O) H ∧ va_D A0 (WW a cB cI cJ cG _ z O)) ⟨wpa_23 hP, wda_23 hD⟩
            rw [nI_clamp (by omega)] at aF7
            refine lv_iinc (lv' := [(4, .int (lI d)), (3, _), (0, _), (1, _), (2, _), (5, _)]) hx hb d_Wr_markEnds_60 hl (k := 4) rfl (lI_d _) (by decide) rfl (fun ls hl => ?_)
            refine lv_iinc (lv' := [(5, .int (lI i)), (4, _), (3, _), (0, _), (1, _), (2, _)]) hx hb d_Wr_markEnds_63 hl (k := 5) rfl (lI_d _) (by decide) rfl (fun ls hl => ?_)
            refine lv_goto (tgt := 12) hx hb d_Wr_markEnds_66 (by decide) ?_
            exact ih _ (by omega) i d _ _ _ _ _ rfl (sm_tr (sm_mo hsF (by decide)) (sm_mo sF7 (by decide))) rfl (by omega) ⟨by omega, fun z9 => by have := lb_lt (G := G) (fr := fr) (show d - 1 < d by omega); omega⟩ (fun j h1 h2 => by rw [aF7]; by_cases hj : j = d; rw [hj, pk_us, show lb G fr d = i by omega]; rw [pk_un hj]; exact hKm j (by omega) h2) hP hD hS (lv_pk hl [3, 4, 5, 2, 1, 0] rfl)
  exact loop1 _ r k _ _ _ _ _ rfl sm_rf rfl (Nat.le_refl _) ⟨Nat.le_refl _, fun z9 => by rw [← isN_end hN]; exact lb_lt (by omega)⟩ (fun j h1 h2 => by omega) hP hD hS (lv_pk hl [3, 4, 5, 2, 1, 0] rfl)
set_option maxHeartbeats 4000000 in
set_option maxRecDepth 100000 in
/-- Writer.putSharedName -/
theorem m_Wr_putSharedName (l : Launch) (D9 : va_G) (cB cI cJ cG : ClassId) (a : Nat → Nat) (O : Nat → Int64) (I : Nat → Int32) (F : Nat → Nat → Int32) (G : List Nat) (hGl : G.length ≤ 65536) (hGB : BR 0 65536 (F 4) G) (X B : List Nat) (E : List (Nat × Nat)) (pt k fr r : Nat) (hX : X.length = 12) (hM : BR 0 65536 (F 21) (X ++ B)) (h13 : I 13 = nI (12 + B.length)) (hBb : B.length < 300000) (hS9 : EnS F E.length) (hB9 : EnB F G E) (h14 : I 14 = nI E.length) (hW : wW G B E) (h10 : I 10 = nI pt) (hN : isN G k fr r) (hk : k ≤ 127) : MC l D9 cB cI cJ cG a O y_Wr_putSharedName b_Wr_putSharedName 8 (some .int) 3 [.ref (a 18), .int (nI fr)] I F (fun v I' F' => v = some (.int (nI (r + 1))) ∧ sm [10, 13, 14] I I' ∧ I' 13 = nI (12 + (wN G k fr B E pt).1.length) ∧ I' 14 = nI (wN G k fr B E pt).2.1.length ∧ I' 10 = nI (wN G k fr B E pt).2.2 ∧ sm [21, 22, 23, 25, 26, 27, 28, 29] F F' ∧ BR 0 65536 (F' 21) (X ++ (wN G k fr B E pt).1) ∧ EnS F' (wN G k fr B E pt).2.1.length ∧ EnB F' G (wN G k fr B E pt).2.1) := by
  refine mc_of (by decide) (Nat.le_of_ble_eq_true rfl) ?_
  intro p e s m below meth c ls A0 Q C0 hP hD hA hS hl hret
  obtain ⟨hx, hb, hml, hr, hlocks, hown, hts, hK⟩ := id C0
  have hl : lv_has ls 8 [(0, .ref (a 18)), (1, .int (nI fr))] := hl
  refine lv_aload_n hx hb d_Wr_putSharedName_0 rfl (lv_at hl 0 rfl) ?_
  refine va_get (D := D9) (ci := 5) (C := R_Wr) (T := F_Wr) (N := 6) hx hb hts i_Wr hown hK hP 18 ww_18 rfl 0 (by decide) (hts _ g_185) (fun _ h9 => h9) rfl d_Wr_putSharedName_1 ?_
  refine va_getN (D := D9) (ci := 2) (C := R_Ga) (T := F_Ga) (N := 11) hx hb hts i_Ga hown hK hP 19 ww_19 rfl 0 (by decide) (hts _ g_58) (fun _ h9 => h9) rfl d_Wr_putSharedName_4 ?_
  refine lv_astore_n (lv' := [(2, _), (0, _), (1, _)]) hx hb d_Wr_putSharedName_7 rfl hl (by decide) rfl (fun ls hl => ?_)
  refine lv_aload_n hx hb d_Wr_putSharedName_8 rfl (lv_at hl 0 rfl) ?_
  refine lv_iload_n hx hb d_Wr_putSharedName_9 rfl (lv_at hl 2 rfl) ?_
  refine lv_aload_n hx hb d_Wr_putSharedName_10 rfl (lv_at hl 1 rfl) ?_
  refine va_get (D := D9) (ci := 5) (C := R_Wr) (T := F_Wr) (N := 6) hx hb hts i_Wr hown hK hP 18 ww_18 rfl 3 (by decide) (hts _ g_189) (fun _ h9 => h9) rfl d_Wr_putSharedName_11 ?_
  refine mw_cSN C0 (m_Na_findLabels_ls l D9 cB cI cJ cG a O _ _ G hGl hGB k fr r hN hk) g_584 g_7 g_582 g_583 ⟨by decide +kernel, by decide +kernel, show Option.map (fun d => d.parameters.length) (parseMethodDescriptor y_Na_findLabels.desc) = some 3 by decide +kernel⟩ ⟨by decide, by decide⟩ rfl rfl hP hD hS hA hl.1 (Nat.le_of_ble_eq_true rfl) rfl d_Wr_putSharedName_14 ⟨by decide, by decide⟩ (fun v9 w9 H locs hq hP hD hS => ?_)
  obtain ⟨I1, F2, hw9, q3⟩ := hq
  subst hw9
  obtain ⟨rfl, rfl, sfl, hfl⟩ := q3
  refine lv_istore_n (lv' := [(3, _), (2, _), (0, _), (1, _)]) hx hb d_Wr_putSharedName_17 rfl hl (by decide) rfl (fun ls hl => ?_)
  refine lv_iload_n hx hb d_Wr_putSharedName_18 rfl (lv_at hl 0 rfl) ?_
  refine lv_if_ne (tgt := 26) hx hb d_Wr_putSharedName_19 (by decide) (fun c4 => ?_) (fun c4 => ?_)
  · have c4 : ¬ (k = 0) := fun z9 => c4 ((nI_eq (a := k) (b := 0) (by omega) (by omega)).mpr z9)
    have hv1 := isN_lb hN (k - 1) (by omega)
    have hv2 := isN_p hv1
    have hrt := isN_last hN (by omega)
    refine lv_aload_n hx hb d_Wr_putSharedName_26 rfl (lv_at hl 2 rfl) ?_
    refine va_get (D := D9) (ci := 5) (C := R_Wr) (T := F_Wr) (N := 6) hx hb hts i_Wr hown hK hP 18 ww_18 rfl 3 (by decide) (hts _ g_189) (fun _ h9 => h9) rfl d_Wr_putSharedName_27 ?_
    refine lv_iload_n hx hb d_Wr_putSharedName_30 rfl (lv_at hl 0 rfl) ?_
    refine lv_iconst (v := 1) hx hb d_Wr_putSharedName_31 (by decide) ?_
    refine lv_topq (y := nI 1) (rfl) ?_
    refine lv_isub hx hb d_Wr_putSharedName_32 ?_
    refine lv_topq (y := nI (k - 1)) (pk_sub (by omega)) ?_
    refine va_iald (D := D9) hx hb hK hP 22 1 ww_22 rfl (vp_in_nI (by omega) (by decide)) d_Wr_putSharedName_33 ?_
    refine lv_topq (y := nI (lb G fr (k - 1))) (by rw [nI_clamp (by omega)]; exact (hfl _ (by omega))) ?_
    refine lv_iconst (v := 1) hx hb d_Wr_putSharedName_34 (by decide) ?_
    refine lv_topq (y := nI 1) (rfl) ?_
    refine lv_iadd hx hb d_Wr_putSharedName_35 ?_
    refine lv_topq (y := nI (lb G fr (k - 1) + 1)) (nI_add _ _) ?_
    refine lv_aload_n hx hb d_Wr_putSharedName_36 rfl (lv_at hl 1 rfl) ?_
    refine lv_aload_n hx hb d_Wr_putSharedName_37 rfl (lv_at hl 2 rfl) ?_
    refine va_get (D := D9) (ci := 5) (C := R_Wr) (T := F_Wr) (N := 6) hx hb hts i_Wr hown hK hP 18 ww_18 rfl 3 (by decide) (hts _ g_189) (fun _ h9 => h9) rfl d_Wr_putSharedName_38 ?_
    refine lv_iload_n hx hb d_Wr_putSharedName_41 rfl (lv_at hl 0 rfl) ?_
    refine lv_iconst (v := 1) hx hb d_Wr_putSharedName_42 (by decide) ?_
    refine lv_topq (y := nI 1) (rfl) ?_
    refine lv_isub hx hb d_Wr_putSharedName_43 ?_
    refine lv_topq (y := nI (k - 1)) (pk_sub (by omega)) ?_
    refine va_iald (D := D9) hx hb hK hP 22 1 ww_22 rfl (vp_in_nI (by omega) (by decide)) d_Wr_putSharedName_44 ?_
    refine lv_topq (y := nI (lb G fr (k - 1))) (by rw [nI_clamp (by omega)]; exact (hfl _ (by omega))) ?_
    refine mw_cVN (ci := 0) (k := 3) C0 (m_By_atL_gb l D9 cB cI cJ cG a O _ _ G (lb G fr (k - 1)) (BR_eq hGB (sfl 4 (by decide))) hGl (by omega)) g_259 g_2 g_586 g_258 gs_By_at ⟨by decide +kernel, by decide +kernel, show Option.map (fun d => d.parameters.length) (parseMethodDescriptor y_By_at.desc) = some 1 by decide +kernel⟩ ⟨by decide, by decide⟩ rfl rfl hP hD hS hA rfl ww_3 hl.1 (Nat.le_of_ble_eq_true rfl) rfl d_Wr_putSharedName_45 ⟨by decide, by decide⟩ (fun v9 w9 H locs hq hP hD hS => ?_)
    obtain ⟨I5, F6, hw9, q7⟩ := hq
    subst hw9
    obtain ⟨rfl, rfl, rfl⟩ := q7
    refine lv_iadd hx hb d_Wr_putSharedName_48 ?_
    refine lv_topq (y := nI (lb G fr (k - 1) + 1 + (tb G (lb G fr (k - 1))))) (nI_add _ _) ?_
    refine lv_topq (y := nI r) (congrArg nI hrt) ?_
    refine lv_istore (lv' := [(4, _), (3, _), (2, _), (0, _), (1, _)]) hx hb d_Wr_putSharedName_49 hl (by decide) rfl (fun ls hl => ?_)
    refine lv_aload_n hx hb d_Wr_putSharedName_51 rfl (lv_at hl 3 rfl) ?_
    refine lv_iload_n hx hb d_Wr_putSharedName_52 rfl (lv_at hl 1 rfl) ?_
    refine lv_iload hx hb d_Wr_putSharedName_53 (lv_at hl 0 rfl) ?_
    refine mw_cV (ci := 5) (k := 18) C0 (m_Wr_markEnds l D9 cB cI cJ cG a O _ _ G hGl (BR_eq hGB (sfl 4 (by decide))) k fr r hN hk (fun j hj => (hfl j hj))) g_590 g_5 g_587 g_589 gs_Wr_markEnds ⟨by decide +kernel, by decide +kernel, show Option.map (fun d => d.parameters.length) (parseMethodDescriptor y_Wr_markEnds.desc) = some 2 by decide +kernel⟩ ⟨by decide, by decide⟩ rfl rfl hP hD hS hA rfl ww_18 hl.1 (Nat.le_of_ble_eq_true rfl) rfl d_Wr_putSharedName_55 ⟨by decide, by decide⟩ (fun v9 w9 H locs hq hP hD hS => ?_)
    obtain ⟨I8, F9, hw9, q10⟩ := hq
    subst hw9
    obtain ⟨rfl, rfl, smk, hmk⟩ := q10
    refine lv_iconst (v := -1) hx hb d_Wr_putSharedName_58 (by decide) ?_
    refine lv_topq (y := (-1 : Int32)) rfl ?_
    refine lv_istore (lv' := [(5, _), (4, _), (3, _), (2, _), (0, _), (1, _)]) hx hb d_Wr_putSharedName_59 hl (by decide) rfl (fun ls hl => ?_)
    refine lv_iconst (v := 0) hx hb d_Wr_putSharedName_61 (by decide) ?_
    refine lv_topq (y := nI 0) (rfl) ?_
    refine lv_istore (lv' := [(6, _), (5, _), (4, _), (3, _), (2, _), (0, _), (1, _)]) hx hb d_Wr_putSharedName_62 hl (by decide) rfl (fun ls hl => ?_)
    have loop1 : ∀ (n9 : Nat) (i : Nat) (B2 : List Nat) (E2 : List (Nat × Nat)) (I9 : Nat → Int32) (F9 : Nat → Nat → Int32) (H : Heap) (locs : List Loc) (ls : Array Slot), (sm [10, 13, 14] I I9) → (sm [21, 22, 23, 25, 26, 27, 28, 29] F F9) → (k - i = n9) → (i ≤ k) → (wN G k fr B E pt = wN G (k - i) (lb G fr i) B2 E2 pt) → (∀ j, j < k → F9 22 j = nI (lb G fr j)) → (∀ j, j < k → F9 23 j = mk9 G (lb G fr j)) → (BR 0 65536 (F9 21) (X ++ B2)) → (I9 13 = nI (12 + B2.length)) → (B2.length ≤ B.length + 65 * i) → (EnS F9 E2.length) → (EnB F9 G E2) → (I9 14 = nI E2.length) → (wW G B2 E2) → (I9 10 = nI pt) → va_P D9 cls9 (WW a cB cI cJ cG I9 F9 O) H → va_D A0 (WW a cB cI cJ cG I9 F9 O) → va_S A0 s.heap H locs → lv_has ls 8 [(0, .ref (a 18)), (1, .int (nI fr)), (2, .ref (a 3)), (3, .int (nI k)), (4, .int (nI r)), (5, .int ((-1 : Int32))), (6, .int (nI i))] → W p l e (rm9 3 0 0) s m ([.ref (a 18), .int (nI fr)] : List Value).toArray below meth c H locs 0 0 Q (F0 m 64 ls []) := by
      intro n9
      induction n9 using Nat.strongRecOn with
      | ind n9 ih =>
        intro i B2 E2 I9 F9 H locs ls hsI hsF hn9 hi hR hL2 hK2 hM2 h132 hBb2 hS2 hB2 h142 hW2 h102 hP hD hS hl
        have hGB9 : BR 0 65536 (F9 4) G := BR_eq hGB (hsF 4 (by decide))
        have hXl : (X ++ B2).length = 12 + B2.length := by rw [List.length_append, hX]
        have hNi := isN_lb hN i hi
        have hpi := isN_p hNi
        have hri := isN_r hNi
        refine lv_iload hx hb d_Wr_putSharedName_64 (lv_at hl 6 rfl) ?_
        refine lv_iload_n hx hb d_Wr_putSharedName_66 rfl (lv_at hl 3 rfl) ?_
        refine lv_icmp_ge (tgt := 161) hx hb d_Wr_putSharedName_67 (by decide) (fun c11 => ?_) (fun c11 => ?_)
        · have c11 : k ≤ i := (nI_leI (a := k) (b := i) (by omega) (by omega)).mp c11
          have hik : k - i = 0 := by omega
          rw [hik] at hR
          have hR : wN G k fr B E pt = (B2 ++ [0], E2, pt) := hR
          refine lv_iload hx hb d_Wr_putSharedName_161 (lv_at hl 5 rfl) ?_
          refine lv_if_ge (tgt := 177) hx hb d_Wr_putSharedName_163 (by decide) (fun c12 => ?_) (fun c12 => ?_)
          · exact absurd c12 (by decide)
          · refine lv_aload_n hx hb d_Wr_putSharedName_166 rfl (lv_at hl 0 rfl) ?_
            refine va_get (D := D9) (ci := 5) (C := R_Wr) (T := F_Wr) (N := 6) hx hb hts i_Wr hown hK hP 18 ww_18 rfl 1 (by decide) (hts _ g_186) (fun _ h9 => h9) rfl d_Wr_putSharedName_167 ?_
            refine lv_iconst (v := 0) hx hb d_Wr_putSharedName_170 (by decide) ?_
            refine lv_topq (y := nI 0) (rfl) ?_
            refine mw_cVN (ci := 0) (k := 20) C0 (m_By_putL_ms l D9 cB cI cJ cG a O _ _ (X ++ B2) 0 (nI 0) hM2 (h132.trans (congrArg nI hXl.symm)) (by omega)) g_284 g_2 g_605 g_283 gs_By_put ⟨by decide +kernel, by decide +kernel, show Option.map (fun d => d.parameters.length) (parseMethodDescriptor y_By_put.desc) = some 1 by decide +kernel⟩ ⟨by decide, by decide⟩ rfl rfl hP hD hS hA rfl ww_20 hl.1 (Nat.le_of_ble_eq_true rfl) rfl d_Wr_putSharedName_171 ⟨by decide, by decide⟩ (fun v9 w9 H locs hq hP hD hS => ?_)
            obtain ⟨I13, F14, hw9, q15⟩ := hq
            subst hw9
            obtain ⟨rfl, sp0, y13, spF, yM⟩ := q15
            refine lv_goto (tgt := 199) hx hb d_Wr_putSharedName_174 (by decide) ?_
            refine lv_iload hx hb d_Wr_putSharedName_199 (lv_at hl 4 rfl) ?_
            refine lv_iconst (v := 1) hx hb d_Wr_putSharedName_201 (by decide) ?_
            refine lv_topq (y := nI 1) (rfl) ?_
            refine lv_iadd hx hb d_Wr_putSharedName_202 ?_
            refine lv_topq (y := nI (r + 1)) (nI_add _ _) ?_
            exact hret _ _ _ _ _ _ _ hS hP hD d_Wr_putSharedName_203 nr_i (by rw [hR]; exact ⟨rfl, (sm_tr (sm_mo hsI (by decide)) (sm_mo sp0 (by decide))), by rw [y13, hXl]; exact congrArg nI (by simp only [List.length_append]; show _ = 12 + (B2.length + 1); omega), ((sp0 14 (by decide)).trans h142), ((sp0 10 (by decide)).trans h102), (sm_tr (sm_mo hsF (by decide)) (sm_mo spF (by decide))), by rw [← List.append_assoc]; exact yM, EnS_sm hS2 (spF 25 (by decide)) (spF 26 (by decide)) (spF 27 (by decide)), EnB_sm hB2 (spF 27 (by decide)) (spF 28 (by decide)) (spF 29 (by decide))⟩)
        · have c11 : ¬ (k ≤ i) := fun z9 => c11 ((nI_leI (a := k) (b := i) (by omega) (by omega)).mpr z9)
          have hik : k - i = (k - (i + 1)) + 1 := by omega
          rw [hik] at hR
          have hNs : isN G ((k - (i + 1)) + 1) (lb G fr i) r := by rw [← hik]; exact hNi
          have hin := isN_in hNs (by omega)
          refine lv_iload hx hb d_Wr_putSharedName_70 (lv_at hl 5 rfl) ?_
          refine lv_if_ge (tgt := 161) hx hb d_Wr_putSharedName_72 (by decide) (fun c16 => ?_) (fun c16 => ?_)
          · exact absurd c16 (by decide)
          · refine lv_aload_n hx hb d_Wr_putSharedName_75 rfl (lv_at hl 0 rfl) ?_
            refine va_get (D := D9) (ci := 5) (C := R_Wr) (T := F_Wr) (N := 6) hx hb hts i_Wr hown hK hP 18 ww_18 rfl 3 (by decide) (hts _ g_189) (fun _ h9 => h9) rfl d_Wr_putSharedName_76 ?_
            refine lv_iload hx hb d_Wr_putSharedName_79 (lv_at hl 6 rfl) ?_
            refine va_iald (D := D9) hx hb hK hP 22 1 ww_22 rfl (vp_in_nI (by omega) (by decide)) d_Wr_putSharedName_81 ?_
            refine lv_topq (y := nI (lb G fr i)) (by rw [nI_clamp (by omega)]; exact (hL2 i (by omega))) ?_
            refine lv_istore (lv' := [(7, _), (0, _), (1, _), (2, _), (3, _), (4, _), (5, _), (6, _)]) hx hb d_Wr_putSharedName_82 hl (by decide) rfl (fun ls hl => ?_)
            refine lv_aload_n hx hb d_Wr_putSharedName_84 rfl (lv_at hl 1 rfl) ?_
            refine va_get (D := D9) (ci := 5) (C := R_Wr) (T := F_Wr) (N := 6) hx hb hts i_Wr hown hK hP 18 ww_18 rfl 2 (by decide) (hts _ g_188) (fun _ h9 => h9) rfl d_Wr_putSharedName_85 ?_
            refine lv_aload_n hx hb d_Wr_putSharedName_88 rfl (lv_at hl 1 rfl) ?_
            refine va_get (D := D9) (ci := 5) (C := R_Wr) (T := F_Wr) (N := 6) hx hb hts i_Wr hown hK hP 18 ww_18 rfl 4 (by decide) (hts _ g_190) (fun _ h9 => h9) rfl d_Wr_putSharedName_89 ?_
            refine lv_iload hx hb d_Wr_putSharedName_92 (lv_at hl 7 rfl) ?_
            refine va_iald (D := D9) hx hb hK hP 23 1 ww_23 rfl (vp_in_nI (by omega) (by decide)) d_Wr_putSharedName_94 ?_
            refine lv_topq (y := mk9 G (lb G fr i)) (by rw [nI_clamp (by omega)]; exact (hK2 i (by omega))) ?_
            refine lv_iload hx hb d_Wr_putSharedName_95 (lv_at hl 0 rfl) ?_
            refine lv_iload hx hb d_Wr_putSharedName_97 (lv_at hl 5 rfl) ?_
            refine lv_iconst (v := 1) hx hb d_Wr_putSharedName_99 (by decide) ?_
            refine lv_topq (y := nI 1) (rfl) ?_
            refine lv_iadd hx hb d_Wr_putSharedName_100 ?_
            refine lv_topq (y := nI (r + 1)) (nI_add _ _) ?_
            refine lv_iload hx hb d_Wr_putSharedName_101 (lv_at hl 0 rfl) ?_
            refine lv_isub hx hb d_Wr_putSharedName_103 ?_
            refine lv_topq (y := nI ((r + 1) - (lb G fr i))) (pk_sub (by omega)) ?_
            refine mw_cVN (ci := 1) (k := 24) C0 (m_En_placeOf l D9 cB cI cJ cG a O _ _ G hGl hGB9 E2 ((k - (i + 1)) + 1) (lb G fr i) r hNs (by omega) hS2 hB2 hW2.1) g_594 g_6 g_591 g_593 gs_En_placeOf ⟨by decide +kernel, by decide +kernel, show Option.map (fun d => d.parameters.length) (parseMethodDescriptor y_En_placeOf.desc) = some 3 by decide +kernel⟩ ⟨by decide, by decide⟩ rfl rfl hP hD hS hA rfl ww_24 hl.1 (Nat.le_of_ble_eq_true rfl) rfl d_Wr_putSharedName_104 ⟨by decide, by decide⟩ (fun v9 w9 H locs hq hP hD hS => ?_)
            obtain ⟨I17, F18, hw9, q19⟩ := hq
            subst hw9
            rcases q19 with ⟨pl, hf9, hpl, rfl, rfl, rfl⟩ | ⟨hf9, rfl, rfl, rfl⟩
            · rw [wN_hit hf9] at hR
              refine lv_istore (lv' := [(5, _), (7, _), (0, _), (1, _), (2, _), (3, _), (4, _), (6, _)]) hx hb d_Wr_putSharedName_107 hl (by decide) rfl (fun ls hl => ?_)
              refine lv_iload hx hb d_Wr_putSharedName_109 (lv_at hl 0 rfl) ?_
              refine lv_if_ge (tgt := 155) hx hb d_Wr_putSharedName_111 (by decide) (fun c20 => ?_) (fun c20 => ?_)
              · have c20 : 0 ≤ pl := (nI_leI (a := 0) (b := pl) (by omega) (by omega)).mp c20
                refine lv_iinc (lv' := [(6, .int (nI (i + 1))), (5, _), (7, _), (0, _), (1, _), (2, _), (3, _), (4, _)]) hx hb d_Wr_putSharedName_155 hl (k := 7) rfl (nI_add _ 1) (by decide) rfl (fun ls hl => ?_)
                refine lv_goto (tgt := 64) hx hb d_Wr_putSharedName_158 (by decide) ?_
                refine lv_iload hx hb d_Wr_putSharedName_64 (lv_at hl 0 rfl) ?_
                refine lv_iload_n hx hb d_Wr_putSharedName_66 rfl (lv_at hl 6 rfl) ?_
                refine lv_icmp_ge (tgt := 161) hx hb d_Wr_putSharedName_67 (by decide) (fun c21 => ?_) (fun c21 => ?_)
                · have c21 : k ≤ i + 1 := (nI_leI (a := k) (b := i + 1) (by omega) (by omega)).mp c21
                  refine lv_iload hx hb d_Wr_putSharedName_161 (lv_at hl 1 rfl) ?_
                  refine lv_if_ge (tgt := 177) hx hb d_Wr_putSharedName_163 (by decide) (fun c22 => ?_) (fun c22 => ?_)
                  · have c22 : 0 ≤ pl := (nI_leI (a := 0) (b := pl) (by omega) (by omega)).mp c22
                    refine lv_aload_n hx hb d_Wr_putSharedName_177 rfl (lv_at hl 3 rfl) ?_
                    refine va_get (D := D9) (ci := 5) (C := R_Wr) (T := F_Wr) (N := 6) hx hb hts i_Wr hown hK hP 18 ww_18 rfl 1 (by decide) (hts _ g_186) (fun _ h9 => h9) rfl d_Wr_putSharedName_178 ?_
                    refine lv_ldc hx hb hown (hts _ g_606) d_Wr_putSharedName_181 ?_
                    refine lv_topq (y := nI 49152) (rfl) ?_
                    refine lv_iload hx hb d_Wr_putSharedName_183 (lv_at hl 1 rfl) ?_
                    refine lv_ior hx hb d_Wr_putSharedName_185 ?_
                    refine lv_topq (y := nI (49152 + pl)) (or_ptr hpl) ?_
                    refine mw_cVN (ci := 0) (k := 20) C0 (m_By_putTwoL_ms l D9 cB cI cJ cG a O _ _ (X ++ B2) 0 (nI (49152 + pl)) hM2 (h132.trans (congrArg nI hXl.symm)) (by omega)) g_456 g_2 g_607 g_455 gs_By_putTwo ⟨by decide +kernel, by decide +kernel, show Option.map (fun d => d.parameters.length) (parseMethodDescriptor y_By_putTwo.desc) = some 1 by decide +kernel⟩ ⟨by decide, by decide⟩ rfl rfl hP hD hS hA rfl ww_20 hl.1 (Nat.le_of_ble_eq_true rfl) rfl d_Wr_putSharedName_186 ⟨by decide, by decide⟩ (fun v9 w9 H locs hq hP hD hS => ?_)
                    obtain ⟨I23, F24, hw9, q25⟩ := hq
                    subst hw9
                    obtain ⟨rfl, sp0, y13, spF, yM⟩ := q25
                    rw [un_nI (by omega)] at yM
                    refine lv_aload_n hx hb d_Wr_putSharedName_189 rfl (lv_at hl 3 rfl) ?_
                    refine lv_dup hx hb d_Wr_putSharedName_190 rfl ?_
                    refine va_get (D := D9) (ci := 5) (C := R_Wr) (T := F_Wr) (N := 6) hx hb hts i_Wr hown hK hP 18 ww_18 rfl 5 (by decide) (hts _ g_191) (fun _ h9 => h9) rfl d_Wr_putSharedName_191 ?_
                    refine lv_topq (y := nI pt) (((sp0 10 (by decide)).trans h102)) ?_
                    refine lv_iconst (v := 1) hx hb d_Wr_putSharedName_194 (by decide) ?_
                    refine lv_topq (y := nI 1) (rfl) ?_
                    refine lv_iadd hx hb d_Wr_putSharedName_195 ?_
                    refine lv_topq (y := nI (pt + 1)) (nI_add _ _) ?_
                    refine va_put (D := D9) (ty := .int) (ci := 5) (C := R_Wr) (T := F_Wr) (N := 6) hx hb hts i_Wr t_Wr t_Wr_ok n_Wr hown hK hP hD hS 18 ww_18 rfl 5 (by decide) (hts _ g_191) (fun _ h9 => h9) rfl (by decide +kernel) rfl rfl (Nat.le_of_ble_eq_true rfl) d_Wr_putSharedName_196 (fun H locs hP hD hS => ?_)
                    obtain ⟨I26, aI26, sI26, hP, hD⟩ := fx (P := fun z => va_P D9 cls9 (WW a cB cI cJ cG z _ O) H ∧ va_D A0 (WW a cB cI cJ cG z _ O)) ⟨wp_10 hP, wd_10 hD⟩
                    refine lv_iload hx hb d_Wr_putSharedName_199 (lv_at hl 7 rfl) ?_
                    refine lv_iconst (v := 1) hx hb d_Wr_putSharedName_201 (by decide) ?_
                    refine lv_topq (y := nI 1) (rfl) ?_
                    refine lv_iadd hx hb d_Wr_putSharedName_202 ?_
                    refine lv_topq (y := nI (r + 1)) (nI_add _ _) ?_
                    exact hret _ _ _ _ _ _ _ hS hP hD d_Wr_putSharedName_203 nr_i (by rw [hR]; exact ⟨rfl, (sm_tr (sm_tr (sm_mo hsI (by decide)) (sm_mo sp0 (by decide))) (sm_mo sI26 (by decide))), by rw [((sI26 13 (by decide)).trans y13), hXl]; exact congrArg nI (by simp only [List.length_append]; show _ = 12 + (B2.length + 2); omega), (((sI26 14 (by decide)).trans (sp0 14 (by decide))).trans h142), aI26, (sm_tr (sm_mo hsF (by decide)) (sm_mo spF (by decide))), by rw [← List.append_assoc]; exact yM, EnS_sm hS2 (spF 25 (by decide)) (spF 26 (by decide)) (spF 27 (by decide)), EnB_sm hB2 (spF 27 (by decide)) (spF 28 (by decide)) (spF 29 (by decide))⟩)
                  · have c22 : ¬ (0 ≤ pl) := fun z9 => c22 ((nI_leI (a := 0) (b := pl) (by omega) (by omega)).mpr z9)
                    exfalso; omega
                · have c21 : ¬ (k ≤ i + 1) := fun z9 => c21 ((nI_leI (a := k) (b := i + 1) (by omega) (by omega)).mpr z9)
                  refine lv_iload hx hb d_Wr_putSharedName_70 (lv_at hl 1 rfl) ?_
                  refine lv_if_ge (tgt := 161) hx hb d_Wr_putSharedName_72 (by decide) (fun c27 => ?_) (fun c27 => ?_)
                  · have c27 : 0 ≤ pl := (nI_leI (a := 0) (b := pl) (by omega) (by omega)).mp c27
                    refine lv_iload hx hb d_Wr_putSharedName_161 (lv_at hl 1 rfl) ?_
                    refine lv_if_ge (tgt := 177) hx hb d_Wr_putSharedName_163 (by decide) (fun c28 => ?_) (fun c28 => ?_)
                    · have c28 : 0 ≤ pl := (nI_leI (a := 0) (b := pl) (by omega) (by omega)).mp c28
                      refine lv_aload_n hx hb d_Wr_putSharedName_177 rfl (lv_at hl 3 rfl) ?_
                      refine va_get (D := D9) (ci := 5) (C := R_Wr) (T := F_Wr) (N := 6) hx hb hts i_Wr hown hK hP 18 ww_18 rfl 1 (by decide) (hts _ g_186) (fun _ h9 => h9) rfl d_Wr_putSharedName_178 ?_
                      refine lv_ldc hx hb hown (hts _ g_606) d_Wr_putSharedName_181 ?_
                      refine lv_topq (y := nI 49152) (rfl) ?_
                      refine lv_iload hx hb d_Wr_putSharedName_183 (lv_at hl 1 rfl) ?_
                      refine lv_ior hx hb d_Wr_putSharedName_185 ?_
                      refine lv_topq (y := nI (49152 + pl)) (or_ptr hpl) ?_
                      refine mw_cVN (ci := 0) (k := 20) C0 (m_By_putTwoL_ms l D9 cB cI cJ cG a O _ _ (X ++ B2) 0 (nI (49152 + pl)) hM2 (h132.trans (congrArg nI hXl.symm)) (by omega)) g_456 g_2 g_607 g_455 gs_By_putTwo ⟨by decide +kernel, by decide +kernel, show Option.map (fun d => d.parameters.length) (parseMethodDescriptor y_By_putTwo.desc) = some 1 by decide +kernel⟩ ⟨by decide, by decide⟩ rfl rfl hP hD hS hA rfl ww_20 hl.1 (Nat.le_of_ble_eq_true rfl) rfl d_Wr_putSharedName_186 ⟨by decide, by decide⟩ (fun v9 w9 H locs hq hP hD hS => ?_)
                      obtain ⟨I29, F30, hw9, q31⟩ := hq
                      subst hw9
                      obtain ⟨rfl, sp0, y13, spF, yM⟩ := q31
                      rw [un_nI (by omega)] at yM
                      refine lv_aload_n hx hb d_Wr_putSharedName_189 rfl (lv_at hl 3 rfl) ?_
                      refine lv_dup hx hb d_Wr_putSharedName_190 rfl ?_
                      refine va_get (D := D9) (ci := 5) (C := R_Wr) (T := F_Wr) (N := 6) hx hb hts i_Wr hown hK hP 18 ww_18 rfl 5 (by decide) (hts _ g_191) (fun _ h9 => h9) rfl d_Wr_putSharedName_191 ?_
                      refine lv_topq (y := nI pt) (((sp0 10 (by decide)).trans h102)) ?_
                      refine lv_iconst (v := 1) hx hb d_Wr_putSharedName_194 (by decide) ?_
                      refine lv_topq (y := nI 1) (rfl) ?_
                      refine lv_iadd hx hb d_Wr_putSharedName_195 ?_
                      refine lv_topq (y := nI (pt + 1)) (nI_add _ _) ?_
                      refine va_put (D := D9) (ty := .int) (ci := 5) (C := R_Wr) (T := F_Wr) (N := 6) hx hb hts i_Wr t_Wr t_Wr_ok n_Wr hown hK hP hD hS 18 ww_18 rfl 5 (by decide) (hts _ g_191) (fun _ h9 => h9) rfl (by decide +kernel) rfl rfl (Nat.le_of_ble_eq_true rfl) d_Wr_putSharedName_196 (fun H locs hP hD hS => ?_)
                      obtain ⟨I32, aI32, sI32, hP, hD⟩ := fx (P := fun z => va_P D9 cls9 (WW a cB cI cJ cG z _ O) H ∧ va_D A0 (WW a cB cI cJ cG z _ O)) ⟨wp_10 hP, wd_10 hD⟩
                      refine lv_iload hx hb d_Wr_putSharedName_199 (lv_at hl 7 rfl) ?_
                      refine lv_iconst (v := 1) hx hb d_Wr_putSharedName_201 (by decide) ?_
                      refine lv_topq (y := nI 1) (rfl) ?_
                      refine lv_iadd hx hb d_Wr_putSharedName_202 ?_
                      refine lv_topq (y := nI (r + 1)) (nI_add _ _) ?_
                      exact hret _ _ _ _ _ _ _ hS hP hD d_Wr_putSharedName_203 nr_i (by rw [hR]; exact ⟨rfl, (sm_tr (sm_tr (sm_mo hsI (by decide)) (sm_mo sp0 (by decide))) (sm_mo sI32 (by decide))), by rw [((sI32 13 (by decide)).trans y13), hXl]; exact congrArg nI (by simp only [List.length_append]; show _ = 12 + (B2.length + 2); omega), (((sI32 14 (by decide)).trans (sp0 14 (by decide))).trans h142), aI32, (sm_tr (sm_mo hsF (by decide)) (sm_mo spF (by decide))), by rw [← List.append_assoc]; exact yM, EnS_sm hS2 (spF 25 (by decide)) (spF 26 (by decide)) (spF 27 (by decide)), EnB_sm hB2 (spF 27 (by decide)) (spF 28 (by decide)) (spF 29 (by decide))⟩)
                    · have c28 : ¬ (0 ≤ pl) := fun z9 => c28 ((nI_leI (a := 0) (b := pl) (by omega) (by omega)).mpr z9)
                      exfalso; omega
                  · have c27 : ¬ (0 ≤ pl) := fun z9 => c27 ((nI_leI (a := 0) (b := pl) (by omega) (by omega)).mpr z9)
                    exfalso; omega
              · have c20 : ¬ (0 ≤ pl) := fun z9 => c20 ((nI_leI (a := 0) (b := pl) (by omega) (by omega)).mpr z9)
                exfalso; omega
            · rw [wN_miss hf9] at hR
              have hWn := wW_step hW2 hNs (by omega) hf9
              refine lv_istore (lv' := [(5, _), (7, _), (0, _), (1, _), (2, _), (3, _), (4, _), (6, _)]) hx hb d_Wr_putSharedName_107 hl (by decide) rfl (fun ls hl => ?_)
              refine lv_iload hx hb d_Wr_putSharedName_109 (lv_at hl 0 rfl) ?_
              refine lv_if_ge (tgt := 155) hx hb d_Wr_putSharedName_111 (by decide) (fun c33 => ?_) (fun c33 => ?_)
              · exact absurd c33 (by decide)
              · refine lv_aload_n hx hb d_Wr_putSharedName_114 rfl (lv_at hl 2 rfl) ?_
                refine va_get (D := D9) (ci := 5) (C := R_Wr) (T := F_Wr) (N := 6) hx hb hts i_Wr hown hK hP 18 ww_18 rfl 2 (by decide) (hts _ g_188) (fun _ h9 => h9) rfl d_Wr_putSharedName_115 ?_
                refine lv_aload_n hx hb d_Wr_putSharedName_118 rfl (lv_at hl 2 rfl) ?_
                refine va_get (D := D9) (ci := 5) (C := R_Wr) (T := F_Wr) (N := 6) hx hb hts i_Wr hown hK hP 18 ww_18 rfl 4 (by decide) (hts _ g_190) (fun _ h9 => h9) rfl d_Wr_putSharedName_119 ?_
                refine lv_iload hx hb d_Wr_putSharedName_122 (lv_at hl 7 rfl) ?_
                refine va_iald (D := D9) hx hb hK hP 23 1 ww_23 rfl (vp_in_nI (by omega) (by decide)) d_Wr_putSharedName_124 ?_
                refine lv_topq (y := mk9 G (lb G fr i)) (by rw [nI_clamp (by omega)]; exact (hK2 i (by omega))) ?_
                refine lv_iload hx hb d_Wr_putSharedName_125 (lv_at hl 1 rfl) ?_
                refine lv_aload_n hx hb d_Wr_putSharedName_127 rfl (lv_at hl 2 rfl) ?_
                refine va_get (D := D9) (ci := 5) (C := R_Wr) (T := F_Wr) (N := 6) hx hb hts i_Wr hown hK hP 18 ww_18 rfl 1 (by decide) (hts _ g_186) (fun _ h9 => h9) rfl d_Wr_putSharedName_128 ?_
                refine va_getN (D := D9) (ci := 0) (C := R_By) (T := F_By) (N := 2) hx hb hts i_By hown hK hP 20 ww_20 rfl 1 (by decide) (hts _ g_38) (fun _ h9 => h9) rfl d_Wr_putSharedName_131 ?_
                refine lv_topq (y := nI (12 + B2.length)) (h132) ?_
                refine mw_cVN (ci := 1) (k := 24) C0 (m_En_add l D9 cB cI cJ cG a O _ _ G E2 (lb G fr i) (12 + B2.length) hS2 hB2 h142 (by have := hW2.2; omega) (by have := hW2.1.2.2; omega) (by omega)) g_603 g_6 g_600 g_602 gs_En_add ⟨by decide +kernel, by decide +kernel, show Option.map (fun d => d.parameters.length) (parseMethodDescriptor y_En_add.desc) = some 3 by decide +kernel⟩ ⟨by decide, by decide⟩ rfl rfl hP hD hS hA rfl ww_24 hl.1 (Nat.le_of_ble_eq_true rfl) rfl d_Wr_putSharedName_134 ⟨by decide, by decide⟩ (fun v9 w9 H locs hq hP hD hS => ?_)
                obtain ⟨I34, F35, hw9, q36⟩ := hq
                subst hw9
                have hc8 := hW2.2
                rcases q36 with ⟨hc9, rfl, sad, y14, saF, yS, yB⟩ | ⟨hc9, rfl, rfl, rfl⟩
                · rw [if_pos hc9] at hR hWn
                  refine lv_aload_n hx hb d_Wr_putSharedName_137 rfl (lv_at hl 2 rfl) ?_
                  refine va_get (D := D9) (ci := 5) (C := R_Wr) (T := F_Wr) (N := 6) hx hb hts i_Wr hown hK hP 18 ww_18 rfl 1 (by decide) (hts _ g_186) (fun _ h9 => h9) rfl d_Wr_putSharedName_138 ?_
                  refine lv_aload_n hx hb d_Wr_putSharedName_141 rfl (lv_at hl 4 rfl) ?_
                  refine lv_iload hx hb d_Wr_putSharedName_142 (lv_at hl 1 rfl) ?_
                  refine lv_aload_n hx hb d_Wr_putSharedName_144 rfl (lv_at hl 4 rfl) ?_
                  refine lv_iload hx hb d_Wr_putSharedName_145 (lv_at hl 1 rfl) ?_
                  refine mw_cVN (ci := 0) (k := 3) C0 (m_By_atL_gb l D9 cB cI cJ cG a O _ _ G (lb G fr i) (BR_eq hGB ((saF 4 (by decide)).trans (hsF 4 (by decide)))) hGl (by omega)) g_259 g_2 g_586 g_258 gs_By_at ⟨by decide +kernel, by decide +kernel, show Option.map (fun d => d.parameters.length) (parseMethodDescriptor y_By_at.desc) = some 1 by decide +kernel⟩ ⟨by decide, by decide⟩ rfl rfl hP hD hS hA rfl ww_3 hl.1 (Nat.le_of_ble_eq_true rfl) rfl d_Wr_putSharedName_147 ⟨by decide, by decide⟩ (fun v9 w9 H locs hq hP hD hS => ?_)
                  obtain ⟨I37, F38, hw9, q39⟩ := hq
                  subst hw9
                  obtain ⟨rfl, rfl, rfl⟩ := q39
                  refine lv_iconst (v := 1) hx hb d_Wr_putSharedName_150 (by decide) ?_
                  refine lv_topq (y := nI 1) (rfl) ?_
                  refine lv_iadd hx hb d_Wr_putSharedName_151 ?_
                  refine lv_topq (y := nI (tb G (lb G fr i) + 1)) (nI_add _ _) ?_
                  refine mw_cVN (ci := 0) (k := 20) C0 (m_By_putFrom_ms_gb l D9 cB cI cJ cG a O _ _ (X ++ B2) G 0 (lb G fr i) (tb G (lb G fr i) + 1) (BR_eq hM2 (saF 21 (by decide))) (BR_eq hGB ((saF 4 (by decide)).trans (hsF 4 (by decide)))) (((sad 13 (by decide)).trans h132).trans (congrArg nI hXl.symm)) hGl (by omega) (by omega)) g_300 g_2 g_604 g_299 gs_By_putFrom ⟨by decide +kernel, by decide +kernel, show Option.map (fun d => d.parameters.length) (parseMethodDescriptor y_By_putFrom.desc) = some 3 by decide +kernel⟩ ⟨by decide, by decide⟩ rfl rfl hP hD hS hA rfl ww_20 hl.1 (Nat.le_of_ble_eq_true rfl) rfl d_Wr_putSharedName_152 ⟨by decide, by decide⟩ (fun v9 w9 H locs hq hP hD hS => ?_)
                  obtain ⟨I40, F41, hw9, q42⟩ := hq
                  subst hw9
                  obtain ⟨rfl, spf, y13, spF, yM⟩ := q42
                  refine lv_iinc (lv' := [(6, .int (nI (i + 1))), (5, _), (7, _), (0, _), (1, _), (2, _), (3, _), (4, _)]) hx hb d_Wr_putSharedName_155 hl (k := 7) rfl (nI_add _ 1) (by decide) rfl (fun ls hl => ?_)
                  refine lv_goto (tgt := 64) hx hb d_Wr_putSharedName_158 (by decide) ?_
                  have hBn : (B2 ++ sl9 G (lb G fr i) (tb G (lb G fr i) + 1)).length = B2.length + (tb G (lb G fr i) + 1) := by rw [List.length_append, sl9_len (by omega)]
                  exact ih _ (by omega) (i + 1) (B2 ++ sl9 G (lb G fr i) (tb G (lb G fr i) + 1)) (E2 ++ [(12 + B2.length, lb G fr i)]) _ _ _ _ _ (sm_tr (sm_tr (sm_mo hsI (by decide)) (sm_mo sad (by decide))) (sm_mo spf (by decide))) (sm_tr (sm_tr (sm_mo hsF (by decide)) (sm_mo saF (by decide))) (sm_mo spF (by decide))) rfl (by omega) hR (fun j hj => ((congrFun (spF 22 (by decide)) _).trans ((congrFun (saF 22 (by decide)) _).trans (hL2 j hj)))) (fun j hj => ((congrFun (spF 23 (by decide)) _).trans ((congrFun (saF 23 (by decide)) _).trans (hK2 j hj)))) (by rw [← List.append_assoc]; exact yM) (by rw [hBn, ← Nat.add_assoc]; rw [hXl] at y13; exact y13) (by omega) (by rw [List.length_append]; exact EnS_sm yS (spF 25 (by decide)) (spF 26 (by decide)) (spF 27 (by decide))) (EnB_sm yB (spF 27 (by decide)) (spF 28 (by decide)) (spF 29 (by decide))) (by rw [List.length_append]; exact ((spf 14 (by decide)).trans y14)) hWn (((spf 10 (by decide)).trans (sad 10 (by decide))).trans h102) hP hD hS (lv_pk hl [3, 4, 5, 6, 7, 1, 0] rfl)
                · rw [if_neg hc9] at hR hWn
                  refine lv_aload_n hx hb d_Wr_putSharedName_137 rfl (lv_at hl 2 rfl) ?_
                  refine va_get (D := D9) (ci := 5) (C := R_Wr) (T := F_Wr) (N := 6) hx hb hts i_Wr hown hK hP 18 ww_18 rfl 1 (by decide) (hts _ g_186) (fun _ h9 => h9) rfl d_Wr_putSharedName_138 ?_
                  refine lv_aload_n hx hb d_Wr_putSharedName_141 rfl (lv_at hl 4 rfl) ?_
                  refine lv_iload hx hb d_Wr_putSharedName_142 (lv_at hl 1 rfl) ?_
                  refine lv_aload_n hx hb d_Wr_putSharedName_144 rfl (lv_at hl 4 rfl) ?_
                  refine lv_iload hx hb d_Wr_putSharedName_145 (lv_at hl 1 rfl) ?_
                  refine mw_cVN (ci := 0) (k := 3) C0 (m_By_atL_gb l D9 cB cI cJ cG a O _ _ G (lb G fr i) (BR_eq hGB (hsF 4 (by decide))) hGl (by omega)) g_259 g_2 g_586 g_258 gs_By_at ⟨by decide +kernel, by decide +kernel, show Option.map (fun d => d.parameters.length) (parseMethodDescriptor y_By_at.desc) = some 1 by decide +kernel⟩ ⟨by decide, by decide⟩ rfl rfl hP hD hS hA rfl ww_3 hl.1 (Nat.le_of_ble_eq_true rfl) rfl d_Wr_putSharedName_147 ⟨by decide, by decide⟩ (fun v9 w9 H locs hq hP hD hS => ?_)
                  obtain ⟨I43, F44, hw9, q45⟩ := hq
                  subst hw9
                  obtain ⟨rfl, rfl, rfl⟩ := q45
                  refine lv_iconst (v := 1) hx hb d_Wr_putSharedName_150 (by decide) ?_
                  refine lv_topq (y := nI 1) (rfl) ?_
                  refine lv_iadd hx hb d_Wr_putSharedName_151 ?_
                  refine lv_topq (y := nI (tb G (lb G fr i) + 1)) (nI_add _ _) ?_
                  refine mw_cVN (ci := 0) (k := 20) C0 (m_By_putFrom_ms_gb l D9 cB cI cJ cG a O _ _ (X ++ B2) G 0 (lb G fr i) (tb G (lb G fr i) + 1) (BR_eq hM2 rfl) (BR_eq hGB (hsF 4 (by decide))) (h132.trans (congrArg nI hXl.symm)) hGl (by omega) (by omega)) g_300 g_2 g_604 g_299 gs_By_putFrom ⟨by decide +kernel, by decide +kernel, show Option.map (fun d => d.parameters.length) (parseMethodDescriptor y_By_putFrom.desc) = some 3 by decide +kernel⟩ ⟨by decide, by decide⟩ rfl rfl hP hD hS hA rfl ww_20 hl.1 (Nat.le_of_ble_eq_true rfl) rfl d_Wr_putSharedName_152 ⟨by decide, by decide⟩ (fun v9 w9 H locs hq hP hD hS => ?_)
                  obtain ⟨I46, F47, hw9, q48⟩ := hq
                  subst hw9
                  obtain ⟨rfl, spf, y13, spF, yM⟩ := q48
                  refine lv_iinc (lv' := [(6, .int (nI (i + 1))), (5, _), (7, _), (0, _), (1, _), (2, _), (3, _), (4, _)]) hx hb d_Wr_putSharedName_155 hl (k := 7) rfl (nI_add _ 1) (by decide) rfl (fun ls hl => ?_)
                  refine lv_goto (tgt := 64) hx hb d_Wr_putSharedName_158 (by decide) ?_
                  have hBn : (B2 ++ sl9 G (lb G fr i) (tb G (lb G fr i) + 1)).length = B2.length + (tb G (lb G fr i) + 1) := by rw [List.length_append, sl9_len (by omega)]
                  exact ih _ (by omega) (i + 1) (B2 ++ sl9 G (lb G fr i) (tb G (lb G fr i) + 1)) E2 _ _ _ _ _ (sm_tr (sm_mo hsI (by decide)) (sm_mo spf (by decide))) (sm_tr (sm_mo hsF (by decide)) (sm_mo spF (by decide))) rfl (by omega) hR (fun j hj => ((congrFun (spF 22 (by decide)) _).trans (hL2 j hj))) (fun j hj => ((congrFun (spF 23 (by decide)) _).trans (hK2 j hj))) (by rw [← List.append_assoc]; exact yM) (by rw [hBn, ← Nat.add_assoc]; rw [hXl] at y13; exact y13) (by omega) (EnS_sm hS2 (spF 25 (by decide)) (spF 26 (by decide)) (spF 27 (by decide))) (EnB_sm hB2 (spF 27 (by decide)) (spF 28 (by decide)) (spF 29 (by decide))) ((spf 14 (by decide)).trans h142) hWn ((spf 10 (by decide)).trans h102) hP hD hS (lv_pk hl [3, 4, 5, 6, 7, 1, 0] rfl)
    exact loop1 _ 0 B E _ _ _ _ _ sm_rf (sm_tr (sm_mo sfl (by decide)) (sm_mo smk (by decide))) rfl (Nat.zero_le _) rfl (fun j hj => ((congrFun (smk 22 (by decide)) _).trans (hfl j hj))) (fun j hj => by rw [hmk j hj]; unfold mk9; rw [rt_of (isN_lb hN j (by omega)) (by omega)]) (BR_eq hM ((smk 21 (by decide)).trans (sfl 21 (by decide)))) h13 (by omega) (EnS_sm hS9 ((smk 25 (by decide)).trans (sfl 25 (by decide))) ((smk 26 (by decide)).trans (sfl 26 (by decide))) ((smk 27 (by decide)).trans (sfl 27 (by decide)))) (EnB_sm hB9 ((smk 27 (by decide)).trans (sfl 27 (by decide))) ((smk 28 (by decide)).trans (sfl 28 (by decide))) ((smk 29 (by decide)).trans (sfl 29 (by decide)))) h14 hW h10 hP hD hS (lv_pk hl [5, 6, 4, 3, 2, 1, 0] rfl)
  · have c4 : k = 0 := (nI_eq (a := k) (b := 0) (by omega) (by omega)).mp c4
    have hrt := isN_zero hN (by omega)
    refine lv_iload_n hx hb d_Wr_putSharedName_22 rfl (lv_at hl 3 rfl) ?_
    refine lv_goto (tgt := 49) hx hb d_Wr_putSharedName_23 (by decide) ?_
    refine lv_topq (y := nI r) (congrArg nI hrt) ?_
    refine lv_istore (lv' := [(4, _), (3, _), (2, _), (0, _), (1, _)]) hx hb d_Wr_putSharedName_49 hl (by decide) rfl (fun ls hl => ?_)
    refine lv_aload_n hx hb d_Wr_putSharedName_51 rfl (lv_at hl 3 rfl) ?_
    refine lv_iload_n hx hb d_Wr_putSharedName_52 rfl (lv_at hl 1 rfl) ?_
    refine lv_iload hx hb d_Wr_putSharedName_53 (lv_at hl 0 rfl) ?_
    refine mw_cV (ci := 5) (k := 18) C0 (m_Wr_markEnds l D9 cB cI cJ cG a O _ _ G hGl (BR_eq hGB (sfl 4 (by decide))) k fr r hN hk (fun j hj => (hfl j hj))) g_590 g_5 g_587 g_589 gs_Wr_markEnds ⟨by decide +kernel, by decide +kernel, show Option.map (fun d => d.parameters.length) (parseMethodDescriptor y_Wr_markEnds.desc) = some 2 by decide +kernel⟩ ⟨by decide, by decide⟩ rfl rfl hP hD hS hA rfl ww_18 hl.1 (Nat.le_of_ble_eq_true rfl) rfl d_Wr_putSharedName_55 ⟨by decide, by decide⟩ (fun v9 w9 H locs hq hP hD hS => ?_)
    obtain ⟨I49, F50, hw9, q51⟩ := hq
    subst hw9
    obtain ⟨rfl, rfl, smk, hmk⟩ := q51
    refine lv_iconst (v := -1) hx hb d_Wr_putSharedName_58 (by decide) ?_
    refine lv_topq (y := (-1 : Int32)) rfl ?_
    refine lv_istore (lv' := [(5, _), (4, _), (3, _), (2, _), (0, _), (1, _)]) hx hb d_Wr_putSharedName_59 hl (by decide) rfl (fun ls hl => ?_)
    refine lv_iconst (v := 0) hx hb d_Wr_putSharedName_61 (by decide) ?_
    refine lv_topq (y := nI 0) (rfl) ?_
    refine lv_istore (lv' := [(6, _), (5, _), (4, _), (3, _), (2, _), (0, _), (1, _)]) hx hb d_Wr_putSharedName_62 hl (by decide) rfl (fun ls hl => ?_)
    have loop1 : ∀ (n9 : Nat) (i : Nat) (B2 : List Nat) (E2 : List (Nat × Nat)) (I9 : Nat → Int32) (F9 : Nat → Nat → Int32) (H : Heap) (locs : List Loc) (ls : Array Slot), (sm [10, 13, 14] I I9) → (sm [21, 22, 23, 25, 26, 27, 28, 29] F F9) → (k - i = n9) → (i ≤ k) → (wN G k fr B E pt = wN G (k - i) (lb G fr i) B2 E2 pt) → (∀ j, j < k → F9 22 j = nI (lb G fr j)) → (∀ j, j < k → F9 23 j = mk9 G (lb G fr j)) → (BR 0 65536 (F9 21) (X ++ B2)) → (I9 13 = nI (12 + B2.length)) → (B2.length ≤ B.length + 65 * i) → (EnS F9 E2.length) → (EnB F9 G E2) → (I9 14 = nI E2.length) → (wW G B2 E2) → (I9 10 = nI pt) → va_P D9 cls9 (WW a cB cI cJ cG I9 F9 O) H → va_D A0 (WW a cB cI cJ cG I9 F9 O) → va_S A0 s.heap H locs → lv_has ls 8 [(0, .ref (a 18)), (1, .int (nI fr)), (2, .ref (a 3)), (3, .int (nI k)), (4, .int (nI r)), (5, .int ((-1 : Int32))), (6, .int (nI i))] → W p l e (rm9 3 0 0) s m ([.ref (a 18), .int (nI fr)] : List Value).toArray below meth c H locs 0 0 Q (F0 m 64 ls []) := by
      intro n9
      induction n9 using Nat.strongRecOn with
      | ind n9 ih =>
        intro i B2 E2 I9 F9 H locs ls hsI hsF hn9 hi hR hL2 hK2 hM2 h132 hBb2 hS2 hB2 h142 hW2 h102 hP hD hS hl
        have hGB9 : BR 0 65536 (F9 4) G := BR_eq hGB (hsF 4 (by decide))
        have hXl : (X ++ B2).length = 12 + B2.length := by rw [List.length_append, hX]
        have hNi := isN_lb hN i hi
        have hpi := isN_p hNi
        have hri := isN_r hNi
        refine lv_iload hx hb d_Wr_putSharedName_64 (lv_at hl 6 rfl) ?_
        refine lv_iload_n hx hb d_Wr_putSharedName_66 rfl (lv_at hl 3 rfl) ?_
        refine lv_icmp_ge (tgt := 161) hx hb d_Wr_putSharedName_67 (by decide) (fun c52 => ?_) (fun c52 => ?_)
        · have c52 : k ≤ i := (nI_leI (a := k) (b := i) (by omega) (by omega)).mp c52
          have hik : k - i = 0 := by omega
          rw [hik] at hR
          have hR : wN G k fr B E pt = (B2 ++ [0], E2, pt) := hR
          refine lv_iload hx hb d_Wr_putSharedName_161 (lv_at hl 5 rfl) ?_
          refine lv_if_ge (tgt := 177) hx hb d_Wr_putSharedName_163 (by decide) (fun c53 => ?_) (fun c53 => ?_)
          · exact absurd c53 (by decide)
          · refine lv_aload_n hx hb d_Wr_putSharedName_166 rfl (lv_at hl 0 rfl) ?_
            refine va_get (D := D9) (ci := 5) (C := R_Wr) (T := F_Wr) (N := 6) hx hb hts i_Wr hown hK hP 18 ww_18 rfl 1 (by decide) (hts _ g_186) (fun _ h9 => h9) rfl d_Wr_putSharedName_167 ?_
            refine lv_iconst (v := 0) hx hb d_Wr_putSharedName_170 (by decide) ?_
            refine lv_topq (y := nI 0) (rfl) ?_
            refine mw_cVN (ci := 0) (k := 20) C0 (m_By_putL_ms l D9 cB cI cJ cG a O _ _ (X ++ B2) 0 (nI 0) hM2 (h132.trans (congrArg nI hXl.symm)) (by omega)) g_284 g_2 g_605 g_283 gs_By_put ⟨by decide +kernel, by decide +kernel, show Option.map (fun d => d.parameters.length) (parseMethodDescriptor y_By_put.desc) = some 1 by decide +kernel⟩ ⟨by decide, by decide⟩ rfl rfl hP hD hS hA rfl ww_20 hl.1 (Nat.le_of_ble_eq_true rfl) rfl d_Wr_putSharedName_171 ⟨by decide, by decide⟩ (fun v9 w9 H locs hq hP hD hS => ?_)
            obtain ⟨I54, F55, hw9, q56⟩ := hq
            subst hw9
            obtain ⟨rfl, sp0, y13, spF, yM⟩ := q56
            refine lv_goto (tgt := 199) hx hb d_Wr_putSharedName_174 (by decide) ?_
            refine lv_iload hx hb d_Wr_putSharedName_199 (lv_at hl 4 rfl) ?_
            refine lv_iconst (v := 1) hx hb d_Wr_putSharedName_201 (by decide) ?_
            refine lv_topq (y := nI 1) (rfl) ?_
            refine lv_iadd hx hb d_Wr_putSharedName_202 ?_
            refine lv_topq (y := nI (r + 1)) (nI_add _ _) ?_
            exact hret _ _ _ _ _ _ _ hS hP hD d_Wr_putSharedName_203 nr_i (by rw [hR]; exact ⟨rfl, (sm_tr (sm_mo hsI (by decide)) (sm_mo sp0 (by decide))), by rw [y13, hXl]; exact congrArg nI (by simp only [List.length_append]; show _ = 12 + (B2.length + 1); omega), ((sp0 14 (by decide)).trans h142), ((sp0 10 (by decide)).trans h102), (sm_tr (sm_mo hsF (by decide)) (sm_mo spF (by decide))), by rw [← List.append_assoc]; exact yM, EnS_sm hS2 (spF 25 (by decide)) (spF 26 (by decide)) (spF 27 (by decide)), EnB_sm hB2 (spF 27 (by decide)) (spF 28 (by decide)) (spF 29 (by decide))⟩)
        · have c52 : ¬ (k ≤ i) := fun z9 => c52 ((nI_leI (a := k) (b := i) (by omega) (by omega)).mpr z9)
          have hik : k - i = (k - (i + 1)) + 1 := by omega
          rw [hik] at hR
          have hNs : isN G ((k - (i + 1)) + 1) (lb G fr i) r := by rw [← hik]; exact hNi
          have hin := isN_in hNs (by omega)
          refine lv_iload hx hb d_Wr_putSharedName_70 (lv_at hl 5 rfl) ?_
          refine lv_if_ge (tgt := 161) hx hb d_Wr_putSharedName_72 (by decide) (fun c57 => ?_) (fun c57 => ?_)
          · exact absurd c57 (by decide)
          · refine lv_aload_n hx hb d_Wr_putSharedName_75 rfl (lv_at hl 0 rfl) ?_
            refine va_get (D := D9) (ci := 5) (C := R_Wr) (T := F_Wr) (N := 6) hx hb hts i_Wr hown hK hP 18 ww_18 rfl 3 (by decide) (hts _ g_189) (fun _ h9 => h9) rfl d_Wr_putSharedName_76 ?_
            refine lv_iload hx hb d_Wr_putSharedName_79 (lv_at hl 6 rfl) ?_
            refine va_iald (D := D9) hx hb hK hP 22 1 ww_22 rfl (vp_in_nI (by omega) (by decide)) d_Wr_putSharedName_81 ?_
            refine lv_topq (y := nI (lb G fr i)) (by rw [nI_clamp (by omega)]; exact (hL2 i (by omega))) ?_
            refine lv_istore (lv' := [(7, _), (0, _), (1, _), (2, _), (3, _), (4, _), (5, _), (6, _)]) hx hb d_Wr_putSharedName_82 hl (by decide) rfl (fun ls hl => ?_)
            refine lv_aload_n hx hb d_Wr_putSharedName_84 rfl (lv_at hl 1 rfl) ?_
            refine va_get (D := D9) (ci := 5) (C := R_Wr) (T := F_Wr) (N := 6) hx hb hts i_Wr hown hK hP 18 ww_18 rfl 2 (by decide) (hts _ g_188) (fun _ h9 => h9) rfl d_Wr_putSharedName_85 ?_
            refine lv_aload_n hx hb d_Wr_putSharedName_88 rfl (lv_at hl 1 rfl) ?_
            refine va_get (D := D9) (ci := 5) (C := R_Wr) (T := F_Wr) (N := 6) hx hb hts i_Wr hown hK hP 18 ww_18 rfl 4 (by decide) (hts _ g_190) (fun _ h9 => h9) rfl d_Wr_putSharedName_89 ?_
            refine lv_iload hx hb d_Wr_putSharedName_92 (lv_at hl 7 rfl) ?_
            refine va_iald (D := D9) hx hb hK hP 23 1 ww_23 rfl (vp_in_nI (by omega) (by decide)) d_Wr_putSharedName_94 ?_
            refine lv_topq (y := mk9 G (lb G fr i)) (by rw [nI_clamp (by omega)]; exact (hK2 i (by omega))) ?_
            refine lv_iload hx hb d_Wr_putSharedName_95 (lv_at hl 0 rfl) ?_
            refine lv_iload hx hb d_Wr_putSharedName_97 (lv_at hl 5 rfl) ?_
            refine lv_iconst (v := 1) hx hb d_Wr_putSharedName_99 (by decide) ?_
            refine lv_topq (y := nI 1) (rfl) ?_
            refine lv_iadd hx hb d_Wr_putSharedName_100 ?_
            refine lv_topq (y := nI (r + 1)) (nI_add _ _) ?_
            refine lv_iload hx hb d_Wr_putSharedName_101 (lv_at hl 0 rfl) ?_
            refine lv_isub hx hb d_Wr_putSharedName_103 ?_
            refine lv_topq (y := nI ((r + 1) - (lb G fr i))) (pk_sub (by omega)) ?_
            refine mw_cVN (ci := 1) (k := 24) C0 (m_En_placeOf l D9 cB cI cJ cG a O _ _ G hGl hGB9 E2 ((k - (i + 1)) + 1) (lb G fr i) r hNs (by omega) hS2 hB2 hW2.1) g_594 g_6 g_591 g_593 gs_En_placeOf ⟨by decide +kernel, by decide +kernel, show Option.map (fun d => d.parameters.length) (parseMethodDescriptor y_En_placeOf.desc) = some 3 by decide +kernel⟩ ⟨by decide, by decide⟩ rfl rfl hP hD hS hA rfl ww_24 hl.1 (Nat.le_of_ble_eq_true rfl) rfl d_Wr_putSharedName_104 ⟨by decide, by decide⟩ (fun v9 w9 H locs hq hP hD hS => ?_)
            obtain ⟨I58, F59, hw9, q60⟩ := hq
            subst hw9
            rcases q60 with ⟨pl, hf9, hpl, rfl, rfl, rfl⟩ | ⟨hf9, rfl, rfl, rfl⟩
            · rw [wN_hit hf9] at hR
              refine lv_istore (lv' := [(5, _), (7, _), (0, _), (1, _), (2, _), (3, _), (4, _), (6, _)]) hx hb d_Wr_putSharedName_107 hl (by decide) rfl (fun ls hl => ?_)
              refine lv_iload hx hb d_Wr_putSharedName_109 (lv_at hl 0 rfl) ?_
              refine lv_if_ge (tgt := 155) hx hb d_Wr_putSharedName_111 (by decide) (fun c61 => ?_) (fun c61 => ?_)
              · have c61 : 0 ≤ pl := (nI_leI (a := 0) (b := pl) (by omega) (by omega)).mp c61
                refine lv_iinc (lv' := [(6, .int (nI (i + 1))), (5, _), (7, _), (0, _), (1, _), (2, _), (3, _), (4, _)]) hx hb d_Wr_putSharedName_155 hl (k := 7) rfl (nI_add _ 1) (by decide) rfl (fun ls hl => ?_)
                refine lv_goto (tgt := 64) hx hb d_Wr_putSharedName_158 (by decide) ?_
                refine lv_iload hx hb d_Wr_putSharedName_64 (lv_at hl 0 rfl) ?_
                refine lv_iload_n hx hb d_Wr_putSharedName_66 rfl (lv_at hl 6 rfl) ?_
                refine lv_icmp_ge (tgt := 161) hx hb d_Wr_putSharedName_67 (by decide) (fun c62 => ?_) (fun c62 => ?_)
                · have c62 : k ≤ i + 1 := (nI_leI (a := k) (b := i + 1) (by omega) (by omega)).mp c62
                  refine lv_iload hx hb d_Wr_putSharedName_161 (lv_at hl 1 rfl) ?_
                  refine lv_if_ge (tgt := 177) hx hb d_Wr_putSharedName_163 (by decide) (fun c63 => ?_) (fun c63 => ?_)
                  · have c63 : 0 ≤ pl := (nI_leI (a := 0) (b := pl) (by omega) (by omega)).mp c63
                    refine lv_aload_n hx hb d_Wr_putSharedName_177 rfl (lv_at hl 3 rfl) ?_
                    refine va_get (D := D9) (ci := 5) (C := R_Wr) (T := F_Wr) (N := 6) hx hb hts i_Wr hown hK hP 18 ww_18 rfl 1 (by decide) (hts _ g_186) (fun _ h9 => h9) rfl d_Wr_putSharedName_178 ?_
                    refine lv_ldc hx hb hown (hts _ g_606) d_Wr_putSharedName_181 ?_
                    refine lv_topq (y := nI 49152) (rfl) ?_
                    refine lv_iload hx hb d_Wr_putSharedName_183 (lv_at hl 1 rfl) ?_
                    refine lv_ior hx hb d_Wr_putSharedName_185 ?_
                    refine lv_topq (y := nI (49152 + pl)) (or_ptr hpl) ?_
                    refine mw_cVN (ci := 0) (k := 20) C0 (m_By_putTwoL_ms l D9 cB cI cJ cG a O _ _ (X ++ B2) 0 (nI (49152 + pl)) hM2 (h132.trans (congrArg nI hXl.symm)) (by omega)) g_456 g_2 g_607 g_455 gs_By_putTwo ⟨by decide +kernel, by decide +kernel, show Option.map (fun d => d.parameters.length) (parseMethodDescriptor y_By_putTwo.desc) = some 1 by decide +kernel⟩ ⟨by decide, by decide⟩ rfl rfl hP hD hS hA rfl ww_20 hl.1 (Nat.le_of_ble_eq_true rfl) rfl d_Wr_putSharedName_186 ⟨by decide, by decide⟩ (fun v9 w9 H locs hq hP hD hS => ?_)
                    obtain ⟨I64, F65, hw9, q66⟩ := hq
                    subst hw9
                    obtain ⟨rfl, sp0, y13, spF, yM⟩ := q66
                    rw [un_nI (by omega)] at yM
                    refine lv_aload_n hx hb d_Wr_putSharedName_189 rfl (lv_at hl 3 rfl) ?_
                    refine lv_dup hx hb d_Wr_putSharedName_190 rfl ?_
                    refine va_get (D := D9) (ci := 5) (C := R_Wr) (T := F_Wr) (N := 6) hx hb hts i_Wr hown hK hP 18 ww_18 rfl 5 (by decide) (hts _ g_191) (fun _ h9 => h9) rfl d_Wr_putSharedName_191 ?_
                    refine lv_topq (y := nI pt) (((sp0 10 (by decide)).trans h102)) ?_
                    refine lv_iconst (v := 1) hx hb d_Wr_putSharedName_194 (by decide) ?_
                    refine lv_topq (y := nI 1) (rfl) ?_
                    refine lv_iadd hx hb d_Wr_putSharedName_195 ?_
                    refine lv_topq (y := nI (pt + 1)) (nI_add _ _) ?_
                    refine va_put (D := D9) (ty := .int) (ci := 5) (C := R_Wr) (T := F_Wr) (N := 6) hx hb hts i_Wr t_Wr t_Wr_ok n_Wr hown hK hP hD hS 18 ww_18 rfl 5 (by decide) (hts _ g_191) (fun _ h9 => h9) rfl (by decide +kernel) rfl rfl (Nat.le_of_ble_eq_true rfl) d_Wr_putSharedName_196 (fun H locs hP hD hS => ?_)
                    obtain ⟨I67, aI67, sI67, hP, hD⟩ := fx (P := fun z => va_P D9 cls9 (WW a cB cI cJ cG z _ O) H ∧ va_D A0 (WW a cB cI cJ cG z _ O)) ⟨wp_10 hP, wd_10 hD⟩
                    refine lv_iload hx hb d_Wr_putSharedName_199 (lv_at hl 7 rfl) ?_
                    refine lv_iconst (v := 1) hx hb d_Wr_putSharedName_201 (by decide) ?_
                    refine lv_topq (y := nI 1) (rfl) ?_
                    refine lv_iadd hx hb d_Wr_putSharedName_202 ?_
                    refine lv_topq (y := nI (r + 1)) (nI_add _ _) ?_
                    exact hret _ _ _ _ _ _ _ hS hP hD d_Wr_putSharedName_203 nr_i (by rw [hR]; exact ⟨rfl, (sm_tr (sm_tr (sm_mo hsI (by decide)) (sm_mo sp0 (by decide))) (sm_mo sI67 (by decide))), by rw [((sI67 13 (by decide)).trans y13), hXl]; exact congrArg nI (by simp only [List.length_append]; show _ = 12 + (B2.length + 2); omega), (((sI67 14 (by decide)).trans (sp0 14 (by decide))).trans h142), aI67, (sm_tr (sm_mo hsF (by decide)) (sm_mo spF (by decide))), by rw [← List.append_assoc]; exact yM, EnS_sm hS2 (spF 25 (by decide)) (spF 26 (by decide)) (spF 27 (by decide)), EnB_sm hB2 (spF 27 (by decide)) (spF 28 (by decide)) (spF 29 (by decide))⟩)
                  · have c63 : ¬ (0 ≤ pl) := fun z9 => c63 ((nI_leI (a := 0) (b := pl) (by omega) (by omega)).mpr z9)
                    exfalso; omega
                · have c62 : ¬ (k ≤ i + 1) := fun z9 => c62 ((nI_leI (a := k) (b := i + 1) (by omega) (by omega)).mpr z9)
                  refine lv_iload hx hb d_Wr_putSharedName_70 (lv_at hl 1 rfl) ?_
                  refine lv_if_ge (tgt := 161) hx hb d_Wr_putSharedName_72 (by decide) (fun c68 => ?_) (fun c68 => ?_)
                  · have c68 : 0 ≤ pl := (nI_leI (a := 0) (b := pl) (by omega) (by omega)).mp c68
                    refine lv_iload hx hb d_Wr_putSharedName_161 (lv_at hl 1 rfl) ?_
                    refine lv_if_ge (tgt := 177) hx hb d_Wr_putSharedName_163 (by decide) (fun c69 => ?_) (fun c69 => ?_)
                    · have c69 : 0 ≤ pl := (nI_leI (a := 0) (b := pl) (by omega) (by omega)).mp c69
                      refine lv_aload_n hx hb d_Wr_putSharedName_177 rfl (lv_at hl 3 rfl) ?_
                      refine va_get (D := D9) (ci := 5) (C := R_Wr) (T := F_Wr) (N := 6) hx hb hts i_Wr hown hK hP 18 ww_18 rfl 1 (by decide) (hts _ g_186) (fun _ h9 => h9) rfl d_Wr_putSharedName_178 ?_
                      refine lv_ldc hx hb hown (hts _ g_606) d_Wr_putSharedName_181 ?_
                      refine lv_topq (y := nI 49152) (rfl) ?_
                      refine lv_iload hx hb d_Wr_putSharedName_183 (lv_at hl 1 rfl) ?_
                      refine lv_ior hx hb d_Wr_putSharedName_185 ?_
                      refine lv_topq (y := nI (49152 + pl)) (or_ptr hpl) ?_
                      refine mw_cVN (ci := 0) (k := 20) C0 (m_By_putTwoL_ms l D9 cB cI cJ cG a O _ _ (X ++ B2) 0 (nI (49152 + pl)) hM2 (h132.trans (congrArg nI hXl.symm)) (by omega)) g_456 g_2 g_607 g_455 gs_By_putTwo ⟨by decide +kernel, by decide +kernel, show Option.map (fun d => d.parameters.length) (parseMethodDescriptor y_By_putTwo.desc) = some 1 by decide +kernel⟩ ⟨by decide, by decide⟩ rfl rfl hP hD hS hA rfl ww_20 hl.1 (Nat.le_of_ble_eq_true rfl) rfl d_Wr_putSharedName_186 ⟨by decide, by decide⟩ (fun v9 w9 H locs hq hP hD hS => ?_)
                      obtain ⟨I70, F71, hw9, q72⟩ := hq
                      subst hw9
                      obtain ⟨rfl, sp0, y13, spF, yM⟩ := q72
                      rw [un_nI (by omega)] at yM
                      refine lv_aload_n hx hb d_Wr_putSharedName_189 rfl (lv_at hl 3 rfl) ?_
                      refine lv_dup hx hb d_Wr_putSharedName_190 rfl ?_
                      refine va_get (D := D9) (ci := 5) (C := R_Wr) (T := F_Wr) (N := 6) hx hb hts i_Wr hown hK hP 18 ww_18 rfl 5 (by decide) (hts _ g_191) (fun _ h9 => h9) rfl d_Wr_putSharedName_191 ?_
                      refine lv_topq (y := nI pt) (((sp0 10 (by decide)).trans h102)) ?_
                      refine lv_iconst (v := 1) hx hb d_Wr_putSharedName_194 (by decide) ?_
                      refine lv_topq (y := nI 1) (rfl) ?_
                      refine lv_iadd hx hb d_Wr_putSharedName_195 ?_
                      refine lv_topq (y := nI (pt + 1)) (nI_add _ _) ?_
                      refine va_put (D := D9) (ty := .int) (ci := 5) (C := R_Wr) (T := F_Wr) (N := 6) hx hb hts i_Wr t_Wr t_Wr_ok n_Wr hown hK hP hD hS 18 ww_18 rfl 5 (by decide) (hts _ g_191) (fun _ h9 => h9) rfl (by decide +kernel) rfl rfl (Nat.le_of_ble_eq_true rfl) d_Wr_putSharedName_196 (fun H locs hP hD hS => ?_)
                      obtain ⟨I73, aI73, sI73, hP, hD⟩ := fx (P := fun z => va_P D9 cls9 (WW a cB cI cJ cG z _ O) H ∧ va_D A0 (WW a cB cI cJ cG z _ O)) ⟨wp_10 hP, wd_10 hD⟩
                      refine lv_iload hx hb d_Wr_putSharedName_199 (lv_at hl 7 rfl) ?_
                      refine lv_iconst (v := 1) hx hb d_Wr_putSharedName_201 (by decide) ?_
                      refine lv_topq (y := nI 1) (rfl) ?_
                      refine lv_iadd hx hb d_Wr_putSharedName_202 ?_
                      refine lv_topq (y := nI (r + 1)) (nI_add _ _) ?_
                      exact hret _ _ _ _ _ _ _ hS hP hD d_Wr_putSharedName_203 nr_i (by rw [hR]; exact ⟨rfl, (sm_tr (sm_tr (sm_mo hsI (by decide)) (sm_mo sp0 (by decide))) (sm_mo sI73 (by decide))), by rw [((sI73 13 (by decide)).trans y13), hXl]; exact congrArg nI (by simp only [List.length_append]; show _ = 12 + (B2.length + 2); omega), (((sI73 14 (by decide)).trans (sp0 14 (by decide))).trans h142), aI73, (sm_tr (sm_mo hsF (by decide)) (sm_mo spF (by decide))), by rw [← List.append_assoc]; exact yM, EnS_sm hS2 (spF 25 (by decide)) (spF 26 (by decide)) (spF 27 (by decide)), EnB_sm hB2 (spF 27 (by decide)) (spF 28 (by decide)) (spF 29 (by decide))⟩)
                    · have c69 : ¬ (0 ≤ pl) := fun z9 => c69 ((nI_leI (a := 0) (b := pl) (by omega) (by omega)).mpr z9)
                      exfalso; omega
                  · have c68 : ¬ (0 ≤ pl) := fun z9 => c68 ((nI_leI (a := 0) (b := pl) (by omega) (by omega)).mpr z9)
                    exfalso; omega
              · have c61 : ¬ (0 ≤ pl) := fun z9 => c61 ((nI_leI (a := 0) (b := pl) (by omega) (by omega)).mpr z9)
                exfalso; omega
            · rw [wN_miss hf9] at hR
              have hWn := wW_step hW2 hNs (by omega) hf9
              refine lv_istore (lv' := [(5, _), (7, _), (0, _), (1, _), (2, _), (3, _), (4, _), (6, _)]) hx hb d_Wr_putSharedName_107 hl (by decide) rfl (fun ls hl => ?_)
              refine lv_iload hx hb d_Wr_putSharedName_109 (lv_at hl 0 rfl) ?_
              refine lv_if_ge (tgt := 155) hx hb d_Wr_putSharedName_111 (by decide) (fun c74 => ?_) (fun c74 => ?_)
              · exact absurd c74 (by decide)
              · refine lv_aload_n hx hb d_Wr_putSharedName_114 rfl (lv_at hl 2 rfl) ?_
                refine va_get (D := D9) (ci := 5) (C := R_Wr) (T := F_Wr) (N := 6) hx hb hts i_Wr hown hK hP 18 ww_18 rfl 2 (by decide) (hts _ g_188) (fun _ h9 => h9) rfl d_Wr_putSharedName_115 ?_
                refine lv_aload_n hx hb d_Wr_putSharedName_118 rfl (lv_at hl 2 rfl) ?_
                refine va_get (D := D9) (ci := 5) (C := R_Wr) (T := F_Wr) (N := 6) hx hb hts i_Wr hown hK hP 18 ww_18 rfl 4 (by decide) (hts _ g_190) (fun _ h9 => h9) rfl d_Wr_putSharedName_119 ?_
                refine lv_iload hx hb d_Wr_putSharedName_122 (lv_at hl 7 rfl) ?_
                refine va_iald (D := D9) hx hb hK hP 23 1 ww_23 rfl (vp_in_nI (by omega) (by decide)) d_Wr_putSharedName_124 ?_
                refine lv_topq (y := mk9 G (lb G fr i)) (by rw [nI_clamp (by omega)]; exact (hK2 i (by omega))) ?_
                refine lv_iload hx hb d_Wr_putSharedName_125 (lv_at hl 1 rfl) ?_
                refine lv_aload_n hx hb d_Wr_putSharedName_127 rfl (lv_at hl 2 rfl) ?_
                refine va_get (D := D9) (ci := 5) (C := R_Wr) (T := F_Wr) (N := 6) hx hb hts i_Wr hown hK hP 18 ww_18 rfl 1 (by decide) (hts _ g_186) (fun _ h9 => h9) rfl d_Wr_putSharedName_128 ?_
                refine va_getN (D := D9) (ci := 0) (C := R_By) (T := F_By) (N := 2) hx hb hts i_By hown hK hP 20 ww_20 rfl 1 (by decide) (hts _ g_38) (fun _ h9 => h9) rfl d_Wr_putSharedName_131 ?_
                refine lv_topq (y := nI (12 + B2.length)) (h132) ?_
                refine mw_cVN (ci := 1) (k := 24) C0 (m_En_add l D9 cB cI cJ cG a O _ _ G E2 (lb G fr i) (12 + B2.length) hS2 hB2 h142 (by have := hW2.2; omega) (by have := hW2.1.2.2; omega) (by omega)) g_603 g_6 g_600 g_602 gs_En_add ⟨by decide +kernel, by decide +kernel, show Option.map (fun d => d.parameters.length) (parseMethodDescriptor y_En_add.desc) = some 3 by decide +kernel⟩ ⟨by decide, by decide⟩ rfl rfl hP hD hS hA rfl ww_24 hl.1 (Nat.le_of_ble_eq_true rfl) rfl d_Wr_putSharedName_134 ⟨by decide, by decide⟩ (fun v9 w9 H locs hq hP hD hS => ?_)
                obtain ⟨I75, F76, hw9, q77⟩ := hq
                subst hw9
                have hc8 := hW2.2
                rcases q77 with ⟨hc9, rfl, sad, y14, saF, yS, yB⟩ | ⟨hc9, rfl, rfl, rfl⟩
                · rw [if_pos hc9] at hR hWn
                  refine lv_aload_n hx hb d_Wr_putSharedName_137 rfl (lv_at hl 2 rfl) ?_
                  refine va_get (D := D9) (ci := 5) (C := R_Wr) (T := F_Wr) (N := 6) hx hb hts i_Wr hown hK hP 18 ww_18 rfl 1 (by decide) (hts _ g_186) (fun _ h9 => h9) rfl d_Wr_putSharedName_138 ?_
                  refine lv_aload_n hx hb d_Wr_putSharedName_141 rfl (lv_at hl 4 rfl) ?_
                  refine lv_iload hx hb d_Wr_putSharedName_142 (lv_at hl 1 rfl) ?_
                  refine lv_aload_n hx hb d_Wr_putSharedName_144 rfl (lv_at hl 4 rfl) ?_
                  refine lv_iload hx hb d_Wr_putSharedName_145 (lv_at hl 1 rfl) ?_
                  refine mw_cVN (ci := 0) (k := 3) C0 (m_By_atL_gb l D9 cB cI cJ cG a O _ _ G (lb G fr i) (BR_eq hGB ((saF 4 (by decide)).trans (hsF 4 (by decide)))) hGl (by omega)) g_259 g_2 g_586 g_258 gs_By_at ⟨by decide +kernel, by decide +kernel, show Option.map (fun d => d.parameters.length) (parseMethodDescriptor y_By_at.desc) = some 1 by decide +kernel⟩ ⟨by decide, by decide⟩ rfl rfl hP hD hS hA rfl ww_3 hl.1 (Nat.le_of_ble_eq_true rfl) rfl d_Wr_putSharedName_147 ⟨by decide, by decide⟩ (fun v9 w9 H locs hq hP hD hS => ?_)
                  obtain ⟨I78, F79, hw9, q80⟩ := hq
                  subst hw9
                  obtain ⟨rfl, rfl, rfl⟩ := q80
                  refine lv_iconst (v := 1) hx hb d_Wr_putSharedName_150 (by decide) ?_
                  refine lv_topq (y := nI 1) (rfl) ?_
                  refine lv_iadd hx hb d_Wr_putSharedName_151 ?_
                  refine lv_topq (y := nI (tb G (lb G fr i) + 1)) (nI_add _ _) ?_
                  refine mw_cVN (ci := 0) (k := 20) C0 (m_By_putFrom_ms_gb l D9 cB cI cJ cG a O _ _ (X ++ B2) G 0 (lb G fr i) (tb G (lb G fr i) + 1) (BR_eq hM2 (saF 21 (by decide))) (BR_eq hGB ((saF 4 (by decide)).trans (hsF 4 (by decide)))) (((sad 13 (by decide)).trans h132).trans (congrArg nI hXl.symm)) hGl (by omega) (by omega)) g_300 g_2 g_604 g_299 gs_By_putFrom ⟨by decide +kernel, by decide +kernel, show Option.map (fun d => d.parameters.length) (parseMethodDescriptor y_By_putFrom.desc) = some 3 by decide +kernel⟩ ⟨by decide, by decide⟩ rfl rfl hP hD hS hA rfl ww_20 hl.1 (Nat.le_of_ble_eq_true rfl) rfl d_Wr_putSharedName_152 ⟨by decide, by decide⟩ (fun v9 w9 H locs hq hP hD hS => ?_)
                  obtain ⟨I81, F82, hw9, q83⟩ := hq
                  subst hw9
                  obtain ⟨rfl, spf, y13, spF, yM⟩ := q83
                  refine lv_iinc (lv' := [(6, .int (nI (i + 1))), (5, _), (7, _), (0, _), (1, _), (2, _), (3, _), (4, _)]) hx hb d_Wr_putSharedName_155 hl (k := 7) rfl (nI_add _ 1) (by decide) rfl (fun ls hl => ?_)
                  refine lv_goto (tgt := 64) hx hb d_Wr_putSharedName_158 (by decide) ?_
                  have hBn : (B2 ++ sl9 G (lb G fr i) (tb G (lb G fr i) + 1)).length = B2.length + (tb G (lb G fr i) + 1) := by rw [List.length_append, sl9_len (by omega)]
                  exact ih _ (by omega) (i + 1) (B2 ++ sl9 G (lb G fr i) (tb G (lb G fr i) + 1)) (E2 ++ [(12 + B2.length, lb G fr i)]) _ _ _ _ _ (sm_tr (sm_tr (sm_mo hsI (by decide)) (sm_mo sad (by decide))) (sm_mo spf (by decide))) (sm_tr (sm_tr (sm_mo hsF (by decide)) (sm_mo saF (by decide))) (sm_mo spF (by decide))) rfl (by omega) hR (fun j hj => ((congrFun (spF 22 (by decide)) _).trans ((congrFun (saF 22 (by decide)) _).trans (hL2 j hj)))) (fun j hj => ((congrFun (spF 23 (by decide)) _).trans ((congrFun (saF 23 (by decide)) _).trans (hK2 j hj)))) (by rw [← List.append_assoc]; exact yM) (by rw [hBn, ← Nat.add_assoc]; rw [hXl] at y13; exact y13) (by omega) (by rw [List.length_append]; exact EnS_sm yS (spF 25 (by decide)) (spF 26 (by decide)) (spF 27 (by decide))) (EnB_sm yB (spF 27 (by decide)) (spF 28 (by decide)) (spF 29 (by decide))) (by rw [List.length_append]; exact ((spf 14 (by decide)).trans y14)) hWn (((spf 10 (by decide)).trans (sad 10 (by decide))).trans h102) hP hD hS (lv_pk hl [3, 4, 5, 6, 7, 1, 0] rfl)
                · rw [if_neg hc9] at hR hWn
                  refine lv_aload_n hx hb d_Wr_putSharedName_137 rfl (lv_at hl 2 rfl) ?_
                  refine va_get (D := D9) (ci := 5) (C := R_Wr) (T := F_Wr) (N := 6) hx hb hts i_Wr hown hK hP 18 ww_18 rfl 1 (by decide) (hts _ g_186) (fun _ h9 => h9) rfl d_Wr_putSharedName_138 ?_
                  refine lv_aload_n hx hb d_Wr_putSharedName_141 rfl (lv_at hl 4 rfl) ?_
                  refine lv_iload hx hb d_Wr_putSharedName_142 (lv_at hl 1 rfl) ?_
                  refine lv_aload_n hx hb d_Wr_putSharedName_144 rfl (lv_at hl 4 rfl) ?_
                  refine lv_iload hx hb d_Wr_putSharedName_145 (lv_at hl 1 rfl) ?_
                  refine mw_cVN (ci := 0) (k := 3) C0 (m_By_atL_gb l D9 cB cI cJ cG a O _ _ G (lb G fr i) (BR_eq hGB (hsF 4 (by decide))) hGl (by omega)) g_259 g_2 g_586 g_258 gs_By_at ⟨by decide +kernel, by decide +kernel, show Option.map (fun d => d.parameters.length) (parseMethodDescriptor y_By_at.desc) = some 1 by decide +kernel⟩ ⟨by decide, by decide⟩ rfl rfl hP hD hS hA rfl ww_3 hl.1 (Nat.le_of_ble_eq_true rfl) rfl d_Wr_putSharedName_147 ⟨by decide, by decide⟩ (fun v9 w9 H locs hq hP hD hS => ?_)
                  obtain ⟨I84, F85, hw9, q86⟩ := hq
                  subst hw9
                  obtain ⟨rfl, rfl, rfl⟩ := q86
                  refine lv_iconst (v := 1) hx hb d_Wr_putSharedName_150 (by decide) ?_
                  refine lv_topq (y := nI 1) (rfl) ?_
                  refine lv_iadd hx hb d_Wr_putSharedName_151 ?_
                  refine lv_topq (y := nI (tb G (lb G fr i) + 1)) (nI_add _ _) ?_
                  refine mw_cVN (ci := 0) (k := 20) C0 (m_By_putFrom_ms_gb l D9 cB cI cJ cG a O _ _ (X ++ B2) G 0 (lb G fr i) (tb G (lb G fr i) + 1) (BR_eq hM2 rfl) (BR_eq hGB (hsF 4 (by decide))) (h132.trans (congrArg nI hXl.symm)) hGl (by omega) (by omega)) g_300 g_2 g_604 g_299 gs_By_putFrom ⟨by decide +kernel, by decide +kernel, show Option.map (fun d => d.parameters.length) (parseMethodDescriptor y_By_putFrom.desc) = some 3 by decide +kernel⟩ ⟨by decide, by decide⟩ rfl rfl hP hD hS hA rfl ww_20 hl.1 (Nat.le_of_ble_eq_true rfl) rfl d_Wr_putSharedName_152 ⟨by decide, by decide⟩ (fun v9 w9 H locs hq hP hD hS => ?_)
                  obtain ⟨I87, F88, hw9, q89⟩ := hq
                  subst hw9
                  obtain ⟨rfl, spf, y13, spF, yM⟩ := q89
                  refine lv_iinc (lv' := [(6, .int (nI (i + 1))), (5, _), (7, _), (0, _), (1, _), (2, _), (3, _), (4, _)]) hx hb d_Wr_putSharedName_155 hl (k := 7) rfl (nI_add _ 1) (by decide) rfl (fun ls hl => ?_)
                  refine lv_goto (tgt := 64) hx hb d_Wr_putSharedName_158 (by decide) ?_
                  have hBn : (B2 ++ sl9 G (lb G fr i) (tb G (lb G fr i) + 1)).length = B2.length + (tb G (lb G fr i) + 1) := by rw [List.length_append, sl9_len (by omega)]
                  exact ih _ (by omega) (i + 1) (B2 ++ sl9 G (lb G fr i) (tb G (lb G fr i) + 1)) E2 _ _ _ _ _ (sm_tr (sm_mo hsI (by decide)) (sm_mo spf (by decide))) (sm_tr (sm_mo hsF (by decide)) (sm_mo spF (by decide))) rfl (by omega) hR (fun j hj => ((congrFun (spF 22 (by decide)) _).trans (hL2 j hj))) (fun j hj => ((congrFun (spF 23 (by decide)) _).trans (hK2 j hj))) (by rw [← List.append_assoc]; exact yM) (by rw [hBn, ← Nat.add_assoc]; rw [hXl] at y13; exact y13) (by omega) (EnS_sm hS2 (spF 25 (by decide)) (spF 26 (by decide)) (spF 27 (by decide))) (EnB_sm hB2 (spF 27 (by decide)) (spF 28 (by decide)) (spF 29 (by decide))) ((spf 14 (by decide)).trans h142) hWn ((spf 10 (by decide)).trans h102) hP hD hS (lv_pk hl [3, 4, 5, 6, 7, 1, 0] rfl)
    exact loop1 _ 0 B E _ _ _ _ _ sm_rf (sm_tr (sm_mo sfl (by decide)) (sm_mo smk (by decide))) rfl (Nat.zero_le _) rfl (fun j hj => ((congrFun (smk 22 (by decide)) _).trans (hfl j hj))) (fun j hj => by rw [hmk j hj]; unfold mk9; rw [rt_of (isN_lb hN j (by omega)) (by omega)]) (BR_eq hM ((smk 21 (by decide)).trans (sfl 21 (by decide)))) h13 (by omega) (EnS_sm hS9 ((smk 25 (by decide)).trans (sfl 25 (by decide))) ((smk 26 (by decide)).trans (sfl 26 (by decide))) ((smk 27 (by decide)).trans (sfl 27 (by decide)))) (EnB_sm hB9 ((smk 27 (by decide)).trans (sfl 27 (by decide))) ((smk 28 (by decide)).trans (sfl 28 (by decide))) ((smk 29 (by decide)).trans (sfl 29 (by decide)))) h14 hW h10 hP hD hS (lv_pk hl [5, 6, 4, 3, 2, 1, 0] rfl)
