theorem g_739 : (Cond.fieldLink "WireMessagesModel" (109 : Nat) "WireMessagesModel" "followed" "I") ∈ GT := gt_mem 739 (by decide +kernel) rfl
theorem g_741 : (Cond.fieldLink "WireMessagesModel" (80 : Nat) "WireMessagesModel" "fault" "I") ∈ GT := gt_mem 741 (by decide +kernel) rfl
theorem g_742 : (Cond.fieldLink "WireMessagesModel" (99 : Nat) "WireMessagesModel" "at" "I") ∈ GT := gt_mem 742 (by decide +kernel) rfl
theorem g_750 : (Cond.fieldLink "WireMessagesModel" (159 : Nat) "WireMessagesModel" "ends" "I") ∈ GT := gt_mem 750 (by decide +kernel) rfl
theorem g_825 : (Cond.methodLink "WireMessagesModel" (89 : Nat) ({ cls := "WireMessagesModel", name := "wrong", desc := "(II)V" } : MethodName)) ∈ GT := gt_mem 825 (by decide +kernel) rfl
theorem g_827 : (Cond.instanceMethod ({ cls := "WireMessagesModel", name := "wrong", desc := "(II)V" } : MethodName)) ∈ GT := gt_mem 827 (by decide +kernel) rfl
theorem g_828 : (Cond.code ({ cls := "WireMessagesModel", name := "wrong", desc := "(II)V" } : MethodName) prog_10_method_8_code (3 : Nat) (Option.none : Option FieldType)) ∈ GT := gt_mem 828 (by decide +kernel) rfl
theorem g_873 : (Cond.constant "WireMessagesModel" (137 : Nat) (65516 : Int32)) ∈ GT := gt_mem 873 (by decide +kernel) rfl
theorem g_931 : (Cond.methodLink "WireMessagesModel" (156 : Nat) ({ cls := "WireMessagesModel", name := "put", desc := "(I)V" } : MethodName)) ∈ GT := gt_mem 931 (by decide +kernel) rfl
theorem g_933 : (Cond.instanceMethod ({ cls := "WireMessagesModel", name := "put", desc := "(I)V" } : MethodName)) ∈ GT := gt_mem 933 (by decide +kernel) rfl
theorem g_934 : (Cond.code ({ cls := "WireMessagesModel", name := "put", desc := "(I)V" } : MethodName) prog_10_method_26_code (2 : Nat) (Option.none : Option FieldType)) ∈ GT := gt_mem 934 (by decide +kernel) rfl
theorem g_936 : (Cond.methodLink "WireMessagesModel" (170 : Nat) ({ cls := "WireMessagesModel", name := "putTwo", desc := "(I)V" } : MethodName)) ∈ GT := gt_mem 936 (by decide +kernel) rfl
theorem g_938 : (Cond.instanceMethod ({ cls := "WireMessagesModel", name := "putTwo", desc := "(I)V" } : MethodName)) ∈ GT := gt_mem 938 (by decide +kernel) rfl
theorem g_939 : (Cond.code ({ cls := "WireMessagesModel", name := "putTwo", desc := "(I)V" } : MethodName) prog_10_method_27_code (2 : Nat) (Option.none : Option FieldType)) ∈ GT := gt_mem 939 (by decide +kernel) rfl
theorem gs_Mo_wrong : Cond.selects R_Mo y_Mo_wrong y_Mo_wrong ∈ GT := gt_sel (q := (⟨"WireMessagesModel", "wrong", "(II)V"⟩, 30)) (by decide +kernel)
theorem gs_Mo_put : Cond.selects R_Mo y_Mo_put y_Mo_put ∈ GT := gt_sel (q := (⟨"WireMessagesModel", "put", "(I)V"⟩, 30)) (by decide +kernel)
theorem gs_Mo_putTwo : Cond.selects R_Mo y_Mo_putTwo y_Mo_putTwo ∈ GT := gt_sel (q := (⟨"WireMessagesModel", "putTwo", "(I)V"⟩, 30)) (by decide +kernel)
theorem d_Mo_wrong_0 : decode b_Mo_wrong 0 = .ok (.aload_n 0, 1) := by decide +kernel
theorem d_Mo_wrong_1 : decode b_Mo_wrong 1 = .ok (.getfield 80, 3) := by decide +kernel
theorem d_Mo_wrong_4 : decode b_Mo_wrong 4 = .ok (.ifCond .le 4, 3) := by decide +kernel
theorem d_Mo_wrong_7 : decode b_Mo_wrong 7 = .ok (.return_, 1) := by decide +kernel
theorem d_Mo_wrong_8 : decode b_Mo_wrong 8 = .ok (.aload_n 0, 1) := by decide +kernel
theorem d_Mo_wrong_9 : decode b_Mo_wrong 9 = .ok (.iload_n 1, 1) := by decide +kernel
theorem d_Mo_wrong_10 : decode b_Mo_wrong 10 = .ok (.putfield 80, 3) := by decide +kernel
theorem d_Mo_wrong_13 : decode b_Mo_wrong 13 = .ok (.aload_n 0, 1) := by decide +kernel
theorem d_Mo_wrong_14 : decode b_Mo_wrong 14 = .ok (.iload_n 2, 1) := by decide +kernel
theorem d_Mo_wrong_15 : decode b_Mo_wrong 15 = .ok (.putfield 43, 3) := by decide +kernel
theorem d_Mo_wrong_18 : decode b_Mo_wrong 18 = .ok (.return_, 1) := by decide +kernel
theorem d_Mo_thrown_0 : decode b_Mo_thrown 0 = .ok (.aload_n 0, 1) := by decide +kernel
theorem d_Mo_thrown_1 : decode b_Mo_thrown 1 = .ok (.getfield 61, 3) := by decide +kernel
theorem d_Mo_thrown_4 : decode b_Mo_thrown 4 = .ok (.ireturn, 1) := by decide +kernel
theorem d_Mo_put_0 : decode b_Mo_put 0 = .ok (.aload_n 0, 1) := by decide +kernel
theorem d_Mo_put_1 : decode b_Mo_put 1 = .ok (.getfield 48, 3) := by decide +kernel
theorem d_Mo_put_4 : decode b_Mo_put 4 = .ok (.aload_n 0, 1) := by decide +kernel
theorem d_Mo_put_5 : decode b_Mo_put 5 = .ok (.getfield 153, 3) := by decide +kernel
theorem d_Mo_put_8 : decode b_Mo_put 8 = .ok (.iload_n 1, 1) := by decide +kernel
theorem d_Mo_put_9 : decode b_Mo_put 9 = .ok (.i2b, 1) := by decide +kernel
theorem d_Mo_put_10 : decode b_Mo_put 10 = .ok (.bastore, 1) := by decide +kernel
theorem d_Mo_put_11 : decode b_Mo_put 11 = .ok (.aload_n 0, 1) := by decide +kernel
theorem d_Mo_put_12 : decode b_Mo_put 12 = .ok (.dup, 1) := by decide +kernel
theorem d_Mo_put_13 : decode b_Mo_put 13 = .ok (.getfield 153, 3) := by decide +kernel
theorem d_Mo_put_16 : decode b_Mo_put 16 = .ok (.iconst 1, 1) := by decide +kernel
theorem d_Mo_put_17 : decode b_Mo_put 17 = .ok (.iadd, 1) := by decide +kernel
theorem d_Mo_put_18 : decode b_Mo_put 18 = .ok (.putfield 153, 3) := by decide +kernel
theorem d_Mo_put_21 : decode b_Mo_put 21 = .ok (.return_, 1) := by decide +kernel
theorem d_Mo_putTwo_0 : decode b_Mo_putTwo 0 = .ok (.aload_n 0, 1) := by decide +kernel
theorem d_Mo_putTwo_1 : decode b_Mo_putTwo 1 = .ok (.iload_n 1, 1) := by decide +kernel
theorem d_Mo_putTwo_2 : decode b_Mo_putTwo 2 = .ok (.bipush 8, 2) := by decide +kernel
theorem d_Mo_putTwo_4 : decode b_Mo_putTwo 4 = .ok (.ishr, 1) := by decide +kernel
theorem d_Mo_putTwo_5 : decode b_Mo_putTwo 5 = .ok (.invokevirtual 156, 3) := by decide +kernel
theorem d_Mo_putTwo_8 : decode b_Mo_putTwo 8 = .ok (.aload_n 0, 1) := by decide +kernel
theorem d_Mo_putTwo_9 : decode b_Mo_putTwo 9 = .ok (.iload_n 1, 1) := by decide +kernel
theorem d_Mo_putTwo_10 : decode b_Mo_putTwo 10 = .ok (.invokevirtual 156, 3) := by decide +kernel
theorem d_Mo_putTwo_13 : decode b_Mo_putTwo 13 = .ok (.return_, 1) := by decide +kernel
theorem d_Mo_read_0 : decode b_Mo_read 0 = .ok (.aload_n 0, 1) := by decide +kernel
theorem d_Mo_read_1 : decode b_Mo_read 1 = .ok (.iconst 0, 1) := by decide +kernel
theorem d_Mo_read_2 : decode b_Mo_read 2 = .ok (.putfield 61, 3) := by decide +kernel
theorem d_Mo_read_5 : decode b_Mo_read 5 = .ok (.aload_n 0, 1) := by decide +kernel
theorem d_Mo_read_6 : decode b_Mo_read 6 = .ok (.invokevirtual 128, 3) := by decide +kernel
theorem d_Mo_read_9 : decode b_Mo_read 9 = .ok (.aload_n 0, 1) := by decide +kernel
theorem d_Mo_read_10 : decode b_Mo_read 10 = .ok (.iconst 0, 1) := by decide +kernel
theorem d_Mo_read_11 : decode b_Mo_read 11 = .ok (.putfield 80, 3) := by decide +kernel
theorem d_Mo_read_14 : decode b_Mo_read 14 = .ok (.aload_n 0, 1) := by decide +kernel
theorem d_Mo_read_15 : decode b_Mo_read 15 = .ok (.iconst (-1), 1) := by decide +kernel
theorem d_Mo_read_16 : decode b_Mo_read 16 = .ok (.putfield 43, 3) := by decide +kernel
theorem d_Mo_read_19 : decode b_Mo_read 19 = .ok (.aload_n 0, 1) := by decide +kernel
theorem d_Mo_read_20 : decode b_Mo_read 20 = .ok (.iconst 0, 1) := by decide +kernel
theorem d_Mo_read_21 : decode b_Mo_read 21 = .ok (.putfield 109, 3) := by decide +kernel
theorem d_Mo_read_24 : decode b_Mo_read 24 = .ok (.aload_n 0, 1) := by decide +kernel
theorem d_Mo_read_25 : decode b_Mo_read 25 = .ok (.bipush 12, 2) := by decide +kernel
theorem d_Mo_read_27 : decode b_Mo_read 27 = .ok (.putfield 99, 3) := by decide +kernel
theorem d_Mo_read_30 : decode b_Mo_read 30 = .ok (.aload_n 0, 1) := by decide +kernel
theorem d_Mo_read_31 : decode b_Mo_read 31 = .ok (.getfield 86, 3) := by decide +kernel
theorem d_Mo_read_34 : decode b_Mo_read 34 = .ok (.bipush 12, 2) := by decide +kernel
theorem d_Mo_read_36 : decode b_Mo_read 36 = .ok (.if_icmp .ge 9, 3) := by decide +kernel
theorem d_Mo_read_39 : decode b_Mo_read 39 = .ok (.aload_n 0, 1) := by decide +kernel
theorem d_Mo_read_40 : decode b_Mo_read 40 = .ok (.iconst 1, 1) := by decide +kernel
theorem d_Mo_read_41 : decode b_Mo_read 41 = .ok (.iconst 0, 1) := by decide +kernel
theorem d_Mo_read_42 : decode b_Mo_read 42 = .ok (.invokevirtual 89, 3) := by decide +kernel
theorem d_Mo_read_45 : decode b_Mo_read 45 = .ok (.iconst 0, 1) := by decide +kernel
theorem d_Mo_read_46 : decode b_Mo_read 46 = .ok (.istore_n 1, 1) := by decide +kernel
theorem d_Mo_read_47 : decode b_Mo_read 47 = .ok (.iload_n 1, 1) := by decide +kernel
theorem d_Mo_read_48 : decode b_Mo_read 48 = .ok (.iconst 4, 1) := by decide +kernel
theorem d_Mo_read_49 : decode b_Mo_read 49 = .ok (.if_icmp .ge 55, 3) := by decide +kernel
theorem d_Mo_read_52 : decode b_Mo_read 52 = .ok (.aload_n 0, 1) := by decide +kernel
theorem d_Mo_read_53 : decode b_Mo_read 53 = .ok (.getfield 80, 3) := by decide +kernel
theorem d_Mo_read_56 : decode b_Mo_read 56 = .ok (.ifCond .le 7, 3) := by decide +kernel
theorem d_Mo_read_59 : decode b_Mo_read 59 = .ok (.iconst 0, 1) := by decide +kernel
theorem d_Mo_read_60 : decode b_Mo_read 60 = .ok (.goto 12, 3) := by decide +kernel
theorem d_Mo_read_63 : decode b_Mo_read 63 = .ok (.aload_n 0, 1) := by decide +kernel
theorem d_Mo_read_64 : decode b_Mo_read 64 = .ok (.iconst 4, 1) := by decide +kernel
theorem d_Mo_read_65 : decode b_Mo_read 65 = .ok (.iconst 2, 1) := by decide +kernel
theorem d_Mo_read_66 : decode b_Mo_read 66 = .ok (.iload_n 1, 1) := by decide +kernel
theorem d_Mo_read_67 : decode b_Mo_read 67 = .ok (.imul, 1) := by decide +kernel
theorem d_Mo_read_68 : decode b_Mo_read 68 = .ok (.iadd, 1) := by decide +kernel
theorem d_Mo_read_69 : decode b_Mo_read 69 = .ok (.invokevirtual 106, 3) := by decide +kernel
theorem d_Mo_read_72 : decode b_Mo_read 72 = .ok (.istore_n 2, 1) := by decide +kernel
theorem d_Mo_read_73 : decode b_Mo_read 73 = .ok (.iconst 0, 1) := by decide +kernel
theorem d_Mo_read_74 : decode b_Mo_read 74 = .ok (.istore_n 3, 1) := by decide +kernel
theorem d_Mo_read_75 : decode b_Mo_read 75 = .ok (.iload_n 3, 1) := by decide +kernel
theorem d_Mo_read_76 : decode b_Mo_read 76 = .ok (.iload_n 2, 1) := by decide +kernel
theorem d_Mo_read_77 : decode b_Mo_read 77 = .ok (.if_icmp .ge 21, 3) := by decide +kernel
theorem d_Mo_read_80 : decode b_Mo_read 80 = .ok (.aload_n 0, 1) := by decide +kernel
theorem d_Mo_read_81 : decode b_Mo_read 81 = .ok (.getfield 80, 3) := by decide +kernel
theorem d_Mo_read_84 : decode b_Mo_read 84 = .ok (.ifCond .ne 14, 3) := by decide +kernel
theorem d_Mo_read_87 : decode b_Mo_read 87 = .ok (.aload_n 0, 1) := by decide +kernel
theorem d_Mo_read_88 : decode b_Mo_read 88 = .ok (.iload_n 1, 1) := by decide +kernel
theorem d_Mo_read_89 : decode b_Mo_read 89 = .ok (.invokevirtual 131, 3) := by decide +kernel
theorem d_Mo_read_92 : decode b_Mo_read 92 = .ok (.iinc 3 1, 3) := by decide +kernel
theorem d_Mo_read_95 : decode b_Mo_read 95 = .ok (.goto (-20), 3) := by decide +kernel
theorem d_Mo_read_98 : decode b_Mo_read 98 = .ok (.iinc 1 1, 3) := by decide +kernel
theorem d_Mo_read_101 : decode b_Mo_read 101 = .ok (.goto (-54), 3) := by decide +kernel
theorem d_Mo_read_104 : decode b_Mo_read 104 = .ok (.aload_n 0, 1) := by decide +kernel
theorem d_Mo_read_105 : decode b_Mo_read 105 = .ok (.getfield 80, 3) := by decide +kernel
theorem d_Mo_read_108 : decode b_Mo_read 108 = .ok (.ifCond .ne 24, 3) := by decide +kernel
theorem d_Mo_read_111 : decode b_Mo_read 111 = .ok (.aload_n 0, 1) := by decide +kernel
theorem d_Mo_read_112 : decode b_Mo_read 112 = .ok (.getfield 99, 3) := by decide +kernel
theorem d_Mo_read_115 : decode b_Mo_read 115 = .ok (.aload_n 0, 1) := by decide +kernel
theorem d_Mo_read_116 : decode b_Mo_read 116 = .ok (.getfield 86, 3) := by decide +kernel
theorem d_Mo_read_119 : decode b_Mo_read 119 = .ok (.if_icmp .ge 13, 3) := by decide +kernel
theorem d_Mo_read_122 : decode b_Mo_read 122 = .ok (.aload_n 0, 1) := by decide +kernel
theorem d_Mo_read_123 : decode b_Mo_read 123 = .ok (.bipush 6, 2) := by decide +kernel
theorem d_Mo_read_125 : decode b_Mo_read 125 = .ok (.aload_n 0, 1) := by decide +kernel
theorem d_Mo_read_126 : decode b_Mo_read 126 = .ok (.getfield 99, 3) := by decide +kernel
theorem d_Mo_read_129 : decode b_Mo_read 129 = .ok (.invokevirtual 89, 3) := by decide +kernel
theorem d_Mo_read_132 : decode b_Mo_read 132 = .ok (.aload_n 0, 1) := by decide +kernel
theorem d_Mo_read_133 : decode b_Mo_read 133 = .ok (.getfield 80, 3) := by decide +kernel
theorem d_Mo_read_136 : decode b_Mo_read 136 = .ok (.ifCond .ne 32, 3) := by decide +kernel
theorem d_Mo_read_139 : decode b_Mo_read 139 = .ok (.aload_n 0, 1) := by decide +kernel
theorem d_Mo_read_140 : decode b_Mo_read 140 = .ok (.aload_n 0, 1) := by decide +kernel
theorem d_Mo_read_141 : decode b_Mo_read 141 = .ok (.iconst 0, 1) := by decide +kernel
theorem d_Mo_read_142 : decode b_Mo_read 142 = .ok (.invokevirtual 106, 3) := by decide +kernel
theorem d_Mo_read_145 : decode b_Mo_read 145 = .ok (.putfield 70, 3) := by decide +kernel
theorem d_Mo_read_148 : decode b_Mo_read 148 = .ok (.aload_n 0, 1) := by decide +kernel
theorem d_Mo_read_149 : decode b_Mo_read 149 = .ok (.aload_n 0, 1) := by decide +kernel
theorem d_Mo_read_150 : decode b_Mo_read 150 = .ok (.iconst 2, 1) := by decide +kernel
theorem d_Mo_read_151 : decode b_Mo_read 151 = .ok (.invokevirtual 106, 3) := by decide +kernel
theorem d_Mo_read_154 : decode b_Mo_read 154 = .ok (.putfield 73, 3) := by decide +kernel
theorem d_Mo_read_157 : decode b_Mo_read 157 = .ok (.aload_n 0, 1) := by decide +kernel
theorem d_Mo_read_158 : decode b_Mo_read 158 = .ok (.aload_n 0, 1) := by decide +kernel
theorem d_Mo_read_159 : decode b_Mo_read 159 = .ok (.getfield 109, 3) := by decide +kernel
theorem d_Mo_read_162 : decode b_Mo_read 162 = .ok (.putfield 134, 3) := by decide +kernel
theorem d_Mo_read_165 : decode b_Mo_read 165 = .ok (.goto 7, 3) := by decide +kernel
theorem d_Mo_read_168 : decode b_Mo_read 168 = .ok (.aload_n 0, 1) := by decide +kernel
theorem d_Mo_read_169 : decode b_Mo_read 169 = .ok (.invokevirtual 128, 3) := by decide +kernel
theorem d_Mo_read_172 : decode b_Mo_read 172 = .ok (.aload_n 0, 1) := by decide +kernel
theorem d_Mo_read_173 : decode b_Mo_read 173 = .ok (.iconst 0, 1) := by decide +kernel
theorem d_Mo_read_174 : decode b_Mo_read 174 = .ok (.putfield 86, 3) := by decide +kernel
theorem d_Mo_read_177 : decode b_Mo_read 177 = .ok (.aload_n 0, 1) := by decide +kernel
theorem d_Mo_read_178 : decode b_Mo_read 178 = .ok (.getfield 80, 3) := by decide +kernel
theorem d_Mo_read_181 : decode b_Mo_read 181 = .ok (.ireturn, 1) := by decide +kernel
theorem d_Mo_write_0 : decode b_Mo_write 0 = .ok (.aload_n 0, 1) := by decide +kernel
theorem d_Mo_write_1 : decode b_Mo_write 1 = .ok (.iconst 0, 1) := by decide +kernel
theorem d_Mo_write_2 : decode b_Mo_write 2 = .ok (.putfield 61, 3) := by decide +kernel
theorem d_Mo_write_5 : decode b_Mo_write 5 = .ok (.iload_n 1, 1) := by decide +kernel
theorem d_Mo_write_6 : decode b_Mo_write 6 = .ok (.bipush 12, 2) := by decide +kernel
theorem d_Mo_write_8 : decode b_Mo_write 8 = .ok (.if_icmp .lt 9, 3) := by decide +kernel
theorem d_Mo_write_11 : decode b_Mo_write 11 = .ok (.iload_n 1, 1) := by decide +kernel
theorem d_Mo_write_12 : decode b_Mo_write 12 = .ok (.ldc 141, 2) := by decide +kernel
theorem d_Mo_write_14 : decode b_Mo_write 14 = .ok (.if_icmp .le 9, 3) := by decide +kernel
theorem d_Mo_write_17 : decode b_Mo_write 17 = .ok (.aload_n 0, 1) := by decide +kernel
theorem d_Mo_write_18 : decode b_Mo_write 18 = .ok (.iconst 1, 1) := by decide +kernel
theorem d_Mo_write_19 : decode b_Mo_write 19 = .ok (.invokevirtual 138, 3) := by decide +kernel
theorem d_Mo_write_22 : decode b_Mo_write 22 = .ok (.ireturn, 1) := by decide +kernel
theorem d_Mo_write_23 : decode b_Mo_write 23 = .ok (.iconst 0, 1) := by decide +kernel
theorem d_Mo_write_24 : decode b_Mo_write 24 = .ok (.istore_n 2, 1) := by decide +kernel
theorem d_Mo_write_25 : decode b_Mo_write 25 = .ok (.iconst 0, 1) := by decide +kernel
theorem d_Mo_write_26 : decode b_Mo_write 26 = .ok (.istore_n 3, 1) := by decide +kernel
theorem d_Mo_write_27 : decode b_Mo_write 27 = .ok (.iload_n 3, 1) := by decide +kernel
theorem d_Mo_write_28 : decode b_Mo_write 28 = .ok (.aload_n 0, 1) := by decide +kernel
theorem d_Mo_write_29 : decode b_Mo_write 29 = .ok (.getfield 67, 3) := by decide +kernel
theorem d_Mo_write_32 : decode b_Mo_write 32 = .ok (.if_icmp .ge 29, 3) := by decide +kernel
theorem d_Mo_write_35 : decode b_Mo_write 35 = .ok (.aload_n 0, 1) := by decide +kernel
theorem d_Mo_write_36 : decode b_Mo_write 36 = .ok (.iload_n 3, 1) := by decide +kernel
theorem d_Mo_write_37 : decode b_Mo_write 37 = .ok (.invokevirtual 183, 3) := by decide +kernel
theorem d_Mo_write_40 : decode b_Mo_write 40 = .ok (.ifCond .eq 15, 3) := by decide +kernel
theorem d_Mo_write_43 : decode b_Mo_write 43 = .ok (.iload_n 2, 1) := by decide +kernel
theorem d_Mo_write_44 : decode b_Mo_write 44 = .ok (.bipush 11, 2) := by decide +kernel
theorem d_Mo_write_46 : decode b_Mo_write 46 = .ok (.aload_n 0, 1) := by decide +kernel
theorem d_Mo_write_47 : decode b_Mo_write 47 = .ok (.getfield 40, 3) := by decide +kernel
theorem d_Mo_write_50 : decode b_Mo_write 50 = .ok (.iload_n 3, 1) := by decide +kernel
theorem d_Mo_write_51 : decode b_Mo_write 51 = .ok (.iaload, 1) := by decide +kernel
theorem d_Mo_write_52 : decode b_Mo_write 52 = .ok (.iadd, 1) := by decide +kernel
theorem d_Mo_write_53 : decode b_Mo_write 53 = .ok (.iadd, 1) := by decide +kernel
theorem d_Mo_write_54 : decode b_Mo_write 54 = .ok (.istore_n 2, 1) := by decide +kernel
theorem d_Mo_write_55 : decode b_Mo_write 55 = .ok (.iinc 3 1, 3) := by decide +kernel
theorem d_Mo_write_58 : decode b_Mo_write 58 = .ok (.goto (-31), 3) := by decide +kernel
theorem d_Mo_write_61 : decode b_Mo_write 61 = .ok (.bipush 12, 2) := by decide +kernel
theorem d_Mo_write_63 : decode b_Mo_write 63 = .ok (.iload_n 2, 1) := by decide +kernel
theorem d_Mo_write_64 : decode b_Mo_write 64 = .ok (.iadd, 1) := by decide +kernel
theorem d_Mo_write_65 : decode b_Mo_write 65 = .ok (.iload_n 1, 1) := by decide +kernel
theorem d_Mo_write_66 : decode b_Mo_write 66 = .ok (.if_icmp .le 9, 3) := by decide +kernel
theorem d_Mo_write_69 : decode b_Mo_write 69 = .ok (.aload_n 0, 1) := by decide +kernel
theorem d_Mo_write_70 : decode b_Mo_write 70 = .ok (.iconst 2, 1) := by decide +kernel
theorem d_Mo_write_71 : decode b_Mo_write 71 = .ok (.invokevirtual 138, 3) := by decide +kernel
theorem d_Mo_write_74 : decode b_Mo_write 74 = .ok (.ireturn, 1) := by decide +kernel
theorem d_Mo_write_75 : decode b_Mo_write 75 = .ok (.aload_n 0, 1) := by decide +kernel
theorem d_Mo_write_76 : decode b_Mo_write 76 = .ok (.bipush 12, 2) := by decide +kernel
theorem d_Mo_write_78 : decode b_Mo_write 78 = .ok (.putfield 153, 3) := by decide +kernel
theorem d_Mo_write_81 : decode b_Mo_write 81 = .ok (.aload_n 0, 1) := by decide +kernel
theorem d_Mo_write_82 : decode b_Mo_write 82 = .ok (.iconst 0, 1) := by decide +kernel
theorem d_Mo_write_83 : decode b_Mo_write 83 = .ok (.putfield 159, 3) := by decide +kernel
theorem d_Mo_write_86 : decode b_Mo_write 86 = .ok (.aload_n 0, 1) := by decide +kernel
theorem d_Mo_write_87 : decode b_Mo_write 87 = .ok (.iconst 0, 1) := by decide +kernel
theorem d_Mo_write_88 : decode b_Mo_write 88 = .ok (.putfield 173, 3) := by decide +kernel
theorem d_Mo_write_91 : decode b_Mo_write 91 = .ok (.iconst 0, 1) := by decide +kernel
theorem d_Mo_write_92 : decode b_Mo_write 92 = .ok (.istore_n 3, 1) := by decide +kernel
theorem d_Mo_write_93 : decode b_Mo_write 93 = .ok (.aload_n 0, 1) := by decide +kernel
theorem d_Mo_write_94 : decode b_Mo_write 94 = .ok (.getfield 58, 3) := by decide +kernel
theorem d_Mo_write_97 : decode b_Mo_write 97 = .ok (.astore 4, 2) := by decide +kernel
theorem d_Mo_write_99 : decode b_Mo_write 99 = .ok (.iconst 0, 1) := by decide +kernel
theorem d_Mo_write_100 : decode b_Mo_write 100 = .ok (.istore 5, 2) := by decide +kernel
theorem d_Mo_write_102 : decode b_Mo_write 102 = .ok (.iload 5, 2) := by decide +kernel
theorem d_Mo_write_104 : decode b_Mo_write 104 = .ok (.iconst 4, 1) := by decide +kernel
theorem d_Mo_write_105 : decode b_Mo_write 105 = .ok (.if_icmp .ge 164, 3) := by decide +kernel
theorem d_Mo_write_108 : decode b_Mo_write 108 = .ok (.aload 4, 2) := by decide +kernel
theorem d_Mo_write_110 : decode b_Mo_write 110 = .ok (.iload 5, 2) := by decide +kernel
theorem d_Mo_write_112 : decode b_Mo_write 112 = .ok (.iconst 0, 1) := by decide +kernel
theorem d_Mo_write_113 : decode b_Mo_write 113 = .ok (.iastore, 1) := by decide +kernel
theorem d_Mo_write_114 : decode b_Mo_write 114 = .ok (.iconst 0, 1) := by decide +kernel
theorem d_Mo_write_115 : decode b_Mo_write 115 = .ok (.istore 6, 2) := by decide +kernel
theorem d_Mo_write_117 : decode b_Mo_write 117 = .ok (.iload 6, 2) := by decide +kernel
theorem d_Mo_write_119 : decode b_Mo_write 119 = .ok (.aload_n 0, 1) := by decide +kernel
theorem d_Mo_write_120 : decode b_Mo_write 120 = .ok (.getfield 67, 3) := by decide +kernel
theorem d_Mo_write_123 : decode b_Mo_write 123 = .ok (.if_icmp .ge 140, 3) := by decide +kernel
theorem d_Mo_write_126 : decode b_Mo_write 126 = .ok (.aload_n 0, 1) := by decide +kernel
theorem d_Mo_write_127 : decode b_Mo_write 127 = .ok (.getfield 18, 3) := by decide +kernel
theorem d_Mo_write_130 : decode b_Mo_write 130 = .ok (.iload 6, 2) := by decide +kernel
theorem d_Mo_write_132 : decode b_Mo_write 132 = .ok (.iaload, 1) := by decide +kernel
theorem d_Mo_write_133 : decode b_Mo_write 133 = .ok (.iload 5, 2) := by decide +kernel
theorem d_Mo_write_135 : decode b_Mo_write 135 = .ok (.if_icmp .ne 122, 3) := by decide +kernel
theorem d_Mo_write_138 : decode b_Mo_write 138 = .ok (.iload_n 3, 1) := by decide +kernel
theorem d_Mo_write_139 : decode b_Mo_write 139 = .ok (.ifCond .eq 15, 3) := by decide +kernel
theorem d_Mo_write_142 : decode b_Mo_write 142 = .ok (.aload_n 0, 1) := by decide +kernel
theorem d_Mo_write_143 : decode b_Mo_write 143 = .ok (.iload 6, 2) := by decide +kernel
theorem d_Mo_write_145 : decode b_Mo_write 145 = .ok (.invokevirtual 183, 3) := by decide +kernel
theorem d_Mo_write_148 : decode b_Mo_write 148 = .ok (.ifCond .ne 6, 3) := by decide +kernel
theorem d_Mo_write_151 : decode b_Mo_write 151 = .ok (.goto 106, 3) := by decide +kernel
theorem d_Mo_write_154 : decode b_Mo_write 154 = .ok (.aload_n 0, 1) := by decide +kernel
theorem d_Mo_write_155 : decode b_Mo_write 155 = .ok (.getfield 153, 3) := by decide +kernel
theorem d_Mo_write_158 : decode b_Mo_write 158 = .ok (.istore 7, 2) := by decide +kernel
theorem d_Mo_write_160 : decode b_Mo_write 160 = .ok (.aload_n 0, 1) := by decide +kernel
theorem d_Mo_write_161 : decode b_Mo_write 161 = .ok (.getfield 159, 3) := by decide +kernel
theorem d_Mo_write_164 : decode b_Mo_write 164 = .ok (.istore 8, 2) := by decide +kernel
theorem d_Mo_write_166 : decode b_Mo_write 166 = .ok (.aload_n 0, 1) := by decide +kernel
theorem d_Mo_write_167 : decode b_Mo_write 167 = .ok (.getfield 173, 3) := by decide +kernel
theorem d_Mo_write_170 : decode b_Mo_write 170 = .ok (.istore 9, 2) := by decide +kernel
theorem d_Mo_write_172 : decode b_Mo_write 172 = .ok (.aload_n 0, 1) := by decide +kernel
theorem d_Mo_write_173 : decode b_Mo_write 173 = .ok (.iload 6, 2) := by decide +kernel
theorem d_Mo_write_175 : decode b_Mo_write 175 = .ok (.invokevirtual 183, 3) := by decide +kernel
theorem d_Mo_write_178 : decode b_Mo_write 178 = .ok (.ifCond .eq 16, 3) := by decide +kernel
theorem d_Mo_write_181 : decode b_Mo_write 181 = .ok (.iload_n 2, 1) := by decide +kernel
theorem d_Mo_write_182 : decode b_Mo_write 182 = .ok (.bipush 11, 2) := by decide +kernel
theorem d_Mo_write_184 : decode b_Mo_write 184 = .ok (.aload_n 0, 1) := by decide +kernel
theorem d_Mo_write_185 : decode b_Mo_write 185 = .ok (.getfield 40, 3) := by decide +kernel
theorem d_Mo_write_188 : decode b_Mo_write 188 = .ok (.iload 6, 2) := by decide +kernel
theorem d_Mo_write_190 : decode b_Mo_write 190 = .ok (.iaload, 1) := by decide +kernel
theorem d_Mo_write_191 : decode b_Mo_write 191 = .ok (.iadd, 1) := by decide +kernel
theorem d_Mo_write_192 : decode b_Mo_write 192 = .ok (.isub, 1) := by decide +kernel
theorem d_Mo_write_193 : decode b_Mo_write 193 = .ok (.istore_n 2, 1) := by decide +kernel
theorem d_Mo_write_194 : decode b_Mo_write 194 = .ok (.aload_n 0, 1) := by decide +kernel
theorem d_Mo_write_195 : decode b_Mo_write 195 = .ok (.iload 6, 2) := by decide +kernel
theorem d_Mo_write_197 : decode b_Mo_write 197 = .ok (.invokevirtual 187, 3) := by decide +kernel
theorem d_Mo_write_200 : decode b_Mo_write 200 = .ok (.aload_n 0, 1) := by decide +kernel
theorem d_Mo_write_201 : decode b_Mo_write 201 = .ok (.getfield 153, 3) := by decide +kernel
theorem d_Mo_write_204 : decode b_Mo_write 204 = .ok (.iload_n 2, 1) := by decide +kernel
theorem d_Mo_write_205 : decode b_Mo_write 205 = .ok (.iadd, 1) := by decide +kernel
theorem d_Mo_write_206 : decode b_Mo_write 206 = .ok (.iload_n 1, 1) := by decide +kernel
theorem d_Mo_write_207 : decode b_Mo_write 207 = .ok (.if_icmp .le 41, 3) := by decide +kernel
theorem d_Mo_write_210 : decode b_Mo_write 210 = .ok (.aload_n 0, 1) := by decide +kernel
theorem d_Mo_write_211 : decode b_Mo_write 211 = .ok (.iload 6, 2) := by decide +kernel
theorem d_Mo_write_213 : decode b_Mo_write 213 = .ok (.invokevirtual 183, 3) := by decide +kernel
theorem d_Mo_write_216 : decode b_Mo_write 216 = .ok (.ifCond .ne 32, 3) := by decide +kernel
theorem d_Mo_write_219 : decode b_Mo_write 219 = .ok (.aload_n 0, 1) := by decide +kernel
theorem d_Mo_write_220 : decode b_Mo_write 220 = .ok (.iload 7, 2) := by decide +kernel
theorem d_Mo_write_222 : decode b_Mo_write 222 = .ok (.putfield 153, 3) := by decide +kernel
theorem d_Mo_write_225 : decode b_Mo_write 225 = .ok (.aload_n 0, 1) := by decide +kernel
theorem d_Mo_write_226 : decode b_Mo_write 226 = .ok (.iload 8, 2) := by decide +kernel
theorem d_Mo_write_228 : decode b_Mo_write 228 = .ok (.putfield 159, 3) := by decide +kernel
theorem d_Mo_write_231 : decode b_Mo_write 231 = .ok (.aload_n 0, 1) := by decide +kernel
theorem d_Mo_write_232 : decode b_Mo_write 232 = .ok (.iload 9, 2) := by decide +kernel
theorem d_Mo_write_234 : decode b_Mo_write 234 = .ok (.putfield 173, 3) := by decide +kernel
theorem d_Mo_write_237 : decode b_Mo_write 237 = .ok (.iload 5, 2) := by decide +kernel
theorem d_Mo_write_239 : decode b_Mo_write 239 = .ok (.iconst 3, 1) := by decide +kernel
theorem d_Mo_write_240 : decode b_Mo_write 240 = .ok (.if_icmp .ge 17, 3) := by decide +kernel
theorem d_Mo_write_243 : decode b_Mo_write 243 = .ok (.iconst 1, 1) := by decide +kernel
theorem d_Mo_write_244 : decode b_Mo_write 244 = .ok (.istore_n 3, 1) := by decide +kernel
theorem d_Mo_write_245 : decode b_Mo_write 245 = .ok (.goto 12, 3) := by decide +kernel
theorem d_Mo_write_248 : decode b_Mo_write 248 = .ok (.aload 4, 2) := by decide +kernel
theorem d_Mo_write_250 : decode b_Mo_write 250 = .ok (.iload 5, 2) := by decide +kernel
theorem d_Mo_write_252 : decode b_Mo_write 252 = .ok (.dup2, 1) := by decide +kernel
theorem d_Mo_write_253 : decode b_Mo_write 253 = .ok (.iaload, 1) := by decide +kernel
theorem d_Mo_write_254 : decode b_Mo_write 254 = .ok (.iconst 1, 1) := by decide +kernel
theorem d_Mo_write_255 : decode b_Mo_write 255 = .ok (.iadd, 1) := by decide +kernel
theorem d_Mo_write_256 : decode b_Mo_write 256 = .ok (.iastore, 1) := by decide +kernel
theorem d_Mo_write_257 : decode b_Mo_write 257 = .ok (.iinc 6 1, 3) := by decide +kernel
theorem d_Mo_write_260 : decode b_Mo_write 260 = .ok (.goto (-143), 3) := by decide +kernel
theorem d_Mo_write_263 : decode b_Mo_write 263 = .ok (.iinc 5 1, 3) := by decide +kernel
theorem d_Mo_write_266 : decode b_Mo_write 266 = .ok (.goto (-164), 3) := by decide +kernel
theorem d_Mo_write_269 : decode b_Mo_write 269 = .ok (.aload_n 0, 1) := by decide +kernel
theorem d_Mo_write_270 : decode b_Mo_write 270 = .ok (.getfield 153, 3) := by decide +kernel
theorem d_Mo_write_273 : decode b_Mo_write 273 = .ok (.istore 5, 2) := by decide +kernel
theorem d_Mo_write_275 : decode b_Mo_write 275 = .ok (.aload_n 0, 1) := by decide +kernel
theorem d_Mo_write_276 : decode b_Mo_write 276 = .ok (.iconst 0, 1) := by decide +kernel
theorem d_Mo_write_277 : decode b_Mo_write 277 = .ok (.putfield 153, 3) := by decide +kernel
theorem d_Mo_write_280 : decode b_Mo_write 280 = .ok (.aload_n 0, 1) := by decide +kernel
theorem d_Mo_write_281 : decode b_Mo_write 281 = .ok (.aload_n 0, 1) := by decide +kernel
theorem d_Mo_write_282 : decode b_Mo_write 282 = .ok (.getfield 70, 3) := by decide +kernel
theorem d_Mo_write_285 : decode b_Mo_write 285 = .ok (.invokevirtual 170, 3) := by decide +kernel
theorem d_Mo_write_288 : decode b_Mo_write 288 = .ok (.aload_n 0, 1) := by decide +kernel
theorem d_Mo_write_289 : decode b_Mo_write 289 = .ok (.iload_n 3, 1) := by decide +kernel
theorem d_Mo_write_290 : decode b_Mo_write 290 = .ok (.ifCond .eq 14, 3) := by decide +kernel
theorem d_Mo_write_293 : decode b_Mo_write 293 = .ok (.aload_n 0, 1) := by decide +kernel
theorem d_Mo_write_294 : decode b_Mo_write 294 = .ok (.getfield 73, 3) := by decide +kernel
theorem d_Mo_write_297 : decode b_Mo_write 297 = .ok (.sipush 512, 3) := by decide +kernel
theorem d_Mo_write_300 : decode b_Mo_write 300 = .ok (.ior, 1) := by decide +kernel
theorem d_Mo_write_301 : decode b_Mo_write 301 = .ok (.goto 7, 3) := by decide +kernel
theorem d_Mo_write_304 : decode b_Mo_write 304 = .ok (.aload_n 0, 1) := by decide +kernel
theorem d_Mo_write_305 : decode b_Mo_write 305 = .ok (.getfield 73, 3) := by decide +kernel
theorem d_Mo_write_308 : decode b_Mo_write 308 = .ok (.invokevirtual 170, 3) := by decide +kernel
theorem d_Mo_write_311 : decode b_Mo_write 311 = .ok (.iconst 0, 1) := by decide +kernel
theorem d_Mo_write_312 : decode b_Mo_write 312 = .ok (.istore 6, 2) := by decide +kernel
theorem d_Mo_write_314 : decode b_Mo_write 314 = .ok (.iload 6, 2) := by decide +kernel
theorem d_Mo_write_316 : decode b_Mo_write 316 = .ok (.iconst 4, 1) := by decide +kernel
theorem d_Mo_write_317 : decode b_Mo_write 317 = .ok (.if_icmp .ge 18, 3) := by decide +kernel
theorem d_Mo_write_320 : decode b_Mo_write 320 = .ok (.aload_n 0, 1) := by decide +kernel
theorem d_Mo_write_321 : decode b_Mo_write 321 = .ok (.aload 4, 2) := by decide +kernel
theorem d_Mo_write_323 : decode b_Mo_write 323 = .ok (.iload 6, 2) := by decide +kernel
theorem d_Mo_write_325 : decode b_Mo_write 325 = .ok (.iaload, 1) := by decide +kernel
theorem d_Mo_write_326 : decode b_Mo_write 326 = .ok (.invokevirtual 170, 3) := by decide +kernel
theorem d_Mo_write_329 : decode b_Mo_write 329 = .ok (.iinc 6 1, 3) := by decide +kernel
theorem d_Mo_write_332 : decode b_Mo_write 332 = .ok (.goto (-18), 3) := by decide +kernel
theorem d_Mo_write_335 : decode b_Mo_write 335 = .ok (.aload_n 0, 1) := by decide +kernel
theorem d_Mo_write_336 : decode b_Mo_write 336 = .ok (.iload 5, 2) := by decide +kernel
theorem d_Mo_write_338 : decode b_Mo_write 338 = .ok (.putfield 153, 3) := by decide +kernel
theorem d_Mo_write_341 : decode b_Mo_write 341 = .ok (.aload_n 0, 1) := by decide +kernel
theorem d_Mo_write_342 : decode b_Mo_write 342 = .ok (.getfield 153, 3) := by decide +kernel
theorem d_Mo_write_345 : decode b_Mo_write 345 = .ok (.ireturn, 1) := by decide +kernel
theorem d_Mo_feed_0 : decode b_Mo_feed 0 = .ok (.aload_n 0, 1) := by decide +kernel
theorem d_Mo_feed_1 : decode b_Mo_feed 1 = .ok (.iconst 0, 1) := by decide +kernel
theorem d_Mo_feed_2 : decode b_Mo_feed 2 = .ok (.putfield 61, 3) := by decide +kernel
theorem d_Mo_feed_5 : decode b_Mo_feed 5 = .ok (.aload_n 0, 1) := by decide +kernel
theorem d_Mo_feed_6 : decode b_Mo_feed 6 = .ok (.getfield 86, 3) := by decide +kernel
theorem d_Mo_feed_9 : decode b_Mo_feed 9 = .ok (.ldc 137, 2) := by decide +kernel
theorem d_Mo_feed_11 : decode b_Mo_feed 11 = .ok (.if_icmp .le 9, 3) := by decide +kernel
theorem d_Mo_feed_14 : decode b_Mo_feed 14 = .ok (.aload_n 0, 1) := by decide +kernel
theorem d_Mo_feed_15 : decode b_Mo_feed 15 = .ok (.iconst 1, 1) := by decide +kernel
theorem d_Mo_feed_16 : decode b_Mo_feed 16 = .ok (.invokevirtual 138, 3) := by decide +kernel
theorem d_Mo_feed_19 : decode b_Mo_feed 19 = .ok (.ireturn, 1) := by decide +kernel
theorem d_Mo_feed_20 : decode b_Mo_feed 20 = .ok (.iconst 0, 1) := by decide +kernel
theorem d_Mo_feed_21 : decode b_Mo_feed 21 = .ok (.istore 6, 2) := by decide +kernel
theorem d_Mo_feed_23 : decode b_Mo_feed 23 = .ok (.iload 6, 2) := by decide +kernel
theorem d_Mo_feed_25 : decode b_Mo_feed 25 = .ok (.bipush 20, 2) := by decide +kernel
theorem d_Mo_feed_27 : decode b_Mo_feed 27 = .ok (.if_icmp .ge 82, 3) := by decide +kernel
theorem d_Mo_feed_30 : decode b_Mo_feed 30 = .ok (.iload 6, 2) := by decide +kernel
theorem d_Mo_feed_32 : decode b_Mo_feed 32 = .ok (.iconst 4, 1) := by decide +kernel
theorem d_Mo_feed_33 : decode b_Mo_feed 33 = .ok (.if_icmp .ge 7, 3) := by decide +kernel
theorem d_Mo_feed_36 : decode b_Mo_feed 36 = .ok (.iload_n 1, 1) := by decide +kernel
theorem d_Mo_feed_37 : decode b_Mo_feed 37 = .ok (.goto 39, 3) := by decide +kernel
theorem d_Mo_feed_40 : decode b_Mo_feed 40 = .ok (.iload 6, 2) := by decide +kernel
theorem d_Mo_feed_42 : decode b_Mo_feed 42 = .ok (.bipush 8, 2) := by decide +kernel
theorem d_Mo_feed_44 : decode b_Mo_feed 44 = .ok (.if_icmp .ge 7, 3) := by decide +kernel
theorem d_Mo_feed_47 : decode b_Mo_feed 47 = .ok (.iload_n 2, 1) := by decide +kernel
theorem d_Mo_feed_48 : decode b_Mo_feed 48 = .ok (.goto 28, 3) := by decide +kernel
theorem d_Mo_feed_51 : decode b_Mo_feed 51 = .ok (.iload 6, 2) := by decide +kernel
theorem d_Mo_feed_53 : decode b_Mo_feed 53 = .ok (.bipush 12, 2) := by decide +kernel
theorem d_Mo_feed_55 : decode b_Mo_feed 55 = .ok (.if_icmp .ge 7, 3) := by decide +kernel
theorem d_Mo_feed_58 : decode b_Mo_feed 58 = .ok (.iload_n 3, 1) := by decide +kernel
theorem d_Mo_feed_59 : decode b_Mo_feed 59 = .ok (.goto 17, 3) := by decide +kernel
theorem d_Mo_feed_62 : decode b_Mo_feed 62 = .ok (.iload 6, 2) := by decide +kernel
theorem d_Mo_feed_64 : decode b_Mo_feed 64 = .ok (.bipush 16, 2) := by decide +kernel
theorem d_Mo_feed_66 : decode b_Mo_feed 66 = .ok (.if_icmp .ge 8, 3) := by decide +kernel
theorem d_Mo_feed_69 : decode b_Mo_feed 69 = .ok (.iload 4, 2) := by decide +kernel
theorem d_Mo_feed_71 : decode b_Mo_feed 71 = .ok (.goto 5, 3) := by decide +kernel
theorem d_Mo_feed_74 : decode b_Mo_feed 74 = .ok (.iload 5, 2) := by decide +kernel
theorem d_Mo_feed_76 : decode b_Mo_feed 76 = .ok (.istore 7, 2) := by decide +kernel
theorem d_Mo_feed_78 : decode b_Mo_feed 78 = .ok (.aload_n 0, 1) := by decide +kernel
theorem d_Mo_feed_79 : decode b_Mo_feed 79 = .ok (.getfield 8, 3) := by decide +kernel
theorem d_Mo_feed_82 : decode b_Mo_feed 82 = .ok (.aload_n 0, 1) := by decide +kernel
theorem d_Mo_feed_83 : decode b_Mo_feed 83 = .ok (.getfield 86, 3) := by decide +kernel
theorem d_Mo_feed_86 : decode b_Mo_feed 86 = .ok (.iload 6, 2) := by decide +kernel
theorem d_Mo_feed_88 : decode b_Mo_feed 88 = .ok (.iadd, 1) := by decide +kernel
theorem d_Mo_feed_89 : decode b_Mo_feed 89 = .ok (.iload 7, 2) := by decide +kernel
theorem d_Mo_feed_91 : decode b_Mo_feed 91 = .ok (.bipush 8, 2) := by decide +kernel
theorem d_Mo_feed_93 : decode b_Mo_feed 93 = .ok (.iconst 3, 1) := by decide +kernel
theorem d_Mo_feed_94 : decode b_Mo_feed 94 = .ok (.iload 6, 2) := by decide +kernel
theorem d_Mo_feed_96 : decode b_Mo_feed 96 = .ok (.iconst 4, 1) := by decide +kernel
theorem d_Mo_feed_97 : decode b_Mo_feed 97 = .ok (.irem, 1) := by decide +kernel
theorem d_Mo_feed_98 : decode b_Mo_feed 98 = .ok (.isub, 1) := by decide +kernel
theorem d_Mo_feed_99 : decode b_Mo_feed 99 = .ok (.imul, 1) := by decide +kernel
theorem d_Mo_feed_100 : decode b_Mo_feed 100 = .ok (.ishr, 1) := by decide +kernel
theorem d_Mo_feed_101 : decode b_Mo_feed 101 = .ok (.i2b, 1) := by decide +kernel
theorem d_Mo_feed_102 : decode b_Mo_feed 102 = .ok (.bastore, 1) := by decide +kernel
theorem d_Mo_feed_103 : decode b_Mo_feed 103 = .ok (.iinc 6 1, 3) := by decide +kernel
theorem d_Mo_feed_106 : decode b_Mo_feed 106 = .ok (.goto (-83), 3) := by decide +kernel
theorem d_Mo_feed_109 : decode b_Mo_feed 109 = .ok (.aload_n 0, 1) := by decide +kernel
theorem d_Mo_feed_110 : decode b_Mo_feed 110 = .ok (.dup, 1) := by decide +kernel
theorem d_Mo_feed_111 : decode b_Mo_feed 111 = .ok (.getfield 86, 3) := by decide +kernel
theorem d_Mo_feed_114 : decode b_Mo_feed 114 = .ok (.bipush 20, 2) := by decide +kernel
theorem d_Mo_feed_116 : decode b_Mo_feed 116 = .ok (.iadd, 1) := by decide +kernel
theorem d_Mo_feed_117 : decode b_Mo_feed 117 = .ok (.putfield 86, 3) := by decide +kernel
theorem d_Mo_feed_120 : decode b_Mo_feed 120 = .ok (.aload_n 0, 1) := by decide +kernel
theorem d_Mo_feed_121 : decode b_Mo_feed 121 = .ok (.getfield 86, 3) := by decide +kernel
theorem d_Mo_feed_124 : decode b_Mo_feed 124 = .ok (.ireturn, 1) := by decide +kernel
set_option maxHeartbeats 4000000 in
set_option maxRecDepth 100000 in
theorem c_Mo_noneG (l : Launch) (D9 : va_G) (cB cI cJ cG : ClassId) (mo xta xst xse xty xki xti xna xns xda xds xme xep xea xcw : Nat) (i_thrown i_tapes i_stored i_entries i_id i_flags i_faultAt i_followed i_lastFollowed i_fault i_at i_dataBegin i_dataEnd i_length i_pointers i_ends : Int32) : MW l D9 cls9 (ty9 cB cI cJ cG) y_Mo_none b_Mo_none 1 none (rm9 0 0 0) [.ref mo] [(mo, .inr (7, [.int i_thrown, .ref xta, .int i_tapes, .ref xst, .int i_stored, .int i_entries, .int i_id, .int i_flags, .ref xse, .ref xty, .ref xki, .ref xti, .ref xna, .ref xns, .ref xda, .ref xds, .int i_faultAt, .int i_followed, .int i_lastFollowed, .int i_fault, .int i_at, .int i_dataBegin, .int i_dataEnd, .ref xme, .int i_length, .int i_pointers, .ref xep, .ref xea, .int i_ends, .ref xcw]))] (fun v8 w2 => v8 = none ∧ w2 = [(mo, .inr (7, [.int i_thrown, .ref xta, .int i_tapes, .ref xst, .int (0), .int (0), .int (0), .int (0), .ref xse, .ref xty, .ref xki, .ref xti, .ref xna, .ref xns, .ref xda, .ref xds, .int i_faultAt, .int i_followed, .int i_lastFollowed, .int i_fault, .int i_at, .int i_dataBegin, .int i_dataEnd, .ref xme, .int i_length, .int i_pointers, .ref xep, .ref xea, .int i_ends, .ref xcw]))]) 0 0 := by
  refine mw_of (by decide) (Nat.le_of_ble_eq_true rfl) ?_
  intro p e s m below meth c ls C0 hin hP hD hA hS hl
  obtain ⟨hx, hb, hml, hr, hlocks, hown, hts, hK⟩ := id C0
  have hl : lv_has ls 1 [(0, .ref mo)] := hl
  refine lv_aload_n hx hb d_Mo_none_0 rfl (lv_at hl 0 rfl) ?_
  refine lv_iconst (v := 0) hx hb d_Mo_none_1 (by decide) ?_
  refine va_put (D := D9) (ty := .int) (ci := 7) (C := R_Mo) (T := F_Mo) (N := 30) hx hb hts i_Mo t_Mo t_Mo_ok n_Mo hown hK hP hD hS 0 rfl rfl 4 (by decide) (hts _ g_726) (fun _ h9 => h9) rfl (by decide +kernel) rfl rfl (Nat.le_of_ble_eq_true rfl) d_Mo_none_2 (fun H locs hP hD hS => ?_)
  have hP : va_P D9 cls9 [(mo, .inr (7, [.int i_thrown, .ref xta, .int i_tapes, .ref xst, .int (0), .int i_entries, .int i_id, .int i_flags, .ref xse, .ref xty, .ref xki, .ref xti, .ref xna, .ref xns, .ref xda, .ref xds, .int i_faultAt, .int i_followed, .int i_lastFollowed, .int i_fault, .int i_at, .int i_dataBegin, .int i_dataEnd, .ref xme, .int i_length, .int i_pointers, .ref xep, .ref xea, .int i_ends, .ref xcw]))] H := hP
  have hD : va_D _ [(mo, .inr (7, [.int i_thrown, .ref xta, .int i_tapes, .ref xst, .int (0), .int i_entries, .int i_id, .int i_flags, .ref xse, .ref xty, .ref xki, .ref xti, .ref xna, .ref xns, .ref xda, .ref xds, .int i_faultAt, .int i_followed, .int i_lastFollowed, .int i_fault, .int i_at, .int i_dataBegin, .int i_dataEnd, .ref xme, .int i_length, .int i_pointers, .ref xep, .ref xea, .int i_ends, .ref xcw]))] := hD
  refine lv_aload_n hx hb d_Mo_none_5 rfl (lv_at hl 0 rfl) ?_
  refine lv_iconst (v := 0) hx hb d_Mo_none_6 (by decide) ?_
  refine va_put (D := D9) (ty := .int) (ci := 7) (C := R_Mo) (T := F_Mo) (N := 30) hx hb hts i_Mo t_Mo t_Mo_ok n_Mo hown hK hP hD hS 0 rfl rfl 5 (by decide) (hts _ g_727) (fun _ h9 => h9) rfl (by decide +kernel) rfl rfl (Nat.le_of_ble_eq_true rfl) d_Mo_none_7 (fun H locs hP hD hS => ?_)
  have hP : va_P D9 cls9 [(mo, .inr (7, [.int i_thrown, .ref xta, .int i_tapes, .ref xst, .int (0), .int (0), .int i_id, .int i_flags, .ref xse, .ref xty, .ref xki, .ref xti, .ref xna, .ref xns, .ref xda, .ref xds, .int i_faultAt, .int i_followed, .int i_lastFollowed, .int i_fault, .int i_at, .int i_dataBegin, .int i_dataEnd, .ref xme, .int i_length, .int i_pointers, .ref xep, .ref xea, .int i_ends, .ref xcw]))] H := hP
  have hD : va_D _ [(mo, .inr (7, [.int i_thrown, .ref xta, .int i_tapes, .ref xst, .int (0), .int (0), .int i_id, .int i_flags, .ref xse, .ref xty, .ref xki, .ref xti, .ref xna, .ref xns, .ref xda, .ref xds, .int i_faultAt, .int i_followed, .int i_lastFollowed, .int i_fault, .int i_at, .int i_dataBegin, .int i_dataEnd, .ref xme, .int i_length, .int i_pointers, .ref xep, .ref xea, .int i_ends, .ref xcw]))] := hD
  refine lv_aload_n hx hb d_Mo_none_10 rfl (lv_at hl 0 rfl) ?_
  refine lv_iconst (v := 0) hx hb d_Mo_none_11 (by decide) ?_
  refine va_put (D := D9) (ty := .int) (ci := 7) (C := R_Mo) (T := F_Mo) (N := 30) hx hb hts i_Mo t_Mo t_Mo_ok n_Mo hown hK hP hD hS 0 rfl rfl 6 (by decide) (hts _ g_728) (fun _ h9 => h9) rfl (by decide +kernel) rfl rfl (Nat.le_of_ble_eq_true rfl) d_Mo_none_12 (fun H locs hP hD hS => ?_)
  have hP : va_P D9 cls9 [(mo, .inr (7, [.int i_thrown, .ref xta, .int i_tapes, .ref xst, .int (0), .int (0), .int (0), .int i_flags, .ref xse, .ref xty, .ref xki, .ref xti, .ref xna, .ref xns, .ref xda, .ref xds, .int i_faultAt, .int i_followed, .int i_lastFollowed, .int i_fault, .int i_at, .int i_dataBegin, .int i_dataEnd, .ref xme, .int i_length, .int i_pointers, .ref xep, .ref xea, .int i_ends, .ref xcw]))] H := hP
  have hD : va_D _ [(mo, .inr (7, [.int i_thrown, .ref xta, .int i_tapes, .ref xst, .int (0), .int (0), .int (0), .int i_flags, .ref xse, .ref xty, .ref xki, .ref xti, .ref xna, .ref xns, .ref xda, .ref xds, .int i_faultAt, .int i_followed, .int i_lastFollowed, .int i_fault, .int i_at, .int i_dataBegin, .int i_dataEnd, .ref xme, .int i_length, .int i_pointers, .ref xep, .ref xea, .int i_ends, .ref xcw]))] := hD
  refine lv_aload_n hx hb d_Mo_none_15 rfl (lv_at hl 0 rfl) ?_
  refine lv_iconst (v := 0) hx hb d_Mo_none_16 (by decide) ?_
  refine va_put (D := D9) (ty := .int) (ci := 7) (C := R_Mo) (T := F_Mo) (N := 30) hx hb hts i_Mo t_Mo t_Mo_ok n_Mo hown hK hP hD hS 0 rfl rfl 7 (by decide) (hts _ g_729) (fun _ h9 => h9) rfl (by decide +kernel) rfl rfl (Nat.le_of_ble_eq_true rfl) d_Mo_none_17 (fun H locs hP hD hS => ?_)
  have hP : va_P D9 cls9 [(mo, .inr (7, [.int i_thrown, .ref xta, .int i_tapes, .ref xst, .int (0), .int (0), .int (0), .int (0), .ref xse, .ref xty, .ref xki, .ref xti, .ref xna, .ref xns, .ref xda, .ref xds, .int i_faultAt, .int i_followed, .int i_lastFollowed, .int i_fault, .int i_at, .int i_dataBegin, .int i_dataEnd, .ref xme, .int i_length, .int i_pointers, .ref xep, .ref xea, .int i_ends, .ref xcw]))] H := hP
  have hD : va_D _ [(mo, .inr (7, [.int i_thrown, .ref xta, .int i_tapes, .ref xst, .int (0), .int (0), .int (0), .int (0), .ref xse, .ref xty, .ref xki, .ref xti, .ref xna, .ref xns, .ref xda, .ref xds, .int i_faultAt, .int i_followed, .int i_lastFollowed, .int i_fault, .int i_at, .int i_dataBegin, .int i_dataEnd, .ref xme, .int i_length, .int i_pointers, .ref xep, .ref xea, .int i_ends, .ref xcw]))] := hD
  exact mw_vret hx hb hr hlocks hS hP hD (by decide) (by decide) d_Mo_none_20 (⟨rfl, rfl⟩)
set_option maxHeartbeats 4000000 in
set_option maxRecDepth 100000 in
theorem c_Mo_wrong (l : Launch) (D9 : va_G) (cB cI cJ cG : ClassId) (mo xta xst xse xty xki xti xna xns xda xds xme xep xea xcw : Nat) (i_thrown i_tapes i_stored i_entries i_id i_flags i_faultAt i_followed i_lastFollowed i_at i_dataBegin i_dataEnd i_length i_pointers i_ends u1 u2 : Int32) : MW l D9 cls9 (ty9 cB cI cJ cG) y_Mo_wrong b_Mo_wrong 3 none (rm9 0 0 0) [.ref mo, .int u1, .int u2] [(mo, .inr (7, [.int i_thrown, .ref xta, .int i_tapes, .ref xst, .int i_stored, .int i_entries, .int i_id, .int i_flags, .ref xse, .ref xty, .ref xki, .ref xti, .ref xna, .ref xns, .ref xda, .ref xds, .int i_faultAt, .int i_followed, .int i_lastFollowed, .int 0, .int i_at, .int i_dataBegin, .int i_dataEnd, .ref xme, .int i_length, .int i_pointers, .ref xep, .ref xea, .int i_ends, .ref xcw]))] (fun v8 w2 => v8 = none ∧ w2 = [(mo, .inr (7, [.int i_thrown, .ref xta, .int i_tapes, .ref xst, .int i_stored, .int i_entries, .int i_id, .int i_flags, .ref xse, .ref xty, .ref xki, .ref xti, .ref xna, .ref xns, .ref xda, .ref xds, .int (u2), .int i_followed, .int i_lastFollowed, .int (u1), .int i_at, .int i_dataBegin, .int i_dataEnd, .ref xme, .int i_length, .int i_pointers, .ref xep, .ref xea, .int i_ends, .ref xcw]))]) 0 0 := by
  refine mw_of (by decide) (Nat.le_of_ble_eq_true rfl) ?_
  intro p e s m below meth c ls C0 hin hP hD hA hS hl
  obtain ⟨hx, hb, hml, hr, hlocks, hown, hts, hK⟩ := id C0
  have hl : lv_has ls 3 [(0, .ref mo), (1, .int u1), (2, .int u2)] := hl
  refine lv_aload_n hx hb d_Mo_wrong_0 rfl (lv_at hl 0 rfl) ?_
  refine va_get (D := D9) (ci := 7) (C := R_Mo) (T := F_Mo) (N := 30) hx hb hts i_Mo hown hK hP 0 rfl rfl 19 (by decide) (hts _ g_741) (fun _ h9 => h9) rfl d_Mo_wrong_1 ?_
  refine lv_if_le (tgt := 8) hx hb d_Mo_wrong_4 (by decide) (fun c1 => ?_) (fun c1 => ?_)
  · refine lv_aload_n hx hb d_Mo_wrong_8 rfl (lv_at hl 0 rfl) ?_
    refine lv_iload_n hx hb d_Mo_wrong_9 rfl (lv_at hl 1 rfl) ?_
    refine va_put (D := D9) (ty := .int) (ci := 7) (C := R_Mo) (T := F_Mo) (N := 30) hx hb hts i_Mo t_Mo t_Mo_ok n_Mo hown hK hP hD hS 0 rfl rfl 19 (by decide) (hts _ g_741) (fun _ h9 => h9) rfl (by decide +kernel) rfl rfl (Nat.le_of_ble_eq_true rfl) d_Mo_wrong_10 (fun H locs hP hD hS => ?_)
    have hP : va_P D9 cls9 [(mo, .inr (7, [.int i_thrown, .ref xta, .int i_tapes, .ref xst, .int i_stored, .int i_entries, .int i_id, .int i_flags, .ref xse, .ref xty, .ref xki, .ref xti, .ref xna, .ref xns, .ref xda, .ref xds, .int i_faultAt, .int i_followed, .int i_lastFollowed, .int (u1), .int i_at, .int i_dataBegin, .int i_dataEnd, .ref xme, .int i_length, .int i_pointers, .ref xep, .ref xea, .int i_ends, .ref xcw]))] H := hP
    have hD : va_D _ [(mo, .inr (7, [.int i_thrown, .ref xta, .int i_tapes, .ref xst, .int i_stored, .int i_entries, .int i_id, .int i_flags, .ref xse, .ref xty, .ref xki, .ref xti, .ref xna, .ref xns, .ref xda, .ref xds, .int i_faultAt, .int i_followed, .int i_lastFollowed, .int (u1), .int i_at, .int i_dataBegin, .int i_dataEnd, .ref xme, .int i_length, .int i_pointers, .ref xep, .ref xea, .int i_ends, .ref xcw]))] := hD
    refine lv_aload_n hx hb d_Mo_wrong_13 rfl (lv_at hl 0 rfl) ?_
    refine lv_iload_n hx hb d_Mo_wrong_14 rfl (lv_at hl 2 rfl) ?_
    refine va_put (D := D9) (ty := .int) (ci := 7) (C := R_Mo) (T := F_Mo) (N := 30) hx hb hts i_Mo t_Mo t_Mo_ok n_Mo hown hK hP hD hS 0 rfl rfl 16 (by decide) (hts _ g_738) (fun _ h9 => h9) rfl (by decide +kernel) rfl rfl (Nat.le_of_ble_eq_true rfl) d_Mo_wrong_15 (fun H locs hP hD hS => ?_)
    have hP : va_P D9 cls9 [(mo, .inr (7, [.int i_thrown, .ref xta, .int i_tapes, .ref xst, .int i_stored, .int i_entries, .int i_id, .int i_flags, .ref xse, .ref xty, .ref xki, .ref xti, .ref xna, .ref xns, .ref xda, .ref xds, .int (u2), .int i_followed, .int i_lastFollowed, .int (u1), .int i_at, .int i_dataBegin, .int i_dataEnd, .ref xme, .int i_length, .int i_pointers, .ref xep, .ref xea, .int i_ends, .ref xcw]))] H := hP
    have hD : va_D _ [(mo, .inr (7, [.int i_thrown, .ref xta, .int i_tapes, .ref xst, .int i_stored, .int i_entries, .int i_id, .int i_flags, .ref xse, .ref xty, .ref xki, .ref xti, .ref xna, .ref xns, .ref xda, .ref xds, .int (u2), .int i_followed, .int i_lastFollowed, .int (u1), .int i_at, .int i_dataBegin, .int i_dataEnd, .ref xme, .int i_length, .int i_pointers, .ref xep, .ref xea, .int i_ends, .ref xcw]))] := hD
    exact mw_vret hx hb hr hlocks hS hP hD (by decide) (by decide) d_Mo_wrong_18 (⟨rfl, rfl⟩)
  · exact absurd c1 (by decide +kernel)
set_option maxHeartbeats 4000000 in
set_option maxRecDepth 100000 in
theorem c_Mo_thrown (l : Launch) (D9 : va_G) (cB cI cJ cG : ClassId) (mo xta xst xse xty xki xti xna xns xda xds xme xep xea xcw : Nat) (i_thrown i_tapes i_stored i_entries i_id i_flags i_faultAt i_followed i_lastFollowed i_fault i_at i_dataBegin i_dataEnd i_length i_pointers i_ends : Int32) : MW l D9 cls9 (ty9 cB cI cJ cG) y_Mo_thrown b_Mo_thrown 1 (some .int) (rm9 0 0 0) [.ref mo] [(mo, .inr (7, [.int i_thrown, .ref xta, .int i_tapes, .ref xst, .int i_stored, .int i_entries, .int i_id, .int i_flags, .ref xse, .ref xty, .ref xki, .ref xti, .ref xna, .ref xns, .ref xda, .ref xds, .int i_faultAt, .int i_followed, .int i_lastFollowed, .int i_fault, .int i_at, .int i_dataBegin, .int i_dataEnd, .ref xme, .int i_length, .int i_pointers, .ref xep, .ref xea, .int i_ends, .ref xcw]))] (fun v8 w2 => v8 = some (.int i_thrown) ∧ w2 = [(mo, .inr (7, [.int i_thrown, .ref xta, .int i_tapes, .ref xst, .int i_stored, .int i_entries, .int i_id, .int i_flags, .ref xse, .ref xty, .ref xki, .ref xti, .ref xna, .ref xns, .ref xda, .ref xds, .int i_faultAt, .int i_followed, .int i_lastFollowed, .int i_fault, .int i_at, .int i_dataBegin, .int i_dataEnd, .ref xme, .int i_length, .int i_pointers, .ref xep, .ref xea, .int i_ends, .ref xcw]))]) 0 0 := by
  refine mw_of (by decide) (Nat.le_of_ble_eq_true rfl) ?_
  intro p e s m below meth c ls C0 hin hP hD hA hS hl
  obtain ⟨hx, hb, hml, hr, hlocks, hown, hts, hK⟩ := id C0
  have hl : lv_has ls 1 [(0, .ref mo)] := hl
  refine lv_aload_n hx hb d_Mo_thrown_0 rfl (lv_at hl 0 rfl) ?_
  refine va_get (D := D9) (ci := 7) (C := R_Mo) (T := F_Mo) (N := 30) hx hb hts i_Mo hown hK hP 0 rfl rfl 0 (by decide) (hts _ g_722) (fun _ h9 => h9) rfl d_Mo_thrown_1 ?_
  exact mw_zret hx hb hr hlocks hS hP hD (by decide) (by decide) d_Mo_thrown_4 (by first | rfl | decide +kernel) (⟨rfl, rfl⟩)
set_option maxHeartbeats 4000000 in
set_option maxRecDepth 100000 in
theorem c_Mo_read (l : Launch) (D9 : va_G) (cB cI cJ cG : ClassId) (mo xta xst xse xty xki xti xna xns xda xds xme xep xea xcw : Nat) : MW l D9 cls9 (ty9 cB cI cJ cG) y_Mo_read b_Mo_read 4 (some .int) (rm9 1 0 0) [.ref mo] [(mo, .inr (7, [.int 0, .ref xta, .int 0, .ref xst, .int 0, .int 0, .int 0, .int 0, .ref xse, .ref xty, .ref xki, .ref xti, .ref xna, .ref xns, .ref xda, .ref xds, .int (-1), .int 0, .int 0, .int 0, .int 0, .int 0, .int 0, .ref xme, .int 0, .int 0, .ref xep, .ref xea, .int 0, .ref xcw]))] (fun v8 w2 => ∃ (r : Int32) (x0 : Int32) (x1 : Int32) (x2 : Int32) (x3 : Int32) (x4 : Int32) (x5 : Int32) (x6 : Int32) (x7 : Int32) (x8 : Int32) (x9 : Int32) (x10 : Int32) (x11 : Int32) (x12 : Int32) (x13 : Int32) (x14 : Int32) (x15 : Int32), v8 = some (.int r) ∧ w2 = [(mo, .inr (7, [.int x0, .ref xta, .int x1, .ref xst, .int x2, .int x3, .int x4, .int x5, .ref xse, .ref xty, .ref xki, .ref xti, .ref xna, .ref xns, .ref xda, .ref xds, .int x6, .int x7, .int x8, .int x9, .int x10, .int x11, .int x12, .ref xme, .int x13, .int x14, .ref xep, .ref xea, .int x15, .ref xcw]))] ∧ (r = 1 ∧ x0 = 0)) 0 0 := by
  refine mw_of (by decide) (Nat.le_of_ble_eq_true rfl) ?_
  intro p e s m below meth c ls C0 hin hP hD hA hS hl
  obtain ⟨hx, hb, hml, hr, hlocks, hown, hts, hK⟩ := id C0
  have hl : lv_has ls 4 [(0, .ref mo)] := hl
  refine lv_aload_n hx hb d_Mo_read_0 rfl (lv_at hl 0 rfl) ?_
  refine lv_iconst (v := 0) hx hb d_Mo_read_1 (by decide) ?_
  refine va_put (D := D9) (ty := .int) (ci := 7) (C := R_Mo) (T := F_Mo) (N := 30) hx hb hts i_Mo t_Mo t_Mo_ok n_Mo hown hK hP hD hS 0 rfl rfl 0 (by decide) (hts _ g_722) (fun _ h9 => h9) rfl (by decide +kernel) rfl rfl (Nat.le_of_ble_eq_true rfl) d_Mo_read_2 (fun H locs hP hD hS => ?_)
  have hP : va_P D9 cls9 [(mo, .inr (7, [.int (0), .ref xta, .int 0, .ref xst, .int 0, .int 0, .int 0, .int 0, .ref xse, .ref xty, .ref xki, .ref xti, .ref xna, .ref xns, .ref xda, .ref xds, .int (-1), .int 0, .int 0, .int 0, .int 0, .int 0, .int 0, .ref xme, .int 0, .int 0, .ref xep, .ref xea, .int 0, .ref xcw]))] H := hP
  have hD : va_D _ [(mo, .inr (7, [.int (0), .ref xta, .int 0, .ref xst, .int 0, .int 0, .int 0, .int 0, .ref xse, .ref xty, .ref xki, .ref xti, .ref xna, .ref xns, .ref xda, .ref xds, .int (-1), .int 0, .int 0, .int 0, .int 0, .int 0, .int 0, .ref xme, .int 0, .int 0, .ref xep, .ref xea, .int 0, .ref xcw]))] := hD
  refine lv_aload_n hx hb d_Mo_read_5 rfl (lv_at hl 0 rfl) ?_
  refine mf_cV (wr := []) (ci := 7) (k := 0) C0 (c_Mo_noneG l D9 cB cI cJ cG mo xta xst xse xty xki xti xna xns xda xds xme xep xea xcw _ _ _ _ _ _ _ _ _ _ _ _ _ _ _ _) g_824 g_8 g_821 g_823 gs_Mo_none ⟨by decide +kernel, by decide +kernel, show Option.map (fun d => d.parameters.length) (parseMethodDescriptor y_Mo_none.desc) = some 0 by decide +kernel⟩ ⟨by decide, by decide⟩ rfl rfl hP hD hS hA [0] [] rfl rfl (by decide) (by decide) (by decide) rfl rfl hl.1 (Nat.le_of_ble_eq_true rfl) rfl d_Mo_read_6 ⟨by decide, by decide⟩ (fun v9 w9 H locs hq hP hD hS => ?_)
  obtain ⟨rfl, hw9⟩ := hq
  rw [hw9] at hP hD
  have hP : va_P D9 cls9 [(mo, .inr (7, [.int _, .ref xta, .int _, .ref xst, .int (0), .int (0), .int (0), .int (0), .ref xse, .ref xty, .ref xki, .ref xti, .ref xna, .ref xns, .ref xda, .ref xds, .int _, .int _, .int _, .int _, .int _, .int _, .int _, .ref xme, .int _, .int _, .ref xep, .ref xea, .int _, .ref xcw]))] H := hP
  have hD : va_D _ [(mo, .inr (7, [.int _, .ref xta, .int _, .ref xst, .int (0), .int (0), .int (0), .int (0), .ref xse, .ref xty, .ref xki, .ref xti, .ref xna, .ref xns, .ref xda, .ref xds, .int _, .int _, .int _, .int _, .int _, .int _, .int _, .ref xme, .int _, .int _, .ref xep, .ref xea, .int _, .ref xcw]))] := hD
  refine lv_aload_n hx hb d_Mo_read_9 rfl (lv_at hl 0 rfl) ?_
  refine lv_iconst (v := 0) hx hb d_Mo_read_10 (by decide) ?_
  refine va_put (D := D9) (ty := .int) (ci := 7) (C := R_Mo) (T := F_Mo) (N := 30) hx hb hts i_Mo t_Mo t_Mo_ok n_Mo hown hK hP hD hS 0 rfl rfl 19 (by decide) (hts _ g_741) (fun _ h9 => h9) rfl (by decide +kernel) rfl rfl (Nat.le_of_ble_eq_true rfl) d_Mo_read_11 (fun H locs hP hD hS => ?_)
  have hP : va_P D9 cls9 [(mo, .inr (7, [.int _, .ref xta, .int _, .ref xst, .int (0), .int (0), .int (0), .int (0), .ref xse, .ref xty, .ref xki, .ref xti, .ref xna, .ref xns, .ref xda, .ref xds, .int _, .int _, .int _, .int (0), .int _, .int _, .int _, .ref xme, .int _, .int _, .ref xep, .ref xea, .int _, .ref xcw]))] H := hP
  have hD : va_D _ [(mo, .inr (7, [.int _, .ref xta, .int _, .ref xst, .int (0), .int (0), .int (0), .int (0), .ref xse, .ref xty, .ref xki, .ref xti, .ref xna, .ref xns, .ref xda, .ref xds, .int _, .int _, .int _, .int (0), .int _, .int _, .int _, .ref xme, .int _, .int _, .ref xep, .ref xea, .int _, .ref xcw]))] := hD
  refine lv_aload_n hx hb d_Mo_read_14 rfl (lv_at hl 0 rfl) ?_
  refine lv_iconst (v := -1) hx hb d_Mo_read_15 (by decide) ?_
  refine va_put (D := D9) (ty := .int) (ci := 7) (C := R_Mo) (T := F_Mo) (N := 30) hx hb hts i_Mo t_Mo t_Mo_ok n_Mo hown hK hP hD hS 0 rfl rfl 16 (by decide) (hts _ g_738) (fun _ h9 => h9) rfl (by decide +kernel) rfl rfl (Nat.le_of_ble_eq_true rfl) d_Mo_read_16 (fun H locs hP hD hS => ?_)
  have hP : va_P D9 cls9 [(mo, .inr (7, [.int _, .ref xta, .int _, .ref xst, .int (0), .int (0), .int (0), .int (0), .ref xse, .ref xty, .ref xki, .ref xti, .ref xna, .ref xns, .ref xda, .ref xds, .int (-1), .int _, .int _, .int (0), .int _, .int _, .int _, .ref xme, .int _, .int _, .ref xep, .ref xea, .int _, .ref xcw]))] H := hP
  have hD : va_D _ [(mo, .inr (7, [.int _, .ref xta, .int _, .ref xst, .int (0), .int (0), .int (0), .int (0), .ref xse, .ref xty, .ref xki, .ref xti, .ref xna, .ref xns, .ref xda, .ref xds, .int (-1), .int _, .int _, .int (0), .int _, .int _, .int _, .ref xme, .int _, .int _, .ref xep, .ref xea, .int _, .ref xcw]))] := hD
  refine lv_aload_n hx hb d_Mo_read_19 rfl (lv_at hl 0 rfl) ?_
  refine lv_iconst (v := 0) hx hb d_Mo_read_20 (by decide) ?_
  refine va_put (D := D9) (ty := .int) (ci := 7) (C := R_Mo) (T := F_Mo) (N := 30) hx hb hts i_Mo t_Mo t_Mo_ok n_Mo hown hK hP hD hS 0 rfl rfl 17 (by decide) (hts _ g_739) (fun _ h9 => h9) rfl (by decide +kernel) rfl rfl (Nat.le_of_ble_eq_true rfl) d_Mo_read_21 (fun H locs hP hD hS => ?_)
  have hP : va_P D9 cls9 [(mo, .inr (7, [.int _, .ref xta, .int _, .ref xst, .int (0), .int (0), .int (0), .int (0), .ref xse, .ref xty, .ref xki, .ref xti, .ref xna, .ref xns, .ref xda, .ref xds, .int (-1), .int (0), .int _, .int (0), .int _, .int _, .int _, .ref xme, .int _, .int _, .ref xep, .ref xea, .int _, .ref xcw]))] H := hP
  have hD : va_D _ [(mo, .inr (7, [.int _, .ref xta, .int _, .ref xst, .int (0), .int (0), .int (0), .int (0), .ref xse, .ref xty, .ref xki, .ref xti, .ref xna, .ref xns, .ref xda, .ref xds, .int (-1), .int (0), .int _, .int (0), .int _, .int _, .int _, .ref xme, .int _, .int _, .ref xep, .ref xea, .int _, .ref xcw]))] := hD
  refine lv_aload_n hx hb d_Mo_read_24 rfl (lv_at hl 0 rfl) ?_
  refine lv_bipush (v := 12) hx hb d_Mo_read_25 (by decide) ?_
  refine va_put (D := D9) (ty := .int) (ci := 7) (C := R_Mo) (T := F_Mo) (N := 30) hx hb hts i_Mo t_Mo t_Mo_ok n_Mo hown hK hP hD hS 0 rfl rfl 20 (by decide) (hts _ g_742) (fun _ h9 => h9) rfl (by decide +kernel) rfl rfl (Nat.le_of_ble_eq_true rfl) d_Mo_read_27 (fun H locs hP hD hS => ?_)
  have hP : va_P D9 cls9 [(mo, .inr (7, [.int _, .ref xta, .int _, .ref xst, .int (0), .int (0), .int (0), .int (0), .ref xse, .ref xty, .ref xki, .ref xti, .ref xna, .ref xns, .ref xda, .ref xds, .int (-1), .int (0), .int _, .int (0), .int (12), .int _, .int _, .ref xme, .int _, .int _, .ref xep, .ref xea, .int _, .ref xcw]))] H := hP
  have hD : va_D _ [(mo, .inr (7, [.int _, .ref xta, .int _, .ref xst, .int (0), .int (0), .int (0), .int (0), .ref xse, .ref xty, .ref xki, .ref xti, .ref xna, .ref xns, .ref xda, .ref xds, .int (-1), .int (0), .int _, .int (0), .int (12), .int _, .int _, .ref xme, .int _, .int _, .ref xep, .ref xea, .int _, .ref xcw]))] := hD
  refine lv_aload_n hx hb d_Mo_read_30 rfl (lv_at hl 0 rfl) ?_
  refine va_get (D := D9) (ci := 7) (C := R_Mo) (T := F_Mo) (N := 30) hx hb hts i_Mo hown hK hP 0 rfl rfl 2 (by decide) (hts _ g_724) (fun _ h9 => h9) rfl d_Mo_read_31 ?_
  refine lv_bipush (v := 12) hx hb d_Mo_read_34 (by decide) ?_
  refine lv_icmp_ge (tgt := 45) hx hb d_Mo_read_36 (by decide) (fun c1 => ?_) (fun c1 => ?_)
  · exact absurd c1 (by decide +kernel)
  · refine lv_aload_n hx hb d_Mo_read_39 rfl (lv_at hl 0 rfl) ?_
    refine lv_iconst (v := 1) hx hb d_Mo_read_40 (by decide) ?_
    refine lv_iconst (v := 0) hx hb d_Mo_read_41 (by decide) ?_
    refine mf_cV (wr := []) (ci := 7) (k := 0) C0 (c_Mo_wrong l D9 cB cI cJ cG mo xta xst xse xty xki xti xna xns xda xds xme xep xea xcw _ _ _ _ _ _ _ _ _ _ _ _ _ _ _ _ _) g_828 g_8 g_825 g_827 gs_Mo_wrong ⟨by decide +kernel, by decide +kernel, show Option.map (fun d => d.parameters.length) (parseMethodDescriptor y_Mo_wrong.desc) = some 2 by decide +kernel⟩ ⟨by decide, by decide⟩ rfl rfl hP hD hS hA [0] [] rfl rfl (by decide) (by decide) (by decide) rfl rfl hl.1 (Nat.le_of_ble_eq_true rfl) rfl d_Mo_read_42 ⟨by decide, by decide⟩ (fun v9 w9 H locs hq hP hD hS => ?_)
    obtain ⟨rfl, hw9⟩ := hq
    rw [hw9] at hP hD
    have hP : va_P D9 cls9 [(mo, .inr (7, [.int _, .ref xta, .int _, .ref xst, .int _, .int _, .int _, .int _, .ref xse, .ref xty, .ref xki, .ref xti, .ref xna, .ref xns, .ref xda, .ref xds, .int _, .int _, .int _, .int _, .int _, .int _, .int _, .ref xme, .int _, .int _, .ref xep, .ref xea, .int _, .ref xcw]))] H := hP
    have hD : va_D _ [(mo, .inr (7, [.int _, .ref xta, .int _, .ref xst, .int _, .int _, .int _, .int _, .ref xse, .ref xty, .ref xki, .ref xti, .ref xna, .ref xns, .ref xda, .ref xds, .int _, .int _, .int _, .int _, .int _, .int _, .int _, .ref xme, .int _, .int _, .ref xep, .ref xea, .int _, .ref xcw]))] := hD
    refine lv_iconst (v := 0) hx hb d_Mo_read_45 (by decide) ?_
    refine lv_istore_n (lv' := [(1, _), (0, _)]) hx hb d_Mo_read_46 rfl hl (by decide) rfl (fun ls hl => ?_)
    refine lv_iload_n hx hb d_Mo_read_47 rfl (lv_at hl 0 rfl) ?_
    refine lv_iconst (v := 4) hx hb d_Mo_read_48 (by decide) ?_
    refine lv_icmp_ge (tgt := 104) hx hb d_Mo_read_49 (by decide) (fun c2 => ?_) (fun c2 => ?_)
    · exact absurd c2 (by decide +kernel)
    · refine lv_aload_n hx hb d_Mo_read_52 rfl (lv_at hl 1 rfl) ?_
      refine va_get (D := D9) (ci := 7) (C := R_Mo) (T := F_Mo) (N := 30) hx hb hts i_Mo hown hK hP 0 rfl rfl 19 (by decide) (hts _ g_741) (fun _ h9 => h9) rfl d_Mo_read_53 ?_
      refine lv_if_le (tgt := 63) hx hb d_Mo_read_56 (by decide) (fun c3 => ?_) (fun c3 => ?_)
      · exact absurd c3 (by decide +kernel)
      · refine lv_iconst (v := 0) hx hb d_Mo_read_59 (by decide) ?_
        refine lv_goto (tgt := 72) hx hb d_Mo_read_60 (by decide) ?_
        refine lv_istore_n (lv' := [(2, _), (1, _), (0, _)]) hx hb d_Mo_read_72 rfl hl (by decide) rfl (fun ls hl => ?_)
        refine lv_iconst (v := 0) hx hb d_Mo_read_73 (by decide) ?_
        refine lv_istore_n (lv' := [(3, _), (2, _), (1, _), (0, _)]) hx hb d_Mo_read_74 rfl hl (by decide) rfl (fun ls hl => ?_)
        refine lv_iload_n hx hb d_Mo_read_75 rfl (lv_at hl 0 rfl) ?_
        refine lv_iload_n hx hb d_Mo_read_76 rfl (lv_at hl 1 rfl) ?_
        refine lv_icmp_ge (tgt := 98) hx hb d_Mo_read_77 (by decide) (fun c4 => ?_) (fun c4 => ?_)
        · refine lv_iinc (lv' := [(1, _), (3, _), (2, _), (0, _)]) hx hb d_Mo_read_98 hl (k := 2) rfl rfl (by decide) rfl (fun ls hl => ?_)
          refine lv_goto (tgt := 47) hx hb d_Mo_read_101 (by decide) ?_
          refine lv_iload_n hx hb d_Mo_read_47 rfl (lv_at hl 0 rfl) ?_
          refine lv_iconst (v := 4) hx hb d_Mo_read_48 (by decide) ?_
          refine lv_icmp_ge (tgt := 104) hx hb d_Mo_read_49 (by decide) (fun c5 => ?_) (fun c5 => ?_)
          · exact absurd c5 (by decide +kernel)
          · refine lv_aload_n hx hb d_Mo_read_52 rfl (lv_at hl 3 rfl) ?_
            refine va_get (D := D9) (ci := 7) (C := R_Mo) (T := F_Mo) (N := 30) hx hb hts i_Mo hown hK hP 0 rfl rfl 19 (by decide) (hts _ g_741) (fun _ h9 => h9) rfl d_Mo_read_53 ?_
            refine lv_if_le (tgt := 63) hx hb d_Mo_read_56 (by decide) (fun c6 => ?_) (fun c6 => ?_)
            · exact absurd c6 (by decide +kernel)
            · refine lv_iconst (v := 0) hx hb d_Mo_read_59 (by decide) ?_
              refine lv_goto (tgt := 72) hx hb d_Mo_read_60 (by decide) ?_
              refine lv_istore_n (lv' := [(2, _), (1, _), (3, _), (0, _)]) hx hb d_Mo_read_72 rfl hl (by decide) rfl (fun ls hl => ?_)
              refine lv_iconst (v := 0) hx hb d_Mo_read_73 (by decide) ?_
              refine lv_istore_n (lv' := [(3, _), (2, _), (1, _), (0, _)]) hx hb d_Mo_read_74 rfl hl (by decide) rfl (fun ls hl => ?_)
              refine lv_iload_n hx hb d_Mo_read_75 rfl (lv_at hl 0 rfl) ?_
              refine lv_iload_n hx hb d_Mo_read_76 rfl (lv_at hl 1 rfl) ?_
              refine lv_icmp_ge (tgt := 98) hx hb d_Mo_read_77 (by decide) (fun c7 => ?_) (fun c7 => ?_)
              · refine lv_iinc (lv' := [(1, _), (3, _), (2, _), (0, _)]) hx hb d_Mo_read_98 hl (k := 2) rfl rfl (by decide) rfl (fun ls hl => ?_)
                refine lv_goto (tgt := 47) hx hb d_Mo_read_101 (by decide) ?_
                refine lv_iload_n hx hb d_Mo_read_47 rfl (lv_at hl 0 rfl) ?_
                refine lv_iconst (v := 4) hx hb d_Mo_read_48 (by decide) ?_
                refine lv_icmp_ge (tgt := 104) hx hb d_Mo_read_49 (by decide) (fun c8 => ?_) (fun c8 => ?_)
                · exact absurd c8 (by decide +kernel)
                · refine lv_aload_n hx hb d_Mo_read_52 rfl (lv_at hl 3 rfl) ?_
                  refine va_get (D := D9) (ci := 7) (C := R_Mo) (T := F_Mo) (N := 30) hx hb hts i_Mo hown hK hP 0 rfl rfl 19 (by decide) (hts _ g_741) (fun _ h9 => h9) rfl d_Mo_read_53 ?_
                  refine lv_if_le (tgt := 63) hx hb d_Mo_read_56 (by decide) (fun c9 => ?_) (fun c9 => ?_)
                  · exact absurd c9 (by decide +kernel)
                  · refine lv_iconst (v := 0) hx hb d_Mo_read_59 (by decide) ?_
                    refine lv_goto (tgt := 72) hx hb d_Mo_read_60 (by decide) ?_
                    refine lv_istore_n (lv' := [(2, _), (1, _), (3, _), (0, _)]) hx hb d_Mo_read_72 rfl hl (by decide) rfl (fun ls hl => ?_)
                    refine lv_iconst (v := 0) hx hb d_Mo_read_73 (by decide) ?_
                    refine lv_istore_n (lv' := [(3, _), (2, _), (1, _), (0, _)]) hx hb d_Mo_read_74 rfl hl (by decide) rfl (fun ls hl => ?_)
                    refine lv_iload_n hx hb d_Mo_read_75 rfl (lv_at hl 0 rfl) ?_
                    refine lv_iload_n hx hb d_Mo_read_76 rfl (lv_at hl 1 rfl) ?_
                    refine lv_icmp_ge (tgt := 98) hx hb d_Mo_read_77 (by decide) (fun c10 => ?_) (fun c10 => ?_)
                    · refine lv_iinc (lv' := [(1, _), (3, _), (2, _), (0, _)]) hx hb d_Mo_read_98 hl (k := 2) rfl rfl (by decide) rfl (fun ls hl => ?_)
                      refine lv_goto (tgt := 47) hx hb d_Mo_read_101 (by decide) ?_
                      refine lv_iload_n hx hb d_Mo_read_47 rfl (lv_at hl 0 rfl) ?_
                      refine lv_iconst (v := 4) hx hb d_Mo_read_48 (by decide) ?_
                      refine lv_icmp_ge (tgt := 104) hx hb d_Mo_read_49 (by decide) (fun c11 => ?_) (fun c11 => ?_)
                      · exact absurd c11 (by decide +kernel)
                      · refine lv_aload_n hx hb d_Mo_read_52 rfl (lv_at hl 3 rfl) ?_
                        refine va_get (D := D9) (ci := 7) (C := R_Mo) (T := F_Mo) (N := 30) hx hb hts i_Mo hown hK hP 0 rfl rfl 19 (by decide) (hts _ g_741) (fun _ h9 => h9) rfl d_Mo_read_53 ?_
                        refine lv_if_le (tgt := 63) hx hb d_Mo_read_56 (by decide) (fun c12 => ?_) (fun c12 => ?_)
                        · exact absurd c12 (by decide +kernel)
                        · refine lv_iconst (v := 0) hx hb d_Mo_read_59 (by decide) ?_
                          refine lv_goto (tgt := 72) hx hb d_Mo_read_60 (by decide) ?_
                          refine lv_istore_n (lv' := [(2, _), (1, _), (3, _), (0, _)]) hx hb d_Mo_read_72 rfl hl (by decide) rfl (fun ls hl => ?_)
                          refine lv_iconst (v := 0) hx hb d_Mo_read_73 (by decide) ?_
                          refine lv_istore_n (lv' := [(3, _), (2, _), (1, _), (0, _)]) hx hb d_Mo_read_74 rfl hl (by decide) rfl (fun ls hl => ?_)
                          refine lv_iload_n hx hb d_Mo_read_75 rfl (lv_at hl 0 rfl) ?_
                          refine lv_iload_n hx hb d_Mo_read_76 rfl (lv_at hl 1 rfl) ?_
                          refine lv_icmp_ge (tgt := 98) hx hb d_Mo_read_77 (by decide) (fun c13 => ?_) (fun c13 => ?_)
                          · refine lv_iinc (lv' := [(1, _), (3, _), (2, _), (0, _)]) hx hb d_Mo_read_98 hl (k := 2) rfl rfl (by decide) rfl (fun ls hl => ?_)
                            refine lv_goto (tgt := 47) hx hb d_Mo_read_101 (by decide) ?_
                            refine lv_iload_n hx hb d_Mo_read_47 rfl (lv_at hl 0 rfl) ?_
                            refine lv_iconst (v := 4) hx hb d_Mo_read_48 (by decide) ?_
                            refine lv_icmp_ge (tgt := 104) hx hb d_Mo_read_49 (by decide) (fun c14 => ?_) (fun c14 => ?_)
                            · refine lv_aload_n hx hb d_Mo_read_104 rfl (lv_at hl 3 rfl) ?_
                              refine va_get (D := D9) (ci := 7) (C := R_Mo) (T := F_Mo) (N := 30) hx hb hts i_Mo hown hK hP 0 rfl rfl 19 (by decide) (hts _ g_741) (fun _ h9 => h9) rfl d_Mo_read_105 ?_
                              refine lv_if_ne (tgt := 132) hx hb d_Mo_read_108 (by decide) (fun c15 => ?_) (fun c15 => ?_)
                              · refine lv_aload_n hx hb d_Mo_read_132 rfl (lv_at hl 3 rfl) ?_
                                refine va_get (D := D9) (ci := 7) (C := R_Mo) (T := F_Mo) (N := 30) hx hb hts i_Mo hown hK hP 0 rfl rfl 19 (by decide) (hts _ g_741) (fun _ h9 => h9) rfl d_Mo_read_133 ?_
                                refine lv_if_ne (tgt := 168) hx hb d_Mo_read_136 (by decide) (fun c16 => ?_) (fun c16 => ?_)
                                · refine lv_aload_n hx hb d_Mo_read_168 rfl (lv_at hl 3 rfl) ?_
                                  refine mf_cV (wr := []) (ci := 7) (k := 0) C0 (c_Mo_noneG l D9 cB cI cJ cG mo xta xst xse xty xki xti xna xns xda xds xme xep xea xcw _ _ _ _ _ _ _ _ _ _ _ _ _ _ _ _) g_824 g_8 g_821 g_823 gs_Mo_none ⟨by decide +kernel, by decide +kernel, show Option.map (fun d => d.parameters.length) (parseMethodDescriptor y_Mo_none.desc) = some 0 by decide +kernel⟩ ⟨by decide, by decide⟩ rfl rfl hP hD hS hA [0] [] rfl rfl (by decide) (by decide) (by decide) rfl rfl hl.1 (Nat.le_of_ble_eq_true rfl) rfl d_Mo_read_169 ⟨by decide, by decide⟩ (fun v9 w9 H locs hq hP hD hS => ?_)
                                  obtain ⟨rfl, hw9⟩ := hq
                                  rw [hw9] at hP hD
                                  have hP : va_P D9 cls9 [(mo, .inr (7, [.int _, .ref xta, .int _, .ref xst, .int (0), .int (0), .int (0), .int (0), .ref xse, .ref xty, .ref xki, .ref xti, .ref xna, .ref xns, .ref xda, .ref xds, .int _, .int _, .int _, .int _, .int _, .int _, .int _, .ref xme, .int _, .int _, .ref xep, .ref xea, .int _, .ref xcw]))] H := hP
                                  have hD : va_D _ [(mo, .inr (7, [.int _, .ref xta, .int _, .ref xst, .int (0), .int (0), .int (0), .int (0), .ref xse, .ref xty, .ref xki, .ref xti, .ref xna, .ref xns, .ref xda, .ref xds, .int _, .int _, .int _, .int _, .int _, .int _, .int _, .ref xme, .int _, .int _, .ref xep, .ref xea, .int _, .ref xcw]))] := hD
                                  refine lv_aload_n hx hb d_Mo_read_172 rfl (lv_at hl 3 rfl) ?_
                                  refine lv_iconst (v := 0) hx hb d_Mo_read_173 (by decide) ?_
                                  refine va_put (D := D9) (ty := .int) (ci := 7) (C := R_Mo) (T := F_Mo) (N := 30) hx hb hts i_Mo t_Mo t_Mo_ok n_Mo hown hK hP hD hS 0 rfl rfl 2 (by decide) (hts _ g_724) (fun _ h9 => h9) rfl (by decide +kernel) rfl rfl (Nat.le_of_ble_eq_true rfl) d_Mo_read_174 (fun H locs hP hD hS => ?_)
                                  have hP : va_P D9 cls9 [(mo, .inr (7, [.int _, .ref xta, .int (0), .ref xst, .int (0), .int (0), .int (0), .int (0), .ref xse, .ref xty, .ref xki, .ref xti, .ref xna, .ref xns, .ref xda, .ref xds, .int _, .int _, .int _, .int _, .int _, .int _, .int _, .ref xme, .int _, .int _, .ref xep, .ref xea, .int _, .ref xcw]))] H := hP
                                  have hD : va_D _ [(mo, .inr (7, [.int _, .ref xta, .int (0), .ref xst, .int (0), .int (0), .int (0), .int (0), .ref xse, .ref xty, .ref xki, .ref xti, .ref xna, .ref xns, .ref xda, .ref xds, .int _, .int _, .int _, .int _, .int _, .int _, .int _, .ref xme, .int _, .int _, .ref xep, .ref xea, .int _, .ref xcw]))] := hD
                                  refine lv_aload_n hx hb d_Mo_read_177 rfl (lv_at hl 3 rfl) ?_
                                  refine va_get (D := D9) (ci := 7) (C := R_Mo) (T := F_Mo) (N := 30) hx hb hts i_Mo hown hK hP 0 rfl rfl 19 (by decide) (hts _ g_741) (fun _ h9 => h9) rfl d_Mo_read_178 ?_
                                  exact mw_zret hx hb hr hlocks hS hP hD (by decide) (by decide) d_Mo_read_181 (by first | rfl | decide +kernel) (⟨_, _, _, _, _, _, _, _, _, _, _, _, _, _, _, _, _, rfl, rfl, ⟨rfl, rfl⟩⟩)
                                · exact absurd c16 (by decide +kernel)
                              · exact absurd c15 (by decide +kernel)
                            · exact absurd c14 (by decide +kernel)
                          · exact absurd c13 (by decide +kernel)
                    · exact absurd c10 (by decide +kernel)
              · exact absurd c7 (by decide +kernel)
        · exact absurd c4 (by decide +kernel)
set_option maxHeartbeats 4000000 in
set_option maxRecDepth 100000 in
theorem c_Mo_put (l : Launch) (D9 : va_G) (cB cI cJ cG : ClassId) (mo xta xst xse xty xki xti xna xns xda xds xme xep xea xcw : Nat) (i_thrown i_tapes i_stored i_entries i_id i_flags i_faultAt i_followed i_lastFollowed i_fault i_at i_dataBegin i_dataEnd i_pointers i_ends n0 : Int32) (f : Nat → Int32) (hn : vp_in n0 131200) (u1 : Int32) : MW l D9 cls9 (ty9 cB cI cJ cG) y_Mo_put b_Mo_put 2 none (rm9 0 0 0) [.ref mo, .int u1] [(mo, .inr (7, [.int i_thrown, .ref xta, .int i_tapes, .ref xst, .int i_stored, .int i_entries, .int i_id, .int i_flags, .ref xse, .ref xty, .ref xki, .ref xti, .ref xna, .ref xns, .ref xda, .ref xds, .int i_faultAt, .int i_followed, .int i_lastFollowed, .int i_fault, .int i_at, .int i_dataBegin, .int i_dataEnd, .ref xme, .int n0, .int i_pointers, .ref xep, .ref xea, .int i_ends, .ref xcw])), (xme, .inl (cB, 131200, .inl f))] (fun v8 w2 => v8 = none ∧ ∃ (x0 : Nat → Int32), w2 = [(mo, .inr (7, [.int i_thrown, .ref xta, .int i_tapes, .ref xst, .int i_stored, .int i_entries, .int i_id, .int i_flags, .ref xse, .ref xty, .ref xki, .ref xti, .ref xna, .ref xns, .ref xda, .ref xds, .int i_faultAt, .int i_followed, .int i_lastFollowed, .int i_fault, .int i_at, .int i_dataBegin, .int i_dataEnd, .ref xme, .int (n0 + 1), .int i_pointers, .ref xep, .ref xea, .int i_ends, .ref xcw])), (xme, .inl (cB, 131200, .inl x0))]) 0 0 := by
  refine mw_of (by decide) (Nat.le_of_ble_eq_true rfl) ?_
  intro p e s m below meth c ls C0 hin hP hD hA hS hl
  obtain ⟨hx, hb, hml, hr, hlocks, hown, hts, hK⟩ := id C0
  have hl : lv_has ls 2 [(0, .ref mo), (1, .int u1)] := hl
  refine lv_aload_n hx hb d_Mo_put_0 rfl (lv_at hl 0 rfl) ?_
  refine va_get (D := D9) (ci := 7) (C := R_Mo) (T := F_Mo) (N := 30) hx hb hts i_Mo hown hK hP 0 rfl rfl 23 (by decide) (hts _ g_745) (fun _ h9 => h9) rfl d_Mo_put_1 ?_
  refine lv_aload_n hx hb d_Mo_put_4 rfl (lv_at hl 0 rfl) ?_
  refine va_get (D := D9) (ci := 7) (C := R_Mo) (T := F_Mo) (N := 30) hx hb hts i_Mo hown hK hP 0 rfl rfl 24 (by decide) (hts _ g_746) (fun _ h9 => h9) rfl d_Mo_put_5 ?_
  refine lv_iload_n hx hb d_Mo_put_8 rfl (lv_at hl 1 rfl) ?_
  refine lv_i2b hx hb d_Mo_put_9 rfl ?_
  refine va_bast (D := D9) hx hb hK hP hD hS 1 0 rfl rfl hn d_Mo_put_10 (fun H locs hP hD hS => ?_)
  have hP : va_P D9 cls9 [(mo, .inr (7, [.int i_thrown, .ref xta, .int i_tapes, .ref xst, .int i_stored, .int i_entries, .int i_id, .int i_flags, .ref xse, .ref xty, .ref xki, .ref xti, .ref xna, .ref xns, .ref xda, .ref xds, .int i_faultAt, .int i_followed, .int i_lastFollowed, .int i_fault, .int i_at, .int i_dataBegin, .int i_dataEnd, .ref xme, .int n0, .int i_pointers, .ref xep, .ref xea, .int i_ends, .ref xcw])), (xme, .inl (cB, 131200, .inl _))] H := hP
  have hD : va_D _ [(mo, .inr (7, [.int i_thrown, .ref xta, .int i_tapes, .ref xst, .int i_stored, .int i_entries, .int i_id, .int i_flags, .ref xse, .ref xty, .ref xki, .ref xti, .ref xna, .ref xns, .ref xda, .ref xds, .int i_faultAt, .int i_followed, .int i_lastFollowed, .int i_fault, .int i_at, .int i_dataBegin, .int i_dataEnd, .ref xme, .int n0, .int i_pointers, .ref xep, .ref xea, .int i_ends, .ref xcw])), (xme, .inl (cB, 131200, .inl _))] := hD
  refine lv_aload_n hx hb d_Mo_put_11 rfl (lv_at hl 0 rfl) ?_
  refine lv_dup hx hb d_Mo_put_12 rfl ?_
  refine va_get (D := D9) (ci := 7) (C := R_Mo) (T := F_Mo) (N := 30) hx hb hts i_Mo hown hK hP 0 rfl rfl 24 (by decide) (hts _ g_746) (fun _ h9 => h9) rfl d_Mo_put_13 ?_
  refine lv_iconst (v := 1) hx hb d_Mo_put_16 (by decide) ?_
  refine lv_iadd hx hb d_Mo_put_17 ?_
  refine va_put (D := D9) (ty := .int) (ci := 7) (C := R_Mo) (T := F_Mo) (N := 30) hx hb hts i_Mo t_Mo t_Mo_ok n_Mo hown hK hP hD hS 0 rfl rfl 24 (by decide) (hts _ g_746) (fun _ h9 => h9) rfl (by decide +kernel) rfl rfl (Nat.le_of_ble_eq_true rfl) d_Mo_put_18 (fun H locs hP hD hS => ?_)
  have hP : va_P D9 cls9 [(mo, .inr (7, [.int i_thrown, .ref xta, .int i_tapes, .ref xst, .int i_stored, .int i_entries, .int i_id, .int i_flags, .ref xse, .ref xty, .ref xki, .ref xti, .ref xna, .ref xns, .ref xda, .ref xds, .int i_faultAt, .int i_followed, .int i_lastFollowed, .int i_fault, .int i_at, .int i_dataBegin, .int i_dataEnd, .ref xme, .int (n0 + 1), .int i_pointers, .ref xep, .ref xea, .int i_ends, .ref xcw])), (xme, .inl (cB, 131200, .inl _))] H := hP
  have hD : va_D _ [(mo, .inr (7, [.int i_thrown, .ref xta, .int i_tapes, .ref xst, .int i_stored, .int i_entries, .int i_id, .int i_flags, .ref xse, .ref xty, .ref xki, .ref xti, .ref xna, .ref xns, .ref xda, .ref xds, .int i_faultAt, .int i_followed, .int i_lastFollowed, .int i_fault, .int i_at, .int i_dataBegin, .int i_dataEnd, .ref xme, .int (n0 + 1), .int i_pointers, .ref xep, .ref xea, .int i_ends, .ref xcw])), (xme, .inl (cB, 131200, .inl _))] := hD
  exact mw_vret hx hb hr hlocks hS hP hD (by decide) (by decide) d_Mo_put_21 (⟨rfl, _, rfl⟩)
set_option maxHeartbeats 4000000 in
set_option maxRecDepth 100000 in
theorem c_Mo_putTwo (l : Launch) (D9 : va_G) (cB cI cJ cG : ClassId) (mo xta xst xse xty xki xti xna xns xda xds xme xep xea xcw : Nat) (i_thrown i_tapes i_stored i_entries i_id i_flags i_faultAt i_followed i_lastFollowed i_fault i_at i_dataBegin i_dataEnd i_pointers i_ends n0 : Int32) (f : Nat → Int32) (hn : vp_in n0 131200) (hm : vp_in (n0 + 1) 131200) (u1 : Int32) : MW l D9 cls9 (ty9 cB cI cJ cG) y_Mo_putTwo b_Mo_putTwo 2 none (rm9 1 0 0) [.ref mo, .int u1] [(mo, .inr (7, [.int i_thrown, .ref xta, .int i_tapes, .ref xst, .int i_stored, .int i_entries, .int i_id, .int i_flags, .ref xse, .ref xty, .ref xki, .ref xti, .ref xna, .ref xns, .ref xda, .ref xds, .int i_faultAt, .int i_followed, .int i_lastFollowed, .int i_fault, .int i_at, .int i_dataBegin, .int i_dataEnd, .ref xme, .int n0, .int i_pointers, .ref xep, .ref xea, .int i_ends, .ref xcw])), (xme, .inl (cB, 131200, .inl f))] (fun v8 w2 => v8 = none ∧ ∃ (x0 : Nat → Int32), w2 = [(mo, .inr (7, [.int (i_thrown), .ref xta, .int (i_tapes), .ref xst, .int (i_stored), .int (i_entries), .int (i_id), .int (i_flags), .ref xse, .ref xty, .ref xki, .ref xti, .ref xna, .ref xns, .ref xda, .ref xds, .int (i_faultAt), .int (i_followed), .int (i_lastFollowed), .int (i_fault), .int (i_at), .int (i_dataBegin), .int (i_dataEnd), .ref xme, .int (n0 + 1 + 1), .int (i_pointers), .ref xep, .ref xea, .int (i_ends), .ref xcw])), (xme, .inl (cB, 131200, .inl x0))]) 0 0 := by
  refine mw_of (by decide) (Nat.le_of_ble_eq_true rfl) ?_
  intro p e s m below meth c ls C0 hin hP hD hA hS hl
  obtain ⟨hx, hb, hml, hr, hlocks, hown, hts, hK⟩ := id C0
  have hl : lv_has ls 2 [(0, .ref mo), (1, .int u1)] := hl
  refine lv_aload_n hx hb d_Mo_putTwo_0 rfl (lv_at hl 0 rfl) ?_
  refine lv_iload_n hx hb d_Mo_putTwo_1 rfl (lv_at hl 1 rfl) ?_
  refine lv_bipush (v := 8) hx hb d_Mo_putTwo_2 (by decide) ?_
  refine lv_ishr hx hb d_Mo_putTwo_4 ?_
  refine mf_cV (wr := []) (ci := 7) (k := 0) C0 (c_Mo_put l D9 cB cI cJ cG mo xta xst xse xty xki xti xna xns xda xds xme xep xea xcw _ _ _ _ _ _ _ _ _ _ _ _ _ _ _ _ _ hn _) g_934 g_8 g_931 g_933 gs_Mo_put ⟨by decide +kernel, by decide +kernel, show Option.map (fun d => d.parameters.length) (parseMethodDescriptor y_Mo_put.desc) = some 1 by decide +kernel⟩ ⟨by decide, by decide⟩ rfl rfl hP hD hS hA [0, 1] [] rfl rfl (by decide) (by decide) (by decide) rfl rfl hl.1 (Nat.le_of_ble_eq_true rfl) rfl d_Mo_putTwo_5 ⟨by decide, by decide⟩ (fun v9 w9 H locs hq hP hD hS => ?_)
  obtain ⟨rfl, y51_0, hw9⟩ := hq
  rw [hw9] at hP hD
  have hP : va_P D9 cls9 [(mo, .inr (7, [.int (i_thrown), .ref xta, .int (i_tapes), .ref xst, .int (i_stored), .int (i_entries), .int (i_id), .int (i_flags), .ref xse, .ref xty, .ref xki, .ref xti, .ref xna, .ref xns, .ref xda, .ref xds, .int (i_faultAt), .int (i_followed), .int (i_lastFollowed), .int (i_fault), .int (i_at), .int (i_dataBegin), .int (i_dataEnd), .ref xme, .int (n0 + 1), .int (i_pointers), .ref xep, .ref xea, .int (i_ends), .ref xcw])), (xme, .inl (cB, 131200, .inl y51_0))] H := hP
  have hD : va_D _ [(mo, .inr (7, [.int (i_thrown), .ref xta, .int (i_tapes), .ref xst, .int (i_stored), .int (i_entries), .int (i_id), .int (i_flags), .ref xse, .ref xty, .ref xki, .ref xti, .ref xna, .ref xns, .ref xda, .ref xds, .int (i_faultAt), .int (i_followed), .int (i_lastFollowed), .int (i_fault), .int (i_at), .int (i_dataBegin), .int (i_dataEnd), .ref xme, .int (n0 + 1), .int (i_pointers), .ref xep, .ref xea, .int (i_ends), .ref xcw])), (xme, .inl (cB, 131200, .inl y51_0))] := hD
  refine lv_aload_n hx hb d_Mo_putTwo_8 rfl (lv_at hl 0 rfl) ?_
  refine lv_iload_n hx hb d_Mo_putTwo_9 rfl (lv_at hl 1 rfl) ?_
  refine mf_cV (wr := []) (ci := 7) (k := 0) C0 (c_Mo_put l D9 cB cI cJ cG mo xta xst xse xty xki xti xna xns xda xds xme xep xea xcw _ _ _ _ _ _ _ _ _ _ _ _ _ _ _ _ _ hm _) g_934 g_8 g_931 g_933 gs_Mo_put ⟨by decide +kernel, by decide +kernel, show Option.map (fun d => d.parameters.length) (parseMethodDescriptor y_Mo_put.desc) = some 1 by decide +kernel⟩ ⟨by decide, by decide⟩ rfl rfl hP hD hS hA [0, 1] [] rfl rfl (by decide) (by decide) (by decide) rfl rfl hl.1 (Nat.le_of_ble_eq_true rfl) rfl d_Mo_putTwo_10 ⟨by decide, by decide⟩ (fun v9 w9 H locs hq hP hD hS => ?_)
  obtain ⟨rfl, y52_0, hw9⟩ := hq
  rw [hw9] at hP hD
  have hP : va_P D9 cls9 [(mo, .inr (7, [.int (i_thrown), .ref xta, .int (i_tapes), .ref xst, .int (i_stored), .int (i_entries), .int (i_id), .int (i_flags), .ref xse, .ref xty, .ref xki, .ref xti, .ref xna, .ref xns, .ref xda, .ref xds, .int (i_faultAt), .int (i_followed), .int (i_lastFollowed), .int (i_fault), .int (i_at), .int (i_dataBegin), .int (i_dataEnd), .ref xme, .int (n0 + 1 + 1), .int (i_pointers), .ref xep, .ref xea, .int (i_ends), .ref xcw])), (xme, .inl (cB, 131200, .inl y52_0))] H := hP
  have hD : va_D _ [(mo, .inr (7, [.int (i_thrown), .ref xta, .int (i_tapes), .ref xst, .int (i_stored), .int (i_entries), .int (i_id), .int (i_flags), .ref xse, .ref xty, .ref xki, .ref xti, .ref xna, .ref xns, .ref xda, .ref xds, .int (i_faultAt), .int (i_followed), .int (i_lastFollowed), .int (i_fault), .int (i_at), .int (i_dataBegin), .int (i_dataEnd), .ref xme, .int (n0 + 1 + 1), .int (i_pointers), .ref xep, .ref xea, .int (i_ends), .ref xcw])), (xme, .inl (cB, 131200, .inl y52_0))] := hD
  exact mw_vret hx hb hr hlocks hS hP hD (by decide) (by decide) d_Mo_putTwo_13 (⟨rfl, _, rfl⟩)
set_option maxHeartbeats 4000000 in
set_option maxRecDepth 100000 in
theorem c_Mo_write (l : Launch) (D9 : va_G) (cB cI cJ cG : ClassId) (mo xta xst xse xty xki xti xna xns xda xds xme xep xea xcw : Nat) (u1 : Int32) : MW l D9 cls9 (ty9 cB cI cJ cG) y_Mo_write b_Mo_write 10 (some .int) (rm9 2 0 0) [.ref mo, .int u1] [(mo, .inr (7, [.int 0, .ref xta, .int 0, .ref xst, .int 0, .int 0, .int 0, .int 0, .ref xse, .ref xty, .ref xki, .ref xti, .ref xna, .ref xns, .ref xda, .ref xds, .int (-1), .int 0, .int 0, .int 0, .int 0, .int 0, .int 0, .ref xme, .int 0, .int 0, .ref xep, .ref xea, .int 0, .ref xcw])), (xme, .inl (cB, 131200, .inl (fun _ => 0))), (xcw, .inl (cI, 4, .inl (fun _ => 0)))] (fun v8 w2 => ∃ (r : Int32) (x0 : Int32) (x1 : Int32) (x2 : Int32) (x3 : Int32) (x4 : Int32) (x5 : Int32) (x6 : Int32) (x7 : Int32) (x8 : Int32) (x9 : Int32) (x10 : Int32) (x11 : Int32) (x12 : Int32) (x13 : Int32) (x14 : Int32) (x15 : Int32) (x16 : Nat → Int32) (x17 : Nat → Int32), v8 = some (.int r) ∧ w2 = [(mo, .inr (7, [.int x0, .ref xta, .int x1, .ref xst, .int x2, .int x3, .int x4, .int x5, .ref xse, .ref xty, .ref xki, .ref xti, .ref xna, .ref xns, .ref xda, .ref xds, .int x6, .int x7, .int x8, .int x9, .int x10, .int x11, .int x12, .ref xme, .int x13, .int x14, .ref xep, .ref xea, .int x15, .ref xcw])), (xme, .inl (cB, 131200, .inl x16)), (xcw, .inl (cI, 4, .inl x17))] ∧ ((r = 12 ∧ x0 = 0 ∧ ¬ u1 < 12 ∧ u1 ≤ 65535) ∨ (x0 = 1 ∧ (u1 < 12 ∨ 65535 < u1)))) 0 0 := by
  refine mw_of (by decide) (Nat.le_of_ble_eq_true rfl) ?_
  intro p e s m below meth c ls C0 hin hP hD hA hS hl
  obtain ⟨hx, hb, hml, hr, hlocks, hown, hts, hK⟩ := id C0
  have hl : lv_has ls 10 [(0, .ref mo), (1, .int u1)] := hl
  refine lv_aload_n hx hb d_Mo_write_0 rfl (lv_at hl 0 rfl) ?_
  refine lv_iconst (v := 0) hx hb d_Mo_write_1 (by decide) ?_
  refine va_put (D := D9) (ty := .int) (ci := 7) (C := R_Mo) (T := F_Mo) (N := 30) hx hb hts i_Mo t_Mo t_Mo_ok n_Mo hown hK hP hD hS 0 rfl rfl 0 (by decide) (hts _ g_722) (fun _ h9 => h9) rfl (by decide +kernel) rfl rfl (Nat.le_of_ble_eq_true rfl) d_Mo_write_2 (fun H locs hP hD hS => ?_)
  have hP : va_P D9 cls9 [(mo, .inr (7, [.int (0), .ref xta, .int 0, .ref xst, .int 0, .int 0, .int 0, .int 0, .ref xse, .ref xty, .ref xki, .ref xti, .ref xna, .ref xns, .ref xda, .ref xds, .int (-1), .int 0, .int 0, .int 0, .int 0, .int 0, .int 0, .ref xme, .int 0, .int 0, .ref xep, .ref xea, .int 0, .ref xcw])), (xme, .inl (cB, 131200, .inl (fun _ => 0))), (xcw, .inl (cI, 4, .inl (fun _ => 0)))] H := hP
  have hD : va_D _ [(mo, .inr (7, [.int (0), .ref xta, .int 0, .ref xst, .int 0, .int 0, .int 0, .int 0, .ref xse, .ref xty, .ref xki, .ref xti, .ref xna, .ref xns, .ref xda, .ref xds, .int (-1), .int 0, .int 0, .int 0, .int 0, .int 0, .int 0, .ref xme, .int 0, .int 0, .ref xep, .ref xea, .int 0, .ref xcw])), (xme, .inl (cB, 131200, .inl (fun _ => 0))), (xcw, .inl (cI, 4, .inl (fun _ => 0)))] := hD
  refine lv_iload_n hx hb d_Mo_write_5 rfl (lv_at hl 1 rfl) ?_
  refine lv_bipush (v := 12) hx hb d_Mo_write_6 (by decide) ?_
  refine lv_icmp_lt (tgt := 17) hx hb d_Mo_write_8 (by decide) (fun c1 => ?_) (fun c1 => ?_)
  · refine lv_aload_n hx hb d_Mo_write_17 rfl (lv_at hl 0 rfl) ?_
    refine lv_iconst (v := 1) hx hb d_Mo_write_18 (by decide) ?_
    refine mf_cV (wr := [_, _]) (ci := 7) (k := 0) C0 (c_Mo_fail l D9 cB cI cJ cG mo xta xst xse xty xki xti xna xns xda xds xme xep xea xcw _) g_877 g_8 g_874 g_876 gs_Mo_fail ⟨by decide +kernel, by decide +kernel, show Option.map (fun d => d.parameters.length) (parseMethodDescriptor y_Mo_fail.desc) = some 1 by decide +kernel⟩ ⟨by decide, by decide⟩ rfl rfl hP hD hS hA [0] [1, 2] rfl rfl (by decide) (by decide) (by decide) rfl rfl hl.1 (Nat.le_of_ble_eq_true rfl) rfl d_Mo_write_19 ⟨by decide, by decide⟩ (fun v9 w9 H locs hq hP hD hS => ?_)
    obtain ⟨rfl, hw9⟩ := hq
    rw [hw9] at hP hD
    have hP : va_P D9 cls9 [(xme, .inl (cB, 131200, .inl (fun _ => 0))), (xcw, .inl (cI, 4, .inl (fun _ => 0))), (mo, .inr (7, [.int (1), .ref xta, .int 0, .ref xst, .int 0, .int 0, .int 0, .int 0, .ref xse, .ref xty, .ref xki, .ref xti, .ref xna, .ref xns, .ref xda, .ref xds, .int (-1), .int 0, .int 0, .int 0, .int 0, .int 0, .int 0, .ref xme, .int 0, .int 0, .ref xep, .ref xea, .int 0, .ref xcw]))] H := hP
    have hD : va_D _ [(xme, .inl (cB, 131200, .inl (fun _ => 0))), (xcw, .inl (cI, 4, .inl (fun _ => 0))), (mo, .inr (7, [.int (1), .ref xta, .int 0, .ref xst, .int 0, .int 0, .int 0, .int 0, .ref xse, .ref xty, .ref xki, .ref xti, .ref xna, .ref xns, .ref xda, .ref xds, .int (-1), .int 0, .int 0, .int 0, .int 0, .int 0, .int 0, .ref xme, .int 0, .int 0, .ref xep, .ref xea, .int 0, .ref xcw]))] := hD
    have hP := hP.sub (ws' := [(mo, .inr (7, [.int (1), .ref xta, .int 0, .ref xst, .int 0, .int 0, .int 0, .int 0, .ref xse, .ref xty, .ref xki, .ref xti, .ref xna, .ref xns, .ref xda, .ref xds, .int (-1), .int 0, .int 0, .int 0, .int 0, .int 0, .int 0, .ref xme, .int 0, .int 0, .ref xep, .ref xea, .int 0, .ref xcw])), (xme, .inl (cB, 131200, .inl (fun _ => 0))), (xcw, .inl (cI, 4, .inl (fun _ => 0)))]) [2, 0, 1] rfl
    have hD := hD.sub (ws' := [(mo, .inr (7, [.int (1), .ref xta, .int 0, .ref xst, .int 0, .int 0, .int 0, .int 0, .ref xse, .ref xty, .ref xki, .ref xti, .ref xna, .ref xns, .ref xda, .ref xds, .int (-1), .int 0, .int 0, .int 0, .int 0, .int 0, .int 0, .ref xme, .int 0, .int 0, .ref xep, .ref xea, .int 0, .ref xcw])), (xme, .inl (cB, 131200, .inl (fun _ => 0))), (xcw, .inl (cI, 4, .inl (fun _ => 0)))]) [2, 0, 1] (by decide) rfl
    exact mw_zret hx hb hr hlocks hS hP hD (by decide) (by decide) d_Mo_write_22 (by first | rfl | decide +kernel) (⟨_, _, _, _, _, _, _, _, _, _, _, _, _, _, _, _, _, _, _, rfl, rfl, Or.inr ⟨rfl, Or.inl c1⟩⟩)
  · refine lv_iload_n hx hb d_Mo_write_11 rfl (lv_at hl 1 rfl) ?_
    refine lv_ldc hx hb hown (hts _ g_886) d_Mo_write_12 ?_
    refine lv_icmp_le (tgt := 23) hx hb d_Mo_write_14 (by decide) (fun c2 => ?_) (fun c2 => ?_)
    · refine lv_iconst (v := 0) hx hb d_Mo_write_23 (by decide) ?_
      refine lv_istore_n (lv' := [(2, _), (0, _), (1, _)]) hx hb d_Mo_write_24 rfl hl (by decide) rfl (fun ls hl => ?_)
      refine lv_iconst (v := 0) hx hb d_Mo_write_25 (by decide) ?_
      refine lv_istore_n (lv' := [(3, _), (2, _), (0, _), (1, _)]) hx hb d_Mo_write_26 rfl hl (by decide) rfl (fun ls hl => ?_)
      refine lv_iload_n hx hb d_Mo_write_27 rfl (lv_at hl 0 rfl) ?_
      refine lv_aload_n hx hb d_Mo_write_28 rfl (lv_at hl 2 rfl) ?_
      refine va_get (D := D9) (ci := 7) (C := R_Mo) (T := F_Mo) (N := 30) hx hb hts i_Mo hown hK hP 0 rfl rfl 5 (by decide) (hts _ g_727) (fun _ h9 => h9) rfl d_Mo_write_29 ?_
      refine lv_icmp_ge (tgt := 61) hx hb d_Mo_write_32 (by decide) (fun c3 => ?_) (fun c3 => ?_)
      · refine lv_bipush (v := 12) hx hb d_Mo_write_61 (by decide) ?_
        refine lv_iload_n hx hb d_Mo_write_63 rfl (lv_at hl 1 rfl) ?_
        refine lv_iadd hx hb d_Mo_write_64 ?_
        refine lv_iload_n hx hb d_Mo_write_65 rfl (lv_at hl 3 rfl) ?_
        refine lv_icmp_le (tgt := 75) hx hb d_Mo_write_66 (by decide) (fun c4 => ?_) (fun c4 => ?_)
        · refine lv_aload_n hx hb d_Mo_write_75 rfl (lv_at hl 2 rfl) ?_
          refine lv_bipush (v := 12) hx hb d_Mo_write_76 (by decide) ?_
          refine va_put (D := D9) (ty := .int) (ci := 7) (C := R_Mo) (T := F_Mo) (N := 30) hx hb hts i_Mo t_Mo t_Mo_ok n_Mo hown hK hP hD hS 0 rfl rfl 24 (by decide) (hts _ g_746) (fun _ h9 => h9) rfl (by decide +kernel) rfl rfl (Nat.le_of_ble_eq_true rfl) d_Mo_write_78 (fun H locs hP hD hS => ?_)
          have hP : va_P D9 cls9 [(mo, .inr (7, [.int (0), .ref xta, .int 0, .ref xst, .int 0, .int 0, .int 0, .int 0, .ref xse, .ref xty, .ref xki, .ref xti, .ref xna, .ref xns, .ref xda, .ref xds, .int (-1), .int 0, .int 0, .int 0, .int 0, .int 0, .int 0, .ref xme, .int (12), .int 0, .ref xep, .ref xea, .int 0, .ref xcw])), (xme, .inl (cB, 131200, .inl (fun _ => 0))), (xcw, .inl (cI, 4, .inl (fun _ => 0)))] H := hP
          have hD : va_D _ [(mo, .inr (7, [.int (0), .ref xta, .int 0, .ref xst, .int 0, .int 0, .int 0, .int 0, .ref xse, .ref xty, .ref xki, .ref xti, .ref xna, .ref xns, .ref xda, .ref xds, .int (-1), .int 0, .int 0, .int 0, .int 0, .int 0, .int 0, .ref xme, .int (12), .int 0, .ref xep, .ref xea, .int 0, .ref xcw])), (xme, .inl (cB, 131200, .inl (fun _ => 0))), (xcw, .inl (cI, 4, .inl (fun _ => 0)))] := hD
          refine lv_aload_n hx hb d_Mo_write_81 rfl (lv_at hl 2 rfl) ?_
          refine lv_iconst (v := 0) hx hb d_Mo_write_82 (by decide) ?_
          refine va_put (D := D9) (ty := .int) (ci := 7) (C := R_Mo) (T := F_Mo) (N := 30) hx hb hts i_Mo t_Mo t_Mo_ok n_Mo hown hK hP hD hS 0 rfl rfl 28 (by decide) (hts _ g_750) (fun _ h9 => h9) rfl (by decide +kernel) rfl rfl (Nat.le_of_ble_eq_true rfl) d_Mo_write_83 (fun H locs hP hD hS => ?_)
          have hP : va_P D9 cls9 [(mo, .inr (7, [.int (0), .ref xta, .int 0, .ref xst, .int 0, .int 0, .int 0, .int 0, .ref xse, .ref xty, .ref xki, .ref xti, .ref xna, .ref xns, .ref xda, .ref xds, .int (-1), .int 0, .int 0, .int 0, .int 0, .int 0, .int 0, .ref xme, .int (12), .int 0, .ref xep, .ref xea, .int (0), .ref xcw])), (xme, .inl (cB, 131200, .inl (fun _ => 0))), (xcw, .inl (cI, 4, .inl (fun _ => 0)))] H := hP
          have hD : va_D _ [(mo, .inr (7, [.int (0), .ref xta, .int 0, .ref xst, .int 0, .int 0, .int 0, .int 0, .ref xse, .ref xty, .ref xki, .ref xti, .ref xna, .ref xns, .ref xda, .ref xds, .int (-1), .int 0, .int 0, .int 0, .int 0, .int 0, .int 0, .ref xme, .int (12), .int 0, .ref xep, .ref xea, .int (0), .ref xcw])), (xme, .inl (cB, 131200, .inl (fun _ => 0))), (xcw, .inl (cI, 4, .inl (fun _ => 0)))] := hD
          refine lv_aload_n hx hb d_Mo_write_86 rfl (lv_at hl 2 rfl) ?_
          refine lv_iconst (v := 0) hx hb d_Mo_write_87 (by decide) ?_
          refine va_put (D := D9) (ty := .int) (ci := 7) (C := R_Mo) (T := F_Mo) (N := 30) hx hb hts i_Mo t_Mo t_Mo_ok n_Mo hown hK hP hD hS 0 rfl rfl 25 (by decide) (hts _ g_747) (fun _ h9 => h9) rfl (by decide +kernel) rfl rfl (Nat.le_of_ble_eq_true rfl) d_Mo_write_88 (fun H locs hP hD hS => ?_)
          have hP : va_P D9 cls9 [(mo, .inr (7, [.int (0), .ref xta, .int 0, .ref xst, .int 0, .int 0, .int 0, .int 0, .ref xse, .ref xty, .ref xki, .ref xti, .ref xna, .ref xns, .ref xda, .ref xds, .int (-1), .int 0, .int 0, .int 0, .int 0, .int 0, .int 0, .ref xme, .int (12), .int (0), .ref xep, .ref xea, .int (0), .ref xcw])), (xme, .inl (cB, 131200, .inl (fun _ => 0))), (xcw, .inl (cI, 4, .inl (fun _ => 0)))] H := hP
          have hD : va_D _ [(mo, .inr (7, [.int (0), .ref xta, .int 0, .ref xst, .int 0, .int 0, .int 0, .int 0, .ref xse, .ref xty, .ref xki, .ref xti, .ref xna, .ref xns, .ref xda, .ref xds, .int (-1), .int 0, .int 0, .int 0, .int 0, .int 0, .int 0, .ref xme, .int (12), .int (0), .ref xep, .ref xea, .int (0), .ref xcw])), (xme, .inl (cB, 131200, .inl (fun _ => 0))), (xcw, .inl (cI, 4, .inl (fun _ => 0)))] := hD
          refine lv_iconst (v := 0) hx hb d_Mo_write_91 (by decide) ?_
          refine lv_istore_n (lv' := [(3, _), (2, _), (0, _), (1, _)]) hx hb d_Mo_write_92 rfl hl (by decide) rfl (fun ls hl => ?_)
          refine lv_aload_n hx hb d_Mo_write_93 rfl (lv_at hl 2 rfl) ?_
          refine va_get (D := D9) (ci := 7) (C := R_Mo) (T := F_Mo) (N := 30) hx hb hts i_Mo hown hK hP 0 rfl rfl 29 (by decide) (hts _ g_751) (fun _ h9 => h9) rfl d_Mo_write_94 ?_
          refine lv_astore (lv' := [(4, _), (3, _), (2, _), (0, _), (1, _)]) hx hb d_Mo_write_97 hl (by decide) rfl (fun ls hl => ?_)
          refine lv_iconst (v := 0) hx hb d_Mo_write_99 (by decide) ?_
          refine lv_istore (lv' := [(5, _), (4, _), (3, _), (2, _), (0, _), (1, _)]) hx hb d_Mo_write_100 hl (by decide) rfl (fun ls hl => ?_)
          refine lv_iload hx hb d_Mo_write_102 (lv_at hl 0 rfl) ?_
          refine lv_iconst (v := 4) hx hb d_Mo_write_104 (by decide) ?_
          refine lv_icmp_ge (tgt := 269) hx hb d_Mo_write_105 (by decide) (fun c5 => ?_) (fun c5 => ?_)
          · exact absurd c5 (by decide +kernel)
          · refine lv_aload hx hb d_Mo_write_108 (lv_at hl 1 rfl) ?_
            refine lv_iload hx hb d_Mo_write_110 (lv_at hl 0 rfl) ?_
            refine lv_iconst (v := 0) hx hb d_Mo_write_112 (by decide) ?_
            refine va_iast (D := D9) hx hb hK hP hD hS 2 1 rfl rfl (by unfold vp_in; decide +kernel) d_Mo_write_113 (fun H locs hP hD hS => ?_)
            have hP : va_P D9 cls9 [(mo, .inr (7, [.int (0), .ref xta, .int 0, .ref xst, .int 0, .int 0, .int 0, .int 0, .ref xse, .ref xty, .ref xki, .ref xti, .ref xna, .ref xns, .ref xda, .ref xds, .int (-1), .int 0, .int 0, .int 0, .int 0, .int 0, .int 0, .ref xme, .int (12), .int (0), .ref xep, .ref xea, .int (0), .ref xcw])), (xme, .inl (cB, 131200, .inl (fun _ => 0))), (xcw, .inl (cI, 4, .inl _))] H := hP
            have hD : va_D _ [(mo, .inr (7, [.int (0), .ref xta, .int 0, .ref xst, .int 0, .int 0, .int 0, .int 0, .ref xse, .ref xty, .ref xki, .ref xti, .ref xna, .ref xns, .ref xda, .ref xds, .int (-1), .int 0, .int 0, .int 0, .int 0, .int 0, .int 0, .ref xme, .int (12), .int (0), .ref xep, .ref xea, .int (0), .ref xcw])), (xme, .inl (cB, 131200, .inl (fun _ => 0))), (xcw, .inl (cI, 4, .inl _))] := hD
            refine lv_iconst (v := 0) hx hb d_Mo_write_114 (by decide) ?_
            refine lv_istore (lv' := [(6, _), (5, _), (4, _), (3, _), (2, _), (0, _), (1, _)]) hx hb d_Mo_write_115 hl (by decide) rfl (fun ls hl => ?_)
            refine lv_iload hx hb d_Mo_write_117 (lv_at hl 0 rfl) ?_
            refine lv_aload_n hx hb d_Mo_write_119 rfl (lv_at hl 5 rfl) ?_
            refine va_get (D := D9) (ci := 7) (C := R_Mo) (T := F_Mo) (N := 30) hx hb hts i_Mo hown hK hP 0 rfl rfl 5 (by decide) (hts _ g_727) (fun _ h9 => h9) rfl d_Mo_write_120 ?_
            refine lv_icmp_ge (tgt := 263) hx hb d_Mo_write_123 (by decide) (fun c6 => ?_) (fun c6 => ?_)
            · refine lv_iinc (lv' := [(5, _), (6, _), (4, _), (3, _), (2, _), (0, _), (1, _)]) hx hb d_Mo_write_263 hl (k := 1) rfl rfl (by decide) rfl (fun ls hl => ?_)
              refine lv_goto (tgt := 102) hx hb d_Mo_write_266 (by decide) ?_
              refine lv_iload hx hb d_Mo_write_102 (lv_at hl 0 rfl) ?_
              refine lv_iconst (v := 4) hx hb d_Mo_write_104 (by decide) ?_
              refine lv_icmp_ge (tgt := 269) hx hb d_Mo_write_105 (by decide) (fun c7 => ?_) (fun c7 => ?_)
              · exact absurd c7 (by decide +kernel)
              · refine lv_aload hx hb d_Mo_write_108 (lv_at hl 2 rfl) ?_
                refine lv_iload hx hb d_Mo_write_110 (lv_at hl 0 rfl) ?_
                refine lv_iconst (v := 0) hx hb d_Mo_write_112 (by decide) ?_
                refine va_iast (D := D9) hx hb hK hP hD hS 2 1 rfl rfl (by unfold vp_in; decide +kernel) d_Mo_write_113 (fun H locs hP hD hS => ?_)
                have hP : va_P D9 cls9 [(mo, .inr (7, [.int (0), .ref xta, .int 0, .ref xst, .int 0, .int 0, .int 0, .int 0, .ref xse, .ref xty, .ref xki, .ref xti, .ref xna, .ref xns, .ref xda, .ref xds, .int (-1), .int 0, .int 0, .int 0, .int 0, .int 0, .int 0, .ref xme, .int (12), .int (0), .ref xep, .ref xea, .int (0), .ref xcw])), (xme, .inl (cB, 131200, .inl (fun _ => 0))), (xcw, .inl (cI, 4, .inl _))] H := hP
                have hD : va_D _ [(mo, .inr (7, [.int (0), .ref xta, .int 0, .ref xst, .int 0, .int 0, .int 0, .int 0, .ref xse, .ref xty, .ref xki, .ref xti, .ref xna, .ref xns, .ref xda, .ref xds, .int (-1), .int 0, .int 0, .int 0, .int 0, .int 0, .int 0, .ref xme, .int (12), .int (0), .ref xep, .ref xea, .int (0), .ref xcw])), (xme, .inl (cB, 131200, .inl (fun _ => 0))), (xcw, .inl (cI, 4, .inl _))] := hD
                refine lv_iconst (v := 0) hx hb d_Mo_write_114 (by decide) ?_
                refine lv_istore (lv' := [(6, _), (5, _), (4, _), (3, _), (2, _), (0, _), (1, _)]) hx hb d_Mo_write_115 hl (by decide) rfl (fun ls hl => ?_)
                refine lv_iload hx hb d_Mo_write_117 (lv_at hl 0 rfl) ?_
                refine lv_aload_n hx hb d_Mo_write_119 rfl (lv_at hl 5 rfl) ?_
                refine va_get (D := D9) (ci := 7) (C := R_Mo) (T := F_Mo) (N := 30) hx hb hts i_Mo hown hK hP 0 rfl rfl 5 (by decide) (hts _ g_727) (fun _ h9 => h9) rfl d_Mo_write_120 ?_
                refine lv_icmp_ge (tgt := 263) hx hb d_Mo_write_123 (by decide) (fun c8 => ?_) (fun c8 => ?_)
                · refine lv_iinc (lv' := [(5, _), (6, _), (4, _), (3, _), (2, _), (0, _), (1, _)]) hx hb d_Mo_write_263 hl (k := 1) rfl rfl (by decide) rfl (fun ls hl => ?_)
                  refine lv_goto (tgt := 102) hx hb d_Mo_write_266 (by decide) ?_
                  refine lv_iload hx hb d_Mo_write_102 (lv_at hl 0 rfl) ?_
                  refine lv_iconst (v := 4) hx hb d_Mo_write_104 (by decide) ?_
                  refine lv_icmp_ge (tgt := 269) hx hb d_Mo_write_105 (by decide) (fun c9 => ?_) (fun c9 => ?_)
                  · exact absurd c9 (by decide +kernel)
                  · refine lv_aload hx hb d_Mo_write_108 (lv_at hl 2 rfl) ?_
                    refine lv_iload hx hb d_Mo_write_110 (lv_at hl 0 rfl) ?_
                    refine lv_iconst (v := 0) hx hb d_Mo_write_112 (by decide) ?_
                    refine va_iast (D := D9) hx hb hK hP hD hS 2 1 rfl rfl (by unfold vp_in; decide +kernel) d_Mo_write_113 (fun H locs hP hD hS => ?_)
                    have hP : va_P D9 cls9 [(mo, .inr (7, [.int (0), .ref xta, .int 0, .ref xst, .int 0, .int 0, .int 0, .int 0, .ref xse, .ref xty, .ref xki, .ref xti, .ref xna, .ref xns, .ref xda, .ref xds, .int (-1), .int 0, .int 0, .int 0, .int 0, .int 0, .int 0, .ref xme, .int (12), .int (0), .ref xep, .ref xea, .int (0), .ref xcw])), (xme, .inl (cB, 131200, .inl (fun _ => 0))), (xcw, .inl (cI, 4, .inl _))] H := hP
                    have hD : va_D _ [(mo, .inr (7, [.int (0), .ref xta, .int 0, .ref xst, .int 0, .int 0, .int 0, .int 0, .ref xse, .ref xty, .ref xki, .ref xti, .ref xna, .ref xns, .ref xda, .ref xds, .int (-1), .int 0, .int 0, .int 0, .int 0, .int 0, .int 0, .ref xme, .int (12), .int (0), .ref xep, .ref xea, .int (0), .ref xcw])), (xme, .inl (cB, 131200, .inl (fun _ => 0))), (xcw, .inl (cI, 4, .inl _))] := hD
                    refine lv_iconst (v := 0) hx hb d_Mo_write_114 (by decide) ?_
                    refine lv_istore (lv' := [(6, _), (5, _), (4, _), (3, _), (2, _), (0, _), (1, _)]) hx hb d_Mo_write_115 hl (by decide) rfl (fun ls hl => ?_)
                    refine lv_iload hx hb d_Mo_write_117 (lv_at hl 0 rfl) ?_
                    refine lv_aload_n hx hb d_Mo_write_119 rfl (lv_at hl 5 rfl) ?_
                    refine va_get (D := D9) (ci := 7) (C := R_Mo) (T := F_Mo) (N := 30) hx hb hts i_Mo hown hK hP 0 rfl rfl 5 (by decide) (hts _ g_727) (fun _ h9 => h9) rfl d_Mo_write_120 ?_
                    refine lv_icmp_ge (tgt := 263) hx hb d_Mo_write_123 (by decide) (fun c10 => ?_) (fun c10 => ?_)
                    · refine lv_iinc (lv' := [(5, _), (6, _), (4, _), (3, _), (2, _), (0, _), (1, _)]) hx hb d_Mo_write_263 hl (k := 1) rfl rfl (by decide) rfl (fun ls hl => ?_)
                      refine lv_goto (tgt := 102) hx hb d_Mo_write_266 (by decide) ?_
                      refine lv_iload hx hb d_Mo_write_102 (lv_at hl 0 rfl) ?_
                      refine lv_iconst (v := 4) hx hb d_Mo_write_104 (by decide) ?_
                      refine lv_icmp_ge (tgt := 269) hx hb d_Mo_write_105 (by decide) (fun c11 => ?_) (fun c11 => ?_)
                      · exact absurd c11 (by decide +kernel)
                      · refine lv_aload hx hb d_Mo_write_108 (lv_at hl 2 rfl) ?_
                        refine lv_iload hx hb d_Mo_write_110 (lv_at hl 0 rfl) ?_
                        refine lv_iconst (v := 0) hx hb d_Mo_write_112 (by decide) ?_
                        refine va_iast (D := D9) hx hb hK hP hD hS 2 1 rfl rfl (by unfold vp_in; decide +kernel) d_Mo_write_113 (fun H locs hP hD hS => ?_)
                        have hP : va_P D9 cls9 [(mo, .inr (7, [.int (0), .ref xta, .int 0, .ref xst, .int 0, .int 0, .int 0, .int 0, .ref xse, .ref xty, .ref xki, .ref xti, .ref xna, .ref xns, .ref xda, .ref xds, .int (-1), .int 0, .int 0, .int 0, .int 0, .int 0, .int 0, .ref xme, .int (12), .int (0), .ref xep, .ref xea, .int (0), .ref xcw])), (xme, .inl (cB, 131200, .inl (fun _ => 0))), (xcw, .inl (cI, 4, .inl _))] H := hP
                        have hD : va_D _ [(mo, .inr (7, [.int (0), .ref xta, .int 0, .ref xst, .int 0, .int 0, .int 0, .int 0, .ref xse, .ref xty, .ref xki, .ref xti, .ref xna, .ref xns, .ref xda, .ref xds, .int (-1), .int 0, .int 0, .int 0, .int 0, .int 0, .int 0, .ref xme, .int (12), .int (0), .ref xep, .ref xea, .int (0), .ref xcw])), (xme, .inl (cB, 131200, .inl (fun _ => 0))), (xcw, .inl (cI, 4, .inl _))] := hD
                        refine lv_iconst (v := 0) hx hb d_Mo_write_114 (by decide) ?_
                        refine lv_istore (lv' := [(6, _), (5, _), (4, _), (3, _), (2, _), (0, _), (1, _)]) hx hb d_Mo_write_115 hl (by decide) rfl (fun ls hl => ?_)
                        refine lv_iload hx hb d_Mo_write_117 (lv_at hl 0 rfl) ?_
                        refine lv_aload_n hx hb d_Mo_write_119 rfl (lv_at hl 5 rfl) ?_
                        refine va_get (D := D9) (ci := 7) (C := R_Mo) (T := F_Mo) (N := 30) hx hb hts i_Mo hown hK hP 0 rfl rfl 5 (by decide) (hts _ g_727) (fun _ h9 => h9) rfl d_Mo_write_120 ?_
                        refine lv_icmp_ge (tgt := 263) hx hb d_Mo_write_123 (by decide) (fun c12 => ?_) (fun c12 => ?_)
                        · refine lv_iinc (lv' := [(5, _), (6, _), (4, _), (3, _), (2, _), (0, _), (1, _)]) hx hb d_Mo_write_263 hl (k := 1) rfl rfl (by decide) rfl (fun ls hl => ?_)
                          refine lv_goto (tgt := 102) hx hb d_Mo_write_266 (by decide) ?_
                          refine lv_iload hx hb d_Mo_write_102 (lv_at hl 0 rfl) ?_
                          refine lv_iconst (v := 4) hx hb d_Mo_write_104 (by decide) ?_
                          refine lv_icmp_ge (tgt := 269) hx hb d_Mo_write_105 (by decide) (fun c13 => ?_) (fun c13 => ?_)
                          · refine lv_aload_n hx hb d_Mo_write_269 rfl (lv_at hl 5 rfl) ?_
                            refine va_get (D := D9) (ci := 7) (C := R_Mo) (T := F_Mo) (N := 30) hx hb hts i_Mo hown hK hP 0 rfl rfl 24 (by decide) (hts _ g_746) (fun _ h9 => h9) rfl d_Mo_write_270 ?_
                            refine lv_istore (lv' := [(5, _), (6, _), (4, _), (3, _), (2, _), (0, _), (1, _)]) hx hb d_Mo_write_273 hl (by decide) rfl (fun ls hl => ?_)
                            refine lv_aload_n hx hb d_Mo_write_275 rfl (lv_at hl 5 rfl) ?_
                            refine lv_iconst (v := 0) hx hb d_Mo_write_276 (by decide) ?_
                            refine va_put (D := D9) (ty := .int) (ci := 7) (C := R_Mo) (T := F_Mo) (N := 30) hx hb hts i_Mo t_Mo t_Mo_ok n_Mo hown hK hP hD hS 0 rfl rfl 24 (by decide) (hts _ g_746) (fun _ h9 => h9) rfl (by decide +kernel) rfl rfl (Nat.le_of_ble_eq_true rfl) d_Mo_write_277 (fun H locs hP hD hS => ?_)
                            have hP : va_P D9 cls9 [(mo, .inr (7, [.int (0), .ref xta, .int 0, .ref xst, .int 0, .int 0, .int 0, .int 0, .ref xse, .ref xty, .ref xki, .ref xti, .ref xna, .ref xns, .ref xda, .ref xds, .int (-1), .int 0, .int 0, .int 0, .int 0, .int 0, .int 0, .ref xme, .int (0), .int (0), .ref xep, .ref xea, .int (0), .ref xcw])), (xme, .inl (cB, 131200, .inl (fun _ => 0))), (xcw, .inl (cI, 4, .inl _))] H := hP
                            have hD : va_D _ [(mo, .inr (7, [.int (0), .ref xta, .int 0, .ref xst, .int 0, .int 0, .int 0, .int 0, .ref xse, .ref xty, .ref xki, .ref xti, .ref xna, .ref xns, .ref xda, .ref xds, .int (-1), .int 0, .int 0, .int 0, .int 0, .int 0, .int 0, .ref xme, .int (0), .int (0), .ref xep, .ref xea, .int (0), .ref xcw])), (xme, .inl (cB, 131200, .inl (fun _ => 0))), (xcw, .inl (cI, 4, .inl _))] := hD
                            refine lv_aload_n hx hb d_Mo_write_280 rfl (lv_at hl 5 rfl) ?_
                            refine lv_aload_n hx hb d_Mo_write_281 rfl (lv_at hl 5 rfl) ?_
                            refine va_get (D := D9) (ci := 7) (C := R_Mo) (T := F_Mo) (N := 30) hx hb hts i_Mo hown hK hP 0 rfl rfl 6 (by decide) (hts _ g_728) (fun _ h9 => h9) rfl d_Mo_write_282 ?_
                            refine mf_cV (wr := [_]) (ci := 7) (k := 0) C0 (c_Mo_putTwo l D9 cB cI cJ cG mo xta xst xse xty xki xti xna xns xda xds xme xep xea xcw _ _ _ _ _ _ _ _ _ _ _ _ _ _ _ _ _ (by unfold vp_in; decide +kernel) (by unfold vp_in; decide +kernel) _) g_939 g_8 g_936 g_938 gs_Mo_putTwo ⟨by decide +kernel, by decide +kernel, show Option.map (fun d => d.parameters.length) (parseMethodDescriptor y_Mo_putTwo.desc) = some 1 by decide +kernel⟩ ⟨by decide, by decide⟩ rfl rfl hP hD hS hA [0, 1] [2] rfl rfl (by decide) (by decide) (by decide) rfl rfl hl.1 (Nat.le_of_ble_eq_true rfl) rfl d_Mo_write_285 ⟨by decide, by decide⟩ (fun v9 w9 H locs hq hP hD hS => ?_)
                            obtain ⟨rfl, y54_0, hw9⟩ := hq
                            rw [hw9] at hP hD
                            have hP : va_P D9 cls9 [(xcw, .inl (cI, 4, .inl _)), (mo, .inr (7, [.int (0), .ref xta, .int _, .ref xst, .int _, .int _, .int _, .int _, .ref xse, .ref xty, .ref xki, .ref xti, .ref xna, .ref xns, .ref xda, .ref xds, .int _, .int _, .int _, .int _, .int _, .int _, .int _, .ref xme, .int _, .int _, .ref xep, .ref xea, .int _, .ref xcw])), (xme, .inl (cB, 131200, .inl y54_0))] H := hP
                            have hD : va_D _ [(xcw, .inl (cI, 4, .inl _)), (mo, .inr (7, [.int (0), .ref xta, .int _, .ref xst, .int _, .int _, .int _, .int _, .ref xse, .ref xty, .ref xki, .ref xti, .ref xna, .ref xns, .ref xda, .ref xds, .int _, .int _, .int _, .int _, .int _, .int _, .int _, .ref xme, .int _, .int _, .ref xep, .ref xea, .int _, .ref xcw])), (xme, .inl (cB, 131200, .inl y54_0))] := hD
                            refine lv_aload_n hx hb d_Mo_write_288 rfl (lv_at hl 5 rfl) ?_
                            refine lv_iload_n hx hb d_Mo_write_289 rfl (lv_at hl 3 rfl) ?_
                            refine lv_if_eq (tgt := 304) hx hb d_Mo_write_290 (by decide) (fun c14 => ?_) (fun c14 => ?_)
                            · refine lv_aload_n hx hb d_Mo_write_304 rfl (lv_at hl 5 rfl) ?_
                              refine va_get (D := D9) (ci := 7) (C := R_Mo) (T := F_Mo) (N := 30) hx hb hts i_Mo hown hK hP 1 rfl rfl 7 (by decide) (hts _ g_729) (fun _ h9 => h9) rfl d_Mo_write_305 ?_
                              refine mf_cV (wr := [_]) (ci := 7) (k := 0) C0 (c_Mo_putTwo l D9 cB cI cJ cG mo xta xst xse xty xki xti xna xns xda xds xme xep xea xcw _ _ _ _ _ _ _ _ _ _ _ _ _ _ _ _ _ (by unfold vp_in; decide +kernel) (by unfold vp_in; decide +kernel) _) g_939 g_8 g_936 g_938 gs_Mo_putTwo ⟨by decide +kernel, by decide +kernel, show Option.map (fun d => d.parameters.length) (parseMethodDescriptor y_Mo_putTwo.desc) = some 1 by decide +kernel⟩ ⟨by decide, by decide⟩ rfl rfl hP hD hS hA [1, 2] [0] rfl rfl (by decide) (by decide) (by decide) rfl rfl hl.1 (Nat.le_of_ble_eq_true rfl) rfl d_Mo_write_308 ⟨by decide, by decide⟩ (fun v9 w9 H locs hq hP hD hS => ?_)
                              obtain ⟨rfl, y55_0, hw9⟩ := hq
                              rw [hw9] at hP hD
                              have hP : va_P D9 cls9 [(xcw, .inl (cI, 4, .inl _)), (mo, .inr (7, [.int (0), .ref xta, .int _, .ref xst, .int _, .int _, .int _, .int _, .ref xse, .ref xty, .ref xki, .ref xti, .ref xna, .ref xns, .ref xda, .ref xds, .int _, .int _, .int _, .int _, .int _, .int _, .int _, .ref xme, .int _, .int _, .ref xep, .ref xea, .int _, .ref xcw])), (xme, .inl (cB, 131200, .inl y55_0))] H := hP
                              have hD : va_D _ [(xcw, .inl (cI, 4, .inl _)), (mo, .inr (7, [.int (0), .ref xta, .int _, .ref xst, .int _, .int _, .int _, .int _, .ref xse, .ref xty, .ref xki, .ref xti, .ref xna, .ref xns, .ref xda, .ref xds, .int _, .int _, .int _, .int _, .int _, .int _, .int _, .ref xme, .int _, .int _, .ref xep, .ref xea, .int _, .ref xcw])), (xme, .inl (cB, 131200, .inl y55_0))] := hD
                              refine lv_iconst (v := 0) hx hb d_Mo_write_311 (by decide) ?_
                              refine lv_istore (lv' := [(6, _), (5, _), (4, _), (3, _), (2, _), (0, _), (1, _)]) hx hb d_Mo_write_312 hl (by decide) rfl (fun ls hl => ?_)
                              refine lv_iload hx hb d_Mo_write_314 (lv_at hl 0 rfl) ?_
                              refine lv_iconst (v := 4) hx hb d_Mo_write_316 (by decide) ?_
                              refine lv_icmp_ge (tgt := 335) hx hb d_Mo_write_317 (by decide) (fun c15 => ?_) (fun c15 => ?_)
                              · exact absurd c15 (by decide +kernel)
                              · refine lv_aload_n hx hb d_Mo_write_320 rfl (lv_at hl 5 rfl) ?_
                                refine lv_aload hx hb d_Mo_write_321 (lv_at hl 2 rfl) ?_
                                refine lv_iload hx hb d_Mo_write_323 (lv_at hl 0 rfl) ?_
                                refine va_iald (D := D9) hx hb hK hP 0 1 rfl rfl (by unfold vp_in; decide +kernel) d_Mo_write_325 ?_
                                refine mf_cV (wr := [_]) (ci := 7) (k := 0) C0 (c_Mo_putTwo l D9 cB cI cJ cG mo xta xst xse xty xki xti xna xns xda xds xme xep xea xcw _ _ _ _ _ _ _ _ _ _ _ _ _ _ _ _ _ (by unfold vp_in; decide +kernel) (by unfold vp_in; decide +kernel) _) g_939 g_8 g_936 g_938 gs_Mo_putTwo ⟨by decide +kernel, by decide +kernel, show Option.map (fun d => d.parameters.length) (parseMethodDescriptor y_Mo_putTwo.desc) = some 1 by decide +kernel⟩ ⟨by decide, by decide⟩ rfl rfl hP hD hS hA [1, 2] [0] rfl rfl (by decide) (by decide) (by decide) rfl rfl hl.1 (Nat.le_of_ble_eq_true rfl) rfl d_Mo_write_326 ⟨by decide, by decide⟩ (fun v9 w9 H locs hq hP hD hS => ?_)
                                obtain ⟨rfl, y56_0, hw9⟩ := hq
                                rw [hw9] at hP hD
                                have hP : va_P D9 cls9 [(xcw, .inl (cI, 4, .inl _)), (mo, .inr (7, [.int (0), .ref xta, .int _, .ref xst, .int _, .int _, .int _, .int _, .ref xse, .ref xty, .ref xki, .ref xti, .ref xna, .ref xns, .ref xda, .ref xds, .int _, .int _, .int _, .int _, .int _, .int _, .int _, .ref xme, .int _, .int _, .ref xep, .ref xea, .int _, .ref xcw])), (xme, .inl (cB, 131200, .inl y56_0))] H := hP
                                have hD : va_D _ [(xcw, .inl (cI, 4, .inl _)), (mo, .inr (7, [.int (0), .ref xta, .int _, .ref xst, .int _, .int _, .int _, .int _, .ref xse, .ref xty, .ref xki, .ref xti, .ref xna, .ref xns, .ref xda, .ref xds, .int _, .int _, .int _, .int _, .int _, .int _, .int _, .ref xme, .int _, .int _, .ref xep, .ref xea, .int _, .ref xcw])), (xme, .inl (cB, 131200, .inl y56_0))] := hD
                                refine lv_iinc (lv' := [(6, _), (5, _), (4, _), (3, _), (2, _), (0, _), (1, _)]) hx hb d_Mo_write_329 hl (k := 0) rfl rfl (by decide) rfl (fun ls hl => ?_)
                                refine lv_goto (tgt := 314) hx hb d_Mo_write_332 (by decide) ?_
                                refine lv_iload hx hb d_Mo_write_314 (lv_at hl 0 rfl) ?_
                                refine lv_iconst (v := 4) hx hb d_Mo_write_316 (by decide) ?_
                                refine lv_icmp_ge (tgt := 335) hx hb d_Mo_write_317 (by decide) (fun c16 => ?_) (fun c16 => ?_)
                                · exact absurd c16 (by decide +kernel)
                                · refine lv_aload_n hx hb d_Mo_write_320 rfl (lv_at hl 5 rfl) ?_
                                  refine lv_aload hx hb d_Mo_write_321 (lv_at hl 2 rfl) ?_
                                  refine lv_iload hx hb d_Mo_write_323 (lv_at hl 0 rfl) ?_
                                  refine va_iald (D := D9) hx hb hK hP 0 1 rfl rfl (by unfold vp_in; decide +kernel) d_Mo_write_325 ?_
                                  refine mf_cV (wr := [_]) (ci := 7) (k := 0) C0 (c_Mo_putTwo l D9 cB cI cJ cG mo xta xst xse xty xki xti xna xns xda xds xme xep xea xcw _ _ _ _ _ _ _ _ _ _ _ _ _ _ _ _ _ (by unfold vp_in; decide +kernel) (by unfold vp_in; decide +kernel) _) g_939 g_8 g_936 g_938 gs_Mo_putTwo ⟨by decide +kernel, by decide +kernel, show Option.map (fun d => d.parameters.length) (parseMethodDescriptor y_Mo_putTwo.desc) = some 1 by decide +kernel⟩ ⟨by decide, by decide⟩ rfl rfl hP hD hS hA [1, 2] [0] rfl rfl (by decide) (by decide) (by decide) rfl rfl hl.1 (Nat.le_of_ble_eq_true rfl) rfl d_Mo_write_326 ⟨by decide, by decide⟩ (fun v9 w9 H locs hq hP hD hS => ?_)
                                  obtain ⟨rfl, y57_0, hw9⟩ := hq
                                  rw [hw9] at hP hD
                                  have hP : va_P D9 cls9 [(xcw, .inl (cI, 4, .inl _)), (mo, .inr (7, [.int (0), .ref xta, .int _, .ref xst, .int _, .int _, .int _, .int _, .ref xse, .ref xty, .ref xki, .ref xti, .ref xna, .ref xns, .ref xda, .ref xds, .int _, .int _, .int _, .int _, .int _, .int _, .int _, .ref xme, .int _, .int _, .ref xep, .ref xea, .int _, .ref xcw])), (xme, .inl (cB, 131200, .inl y57_0))] H := hP
                                  have hD : va_D _ [(xcw, .inl (cI, 4, .inl _)), (mo, .inr (7, [.int (0), .ref xta, .int _, .ref xst, .int _, .int _, .int _, .int _, .ref xse, .ref xty, .ref xki, .ref xti, .ref xna, .ref xns, .ref xda, .ref xds, .int _, .int _, .int _, .int _, .int _, .int _, .int _, .ref xme, .int _, .int _, .ref xep, .ref xea, .int _, .ref xcw])), (xme, .inl (cB, 131200, .inl y57_0))] := hD
                                  refine lv_iinc (lv' := [(6, _), (5, _), (4, _), (3, _), (2, _), (0, _), (1, _)]) hx hb d_Mo_write_329 hl (k := 0) rfl rfl (by decide) rfl (fun ls hl => ?_)
                                  refine lv_goto (tgt := 314) hx hb d_Mo_write_332 (by decide) ?_
                                  refine lv_iload hx hb d_Mo_write_314 (lv_at hl 0 rfl) ?_
                                  refine lv_iconst (v := 4) hx hb d_Mo_write_316 (by decide) ?_
                                  refine lv_icmp_ge (tgt := 335) hx hb d_Mo_write_317 (by decide) (fun c17 => ?_) (fun c17 => ?_)
                                  · exact absurd c17 (by decide +kernel)
                                  · refine lv_aload_n hx hb d_Mo_write_320 rfl (lv_at hl 5 rfl) ?_
                                    refine lv_aload hx hb d_Mo_write_321 (lv_at hl 2 rfl) ?_
                                    refine lv_iload hx hb d_Mo_write_323 (lv_at hl 0 rfl) ?_
                                    refine va_iald (D := D9) hx hb hK hP 0 1 rfl rfl (by unfold vp_in; decide +kernel) d_Mo_write_325 ?_
                                    refine mf_cV (wr := [_]) (ci := 7) (k := 0) C0 (c_Mo_putTwo l D9 cB cI cJ cG mo xta xst xse xty xki xti xna xns xda xds xme xep xea xcw _ _ _ _ _ _ _ _ _ _ _ _ _ _ _ _ _ (by unfold vp_in; decide +kernel) (by unfold vp_in; decide +kernel) _) g_939 g_8 g_936 g_938 gs_Mo_putTwo ⟨by decide +kernel, by decide +kernel, show Option.map (fun d => d.parameters.length) (parseMethodDescriptor y_Mo_putTwo.desc) = some 1 by decide +kernel⟩ ⟨by decide, by decide⟩ rfl rfl hP hD hS hA [1, 2] [0] rfl rfl (by decide) (by decide) (by decide) rfl rfl hl.1 (Nat.le_of_ble_eq_true rfl) rfl d_Mo_write_326 ⟨by decide, by decide⟩ (fun v9 w9 H locs hq hP hD hS => ?_)
                                    obtain ⟨rfl, y58_0, hw9⟩ := hq
                                    rw [hw9] at hP hD
                                    have hP : va_P D9 cls9 [(xcw, .inl (cI, 4, .inl _)), (mo, .inr (7, [.int (0), .ref xta, .int _, .ref xst, .int _, .int _, .int _, .int _, .ref xse, .ref xty, .ref xki, .ref xti, .ref xna, .ref xns, .ref xda, .ref xds, .int _, .int _, .int _, .int _, .int _, .int _, .int _, .ref xme, .int _, .int _, .ref xep, .ref xea, .int _, .ref xcw])), (xme, .inl (cB, 131200, .inl y58_0))] H := hP
                                    have hD : va_D _ [(xcw, .inl (cI, 4, .inl _)), (mo, .inr (7, [.int (0), .ref xta, .int _, .ref xst, .int _, .int _, .int _, .int _, .ref xse, .ref xty, .ref xki, .ref xti, .ref xna, .ref xns, .ref xda, .ref xds, .int _, .int _, .int _, .int _, .int _, .int _, .int _, .ref xme, .int _, .int _, .ref xep, .ref xea, .int _, .ref xcw])), (xme, .inl (cB, 131200, .inl y58_0))] := hD
                                    refine lv_iinc (lv' := [(6, _), (5, _), (4, _), (3, _), (2, _), (0, _), (1, _)]) hx hb d_Mo_write_329 hl (k := 0) rfl rfl (by decide) rfl (fun ls hl => ?_)
                                    refine lv_goto (tgt := 314) hx hb d_Mo_write_332 (by decide) ?_
                                    refine lv_iload hx hb d_Mo_write_314 (lv_at hl 0 rfl) ?_
                                    refine lv_iconst (v := 4) hx hb d_Mo_write_316 (by decide) ?_
                                    refine lv_icmp_ge (tgt := 335) hx hb d_Mo_write_317 (by decide) (fun c18 => ?_) (fun c18 => ?_)
                                    · exact absurd c18 (by decide +kernel)
                                    · refine lv_aload_n hx hb d_Mo_write_320 rfl (lv_at hl 5 rfl) ?_
                                      refine lv_aload hx hb d_Mo_write_321 (lv_at hl 2 rfl) ?_
                                      refine lv_iload hx hb d_Mo_write_323 (lv_at hl 0 rfl) ?_
                                      refine va_iald (D := D9) hx hb hK hP 0 1 rfl rfl (by unfold vp_in; decide +kernel) d_Mo_write_325 ?_
                                      refine mf_cV (wr := [_]) (ci := 7) (k := 0) C0 (c_Mo_putTwo l D9 cB cI cJ cG mo xta xst xse xty xki xti xna xns xda xds xme xep xea xcw _ _ _ _ _ _ _ _ _ _ _ _ _ _ _ _ _ (by unfold vp_in; decide +kernel) (by unfold vp_in; decide +kernel) _) g_939 g_8 g_936 g_938 gs_Mo_putTwo ⟨by decide +kernel, by decide +kernel, show Option.map (fun d => d.parameters.length) (parseMethodDescriptor y_Mo_putTwo.desc) = some 1 by decide +kernel⟩ ⟨by decide, by decide⟩ rfl rfl hP hD hS hA [1, 2] [0] rfl rfl (by decide) (by decide) (by decide) rfl rfl hl.1 (Nat.le_of_ble_eq_true rfl) rfl d_Mo_write_326 ⟨by decide, by decide⟩ (fun v9 w9 H locs hq hP hD hS => ?_)
                                      obtain ⟨rfl, y59_0, hw9⟩ := hq
                                      rw [hw9] at hP hD
                                      have hP : va_P D9 cls9 [(xcw, .inl (cI, 4, .inl _)), (mo, .inr (7, [.int (0), .ref xta, .int _, .ref xst, .int _, .int _, .int _, .int _, .ref xse, .ref xty, .ref xki, .ref xti, .ref xna, .ref xns, .ref xda, .ref xds, .int _, .int _, .int _, .int _, .int _, .int _, .int _, .ref xme, .int _, .int _, .ref xep, .ref xea, .int _, .ref xcw])), (xme, .inl (cB, 131200, .inl y59_0))] H := hP
                                      have hD : va_D _ [(xcw, .inl (cI, 4, .inl _)), (mo, .inr (7, [.int (0), .ref xta, .int _, .ref xst, .int _, .int _, .int _, .int _, .ref xse, .ref xty, .ref xki, .ref xti, .ref xna, .ref xns, .ref xda, .ref xds, .int _, .int _, .int _, .int _, .int _, .int _, .int _, .ref xme, .int _, .int _, .ref xep, .ref xea, .int _, .ref xcw])), (xme, .inl (cB, 131200, .inl y59_0))] := hD
                                      refine lv_iinc (lv' := [(6, _), (5, _), (4, _), (3, _), (2, _), (0, _), (1, _)]) hx hb d_Mo_write_329 hl (k := 0) rfl rfl (by decide) rfl (fun ls hl => ?_)
                                      refine lv_goto (tgt := 314) hx hb d_Mo_write_332 (by decide) ?_
                                      refine lv_iload hx hb d_Mo_write_314 (lv_at hl 0 rfl) ?_
                                      refine lv_iconst (v := 4) hx hb d_Mo_write_316 (by decide) ?_
                                      refine lv_icmp_ge (tgt := 335) hx hb d_Mo_write_317 (by decide) (fun c19 => ?_) (fun c19 => ?_)
                                      · refine lv_aload_n hx hb d_Mo_write_335 rfl (lv_at hl 5 rfl) ?_
                                        refine lv_iload hx hb d_Mo_write_336 (lv_at hl 1 rfl) ?_
                                        refine va_put (D := D9) (ty := .int) (ci := 7) (C := R_Mo) (T := F_Mo) (N := 30) hx hb hts i_Mo t_Mo t_Mo_ok n_Mo hown hK hP hD hS 1 rfl rfl 24 (by decide) (hts _ g_746) (fun _ h9 => h9) rfl (by decide +kernel) rfl rfl (Nat.le_of_ble_eq_true rfl) d_Mo_write_338 (fun H locs hP hD hS => ?_)
                                        have hP : va_P D9 cls9 [(xcw, .inl (cI, 4, .inl _)), (mo, .inr (7, [.int (0), .ref xta, .int _, .ref xst, .int _, .int _, .int _, .int _, .ref xse, .ref xty, .ref xki, .ref xti, .ref xna, .ref xns, .ref xda, .ref xds, .int _, .int _, .int _, .int _, .int _, .int _, .int _, .ref xme, .int _, .int _, .ref xep, .ref xea, .int _, .ref xcw])), (xme, .inl (cB, 131200, .inl y59_0))] H := hP
                                        have hD : va_D _ [(xcw, .inl (cI, 4, .inl _)), (mo, .inr (7, [.int (0), .ref xta, .int _, .ref xst, .int _, .int _, .int _, .int _, .ref xse, .ref xty, .ref xki, .ref xti, .ref xna, .ref xns, .ref xda, .ref xds, .int _, .int _, .int _, .int _, .int _, .int _, .int _, .ref xme, .int _, .int _, .ref xep, .ref xea, .int _, .ref xcw])), (xme, .inl (cB, 131200, .inl y59_0))] := hD
                                        refine lv_aload_n hx hb d_Mo_write_341 rfl (lv_at hl 5 rfl) ?_
                                        refine va_get (D := D9) (ci := 7) (C := R_Mo) (T := F_Mo) (N := 30) hx hb hts i_Mo hown hK hP 1 rfl rfl 24 (by decide) (hts _ g_746) (fun _ h9 => h9) rfl d_Mo_write_342 ?_
                                        have hP := hP.sub (ws' := [(mo, .inr (7, [.int (0), .ref xta, .int _, .ref xst, .int _, .int _, .int _, .int _, .ref xse, .ref xty, .ref xki, .ref xti, .ref xna, .ref xns, .ref xda, .ref xds, .int _, .int _, .int _, .int _, .int _, .int _, .int _, .ref xme, .int _, .int _, .ref xep, .ref xea, .int _, .ref xcw])), (xme, .inl (cB, 131200, .inl y59_0)), (xcw, .inl (cI, 4, .inl _))]) [1, 2, 0] rfl
                                        have hD := hD.sub (ws' := [(mo, .inr (7, [.int (0), .ref xta, .int _, .ref xst, .int _, .int _, .int _, .int _, .ref xse, .ref xty, .ref xki, .ref xti, .ref xna, .ref xns, .ref xda, .ref xds, .int _, .int _, .int _, .int _, .int _, .int _, .int _, .ref xme, .int _, .int _, .ref xep, .ref xea, .int _, .ref xcw])), (xme, .inl (cB, 131200, .inl y59_0)), (xcw, .inl (cI, 4, .inl _))]) [1, 2, 0] (by decide) rfl
                                        exact mw_zret hx hb hr hlocks hS hP hD (by decide) (by decide) d_Mo_write_345 (by first | rfl | decide +kernel) (⟨_, _, _, _, _, _, _, _, _, _, _, _, _, _, _, _, _, _, _, rfl, rfl, Or.inl ⟨rfl, rfl, c1, c2⟩⟩)
                                      · exact absurd c19 (by decide +kernel)
                            · exact absurd c14 (by decide +kernel)
                          · exact absurd c13 (by decide +kernel)
                        · exact absurd c12 (by decide +kernel)
                    · exact absurd c10 (by decide +kernel)
                · exact absurd c8 (by decide +kernel)
            · exact absurd c6 (by decide +kernel)
        · exact absurd (show (12 : Int32) + 0 ≤ u1 by rw [show (12 : Int32) + 0 = 12 by decide]; exact Int32.not_lt.mp c1) c4
      · exact absurd c3 (by decide +kernel)
    · refine lv_aload_n hx hb d_Mo_write_17 rfl (lv_at hl 0 rfl) ?_
      refine lv_iconst (v := 1) hx hb d_Mo_write_18 (by decide) ?_
      refine mf_cV (wr := [_, _]) (ci := 7) (k := 0) C0 (c_Mo_fail l D9 cB cI cJ cG mo xta xst xse xty xki xti xna xns xda xds xme xep xea xcw _) g_877 g_8 g_874 g_876 gs_Mo_fail ⟨by decide +kernel, by decide +kernel, show Option.map (fun d => d.parameters.length) (parseMethodDescriptor y_Mo_fail.desc) = some 1 by decide +kernel⟩ ⟨by decide, by decide⟩ rfl rfl hP hD hS hA [0] [1, 2] rfl rfl (by decide) (by decide) (by decide) rfl rfl hl.1 (Nat.le_of_ble_eq_true rfl) rfl d_Mo_write_19 ⟨by decide, by decide⟩ (fun v9 w9 H locs hq hP hD hS => ?_)
      obtain ⟨rfl, hw9⟩ := hq
      rw [hw9] at hP hD
      have hP : va_P D9 cls9 [(xme, .inl (cB, 131200, .inl (fun _ => 0))), (xcw, .inl (cI, 4, .inl (fun _ => 0))), (mo, .inr (7, [.int (1), .ref xta, .int 0, .ref xst, .int 0, .int 0, .int 0, .int 0, .ref xse, .ref xty, .ref xki, .ref xti, .ref xna, .ref xns, .ref xda, .ref xds, .int (-1), .int 0, .int 0, .int 0, .int 0, .int 0, .int 0, .ref xme, .int 0, .int 0, .ref xep, .ref xea, .int 0, .ref xcw]))] H := hP
      have hD : va_D _ [(xme, .inl (cB, 131200, .inl (fun _ => 0))), (xcw, .inl (cI, 4, .inl (fun _ => 0))), (mo, .inr (7, [.int (1), .ref xta, .int 0, .ref xst, .int 0, .int 0, .int 0, .int 0, .ref xse, .ref xty, .ref xki, .ref xti, .ref xna, .ref xns, .ref xda, .ref xds, .int (-1), .int 0, .int 0, .int 0, .int 0, .int 0, .int 0, .ref xme, .int 0, .int 0, .ref xep, .ref xea, .int 0, .ref xcw]))] := hD
      have hP := hP.sub (ws' := [(mo, .inr (7, [.int (1), .ref xta, .int 0, .ref xst, .int 0, .int 0, .int 0, .int 0, .ref xse, .ref xty, .ref xki, .ref xti, .ref xna, .ref xns, .ref xda, .ref xds, .int (-1), .int 0, .int 0, .int 0, .int 0, .int 0, .int 0, .ref xme, .int 0, .int 0, .ref xep, .ref xea, .int 0, .ref xcw])), (xme, .inl (cB, 131200, .inl (fun _ => 0))), (xcw, .inl (cI, 4, .inl (fun _ => 0)))]) [2, 0, 1] rfl
      have hD := hD.sub (ws' := [(mo, .inr (7, [.int (1), .ref xta, .int 0, .ref xst, .int 0, .int 0, .int 0, .int 0, .ref xse, .ref xty, .ref xki, .ref xti, .ref xna, .ref xns, .ref xda, .ref xds, .int (-1), .int 0, .int 0, .int 0, .int 0, .int 0, .int 0, .ref xme, .int 0, .int 0, .ref xep, .ref xea, .int 0, .ref xcw])), (xme, .inl (cB, 131200, .inl (fun _ => 0))), (xcw, .inl (cI, 4, .inl (fun _ => 0)))]) [2, 0, 1] (by decide) rfl
      exact mw_zret hx hb hr hlocks hS hP hD (by decide) (by decide) d_Mo_write_22 (by first | rfl | decide +kernel) (⟨_, _, _, _, _, _, _, _, _, _, _, _, _, _, _, _, _, _, _, rfl, rfl, Or.inr ⟨rfl, Or.inr (Int32.not_le.mp c2)⟩⟩)
set_option maxHeartbeats 4000000 in
set_option maxRecDepth 100000 in
theorem c_Mo_feed (l : Launch) (D9 : va_G) (cB cI cJ cG : ClassId) (mo xta xst xse xty xki xti xna xns xda xds xme xep xea xcw : Nat) (u1 u2 u3 u4 u5 : Int32) : MW l D9 cls9 (ty9 cB cI cJ cG) y_Mo_feed b_Mo_feed 8 (some .int) (rm9 0 0 0) [.ref mo, .int u1, .int u2, .int u3, .int u4, .int u5] [(mo, .inr (7, [.int 0, .ref xta, .int 0, .ref xst, .int 0, .int 0, .int 0, .int 0, .ref xse, .ref xty, .ref xki, .ref xti, .ref xna, .ref xns, .ref xda, .ref xds, .int (-1), .int 0, .int 0, .int 0, .int 0, .int 0, .int 0, .ref xme, .int 0, .int 0, .ref xep, .ref xea, .int 0, .ref xcw])), (xta, .inl (cB, 65536, .inl (fun _ => 0)))] (fun v8 w2 => ∃ (r : Int32) (x0 : Int32) (x1 : Int32) (x2 : Int32) (x3 : Int32) (x4 : Int32) (x5 : Int32) (x6 : Int32) (x7 : Int32) (x8 : Int32) (x9 : Int32) (x10 : Int32) (x11 : Int32) (x12 : Int32) (x13 : Int32) (x14 : Int32) (x15 : Int32) (x16 : Nat → Int32), v8 = some (.int r) ∧ w2 = [(mo, .inr (7, [.int x0, .ref xta, .int x1, .ref xst, .int x2, .int x3, .int x4, .int x5, .ref xse, .ref xty, .ref xki, .ref xti, .ref xna, .ref xns, .ref xda, .ref xds, .int x6, .int x7, .int x8, .int x9, .int x10, .int x11, .int x12, .ref xme, .int x13, .int x14, .ref xep, .ref xea, .int x15, .ref xcw])), (xta, .inl (cB, 65536, .inl x16))] ∧ (r = 20 ∧ x0 = 0)) 0 0 := by
  refine mw_of (by decide) (Nat.le_of_ble_eq_true rfl) ?_
  intro p e s m below meth c ls C0 hin hP hD hA hS hl
  obtain ⟨hx, hb, hml, hr, hlocks, hown, hts, hK⟩ := id C0
  have hl : lv_has ls 8 [(0, .ref mo), (1, .int u1), (2, .int u2), (3, .int u3), (4, .int u4), (5, .int u5)] := hl
  refine lv_aload_n hx hb d_Mo_feed_0 rfl (lv_at hl 0 rfl) ?_
  refine lv_iconst (v := 0) hx hb d_Mo_feed_1 (by decide) ?_
  refine va_put (D := D9) (ty := .int) (ci := 7) (C := R_Mo) (T := F_Mo) (N := 30) hx hb hts i_Mo t_Mo t_Mo_ok n_Mo hown hK hP hD hS 0 rfl rfl 0 (by decide) (hts _ g_722) (fun _ h9 => h9) rfl (by decide +kernel) rfl rfl (Nat.le_of_ble_eq_true rfl) d_Mo_feed_2 (fun H locs hP hD hS => ?_)
  have hP : va_P D9 cls9 [(mo, .inr (7, [.int (0), .ref xta, .int 0, .ref xst, .int 0, .int 0, .int 0, .int 0, .ref xse, .ref xty, .ref xki, .ref xti, .ref xna, .ref xns, .ref xda, .ref xds, .int (-1), .int 0, .int 0, .int 0, .int 0, .int 0, .int 0, .ref xme, .int 0, .int 0, .ref xep, .ref xea, .int 0, .ref xcw])), (xta, .inl (cB, 65536, .inl (fun _ => 0)))] H := hP
  have hD : va_D _ [(mo, .inr (7, [.int (0), .ref xta, .int 0, .ref xst, .int 0, .int 0, .int 0, .int 0, .ref xse, .ref xty, .ref xki, .ref xti, .ref xna, .ref xns, .ref xda, .ref xds, .int (-1), .int 0, .int 0, .int 0, .int 0, .int 0, .int 0, .ref xme, .int 0, .int 0, .ref xep, .ref xea, .int 0, .ref xcw])), (xta, .inl (cB, 65536, .inl (fun _ => 0)))] := hD
  refine lv_aload_n hx hb d_Mo_feed_5 rfl (lv_at hl 0 rfl) ?_
  refine va_get (D := D9) (ci := 7) (C := R_Mo) (T := F_Mo) (N := 30) hx hb hts i_Mo hown hK hP 0 rfl rfl 2 (by decide) (hts _ g_724) (fun _ h9 => h9) rfl d_Mo_feed_6 ?_
  refine lv_ldc hx hb hown (hts _ g_873) d_Mo_feed_9 ?_
  refine lv_icmp_le (tgt := 20) hx hb d_Mo_feed_11 (by decide) (fun c1 => ?_) (fun c1 => ?_)
  · refine lv_iconst (v := 0) hx hb d_Mo_feed_20 (by decide) ?_
    refine lv_istore (lv' := [(6, _), (0, _), (1, _), (2, _), (3, _), (4, _), (5, _)]) hx hb d_Mo_feed_21 hl (by decide) rfl (fun ls hl => ?_)
    refine lv_iload hx hb d_Mo_feed_23 (lv_at hl 0 rfl) ?_
    refine lv_bipush (v := 20) hx hb d_Mo_feed_25 (by decide) ?_
    refine lv_icmp_ge (tgt := 109) hx hb d_Mo_feed_27 (by decide) (fun c2 => ?_) (fun c2 => ?_)
    · exact absurd c2 (by decide +kernel)
    · refine lv_iload hx hb d_Mo_feed_30 (lv_at hl 0 rfl) ?_
      refine lv_iconst (v := 4) hx hb d_Mo_feed_32 (by decide) ?_
      refine lv_icmp_ge (tgt := 40) hx hb d_Mo_feed_33 (by decide) (fun c3 => ?_) (fun c3 => ?_)
      · exact absurd c3 (by decide +kernel)
      · refine lv_iload_n hx hb d_Mo_feed_36 rfl (lv_at hl 2 rfl) ?_
        refine lv_goto (tgt := 76) hx hb d_Mo_feed_37 (by decide) ?_
        refine lv_istore (lv' := [(7, _), (6, _), (0, _), (1, _), (2, _), (3, _), (4, _), (5, _)]) hx hb d_Mo_feed_76 hl (by decide) rfl (fun ls hl => ?_)
        refine lv_aload_n hx hb d_Mo_feed_78 rfl (lv_at hl 2 rfl) ?_
        refine va_get (D := D9) (ci := 7) (C := R_Mo) (T := F_Mo) (N := 30) hx hb hts i_Mo hown hK hP 0 rfl rfl 1 (by decide) (hts _ g_723) (fun _ h9 => h9) rfl d_Mo_feed_79 ?_
        refine lv_aload_n hx hb d_Mo_feed_82 rfl (lv_at hl 2 rfl) ?_
        refine va_get (D := D9) (ci := 7) (C := R_Mo) (T := F_Mo) (N := 30) hx hb hts i_Mo hown hK hP 0 rfl rfl 2 (by decide) (hts _ g_724) (fun _ h9 => h9) rfl d_Mo_feed_83 ?_
        refine lv_iload hx hb d_Mo_feed_86 (lv_at hl 1 rfl) ?_
        refine lv_iadd hx hb d_Mo_feed_88 ?_
        refine lv_iload hx hb d_Mo_feed_89 (lv_at hl 0 rfl) ?_
        refine lv_bipush (v := 8) hx hb d_Mo_feed_91 (by decide) ?_
        refine lv_iconst (v := 3) hx hb d_Mo_feed_93 (by decide) ?_
        refine lv_iload hx hb d_Mo_feed_94 (lv_at hl 1 rfl) ?_
        refine lv_iconst (v := 4) hx hb d_Mo_feed_96 (by decide) ?_
        refine lv_irem hx hb d_Mo_feed_97 (by decide) ?_
        refine lv_isub hx hb d_Mo_feed_98 ?_
        refine lv_imul hx hb d_Mo_feed_99 ?_
        refine lv_ishr hx hb d_Mo_feed_100 ?_
        refine lv_i2b hx hb d_Mo_feed_101 rfl ?_
        refine va_bast (D := D9) hx hb hK hP hD hS 1 0 rfl rfl (by unfold vp_in; decide +kernel) d_Mo_feed_102 (fun H locs hP hD hS => ?_)
        have hP : va_P D9 cls9 [(mo, .inr (7, [.int (0), .ref xta, .int 0, .ref xst, .int 0, .int 0, .int 0, .int 0, .ref xse, .ref xty, .ref xki, .ref xti, .ref xna, .ref xns, .ref xda, .ref xds, .int (-1), .int 0, .int 0, .int 0, .int 0, .int 0, .int 0, .ref xme, .int 0, .int 0, .ref xep, .ref xea, .int 0, .ref xcw])), (xta, .inl (cB, 65536, .inl _))] H := hP
        have hD : va_D _ [(mo, .inr (7, [.int (0), .ref xta, .int 0, .ref xst, .int 0, .int 0, .int 0, .int 0, .ref xse, .ref xty, .ref xki, .ref xti, .ref xna, .ref xns, .ref xda, .ref xds, .int (-1), .int 0, .int 0, .int 0, .int 0, .int 0, .int 0, .ref xme, .int 0, .int 0, .ref xep, .ref xea, .int 0, .ref xcw])), (xta, .inl (cB, 65536, .inl _))] := hD
        refine lv_iinc (lv' := [(6, _), (7, _), (0, _), (1, _), (2, _), (3, _), (4, _), (5, _)]) hx hb d_Mo_feed_103 hl (k := 1) rfl rfl (by decide) rfl (fun ls hl => ?_)
        refine lv_goto (tgt := 23) hx hb d_Mo_feed_106 (by decide) ?_
        refine lv_iload hx hb d_Mo_feed_23 (lv_at hl 0 rfl) ?_
        refine lv_bipush (v := 20) hx hb d_Mo_feed_25 (by decide) ?_
        refine lv_icmp_ge (tgt := 109) hx hb d_Mo_feed_27 (by decide) (fun c4 => ?_) (fun c4 => ?_)
        · exact absurd c4 (by decide +kernel)
        · refine lv_iload hx hb d_Mo_feed_30 (lv_at hl 0 rfl) ?_
          refine lv_iconst (v := 4) hx hb d_Mo_feed_32 (by decide) ?_
          refine lv_icmp_ge (tgt := 40) hx hb d_Mo_feed_33 (by decide) (fun c5 => ?_) (fun c5 => ?_)
          · exact absurd c5 (by decide +kernel)
          · refine lv_iload_n hx hb d_Mo_feed_36 rfl (lv_at hl 3 rfl) ?_
            refine lv_goto (tgt := 76) hx hb d_Mo_feed_37 (by decide) ?_
            refine lv_istore (lv' := [(7, _), (6, _), (0, _), (1, _), (2, _), (3, _), (4, _), (5, _)]) hx hb d_Mo_feed_76 hl (by decide) rfl (fun ls hl => ?_)
            refine lv_aload_n hx hb d_Mo_feed_78 rfl (lv_at hl 2 rfl) ?_
            refine va_get (D := D9) (ci := 7) (C := R_Mo) (T := F_Mo) (N := 30) hx hb hts i_Mo hown hK hP 0 rfl rfl 1 (by decide) (hts _ g_723) (fun _ h9 => h9) rfl d_Mo_feed_79 ?_
            refine lv_aload_n hx hb d_Mo_feed_82 rfl (lv_at hl 2 rfl) ?_
            refine va_get (D := D9) (ci := 7) (C := R_Mo) (T := F_Mo) (N := 30) hx hb hts i_Mo hown hK hP 0 rfl rfl 2 (by decide) (hts _ g_724) (fun _ h9 => h9) rfl d_Mo_feed_83 ?_
            refine lv_iload hx hb d_Mo_feed_86 (lv_at hl 1 rfl) ?_
            refine lv_iadd hx hb d_Mo_feed_88 ?_
            refine lv_iload hx hb d_Mo_feed_89 (lv_at hl 0 rfl) ?_
            refine lv_bipush (v := 8) hx hb d_Mo_feed_91 (by decide) ?_
            refine lv_iconst (v := 3) hx hb d_Mo_feed_93 (by decide) ?_
            refine lv_iload hx hb d_Mo_feed_94 (lv_at hl 1 rfl) ?_
            refine lv_iconst (v := 4) hx hb d_Mo_feed_96 (by decide) ?_
            refine lv_irem hx hb d_Mo_feed_97 (by decide) ?_
            refine lv_isub hx hb d_Mo_feed_98 ?_
            refine lv_imul hx hb d_Mo_feed_99 ?_
            refine lv_ishr hx hb d_Mo_feed_100 ?_
            refine lv_i2b hx hb d_Mo_feed_101 rfl ?_
            refine va_bast (D := D9) hx hb hK hP hD hS 1 0 rfl rfl (by unfold vp_in; decide +kernel) d_Mo_feed_102 (fun H locs hP hD hS => ?_)
            have hP : va_P D9 cls9 [(mo, .inr (7, [.int (0), .ref xta, .int 0, .ref xst, .int 0, .int 0, .int 0, .int 0, .ref xse, .ref xty, .ref xki, .ref xti, .ref xna, .ref xns, .ref xda, .ref xds, .int (-1), .int 0, .int 0, .int 0, .int 0, .int 0, .int 0, .ref xme, .int 0, .int 0, .ref xep, .ref xea, .int 0, .ref xcw])), (xta, .inl (cB, 65536, .inl _))] H := hP
            have hD : va_D _ [(mo, .inr (7, [.int (0), .ref xta, .int 0, .ref xst, .int 0, .int 0, .int 0, .int 0, .ref xse, .ref xty, .ref xki, .ref xti, .ref xna, .ref xns, .ref xda, .ref xds, .int (-1), .int 0, .int 0, .int 0, .int 0, .int 0, .int 0, .ref xme, .int 0, .int 0, .ref xep, .ref xea, .int 0, .ref xcw])), (xta, .inl (cB, 65536, .inl _))] := hD
            refine lv_iinc (lv' := [(6, _), (7, _), (0, _), (1, _), (2, _), (3, _), (4, _), (5, _)]) hx hb d_Mo_feed_103 hl (k := 1) rfl rfl (by decide) rfl (fun ls hl => ?_)
            refine lv_goto (tgt := 23) hx hb d_Mo_feed_106 (by decide) ?_
            refine lv_iload hx hb d_Mo_feed_23 (lv_at hl 0 rfl) ?_
            refine lv_bipush (v := 20) hx hb d_Mo_feed_25 (by decide) ?_
            refine lv_icmp_ge (tgt := 109) hx hb d_Mo_feed_27 (by decide) (fun c6 => ?_) (fun c6 => ?_)
            · exact absurd c6 (by decide +kernel)
            · refine lv_iload hx hb d_Mo_feed_30 (lv_at hl 0 rfl) ?_
              refine lv_iconst (v := 4) hx hb d_Mo_feed_32 (by decide) ?_
              refine lv_icmp_ge (tgt := 40) hx hb d_Mo_feed_33 (by decide) (fun c7 => ?_) (fun c7 => ?_)
              · exact absurd c7 (by decide +kernel)
              · refine lv_iload_n hx hb d_Mo_feed_36 rfl (lv_at hl 3 rfl) ?_
                refine lv_goto (tgt := 76) hx hb d_Mo_feed_37 (by decide) ?_
                refine lv_istore (lv' := [(7, _), (6, _), (0, _), (1, _), (2, _), (3, _), (4, _), (5, _)]) hx hb d_Mo_feed_76 hl (by decide) rfl (fun ls hl => ?_)
                refine lv_aload_n hx hb d_Mo_feed_78 rfl (lv_at hl 2 rfl) ?_
                refine va_get (D := D9) (ci := 7) (C := R_Mo) (T := F_Mo) (N := 30) hx hb hts i_Mo hown hK hP 0 rfl rfl 1 (by decide) (hts _ g_723) (fun _ h9 => h9) rfl d_Mo_feed_79 ?_
                refine lv_aload_n hx hb d_Mo_feed_82 rfl (lv_at hl 2 rfl) ?_
                refine va_get (D := D9) (ci := 7) (C := R_Mo) (T := F_Mo) (N := 30) hx hb hts i_Mo hown hK hP 0 rfl rfl 2 (by decide) (hts _ g_724) (fun _ h9 => h9) rfl d_Mo_feed_83 ?_
                refine lv_iload hx hb d_Mo_feed_86 (lv_at hl 1 rfl) ?_
                refine lv_iadd hx hb d_Mo_feed_88 ?_
                refine lv_iload hx hb d_Mo_feed_89 (lv_at hl 0 rfl) ?_
                refine lv_bipush (v := 8) hx hb d_Mo_feed_91 (by decide) ?_
                refine lv_iconst (v := 3) hx hb d_Mo_feed_93 (by decide) ?_
                refine lv_iload hx hb d_Mo_feed_94 (lv_at hl 1 rfl) ?_
                refine lv_iconst (v := 4) hx hb d_Mo_feed_96 (by decide) ?_
                refine lv_irem hx hb d_Mo_feed_97 (by decide) ?_
                refine lv_isub hx hb d_Mo_feed_98 ?_
                refine lv_imul hx hb d_Mo_feed_99 ?_
                refine lv_ishr hx hb d_Mo_feed_100 ?_
                refine lv_i2b hx hb d_Mo_feed_101 rfl ?_
                refine va_bast (D := D9) hx hb hK hP hD hS 1 0 rfl rfl (by unfold vp_in; decide +kernel) d_Mo_feed_102 (fun H locs hP hD hS => ?_)
                have hP : va_P D9 cls9 [(mo, .inr (7, [.int (0), .ref xta, .int 0, .ref xst, .int 0, .int 0, .int 0, .int 0, .ref xse, .ref xty, .ref xki, .ref xti, .ref xna, .ref xns, .ref xda, .ref xds, .int (-1), .int 0, .int 0, .int 0, .int 0, .int 0, .int 0, .ref xme, .int 0, .int 0, .ref xep, .ref xea, .int 0, .ref xcw])), (xta, .inl (cB, 65536, .inl _))] H := hP
                have hD : va_D _ [(mo, .inr (7, [.int (0), .ref xta, .int 0, .ref xst, .int 0, .int 0, .int 0, .int 0, .ref xse, .ref xty, .ref xki, .ref xti, .ref xna, .ref xns, .ref xda, .ref xds, .int (-1), .int 0, .int 0, .int 0, .int 0, .int 0, .int 0, .ref xme, .int 0, .int 0, .ref xep, .ref xea, .int 0, .ref xcw])), (xta, .inl (cB, 65536, .inl _))] := hD
                refine lv_iinc (lv' := [(6, _), (7, _), (0, _), (1, _), (2, _), (3, _), (4, _), (5, _)]) hx hb d_Mo_feed_103 hl (k := 1) rfl rfl (by decide) rfl (fun ls hl => ?_)
                refine lv_goto (tgt := 23) hx hb d_Mo_feed_106 (by decide) ?_
                refine lv_iload hx hb d_Mo_feed_23 (lv_at hl 0 rfl) ?_
                refine lv_bipush (v := 20) hx hb d_Mo_feed_25 (by decide) ?_
                refine lv_icmp_ge (tgt := 109) hx hb d_Mo_feed_27 (by decide) (fun c8 => ?_) (fun c8 => ?_)
                · exact absurd c8 (by decide +kernel)
                · refine lv_iload hx hb d_Mo_feed_30 (lv_at hl 0 rfl) ?_
                  refine lv_iconst (v := 4) hx hb d_Mo_feed_32 (by decide) ?_
                  refine lv_icmp_ge (tgt := 40) hx hb d_Mo_feed_33 (by decide) (fun c9 => ?_) (fun c9 => ?_)
                  · exact absurd c9 (by decide +kernel)
                  · refine lv_iload_n hx hb d_Mo_feed_36 rfl (lv_at hl 3 rfl) ?_
                    refine lv_goto (tgt := 76) hx hb d_Mo_feed_37 (by decide) ?_
                    refine lv_istore (lv' := [(7, _), (6, _), (0, _), (1, _), (2, _), (3, _), (4, _), (5, _)]) hx hb d_Mo_feed_76 hl (by decide) rfl (fun ls hl => ?_)
                    refine lv_aload_n hx hb d_Mo_feed_78 rfl (lv_at hl 2 rfl) ?_
                    refine va_get (D := D9) (ci := 7) (C := R_Mo) (T := F_Mo) (N := 30) hx hb hts i_Mo hown hK hP 0 rfl rfl 1 (by decide) (hts _ g_723) (fun _ h9 => h9) rfl d_Mo_feed_79 ?_
                    refine lv_aload_n hx hb d_Mo_feed_82 rfl (lv_at hl 2 rfl) ?_
                    refine va_get (D := D9) (ci := 7) (C := R_Mo) (T := F_Mo) (N := 30) hx hb hts i_Mo hown hK hP 0 rfl rfl 2 (by decide) (hts _ g_724) (fun _ h9 => h9) rfl d_Mo_feed_83 ?_
                    refine lv_iload hx hb d_Mo_feed_86 (lv_at hl 1 rfl) ?_
                    refine lv_iadd hx hb d_Mo_feed_88 ?_
                    refine lv_iload hx hb d_Mo_feed_89 (lv_at hl 0 rfl) ?_
                    refine lv_bipush (v := 8) hx hb d_Mo_feed_91 (by decide) ?_
                    refine lv_iconst (v := 3) hx hb d_Mo_feed_93 (by decide) ?_
                    refine lv_iload hx hb d_Mo_feed_94 (lv_at hl 1 rfl) ?_
                    refine lv_iconst (v := 4) hx hb d_Mo_feed_96 (by decide) ?_
                    refine lv_irem hx hb d_Mo_feed_97 (by decide) ?_
                    refine lv_isub hx hb d_Mo_feed_98 ?_
                    refine lv_imul hx hb d_Mo_feed_99 ?_
                    refine lv_ishr hx hb d_Mo_feed_100 ?_
                    refine lv_i2b hx hb d_Mo_feed_101 rfl ?_
                    refine va_bast (D := D9) hx hb hK hP hD hS 1 0 rfl rfl (by unfold vp_in; decide +kernel) d_Mo_feed_102 (fun H locs hP hD hS => ?_)
                    have hP : va_P D9 cls9 [(mo, .inr (7, [.int (0), .ref xta, .int 0, .ref xst, .int 0, .int 0, .int 0, .int 0, .ref xse, .ref xty, .ref xki, .ref xti, .ref xna, .ref xns, .ref xda, .ref xds, .int (-1), .int 0, .int 0, .int 0, .int 0, .int 0, .int 0, .ref xme, .int 0, .int 0, .ref xep, .ref xea, .int 0, .ref xcw])), (xta, .inl (cB, 65536, .inl _))] H := hP
                    have hD : va_D _ [(mo, .inr (7, [.int (0), .ref xta, .int 0, .ref xst, .int 0, .int 0, .int 0, .int 0, .ref xse, .ref xty, .ref xki, .ref xti, .ref xna, .ref xns, .ref xda, .ref xds, .int (-1), .int 0, .int 0, .int 0, .int 0, .int 0, .int 0, .ref xme, .int 0, .int 0, .ref xep, .ref xea, .int 0, .ref xcw])), (xta, .inl (cB, 65536, .inl _))] := hD
                    refine lv_iinc (lv' := [(6, _), (7, _), (0, _), (1, _), (2, _), (3, _), (4, _), (5, _)]) hx hb d_Mo_feed_103 hl (k := 1) rfl rfl (by decide) rfl (fun ls hl => ?_)
                    refine lv_goto (tgt := 23) hx hb d_Mo_feed_106 (by decide) ?_
                    refine lv_iload hx hb d_Mo_feed_23 (lv_at hl 0 rfl) ?_
                    refine lv_bipush (v := 20) hx hb d_Mo_feed_25 (by decide) ?_
                    refine lv_icmp_ge (tgt := 109) hx hb d_Mo_feed_27 (by decide) (fun c10 => ?_) (fun c10 => ?_)
                    · exact absurd c10 (by decide +kernel)
                    · refine lv_iload hx hb d_Mo_feed_30 (lv_at hl 0 rfl) ?_
                      refine lv_iconst (v := 4) hx hb d_Mo_feed_32 (by decide) ?_
                      refine lv_icmp_ge (tgt := 40) hx hb d_Mo_feed_33 (by decide) (fun c11 => ?_) (fun c11 => ?_)
                      · refine lv_iload hx hb d_Mo_feed_40 (lv_at hl 0 rfl) ?_
                        refine lv_bipush (v := 8) hx hb d_Mo_feed_42 (by decide) ?_
                        refine lv_icmp_ge (tgt := 51) hx hb d_Mo_feed_44 (by decide) (fun c12 => ?_) (fun c12 => ?_)
                        · exact absurd c12 (by decide +kernel)
                        · refine lv_iload_n hx hb d_Mo_feed_47 rfl (lv_at hl 4 rfl) ?_
                          refine lv_goto (tgt := 76) hx hb d_Mo_feed_48 (by decide) ?_
                          refine lv_istore (lv' := [(7, _), (6, _), (0, _), (1, _), (2, _), (3, _), (4, _), (5, _)]) hx hb d_Mo_feed_76 hl (by decide) rfl (fun ls hl => ?_)
                          refine lv_aload_n hx hb d_Mo_feed_78 rfl (lv_at hl 2 rfl) ?_
                          refine va_get (D := D9) (ci := 7) (C := R_Mo) (T := F_Mo) (N := 30) hx hb hts i_Mo hown hK hP 0 rfl rfl 1 (by decide) (hts _ g_723) (fun _ h9 => h9) rfl d_Mo_feed_79 ?_
                          refine lv_aload_n hx hb d_Mo_feed_82 rfl (lv_at hl 2 rfl) ?_
                          refine va_get (D := D9) (ci := 7) (C := R_Mo) (T := F_Mo) (N := 30) hx hb hts i_Mo hown hK hP 0 rfl rfl 2 (by decide) (hts _ g_724) (fun _ h9 => h9) rfl d_Mo_feed_83 ?_
                          refine lv_iload hx hb d_Mo_feed_86 (lv_at hl 1 rfl) ?_
                          refine lv_iadd hx hb d_Mo_feed_88 ?_
                          refine lv_iload hx hb d_Mo_feed_89 (lv_at hl 0 rfl) ?_
                          refine lv_bipush (v := 8) hx hb d_Mo_feed_91 (by decide) ?_
                          refine lv_iconst (v := 3) hx hb d_Mo_feed_93 (by decide) ?_
                          refine lv_iload hx hb d_Mo_feed_94 (lv_at hl 1 rfl) ?_
                          refine lv_iconst (v := 4) hx hb d_Mo_feed_96 (by decide) ?_
                          refine lv_irem hx hb d_Mo_feed_97 (by decide) ?_
                          refine lv_isub hx hb d_Mo_feed_98 ?_
                          refine lv_imul hx hb d_Mo_feed_99 ?_
                          refine lv_ishr hx hb d_Mo_feed_100 ?_
                          refine lv_i2b hx hb d_Mo_feed_101 rfl ?_
                          refine va_bast (D := D9) hx hb hK hP hD hS 1 0 rfl rfl (by unfold vp_in; decide +kernel) d_Mo_feed_102 (fun H locs hP hD hS => ?_)
                          have hP : va_P D9 cls9 [(mo, .inr (7, [.int (0), .ref xta, .int 0, .ref xst, .int 0, .int 0, .int 0, .int 0, .ref xse, .ref xty, .ref xki, .ref xti, .ref xna, .ref xns, .ref xda, .ref xds, .int (-1), .int 0, .int 0, .int 0, .int 0, .int 0, .int 0, .ref xme, .int 0, .int 0, .ref xep, .ref xea, .int 0, .ref xcw])), (xta, .inl (cB, 65536, .inl _))] H := hP
                          have hD : va_D _ [(mo, .inr (7, [.int (0), .ref xta, .int 0, .ref xst, .int 0, .int 0, .int 0, .int 0, .ref xse, .ref xty, .ref xki, .ref xti, .ref xna, .ref xns, .ref xda, .ref xds, .int (-1), .int 0, .int 0, .int 0, .int 0, .int 0, .int 0, .ref xme, .int 0, .int 0, .ref xep, .ref xea, .int 0, .ref xcw])), (xta, .inl (cB, 65536, .inl _))] := hD
                          refine lv_iinc (lv' := [(6, _), (7, _), (0, _), (1, _), (2, _), (3, _), (4, _), (5, _)]) hx hb d_Mo_feed_103 hl (k := 1) rfl rfl (by decide) rfl (fun ls hl => ?_)
                          refine lv_goto (tgt := 23) hx hb d_Mo_feed_106 (by decide) ?_
                          refine lv_iload hx hb d_Mo_feed_23 (lv_at hl 0 rfl) ?_
                          refine lv_bipush (v := 20) hx hb d_Mo_feed_25 (by decide) ?_
                          refine lv_icmp_ge (tgt := 109) hx hb d_Mo_feed_27 (by decide) (fun c13 => ?_) (fun c13 => ?_)
                          · exact absurd c13 (by decide +kernel)
                          · refine lv_iload hx hb d_Mo_feed_30 (lv_at hl 0 rfl) ?_
                            refine lv_iconst (v := 4) hx hb d_Mo_feed_32 (by decide) ?_
                            refine lv_icmp_ge (tgt := 40) hx hb d_Mo_feed_33 (by decide) (fun c14 => ?_) (fun c14 => ?_)
                            · refine lv_iload hx hb d_Mo_feed_40 (lv_at hl 0 rfl) ?_
                              refine lv_bipush (v := 8) hx hb d_Mo_feed_42 (by decide) ?_
                              refine lv_icmp_ge (tgt := 51) hx hb d_Mo_feed_44 (by decide) (fun c15 => ?_) (fun c15 => ?_)
                              · exact absurd c15 (by decide +kernel)
                              · refine lv_iload_n hx hb d_Mo_feed_47 rfl (lv_at hl 4 rfl) ?_
                                refine lv_goto (tgt := 76) hx hb d_Mo_feed_48 (by decide) ?_
                                refine lv_istore (lv' := [(7, _), (6, _), (0, _), (1, _), (2, _), (3, _), (4, _), (5, _)]) hx hb d_Mo_feed_76 hl (by decide) rfl (fun ls hl => ?_)
                                refine lv_aload_n hx hb d_Mo_feed_78 rfl (lv_at hl 2 rfl) ?_
                                refine va_get (D := D9) (ci := 7) (C := R_Mo) (T := F_Mo) (N := 30) hx hb hts i_Mo hown hK hP 0 rfl rfl 1 (by decide) (hts _ g_723) (fun _ h9 => h9) rfl d_Mo_feed_79 ?_
                                refine lv_aload_n hx hb d_Mo_feed_82 rfl (lv_at hl 2 rfl) ?_
                                refine va_get (D := D9) (ci := 7) (C := R_Mo) (T := F_Mo) (N := 30) hx hb hts i_Mo hown hK hP 0 rfl rfl 2 (by decide) (hts _ g_724) (fun _ h9 => h9) rfl d_Mo_feed_83 ?_
                                refine lv_iload hx hb d_Mo_feed_86 (lv_at hl 1 rfl) ?_
                                refine lv_iadd hx hb d_Mo_feed_88 ?_
                                refine lv_iload hx hb d_Mo_feed_89 (lv_at hl 0 rfl) ?_
                                refine lv_bipush (v := 8) hx hb d_Mo_feed_91 (by decide) ?_
                                refine lv_iconst (v := 3) hx hb d_Mo_feed_93 (by decide) ?_
                                refine lv_iload hx hb d_Mo_feed_94 (lv_at hl 1 rfl) ?_
                                refine lv_iconst (v := 4) hx hb d_Mo_feed_96 (by decide) ?_
                                refine lv_irem hx hb d_Mo_feed_97 (by decide) ?_
                                refine lv_isub hx hb d_Mo_feed_98 ?_
                                refine lv_imul hx hb d_Mo_feed_99 ?_
                                refine lv_ishr hx hb d_Mo_feed_100 ?_
                                refine lv_i2b hx hb d_Mo_feed_101 rfl ?_
                                refine va_bast (D := D9) hx hb hK hP hD hS 1 0 rfl rfl (by unfold vp_in; decide +kernel) d_Mo_feed_102 (fun H locs hP hD hS => ?_)
                                have hP : va_P D9 cls9 [(mo, .inr (7, [.int (0), .ref xta, .int 0, .ref xst, .int 0, .int 0, .int 0, .int 0, .ref xse, .ref xty, .ref xki, .ref xti, .ref xna, .ref xns, .ref xda, .ref xds, .int (-1), .int 0, .int 0, .int 0, .int 0, .int 0, .int 0, .ref xme, .int 0, .int 0, .ref xep, .ref xea, .int 0, .ref xcw])), (xta, .inl (cB, 65536, .inl _))] H := hP
                                have hD : va_D _ [(mo, .inr (7, [.int (0), .ref xta, .int 0, .ref xst, .int 0, .int 0, .int 0, .int 0, .ref xse, .ref xty, .ref xki, .ref xti, .ref xna, .ref xns, .ref xda, .ref xds, .int (-1), .int 0, .int 0, .int 0, .int 0, .int 0, .int 0, .ref xme, .int 0, .int 0, .ref xep, .ref xea, .int 0, .ref xcw])), (xta, .inl (cB, 65536, .inl _))] := hD
                                refine lv_iinc (lv' := [(6, _), (7, _), (0, _), (1, _), (2, _), (3, _), (4, _), (5, _)]) hx hb d_Mo_feed_103 hl (k := 1) rfl rfl (by decide) rfl (fun ls hl => ?_)
                                refine lv_goto (tgt := 23) hx hb d_Mo_feed_106 (by decide) ?_
                                refine lv_iload hx hb d_Mo_feed_23 (lv_at hl 0 rfl) ?_
                                refine lv_bipush (v := 20) hx hb d_Mo_feed_25 (by decide) ?_
                                refine lv_icmp_ge (tgt := 109) hx hb d_Mo_feed_27 (by decide) (fun c16 => ?_) (fun c16 => ?_)
                                · exact absurd c16 (by decide +kernel)
                                · refine lv_iload hx hb d_Mo_feed_30 (lv_at hl 0 rfl) ?_
                                  refine lv_iconst (v := 4) hx hb d_Mo_feed_32 (by decide) ?_
                                  refine lv_icmp_ge (tgt := 40) hx hb d_Mo_feed_33 (by decide) (fun c17 => ?_) (fun c17 => ?_)
                                  · refine lv_iload hx hb d_Mo_feed_40 (lv_at hl 0 rfl) ?_
                                    refine lv_bipush (v := 8) hx hb d_Mo_feed_42 (by decide) ?_
                                    refine lv_icmp_ge (tgt := 51) hx hb d_Mo_feed_44 (by decide) (fun c18 => ?_) (fun c18 => ?_)
                                    · exact absurd c18 (by decide +kernel)
                                    · refine lv_iload_n hx hb d_Mo_feed_47 rfl (lv_at hl 4 rfl) ?_
                                      refine lv_goto (tgt := 76) hx hb d_Mo_feed_48 (by decide) ?_
                                      refine lv_istore (lv' := [(7, _), (6, _), (0, _), (1, _), (2, _), (3, _), (4, _), (5, _)]) hx hb d_Mo_feed_76 hl (by decide) rfl (fun ls hl => ?_)
                                      refine lv_aload_n hx hb d_Mo_feed_78 rfl (lv_at hl 2 rfl) ?_
                                      refine va_get (D := D9) (ci := 7) (C := R_Mo) (T := F_Mo) (N := 30) hx hb hts i_Mo hown hK hP 0 rfl rfl 1 (by decide) (hts _ g_723) (fun _ h9 => h9) rfl d_Mo_feed_79 ?_
                                      refine lv_aload_n hx hb d_Mo_feed_82 rfl (lv_at hl 2 rfl) ?_
                                      refine va_get (D := D9) (ci := 7) (C := R_Mo) (T := F_Mo) (N := 30) hx hb hts i_Mo hown hK hP 0 rfl rfl 2 (by decide) (hts _ g_724) (fun _ h9 => h9) rfl d_Mo_feed_83 ?_
                                      refine lv_iload hx hb d_Mo_feed_86 (lv_at hl 1 rfl) ?_
                                      refine lv_iadd hx hb d_Mo_feed_88 ?_
                                      refine lv_iload hx hb d_Mo_feed_89 (lv_at hl 0 rfl) ?_
                                      refine lv_bipush (v := 8) hx hb d_Mo_feed_91 (by decide) ?_
                                      refine lv_iconst (v := 3) hx hb d_Mo_feed_93 (by decide) ?_
                                      refine lv_iload hx hb d_Mo_feed_94 (lv_at hl 1 rfl) ?_
                                      refine lv_iconst (v := 4) hx hb d_Mo_feed_96 (by decide) ?_
                                      refine lv_irem hx hb d_Mo_feed_97 (by decide) ?_
                                      refine lv_isub hx hb d_Mo_feed_98 ?_
                                      refine lv_imul hx hb d_Mo_feed_99 ?_
                                      refine lv_ishr hx hb d_Mo_feed_100 ?_
                                      refine lv_i2b hx hb d_Mo_feed_101 rfl ?_
                                      refine va_bast (D := D9) hx hb hK hP hD hS 1 0 rfl rfl (by unfold vp_in; decide +kernel) d_Mo_feed_102 (fun H locs hP hD hS => ?_)
                                      have hP : va_P D9 cls9 [(mo, .inr (7, [.int (0), .ref xta, .int 0, .ref xst, .int 0, .int 0, .int 0, .int 0, .ref xse, .ref xty, .ref xki, .ref xti, .ref xna, .ref xns, .ref xda, .ref xds, .int (-1), .int 0, .int 0, .int 0, .int 0, .int 0, .int 0, .ref xme, .int 0, .int 0, .ref xep, .ref xea, .int 0, .ref xcw])), (xta, .inl (cB, 65536, .inl _))] H := hP
                                      have hD : va_D _ [(mo, .inr (7, [.int (0), .ref xta, .int 0, .ref xst, .int 0, .int 0, .int 0, .int 0, .ref xse, .ref xty, .ref xki, .ref xti, .ref xna, .ref xns, .ref xda, .ref xds, .int (-1), .int 0, .int 0, .int 0, .int 0, .int 0, .int 0, .ref xme, .int 0, .int 0, .ref xep, .ref xea, .int 0, .ref xcw])), (xta, .inl (cB, 65536, .inl _))] := hD
                                      refine lv_iinc (lv' := [(6, _), (7, _), (0, _), (1, _), (2, _), (3, _), (4, _), (5, _)]) hx hb d_Mo_feed_103 hl (k := 1) rfl rfl (by decide) rfl (fun ls hl => ?_)
                                      refine lv_goto (tgt := 23) hx hb d_Mo_feed_106 (by decide) ?_
                                      refine lv_iload hx hb d_Mo_feed_23 (lv_at hl 0 rfl) ?_
                                      refine lv_bipush (v := 20) hx hb d_Mo_feed_25 (by decide) ?_
                                      refine lv_icmp_ge (tgt := 109) hx hb d_Mo_feed_27 (by decide) (fun c19 => ?_) (fun c19 => ?_)
                                      · exact absurd c19 (by decide +kernel)
                                      · refine lv_iload hx hb d_Mo_feed_30 (lv_at hl 0 rfl) ?_
                                        refine lv_iconst (v := 4) hx hb d_Mo_feed_32 (by decide) ?_
                                        refine lv_icmp_ge (tgt := 40) hx hb d_Mo_feed_33 (by decide) (fun c20 => ?_) (fun c20 => ?_)
                                        · refine lv_iload hx hb d_Mo_feed_40 (lv_at hl 0 rfl) ?_
                                          refine lv_bipush (v := 8) hx hb d_Mo_feed_42 (by decide) ?_
                                          refine lv_icmp_ge (tgt := 51) hx hb d_Mo_feed_44 (by decide) (fun c21 => ?_) (fun c21 => ?_)
                                          · exact absurd c21 (by decide +kernel)
                                          · refine lv_iload_n hx hb d_Mo_feed_47 rfl (lv_at hl 4 rfl) ?_
                                            refine lv_goto (tgt := 76) hx hb d_Mo_feed_48 (by decide) ?_
                                            refine lv_istore (lv' := [(7, _), (6, _), (0, _), (1, _), (2, _), (3, _), (4, _), (5, _)]) hx hb d_Mo_feed_76 hl (by decide) rfl (fun ls hl => ?_)
                                            refine lv_aload_n hx hb d_Mo_feed_78 rfl (lv_at hl 2 rfl) ?_
                                            refine va_get (D := D9) (ci := 7) (C := R_Mo) (T := F_Mo) (N := 30) hx hb hts i_Mo hown hK hP 0 rfl rfl 1 (by decide) (hts _ g_723) (fun _ h9 => h9) rfl d_Mo_feed_79 ?_
                                            refine lv_aload_n hx hb d_Mo_feed_82 rfl (lv_at hl 2 rfl) ?_
                                            refine va_get (D := D9) (ci := 7) (C := R_Mo) (T := F_Mo) (N := 30) hx hb hts i_Mo hown hK hP 0 rfl rfl 2 (by decide) (hts _ g_724) (fun _ h9 => h9) rfl d_Mo_feed_83 ?_
                                            refine lv_iload hx hb d_Mo_feed_86 (lv_at hl 1 rfl) ?_
                                            refine lv_iadd hx hb d_Mo_feed_88 ?_
                                            refine lv_iload hx hb d_Mo_feed_89 (lv_at hl 0 rfl) ?_
                                            refine lv_bipush (v := 8) hx hb d_Mo_feed_91 (by decide) ?_
                                            refine lv_iconst (v := 3) hx hb d_Mo_feed_93 (by decide) ?_
                                            refine lv_iload hx hb d_Mo_feed_94 (lv_at hl 1 rfl) ?_
                                            refine lv_iconst (v := 4) hx hb d_Mo_feed_96 (by decide) ?_
                                            refine lv_irem hx hb d_Mo_feed_97 (by decide) ?_
                                            refine lv_isub hx hb d_Mo_feed_98 ?_
                                            refine lv_imul hx hb d_Mo_feed_99 ?_
                                            refine lv_ishr hx hb d_Mo_feed_100 ?_
                                            refine lv_i2b hx hb d_Mo_feed_101 rfl ?_
                                            refine va_bast (D := D9) hx hb hK hP hD hS 1 0 rfl rfl (by unfold vp_in; decide +kernel) d_Mo_feed_102 (fun H locs hP hD hS => ?_)
                                            have hP : va_P D9 cls9 [(mo, .inr (7, [.int (0), .ref xta, .int 0, .ref xst, .int 0, .int 0, .int 0, .int 0, .ref xse, .ref xty, .ref xki, .ref xti, .ref xna, .ref xns, .ref xda, .ref xds, .int (-1), .int 0, .int 0, .int 0, .int 0, .int 0, .int 0, .ref xme, .int 0, .int 0, .ref xep, .ref xea, .int 0, .ref xcw])), (xta, .inl (cB, 65536, .inl _))] H := hP
                                            have hD : va_D _ [(mo, .inr (7, [.int (0), .ref xta, .int 0, .ref xst, .int 0, .int 0, .int 0, .int 0, .ref xse, .ref xty, .ref xki, .ref xti, .ref xna, .ref xns, .ref xda, .ref xds, .int (-1), .int 0, .int 0, .int 0, .int 0, .int 0, .int 0, .ref xme, .int 0, .int 0, .ref xep, .ref xea, .int 0, .ref xcw])), (xta, .inl (cB, 65536, .inl _))] := hD
                                            refine lv_iinc (lv' := [(6, _), (7, _), (0, _), (1, _), (2, _), (3, _), (4, _), (5, _)]) hx hb d_Mo_feed_103 hl (k := 1) rfl rfl (by decide) rfl (fun ls hl => ?_)
                                            refine lv_goto (tgt := 23) hx hb d_Mo_feed_106 (by decide) ?_
                                            refine lv_iload hx hb d_Mo_feed_23 (lv_at hl 0 rfl) ?_
                                            refine lv_bipush (v := 20) hx hb d_Mo_feed_25 (by decide) ?_
                                            refine lv_icmp_ge (tgt := 109) hx hb d_Mo_feed_27 (by decide) (fun c22 => ?_) (fun c22 => ?_)
                                            · exact absurd c22 (by decide +kernel)
                                            · refine lv_iload hx hb d_Mo_feed_30 (lv_at hl 0 rfl) ?_
                                              refine lv_iconst (v := 4) hx hb d_Mo_feed_32 (by decide) ?_
                                              refine lv_icmp_ge (tgt := 40) hx hb d_Mo_feed_33 (by decide) (fun c23 => ?_) (fun c23 => ?_)
                                              · refine lv_iload hx hb d_Mo_feed_40 (lv_at hl 0 rfl) ?_
                                                refine lv_bipush (v := 8) hx hb d_Mo_feed_42 (by decide) ?_
                                                refine lv_icmp_ge (tgt := 51) hx hb d_Mo_feed_44 (by decide) (fun c24 => ?_) (fun c24 => ?_)
                                                · refine lv_iload hx hb d_Mo_feed_51 (lv_at hl 0 rfl) ?_
                                                  refine lv_bipush (v := 12) hx hb d_Mo_feed_53 (by decide) ?_
                                                  refine lv_icmp_ge (tgt := 62) hx hb d_Mo_feed_55 (by decide) (fun c25 => ?_) (fun c25 => ?_)
                                                  · exact absurd c25 (by decide +kernel)
                                                  · refine lv_iload_n hx hb d_Mo_feed_58 rfl (lv_at hl 5 rfl) ?_
                                                    refine lv_goto (tgt := 76) hx hb d_Mo_feed_59 (by decide) ?_
                                                    refine lv_istore (lv' := [(7, _), (6, _), (0, _), (1, _), (2, _), (3, _), (4, _), (5, _)]) hx hb d_Mo_feed_76 hl (by decide) rfl (fun ls hl => ?_)
                                                    refine lv_aload_n hx hb d_Mo_feed_78 rfl (lv_at hl 2 rfl) ?_
                                                    refine va_get (D := D9) (ci := 7) (C := R_Mo) (T := F_Mo) (N := 30) hx hb hts i_Mo hown hK hP 0 rfl rfl 1 (by decide) (hts _ g_723) (fun _ h9 => h9) rfl d_Mo_feed_79 ?_
                                                    refine lv_aload_n hx hb d_Mo_feed_82 rfl (lv_at hl 2 rfl) ?_
                                                    refine va_get (D := D9) (ci := 7) (C := R_Mo) (T := F_Mo) (N := 30) hx hb hts i_Mo hown hK hP 0 rfl rfl 2 (by decide) (hts _ g_724) (fun _ h9 => h9) rfl d_Mo_feed_83 ?_
                                                    refine lv_iload hx hb d_Mo_feed_86 (lv_at hl 1 rfl) ?_
                                                    refine lv_iadd hx hb d_Mo_feed_88 ?_
                                                    refine lv_iload hx hb d_Mo_feed_89 (lv_at hl 0 rfl) ?_
                                                    refine lv_bipush (v := 8) hx hb d_Mo_feed_91 (by decide) ?_
                                                    refine lv_iconst (v := 3) hx hb d_Mo_feed_93 (by decide) ?_
                                                    refine lv_iload hx hb d_Mo_feed_94 (lv_at hl 1 rfl) ?_
                                                    refine lv_iconst (v := 4) hx hb d_Mo_feed_96 (by decide) ?_
                                                    refine lv_irem hx hb d_Mo_feed_97 (by decide) ?_
                                                    refine lv_isub hx hb d_Mo_feed_98 ?_
                                                    refine lv_imul hx hb d_Mo_feed_99 ?_
                                                    refine lv_ishr hx hb d_Mo_feed_100 ?_
                                                    refine lv_i2b hx hb d_Mo_feed_101 rfl ?_
                                                    refine va_bast (D := D9) hx hb hK hP hD hS 1 0 rfl rfl (by unfold vp_in; decide +kernel) d_Mo_feed_102 (fun H locs hP hD hS => ?_)
                                                    have hP : va_P D9 cls9 [(mo, .inr (7, [.int (0), .ref xta, .int 0, .ref xst, .int 0, .int 0, .int 0, .int 0, .ref xse, .ref xty, .ref xki, .ref xti, .ref xna, .ref xns, .ref xda, .ref xds, .int (-1), .int 0, .int 0, .int 0, .int 0, .int 0, .int 0, .ref xme, .int 0, .int 0, .ref xep, .ref xea, .int 0, .ref xcw])), (xta, .inl (cB, 65536, .inl _))] H := hP
                                                    have hD : va_D _ [(mo, .inr (7, [.int (0), .ref xta, .int 0, .ref xst, .int 0, .int 0, .int 0, .int 0, .ref xse, .ref xty, .ref xki, .ref xti, .ref xna, .ref xns, .ref xda, .ref xds, .int (-1), .int 0, .int 0, .int 0, .int 0, .int 0, .int 0, .ref xme, .int 0, .int 0, .ref xep, .ref xea, .int 0, .ref xcw])), (xta, .inl (cB, 65536, .inl _))] := hD
                                                    refine lv_iinc (lv' := [(6, _), (7, _), (0, _), (1, _), (2, _), (3, _), (4, _), (5, _)]) hx hb d_Mo_feed_103 hl (k := 1) rfl rfl (by decide) rfl (fun ls hl => ?_)
                                                    refine lv_goto (tgt := 23) hx hb d_Mo_feed_106 (by decide) ?_
                                                    refine lv_iload hx hb d_Mo_feed_23 (lv_at hl 0 rfl) ?_
                                                    refine lv_bipush (v := 20) hx hb d_Mo_feed_25 (by decide) ?_
                                                    refine lv_icmp_ge (tgt := 109) hx hb d_Mo_feed_27 (by decide) (fun c26 => ?_) (fun c26 => ?_)
                                                    · exact absurd c26 (by decide +kernel)
                                                    · refine lv_iload hx hb d_Mo_feed_30 (lv_at hl 0 rfl) ?_
                                                      refine lv_iconst (v := 4) hx hb d_Mo_feed_32 (by decide) ?_
                                                      refine lv_icmp_ge (tgt := 40) hx hb d_Mo_feed_33 (by decide) (fun c27 => ?_) (fun c27 => ?_)
                                                      · refine lv_iload hx hb d_Mo_feed_40 (lv_at hl 0 rfl) ?_
                                                        refine lv_bipush (v := 8) hx hb d_Mo_feed_42 (by decide) ?_
                                                        refine lv_icmp_ge (tgt := 51) hx hb d_Mo_feed_44 (by decide) (fun c28 => ?_) (fun c28 => ?_)
                                                        · refine lv_iload hx hb d_Mo_feed_51 (lv_at hl 0 rfl) ?_
                                                          refine lv_bipush (v := 12) hx hb d_Mo_feed_53 (by decide) ?_
                                                          refine lv_icmp_ge (tgt := 62) hx hb d_Mo_feed_55 (by decide) (fun c29 => ?_) (fun c29 => ?_)
                                                          · exact absurd c29 (by decide +kernel)
                                                          · refine lv_iload_n hx hb d_Mo_feed_58 rfl (lv_at hl 5 rfl) ?_
                                                            refine lv_goto (tgt := 76) hx hb d_Mo_feed_59 (by decide) ?_
                                                            refine lv_istore (lv' := [(7, _), (6, _), (0, _), (1, _), (2, _), (3, _), (4, _), (5, _)]) hx hb d_Mo_feed_76 hl (by decide) rfl (fun ls hl => ?_)
                                                            refine lv_aload_n hx hb d_Mo_feed_78 rfl (lv_at hl 2 rfl) ?_
                                                            refine va_get (D := D9) (ci := 7) (C := R_Mo) (T := F_Mo) (N := 30) hx hb hts i_Mo hown hK hP 0 rfl rfl 1 (by decide) (hts _ g_723) (fun _ h9 => h9) rfl d_Mo_feed_79 ?_
                                                            refine lv_aload_n hx hb d_Mo_feed_82 rfl (lv_at hl 2 rfl) ?_
                                                            refine va_get (D := D9) (ci := 7) (C := R_Mo) (T := F_Mo) (N := 30) hx hb hts i_Mo hown hK hP 0 rfl rfl 2 (by decide) (hts _ g_724) (fun _ h9 => h9) rfl d_Mo_feed_83 ?_
                                                            refine lv_iload hx hb d_Mo_feed_86 (lv_at hl 1 rfl) ?_
                                                            refine lv_iadd hx hb d_Mo_feed_88 ?_
                                                            refine lv_iload hx hb d_Mo_feed_89 (lv_at hl 0 rfl) ?_
                                                            refine lv_bipush (v := 8) hx hb d_Mo_feed_91 (by decide) ?_
                                                            refine lv_iconst (v := 3) hx hb d_Mo_feed_93 (by decide) ?_
                                                            refine lv_iload hx hb d_Mo_feed_94 (lv_at hl 1 rfl) ?_
                                                            refine lv_iconst (v := 4) hx hb d_Mo_feed_96 (by decide) ?_
                                                            refine lv_irem hx hb d_Mo_feed_97 (by decide) ?_
                                                            refine lv_isub hx hb d_Mo_feed_98 ?_
                                                            refine lv_imul hx hb d_Mo_feed_99 ?_
                                                            refine lv_ishr hx hb d_Mo_feed_100 ?_
                                                            refine lv_i2b hx hb d_Mo_feed_101 rfl ?_
                                                            refine va_bast (D := D9) hx hb hK hP hD hS 1 0 rfl rfl (by unfold vp_in; decide +kernel) d_Mo_feed_102 (fun H locs hP hD hS => ?_)
                                                            have hP : va_P D9 cls9 [(mo, .inr (7, [.int (0), .ref xta, .int 0, .ref xst, .int 0, .int 0, .int 0, .int 0, .ref xse, .ref xty, .ref xki, .ref xti, .ref xna, .ref xns, .ref xda, .ref xds, .int (-1), .int 0, .int 0, .int 0, .int 0, .int 0, .int 0, .ref xme, .int 0, .int 0, .ref xep, .ref xea, .int 0, .ref xcw])), (xta, .inl (cB, 65536, .inl _))] H := hP
                                                            have hD : va_D _ [(mo, .inr (7, [.int (0), .ref xta, .int 0, .ref xst, .int 0, .int 0, .int 0, .int 0, .ref xse, .ref xty, .ref xki, .ref xti, .ref xna, .ref xns, .ref xda, .ref xds, .int (-1), .int 0, .int 0, .int 0, .int 0, .int 0, .int 0, .ref xme, .int 0, .int 0, .ref xep, .ref xea, .int 0, .ref xcw])), (xta, .inl (cB, 65536, .inl _))] := hD
                                                            refine lv_iinc (lv' := [(6, _), (7, _), (0, _), (1, _), (2, _), (3, _), (4, _), (5, _)]) hx hb d_Mo_feed_103 hl (k := 1) rfl rfl (by decide) rfl (fun ls hl => ?_)
                                                            refine lv_goto (tgt := 23) hx hb d_Mo_feed_106 (by decide) ?_
                                                            refine lv_iload hx hb d_Mo_feed_23 (lv_at hl 0 rfl) ?_
                                                            refine lv_bipush (v := 20) hx hb d_Mo_feed_25 (by decide) ?_
                                                            refine lv_icmp_ge (tgt := 109) hx hb d_Mo_feed_27 (by decide) (fun c30 => ?_) (fun c30 => ?_)
                                                            · exact absurd c30 (by decide +kernel)
                                                            · refine lv_iload hx hb d_Mo_feed_30 (lv_at hl 0 rfl) ?_
                                                              refine lv_iconst (v := 4) hx hb d_Mo_feed_32 (by decide) ?_
                                                              refine lv_icmp_ge (tgt := 40) hx hb d_Mo_feed_33 (by decide) (fun c31 => ?_) (fun c31 => ?_)
                                                              · refine lv_iload hx hb d_Mo_feed_40 (lv_at hl 0 rfl) ?_
                                                                refine lv_bipush (v := 8) hx hb d_Mo_feed_42 (by decide) ?_
                                                                refine lv_icmp_ge (tgt := 51) hx hb d_Mo_feed_44 (by decide) (fun c32 => ?_) (fun c32 => ?_)
                                                                · refine lv_iload hx hb d_Mo_feed_51 (lv_at hl 0 rfl) ?_
                                                                  refine lv_bipush (v := 12) hx hb d_Mo_feed_53 (by decide) ?_
                                                                  refine lv_icmp_ge (tgt := 62) hx hb d_Mo_feed_55 (by decide) (fun c33 => ?_) (fun c33 => ?_)
                                                                  · exact absurd c33 (by decide +kernel)
                                                                  · refine lv_iload_n hx hb d_Mo_feed_58 rfl (lv_at hl 5 rfl) ?_
                                                                    refine lv_goto (tgt := 76) hx hb d_Mo_feed_59 (by decide) ?_
                                                                    refine lv_istore (lv' := [(7, _), (6, _), (0, _), (1, _), (2, _), (3, _), (4, _), (5, _)]) hx hb d_Mo_feed_76 hl (by decide) rfl (fun ls hl => ?_)
                                                                    refine lv_aload_n hx hb d_Mo_feed_78 rfl (lv_at hl 2 rfl) ?_
                                                                    refine va_get (D := D9) (ci := 7) (C := R_Mo) (T := F_Mo) (N := 30) hx hb hts i_Mo hown hK hP 0 rfl rfl 1 (by decide) (hts _ g_723) (fun _ h9 => h9) rfl d_Mo_feed_79 ?_
                                                                    refine lv_aload_n hx hb d_Mo_feed_82 rfl (lv_at hl 2 rfl) ?_
                                                                    refine va_get (D := D9) (ci := 7) (C := R_Mo) (T := F_Mo) (N := 30) hx hb hts i_Mo hown hK hP 0 rfl rfl 2 (by decide) (hts _ g_724) (fun _ h9 => h9) rfl d_Mo_feed_83 ?_
                                                                    refine lv_iload hx hb d_Mo_feed_86 (lv_at hl 1 rfl) ?_
                                                                    refine lv_iadd hx hb d_Mo_feed_88 ?_
                                                                    refine lv_iload hx hb d_Mo_feed_89 (lv_at hl 0 rfl) ?_
                                                                    refine lv_bipush (v := 8) hx hb d_Mo_feed_91 (by decide) ?_
                                                                    refine lv_iconst (v := 3) hx hb d_Mo_feed_93 (by decide) ?_
                                                                    refine lv_iload hx hb d_Mo_feed_94 (lv_at hl 1 rfl) ?_
                                                                    refine lv_iconst (v := 4) hx hb d_Mo_feed_96 (by decide) ?_
                                                                    refine lv_irem hx hb d_Mo_feed_97 (by decide) ?_
                                                                    refine lv_isub hx hb d_Mo_feed_98 ?_
                                                                    refine lv_imul hx hb d_Mo_feed_99 ?_
                                                                    refine lv_ishr hx hb d_Mo_feed_100 ?_
                                                                    refine lv_i2b hx hb d_Mo_feed_101 rfl ?_
                                                                    refine va_bast (D := D9) hx hb hK hP hD hS 1 0 rfl rfl (by unfold vp_in; decide +kernel) d_Mo_feed_102 (fun H locs hP hD hS => ?_)
                                                                    have hP : va_P D9 cls9 [(mo, .inr (7, [.int (0), .ref xta, .int 0, .ref xst, .int 0, .int 0, .int 0, .int 0, .ref xse, .ref xty, .ref xki, .ref xti, .ref xna, .ref xns, .ref xda, .ref xds, .int (-1), .int 0, .int 0, .int 0, .int 0, .int 0, .int 0, .ref xme, .int 0, .int 0, .ref xep, .ref xea, .int 0, .ref xcw])), (xta, .inl (cB, 65536, .inl _))] H := hP
                                                                    have hD : va_D _ [(mo, .inr (7, [.int (0), .ref xta, .int 0, .ref xst, .int 0, .int 0, .int 0, .int 0, .ref xse, .ref xty, .ref xki, .ref xti, .ref xna, .ref xns, .ref xda, .ref xds, .int (-1), .int 0, .int 0, .int 0, .int 0, .int 0, .int 0, .ref xme, .int 0, .int 0, .ref xep, .ref xea, .int 0, .ref xcw])), (xta, .inl (cB, 65536, .inl _))] := hD
                                                                    refine lv_iinc (lv' := [(6, _), (7, _), (0, _), (1, _), (2, _), (3, _), (4, _), (5, _)]) hx hb d_Mo_feed_103 hl (k := 1) rfl rfl (by decide) rfl (fun ls hl => ?_)
                                                                    refine lv_goto (tgt := 23) hx hb d_Mo_feed_106 (by decide) ?_
                                                                    refine lv_iload hx hb d_Mo_feed_23 (lv_at hl 0 rfl) ?_
                                                                    refine lv_bipush (v := 20) hx hb d_Mo_feed_25 (by decide) ?_
                                                                    refine lv_icmp_ge (tgt := 109) hx hb d_Mo_feed_27 (by decide) (fun c34 => ?_) (fun c34 => ?_)
                                                                    · exact absurd c34 (by decide +kernel)
                                                                    · refine lv_iload hx hb d_Mo_feed_30 (lv_at hl 0 rfl) ?_
                                                                      refine lv_iconst (v := 4) hx hb d_Mo_feed_32 (by decide) ?_
                                                                      refine lv_icmp_ge (tgt := 40) hx hb d_Mo_feed_33 (by decide) (fun c35 => ?_) (fun c35 => ?_)
                                                                      · refine lv_iload hx hb d_Mo_feed_40 (lv_at hl 0 rfl) ?_
                                                                        refine lv_bipush (v := 8) hx hb d_Mo_feed_42 (by decide) ?_
                                                                        refine lv_icmp_ge (tgt := 51) hx hb d_Mo_feed_44 (by decide) (fun c36 => ?_) (fun c36 => ?_)
                                                                        · refine lv_iload hx hb d_Mo_feed_51 (lv_at hl 0 rfl) ?_
                                                                          refine lv_bipush (v := 12) hx hb d_Mo_feed_53 (by decide) ?_
                                                                          refine lv_icmp_ge (tgt := 62) hx hb d_Mo_feed_55 (by decide) (fun c37 => ?_) (fun c37 => ?_)
                                                                          · exact absurd c37 (by decide +kernel)
                                                                          · refine lv_iload_n hx hb d_Mo_feed_58 rfl (lv_at hl 5 rfl) ?_
                                                                            refine lv_goto (tgt := 76) hx hb d_Mo_feed_59 (by decide) ?_
                                                                            refine lv_istore (lv' := [(7, _), (6, _), (0, _), (1, _), (2, _), (3, _), (4, _), (5, _)]) hx hb d_Mo_feed_76 hl (by decide) rfl (fun ls hl => ?_)
                                                                            refine lv_aload_n hx hb d_Mo_feed_78 rfl (lv_at hl 2 rfl) ?_
                                                                            refine va_get (D := D9) (ci := 7) (C := R_Mo) (T := F_Mo) (N := 30) hx hb hts i_Mo hown hK hP 0 rfl rfl 1 (by decide) (hts _ g_723) (fun _ h9 => h9) rfl d_Mo_feed_79 ?_
                                                                            refine lv_aload_n hx hb d_Mo_feed_82 rfl (lv_at hl 2 rfl) ?_
                                                                            refine va_get (D := D9) (ci := 7) (C := R_Mo) (T := F_Mo) (N := 30) hx hb hts i_Mo hown hK hP 0 rfl rfl 2 (by decide) (hts _ g_724) (fun _ h9 => h9) rfl d_Mo_feed_83 ?_
                                                                            refine lv_iload hx hb d_Mo_feed_86 (lv_at hl 1 rfl) ?_
                                                                            refine lv_iadd hx hb d_Mo_feed_88 ?_
                                                                            refine lv_iload hx hb d_Mo_feed_89 (lv_at hl 0 rfl) ?_
                                                                            refine lv_bipush (v := 8) hx hb d_Mo_feed_91 (by decide) ?_
                                                                            refine lv_iconst (v := 3) hx hb d_Mo_feed_93 (by decide) ?_
                                                                            refine lv_iload hx hb d_Mo_feed_94 (lv_at hl 1 rfl) ?_
                                                                            refine lv_iconst (v := 4) hx hb d_Mo_feed_96 (by decide) ?_
                                                                            refine lv_irem hx hb d_Mo_feed_97 (by decide) ?_
                                                                            refine lv_isub hx hb d_Mo_feed_98 ?_
                                                                            refine lv_imul hx hb d_Mo_feed_99 ?_
                                                                            refine lv_ishr hx hb d_Mo_feed_100 ?_
                                                                            refine lv_i2b hx hb d_Mo_feed_101 rfl ?_
                                                                            refine va_bast (D := D9) hx hb hK hP hD hS 1 0 rfl rfl (by unfold vp_in; decide +kernel) d_Mo_feed_102 (fun H locs hP hD hS => ?_)
                                                                            have hP : va_P D9 cls9 [(mo, .inr (7, [.int (0), .ref xta, .int 0, .ref xst, .int 0, .int 0, .int 0, .int 0, .ref xse, .ref xty, .ref xki, .ref xti, .ref xna, .ref xns, .ref xda, .ref xds, .int (-1), .int 0, .int 0, .int 0, .int 0, .int 0, .int 0, .ref xme, .int 0, .int 0, .ref xep, .ref xea, .int 0, .ref xcw])), (xta, .inl (cB, 65536, .inl _))] H := hP
                                                                            have hD : va_D _ [(mo, .inr (7, [.int (0), .ref xta, .int 0, .ref xst, .int 0, .int 0, .int 0, .int 0, .ref xse, .ref xty, .ref xki, .ref xti, .ref xna, .ref xns, .ref xda, .ref xds, .int (-1), .int 0, .int 0, .int 0, .int 0, .int 0, .int 0, .ref xme, .int 0, .int 0, .ref xep, .ref xea, .int 0, .ref xcw])), (xta, .inl (cB, 65536, .inl _))] := hD
                                                                            refine lv_iinc (lv' := [(6, _), (7, _), (0, _), (1, _), (2, _), (3, _), (4, _), (5, _)]) hx hb d_Mo_feed_103 hl (k := 1) rfl rfl (by decide) rfl (fun ls hl => ?_)
                                                                            refine lv_goto (tgt := 23) hx hb d_Mo_feed_106 (by decide) ?_
                                                                            refine lv_iload hx hb d_Mo_feed_23 (lv_at hl 0 rfl) ?_
                                                                            refine lv_bipush (v := 20) hx hb d_Mo_feed_25 (by decide) ?_
                                                                            refine lv_icmp_ge (tgt := 109) hx hb d_Mo_feed_27 (by decide) (fun c38 => ?_) (fun c38 => ?_)
                                                                            · exact absurd c38 (by decide +kernel)
                                                                            · refine lv_iload hx hb d_Mo_feed_30 (lv_at hl 0 rfl) ?_
                                                                              refine lv_iconst (v := 4) hx hb d_Mo_feed_32 (by decide) ?_
                                                                              refine lv_icmp_ge (tgt := 40) hx hb d_Mo_feed_33 (by decide) (fun c39 => ?_) (fun c39 => ?_)
                                                                              · refine lv_iload hx hb d_Mo_feed_40 (lv_at hl 0 rfl) ?_
                                                                                refine lv_bipush (v := 8) hx hb d_Mo_feed_42 (by decide) ?_
                                                                                refine lv_icmp_ge (tgt := 51) hx hb d_Mo_feed_44 (by decide) (fun c40 => ?_) (fun c40 => ?_)
                                                                                · refine lv_iload hx hb d_Mo_feed_51 (lv_at hl 0 rfl) ?_
                                                                                  refine lv_bipush (v := 12) hx hb d_Mo_feed_53 (by decide) ?_
                                                                                  refine lv_icmp_ge (tgt := 62) hx hb d_Mo_feed_55 (by decide) (fun c41 => ?_) (fun c41 => ?_)
                                                                                  · refine lv_iload hx hb d_Mo_feed_62 (lv_at hl 0 rfl) ?_
                                                                                    refine lv_bipush (v := 16) hx hb d_Mo_feed_64 (by decide) ?_
                                                                                    refine lv_icmp_ge (tgt := 74) hx hb d_Mo_feed_66 (by decide) (fun c42 => ?_) (fun c42 => ?_)
                                                                                    · exact absurd c42 (by decide +kernel)
                                                                                    · refine lv_iload hx hb d_Mo_feed_69 (lv_at hl 6 rfl) ?_
                                                                                      refine lv_goto (tgt := 76) hx hb d_Mo_feed_71 (by decide) ?_
                                                                                      refine lv_istore (lv' := [(7, _), (6, _), (0, _), (1, _), (2, _), (3, _), (4, _), (5, _)]) hx hb d_Mo_feed_76 hl (by decide) rfl (fun ls hl => ?_)
                                                                                      refine lv_aload_n hx hb d_Mo_feed_78 rfl (lv_at hl 2 rfl) ?_
                                                                                      refine va_get (D := D9) (ci := 7) (C := R_Mo) (T := F_Mo) (N := 30) hx hb hts i_Mo hown hK hP 0 rfl rfl 1 (by decide) (hts _ g_723) (fun _ h9 => h9) rfl d_Mo_feed_79 ?_
                                                                                      refine lv_aload_n hx hb d_Mo_feed_82 rfl (lv_at hl 2 rfl) ?_
                                                                                      refine va_get (D := D9) (ci := 7) (C := R_Mo) (T := F_Mo) (N := 30) hx hb hts i_Mo hown hK hP 0 rfl rfl 2 (by decide) (hts _ g_724) (fun _ h9 => h9) rfl d_Mo_feed_83 ?_
                                                                                      refine lv_iload hx hb d_Mo_feed_86 (lv_at hl 1 rfl) ?_
                                                                                      refine lv_iadd hx hb d_Mo_feed_88 ?_
                                                                                      refine lv_iload hx hb d_Mo_feed_89 (lv_at hl 0 rfl) ?_
                                                                                      refine lv_bipush (v := 8) hx hb d_Mo_feed_91 (by decide) ?_
                                                                                      refine lv_iconst (v := 3) hx hb d_Mo_feed_93 (by decide) ?_
                                                                                      refine lv_iload hx hb d_Mo_feed_94 (lv_at hl 1 rfl) ?_
                                                                                      refine lv_iconst (v := 4) hx hb d_Mo_feed_96 (by decide) ?_
                                                                                      refine lv_irem hx hb d_Mo_feed_97 (by decide) ?_
                                                                                      refine lv_isub hx hb d_Mo_feed_98 ?_
                                                                                      refine lv_imul hx hb d_Mo_feed_99 ?_
                                                                                      refine lv_ishr hx hb d_Mo_feed_100 ?_
                                                                                      refine lv_i2b hx hb d_Mo_feed_101 rfl ?_
                                                                                      refine va_bast (D := D9) hx hb hK hP hD hS 1 0 rfl rfl (by unfold vp_in; decide +kernel) d_Mo_feed_102 (fun H locs hP hD hS => ?_)
                                                                                      have hP : va_P D9 cls9 [(mo, .inr (7, [.int (0), .ref xta, .int 0, .ref xst, .int 0, .int 0, .int 0, .int 0, .ref xse, .ref xty, .ref xki, .ref xti, .ref xna, .ref xns, .ref xda, .ref xds, .int (-1), .int 0, .int 0, .int 0, .int 0, .int 0, .int 0, .ref xme, .int 0, .int 0, .ref xep, .ref xea, .int 0, .ref xcw])), (xta, .inl (cB, 65536, .inl _))] H := hP
                                                                                      have hD : va_D _ [(mo, .inr (7, [.int (0), .ref xta, .int 0, .ref xst, .int 0, .int 0, .int 0, .int 0, .ref xse, .ref xty, .ref xki, .ref xti, .ref xna, .ref xns, .ref xda, .ref xds, .int (-1), .int 0, .int 0, .int 0, .int 0, .int 0, .int 0, .ref xme, .int 0, .int 0, .ref xep, .ref xea, .int 0, .ref xcw])), (xta, .inl (cB, 65536, .inl _))] := hD
                                                                                      refine lv_iinc (lv' := [(6, _), (7, _), (0, _), (1, _), (2, _), (3, _), (4, _), (5, _)]) hx hb d_Mo_feed_103 hl (k := 1) rfl rfl (by decide) rfl (fun ls hl => ?_)
                                                                                      refine lv_goto (tgt := 23) hx hb d_Mo_feed_106 (by decide) ?_
                                                                                      refine lv_iload hx hb d_Mo_feed_23 (lv_at hl 0 rfl) ?_
                                                                                      refine lv_bipush (v := 20) hx hb d_Mo_feed_25 (by decide) ?_
                                                                                      refine lv_icmp_ge (tgt := 109) hx hb d_Mo_feed_27 (by decide) (fun c43 => ?_) (fun c43 => ?_)
                                                                                      · exact absurd c43 (by decide +kernel)
                                                                                      · refine lv_iload hx hb d_Mo_feed_30 (lv_at hl 0 rfl) ?_
                                                                                        refine lv_iconst (v := 4) hx hb d_Mo_feed_32 (by decide) ?_
                                                                                        refine lv_icmp_ge (tgt := 40) hx hb d_Mo_feed_33 (by decide) (fun c44 => ?_) (fun c44 => ?_)
                                                                                        · refine lv_iload hx hb d_Mo_feed_40 (lv_at hl 0 rfl) ?_
                                                                                          refine lv_bipush (v := 8) hx hb d_Mo_feed_42 (by decide) ?_
                                                                                          refine lv_icmp_ge (tgt := 51) hx hb d_Mo_feed_44 (by decide) (fun c45 => ?_) (fun c45 => ?_)
                                                                                          · refine lv_iload hx hb d_Mo_feed_51 (lv_at hl 0 rfl) ?_
                                                                                            refine lv_bipush (v := 12) hx hb d_Mo_feed_53 (by decide) ?_
                                                                                            refine lv_icmp_ge (tgt := 62) hx hb d_Mo_feed_55 (by decide) (fun c46 => ?_) (fun c46 => ?_)
                                                                                            · refine lv_iload hx hb d_Mo_feed_62 (lv_at hl 0 rfl) ?_
                                                                                              refine lv_bipush (v := 16) hx hb d_Mo_feed_64 (by decide) ?_
                                                                                              refine lv_icmp_ge (tgt := 74) hx hb d_Mo_feed_66 (by decide) (fun c47 => ?_) (fun c47 => ?_)
                                                                                              · exact absurd c47 (by decide +kernel)
                                                                                              · refine lv_iload hx hb d_Mo_feed_69 (lv_at hl 6 rfl) ?_
                                                                                                refine lv_goto (tgt := 76) hx hb d_Mo_feed_71 (by decide) ?_
                                                                                                refine lv_istore (lv' := [(7, _), (6, _), (0, _), (1, _), (2, _), (3, _), (4, _), (5, _)]) hx hb d_Mo_feed_76 hl (by decide) rfl (fun ls hl => ?_)
                                                                                                refine lv_aload_n hx hb d_Mo_feed_78 rfl (lv_at hl 2 rfl) ?_
                                                                                                refine va_get (D := D9) (ci := 7) (C := R_Mo) (T := F_Mo) (N := 30) hx hb hts i_Mo hown hK hP 0 rfl rfl 1 (by decide) (hts _ g_723) (fun _ h9 => h9) rfl d_Mo_feed_79 ?_
                                                                                                refine lv_aload_n hx hb d_Mo_feed_82 rfl (lv_at hl 2 rfl) ?_
                                                                                                refine va_get (D := D9) (ci := 7) (C := R_Mo) (T := F_Mo) (N := 30) hx hb hts i_Mo hown hK hP 0 rfl rfl 2 (by decide) (hts _ g_724) (fun _ h9 => h9) rfl d_Mo_feed_83 ?_
                                                                                                refine lv_iload hx hb d_Mo_feed_86 (lv_at hl 1 rfl) ?_
                                                                                                refine lv_iadd hx hb d_Mo_feed_88 ?_
                                                                                                refine lv_iload hx hb d_Mo_feed_89 (lv_at hl 0 rfl) ?_
                                                                                                refine lv_bipush (v := 8) hx hb d_Mo_feed_91 (by decide) ?_
                                                                                                refine lv_iconst (v := 3) hx hb d_Mo_feed_93 (by decide) ?_
                                                                                                refine lv_iload hx hb d_Mo_feed_94 (lv_at hl 1 rfl) ?_
                                                                                                refine lv_iconst (v := 4) hx hb d_Mo_feed_96 (by decide) ?_
                                                                                                refine lv_irem hx hb d_Mo_feed_97 (by decide) ?_
                                                                                                refine lv_isub hx hb d_Mo_feed_98 ?_
                                                                                                refine lv_imul hx hb d_Mo_feed_99 ?_
                                                                                                refine lv_ishr hx hb d_Mo_feed_100 ?_
                                                                                                refine lv_i2b hx hb d_Mo_feed_101 rfl ?_
                                                                                                refine va_bast (D := D9) hx hb hK hP hD hS 1 0 rfl rfl (by unfold vp_in; decide +kernel) d_Mo_feed_102 (fun H locs hP hD hS => ?_)
                                                                                                have hP : va_P D9 cls9 [(mo, .inr (7, [.int (0), .ref xta, .int 0, .ref xst, .int 0, .int 0, .int 0, .int 0, .ref xse, .ref xty, .ref xki, .ref xti, .ref xna, .ref xns, .ref xda, .ref xds, .int (-1), .int 0, .int 0, .int 0, .int 0, .int 0, .int 0, .ref xme, .int 0, .int 0, .ref xep, .ref xea, .int 0, .ref xcw])), (xta, .inl (cB, 65536, .inl _))] H := hP
                                                                                                have hD : va_D _ [(mo, .inr (7, [.int (0), .ref xta, .int 0, .ref xst, .int 0, .int 0, .int 0, .int 0, .ref xse, .ref xty, .ref xki, .ref xti, .ref xna, .ref xns, .ref xda, .ref xds, .int (-1), .int 0, .int 0, .int 0, .int 0, .int 0, .int 0, .ref xme, .int 0, .int 0, .ref xep, .ref xea, .int 0, .ref xcw])), (xta, .inl (cB, 65536, .inl _))] := hD
                                                                                                refine lv_iinc (lv' := [(6, _), (7, _), (0, _), (1, _), (2, _), (3, _), (4, _), (5, _)]) hx hb d_Mo_feed_103 hl (k := 1) rfl rfl (by decide) rfl (fun ls hl => ?_)
                                                                                                refine lv_goto (tgt := 23) hx hb d_Mo_feed_106 (by decide) ?_
                                                                                                refine lv_iload hx hb d_Mo_feed_23 (lv_at hl 0 rfl) ?_
                                                                                                refine lv_bipush (v := 20) hx hb d_Mo_feed_25 (by decide) ?_
                                                                                                refine lv_icmp_ge (tgt := 109) hx hb d_Mo_feed_27 (by decide) (fun c48 => ?_) (fun c48 => ?_)
                                                                                                · exact absurd c48 (by decide +kernel)
                                                                                                · refine lv_iload hx hb d_Mo_feed_30 (lv_at hl 0 rfl) ?_
                                                                                                  refine lv_iconst (v := 4) hx hb d_Mo_feed_32 (by decide) ?_
                                                                                                  refine lv_icmp_ge (tgt := 40) hx hb d_Mo_feed_33 (by decide) (fun c49 => ?_) (fun c49 => ?_)
                                                                                                  · refine lv_iload hx hb d_Mo_feed_40 (lv_at hl 0 rfl) ?_
                                                                                                    refine lv_bipush (v := 8) hx hb d_Mo_feed_42 (by decide) ?_
                                                                                                    refine lv_icmp_ge (tgt := 51) hx hb d_Mo_feed_44 (by decide) (fun c50 => ?_) (fun c50 => ?_)
                                                                                                    · refine lv_iload hx hb d_Mo_feed_51 (lv_at hl 0 rfl) ?_
                                                                                                      refine lv_bipush (v := 12) hx hb d_Mo_feed_53 (by decide) ?_
                                                                                                      refine lv_icmp_ge (tgt := 62) hx hb d_Mo_feed_55 (by decide) (fun c51 => ?_) (fun c51 => ?_)
                                                                                                      · refine lv_iload hx hb d_Mo_feed_62 (lv_at hl 0 rfl) ?_
                                                                                                        refine lv_bipush (v := 16) hx hb d_Mo_feed_64 (by decide) ?_
                                                                                                        refine lv_icmp_ge (tgt := 74) hx hb d_Mo_feed_66 (by decide) (fun c52 => ?_) (fun c52 => ?_)
                                                                                                        · exact absurd c52 (by decide +kernel)
                                                                                                        · refine lv_iload hx hb d_Mo_feed_69 (lv_at hl 6 rfl) ?_
                                                                                                          refine lv_goto (tgt := 76) hx hb d_Mo_feed_71 (by decide) ?_
                                                                                                          refine lv_istore (lv' := [(7, _), (6, _), (0, _), (1, _), (2, _), (3, _), (4, _), (5, _)]) hx hb d_Mo_feed_76 hl (by decide) rfl (fun ls hl => ?_)
                                                                                                          refine lv_aload_n hx hb d_Mo_feed_78 rfl (lv_at hl 2 rfl) ?_
                                                                                                          refine va_get (D := D9) (ci := 7) (C := R_Mo) (T := F_Mo) (N := 30) hx hb hts i_Mo hown hK hP 0 rfl rfl 1 (by decide) (hts _ g_723) (fun _ h9 => h9) rfl d_Mo_feed_79 ?_
                                                                                                          refine lv_aload_n hx hb d_Mo_feed_82 rfl (lv_at hl 2 rfl) ?_
                                                                                                          refine va_get (D := D9) (ci := 7) (C := R_Mo) (T := F_Mo) (N := 30) hx hb hts i_Mo hown hK hP 0 rfl rfl 2 (by decide) (hts _ g_724) (fun _ h9 => h9) rfl d_Mo_feed_83 ?_
                                                                                                          refine lv_iload hx hb d_Mo_feed_86 (lv_at hl 1 rfl) ?_
                                                                                                          refine lv_iadd hx hb d_Mo_feed_88 ?_
                                                                                                          refine lv_iload hx hb d_Mo_feed_89 (lv_at hl 0 rfl) ?_
                                                                                                          refine lv_bipush (v := 8) hx hb d_Mo_feed_91 (by decide) ?_
                                                                                                          refine lv_iconst (v := 3) hx hb d_Mo_feed_93 (by decide) ?_
                                                                                                          refine lv_iload hx hb d_Mo_feed_94 (lv_at hl 1 rfl) ?_
                                                                                                          refine lv_iconst (v := 4) hx hb d_Mo_feed_96 (by decide) ?_
                                                                                                          refine lv_irem hx hb d_Mo_feed_97 (by decide) ?_
                                                                                                          refine lv_isub hx hb d_Mo_feed_98 ?_
                                                                                                          refine lv_imul hx hb d_Mo_feed_99 ?_
                                                                                                          refine lv_ishr hx hb d_Mo_feed_100 ?_
                                                                                                          refine lv_i2b hx hb d_Mo_feed_101 rfl ?_
                                                                                                          refine va_bast (D := D9) hx hb hK hP hD hS 1 0 rfl rfl (by unfold vp_in; decide +kernel) d_Mo_feed_102 (fun H locs hP hD hS => ?_)
                                                                                                          have hP : va_P D9 cls9 [(mo, .inr (7, [.int (0), .ref xta, .int 0, .ref xst, .int 0, .int 0, .int 0, .int 0, .ref xse, .ref xty, .ref xki, .ref xti, .ref xna, .ref xns, .ref xda, .ref xds, .int (-1), .int 0, .int 0, .int 0, .int 0, .int 0, .int 0, .ref xme, .int 0, .int 0, .ref xep, .ref xea, .int 0, .ref xcw])), (xta, .inl (cB, 65536, .inl _))] H := hP
                                                                                                          have hD : va_D _ [(mo, .inr (7, [.int (0), .ref xta, .int 0, .ref xst, .int 0, .int 0, .int 0, .int 0, .ref xse, .ref xty, .ref xki, .ref xti, .ref xna, .ref xns, .ref xda, .ref xds, .int (-1), .int 0, .int 0, .int 0, .int 0, .int 0, .int 0, .ref xme, .int 0, .int 0, .ref xep, .ref xea, .int 0, .ref xcw])), (xta, .inl (cB, 65536, .inl _))] := hD
                                                                                                          refine lv_iinc (lv' := [(6, _), (7, _), (0, _), (1, _), (2, _), (3, _), (4, _), (5, _)]) hx hb d_Mo_feed_103 hl (k := 1) rfl rfl (by decide) rfl (fun ls hl => ?_)
                                                                                                          refine lv_goto (tgt := 23) hx hb d_Mo_feed_106 (by decide) ?_
                                                                                                          refine lv_iload hx hb d_Mo_feed_23 (lv_at hl 0 rfl) ?_
                                                                                                          refine lv_bipush (v := 20) hx hb d_Mo_feed_25 (by decide) ?_
                                                                                                          refine lv_icmp_ge (tgt := 109) hx hb d_Mo_feed_27 (by decide) (fun c53 => ?_) (fun c53 => ?_)
                                                                                                          · exact absurd c53 (by decide +kernel)
                                                                                                          · refine lv_iload hx hb d_Mo_feed_30 (lv_at hl 0 rfl) ?_
                                                                                                            refine lv_iconst (v := 4) hx hb d_Mo_feed_32 (by decide) ?_
                                                                                                            refine lv_icmp_ge (tgt := 40) hx hb d_Mo_feed_33 (by decide) (fun c54 => ?_) (fun c54 => ?_)
                                                                                                            · refine lv_iload hx hb d_Mo_feed_40 (lv_at hl 0 rfl) ?_
                                                                                                              refine lv_bipush (v := 8) hx hb d_Mo_feed_42 (by decide) ?_
                                                                                                              refine lv_icmp_ge (tgt := 51) hx hb d_Mo_feed_44 (by decide) (fun c55 => ?_) (fun c55 => ?_)
                                                                                                              · refine lv_iload hx hb d_Mo_feed_51 (lv_at hl 0 rfl) ?_
                                                                                                                refine lv_bipush (v := 12) hx hb d_Mo_feed_53 (by decide) ?_
                                                                                                                refine lv_icmp_ge (tgt := 62) hx hb d_Mo_feed_55 (by decide) (fun c56 => ?_) (fun c56 => ?_)
                                                                                                                · refine lv_iload hx hb d_Mo_feed_62 (lv_at hl 0 rfl) ?_
                                                                                                                  refine lv_bipush (v := 16) hx hb d_Mo_feed_64 (by decide) ?_
                                                                                                                  refine lv_icmp_ge (tgt := 74) hx hb d_Mo_feed_66 (by decide) (fun c57 => ?_) (fun c57 => ?_)
                                                                                                                  · exact absurd c57 (by decide +kernel)
                                                                                                                  · refine lv_iload hx hb d_Mo_feed_69 (lv_at hl 6 rfl) ?_
                                                                                                                    refine lv_goto (tgt := 76) hx hb d_Mo_feed_71 (by decide) ?_
                                                                                                                    refine lv_istore (lv' := [(7, _), (6, _), (0, _), (1, _), (2, _), (3, _), (4, _), (5, _)]) hx hb d_Mo_feed_76 hl (by decide) rfl (fun ls hl => ?_)
                                                                                                                    refine lv_aload_n hx hb d_Mo_feed_78 rfl (lv_at hl 2 rfl) ?_
                                                                                                                    refine va_get (D := D9) (ci := 7) (C := R_Mo) (T := F_Mo) (N := 30) hx hb hts i_Mo hown hK hP 0 rfl rfl 1 (by decide) (hts _ g_723) (fun _ h9 => h9) rfl d_Mo_feed_79 ?_
                                                                                                                    refine lv_aload_n hx hb d_Mo_feed_82 rfl (lv_at hl 2 rfl) ?_
                                                                                                                    refine va_get (D := D9) (ci := 7) (C := R_Mo) (T := F_Mo) (N := 30) hx hb hts i_Mo hown hK hP 0 rfl rfl 2 (by decide) (hts _ g_724) (fun _ h9 => h9) rfl d_Mo_feed_83 ?_
                                                                                                                    refine lv_iload hx hb d_Mo_feed_86 (lv_at hl 1 rfl) ?_
                                                                                                                    refine lv_iadd hx hb d_Mo_feed_88 ?_
                                                                                                                    refine lv_iload hx hb d_Mo_feed_89 (lv_at hl 0 rfl) ?_
                                                                                                                    refine lv_bipush (v := 8) hx hb d_Mo_feed_91 (by decide) ?_
                                                                                                                    refine lv_iconst (v := 3) hx hb d_Mo_feed_93 (by decide) ?_
                                                                                                                    refine lv_iload hx hb d_Mo_feed_94 (lv_at hl 1 rfl) ?_
                                                                                                                    refine lv_iconst (v := 4) hx hb d_Mo_feed_96 (by decide) ?_
                                                                                                                    refine lv_irem hx hb d_Mo_feed_97 (by decide) ?_
                                                                                                                    refine lv_isub hx hb d_Mo_feed_98 ?_
                                                                                                                    refine lv_imul hx hb d_Mo_feed_99 ?_
                                                                                                                    refine lv_ishr hx hb d_Mo_feed_100 ?_
                                                                                                                    refine lv_i2b hx hb d_Mo_feed_101 rfl ?_
                                                                                                                    refine va_bast (D := D9) hx hb hK hP hD hS 1 0 rfl rfl (by unfold vp_in; decide +kernel) d_Mo_feed_102 (fun H locs hP hD hS => ?_)
                                                                                                                    have hP : va_P D9 cls9 [(mo, .inr (7, [.int (0), .ref xta, .int 0, .ref xst, .int 0, .int 0, .int 0, .int 0, .ref xse, .ref xty, .ref xki, .ref xti, .ref xna, .ref xns, .ref xda, .ref xds, .int (-1), .int 0, .int 0, .int 0, .int 0, .int 0, .int 0, .ref xme, .int 0, .int 0, .ref xep, .ref xea, .int 0, .ref xcw])), (xta, .inl (cB, 65536, .inl _))] H := hP
                                                                                                                    have hD : va_D _ [(mo, .inr (7, [.int (0), .ref xta, .int 0, .ref xst, .int 0, .int 0, .int 0, .int 0, .ref xse, .ref xty, .ref xki, .ref xti, .ref xna, .ref xns, .ref xda, .ref xds, .int (-1), .int 0, .int 0, .int 0, .int 0, .int 0, .int 0, .ref xme, .int 0, .int 0, .ref xep, .ref xea, .int 0, .ref xcw])), (xta, .inl (cB, 65536, .inl _))] := hD
                                                                                                                    refine lv_iinc (lv' := [(6, _), (7, _), (0, _), (1, _), (2, _), (3, _), (4, _), (5, _)]) hx hb d_Mo_feed_103 hl (k := 1) rfl rfl (by decide) rfl (fun ls hl => ?_)
                                                                                                                    refine lv_goto (tgt := 23) hx hb d_Mo_feed_106 (by decide) ?_
                                                                                                                    refine lv_iload hx hb d_Mo_feed_23 (lv_at hl 0 rfl) ?_
                                                                                                                    refine lv_bipush (v := 20) hx hb d_Mo_feed_25 (by decide) ?_
                                                                                                                    refine lv_icmp_ge (tgt := 109) hx hb d_Mo_feed_27 (by decide) (fun c58 => ?_) (fun c58 => ?_)
                                                                                                                    · exact absurd c58 (by decide +kernel)
                                                                                                                    · refine lv_iload hx hb d_Mo_feed_30 (lv_at hl 0 rfl) ?_
                                                                                                                      refine lv_iconst (v := 4) hx hb d_Mo_feed_32 (by decide) ?_
                                                                                                                      refine lv_icmp_ge (tgt := 40) hx hb d_Mo_feed_33 (by decide) (fun c59 => ?_) (fun c59 => ?_)
                                                                                                                      · refine lv_iload hx hb d_Mo_feed_40 (lv_at hl 0 rfl) ?_
                                                                                                                        refine lv_bipush (v := 8) hx hb d_Mo_feed_42 (by decide) ?_
                                                                                                                        refine lv_icmp_ge (tgt := 51) hx hb d_Mo_feed_44 (by decide) (fun c60 => ?_) (fun c60 => ?_)
                                                                                                                        · refine lv_iload hx hb d_Mo_feed_51 (lv_at hl 0 rfl) ?_
                                                                                                                          refine lv_bipush (v := 12) hx hb d_Mo_feed_53 (by decide) ?_
                                                                                                                          refine lv_icmp_ge (tgt := 62) hx hb d_Mo_feed_55 (by decide) (fun c61 => ?_) (fun c61 => ?_)
                                                                                                                          · refine lv_iload hx hb d_Mo_feed_62 (lv_at hl 0 rfl) ?_
                                                                                                                            refine lv_bipush (v := 16) hx hb d_Mo_feed_64 (by decide) ?_
                                                                                                                            refine lv_icmp_ge (tgt := 74) hx hb d_Mo_feed_66 (by decide) (fun c62 => ?_) (fun c62 => ?_)
                                                                                                                            · refine lv_iload hx hb d_Mo_feed_74 (lv_at hl 7 rfl) ?_
                                                                                                                              refine lv_istore (lv' := [(7, _), (6, _), (0, _), (1, _), (2, _), (3, _), (4, _), (5, _)]) hx hb d_Mo_feed_76 hl (by decide) rfl (fun ls hl => ?_)
                                                                                                                              refine lv_aload_n hx hb d_Mo_feed_78 rfl (lv_at hl 2 rfl) ?_
                                                                                                                              refine va_get (D := D9) (ci := 7) (C := R_Mo) (T := F_Mo) (N := 30) hx hb hts i_Mo hown hK hP 0 rfl rfl 1 (by decide) (hts _ g_723) (fun _ h9 => h9) rfl d_Mo_feed_79 ?_
                                                                                                                              refine lv_aload_n hx hb d_Mo_feed_82 rfl (lv_at hl 2 rfl) ?_
                                                                                                                              refine va_get (D := D9) (ci := 7) (C := R_Mo) (T := F_Mo) (N := 30) hx hb hts i_Mo hown hK hP 0 rfl rfl 2 (by decide) (hts _ g_724) (fun _ h9 => h9) rfl d_Mo_feed_83 ?_
                                                                                                                              refine lv_iload hx hb d_Mo_feed_86 (lv_at hl 1 rfl) ?_
                                                                                                                              refine lv_iadd hx hb d_Mo_feed_88 ?_
                                                                                                                              refine lv_iload hx hb d_Mo_feed_89 (lv_at hl 0 rfl) ?_
                                                                                                                              refine lv_bipush (v := 8) hx hb d_Mo_feed_91 (by decide) ?_
                                                                                                                              refine lv_iconst (v := 3) hx hb d_Mo_feed_93 (by decide) ?_
                                                                                                                              refine lv_iload hx hb d_Mo_feed_94 (lv_at hl 1 rfl) ?_
                                                                                                                              refine lv_iconst (v := 4) hx hb d_Mo_feed_96 (by decide) ?_
                                                                                                                              refine lv_irem hx hb d_Mo_feed_97 (by decide) ?_
                                                                                                                              refine lv_isub hx hb d_Mo_feed_98 ?_
                                                                                                                              refine lv_imul hx hb d_Mo_feed_99 ?_
                                                                                                                              refine lv_ishr hx hb d_Mo_feed_100 ?_
                                                                                                                              refine lv_i2b hx hb d_Mo_feed_101 rfl ?_
                                                                                                                              refine va_bast (D := D9) hx hb hK hP hD hS 1 0 rfl rfl (by unfold vp_in; decide +kernel) d_Mo_feed_102 (fun H locs hP hD hS => ?_)
                                                                                                                              have hP : va_P D9 cls9 [(mo, .inr (7, [.int (0), .ref xta, .int 0, .ref xst, .int 0, .int 0, .int 0, .int 0, .ref xse, .ref xty, .ref xki, .ref xti, .ref xna, .ref xns, .ref xda, .ref xds, .int (-1), .int 0, .int 0, .int 0, .int 0, .int 0, .int 0, .ref xme, .int 0, .int 0, .ref xep, .ref xea, .int 0, .ref xcw])), (xta, .inl (cB, 65536, .inl _))] H := hP
                                                                                                                              have hD : va_D _ [(mo, .inr (7, [.int (0), .ref xta, .int 0, .ref xst, .int 0, .int 0, .int 0, .int 0, .ref xse, .ref xty, .ref xki, .ref xti, .ref xna, .ref xns, .ref xda, .ref xds, .int (-1), .int 0, .int 0, .int 0, .int 0, .int 0, .int 0, .ref xme, .int 0, .int 0, .ref xep, .ref xea, .int 0, .ref xcw])), (xta, .inl (cB, 65536, .inl _))] := hD
                                                                                                                              refine lv_iinc (lv' := [(6, _), (7, _), (0, _), (1, _), (2, _), (3, _), (4, _), (5, _)]) hx hb d_Mo_feed_103 hl (k := 1) rfl rfl (by decide) rfl (fun ls hl => ?_)
                                                                                                                              refine lv_goto (tgt := 23) hx hb d_Mo_feed_106 (by decide) ?_
                                                                                                                              refine lv_iload hx hb d_Mo_feed_23 (lv_at hl 0 rfl) ?_
                                                                                                                              refine lv_bipush (v := 20) hx hb d_Mo_feed_25 (by decide) ?_
                                                                                                                              refine lv_icmp_ge (tgt := 109) hx hb d_Mo_feed_27 (by decide) (fun c63 => ?_) (fun c63 => ?_)
                                                                                                                              · exact absurd c63 (by decide +kernel)
                                                                                                                              · refine lv_iload hx hb d_Mo_feed_30 (lv_at hl 0 rfl) ?_
                                                                                                                                refine lv_iconst (v := 4) hx hb d_Mo_feed_32 (by decide) ?_
                                                                                                                                refine lv_icmp_ge (tgt := 40) hx hb d_Mo_feed_33 (by decide) (fun c64 => ?_) (fun c64 => ?_)
                                                                                                                                · refine lv_iload hx hb d_Mo_feed_40 (lv_at hl 0 rfl) ?_
                                                                                                                                  refine lv_bipush (v := 8) hx hb d_Mo_feed_42 (by decide) ?_
                                                                                                                                  refine lv_icmp_ge (tgt := 51) hx hb d_Mo_feed_44 (by decide) (fun c65 => ?_) (fun c65 => ?_)
                                                                                                                                  · refine lv_iload hx hb d_Mo_feed_51 (lv_at hl 0 rfl) ?_
                                                                                                                                    refine lv_bipush (v := 12) hx hb d_Mo_feed_53 (by decide) ?_
                                                                                                                                    refine lv_icmp_ge (tgt := 62) hx hb d_Mo_feed_55 (by decide) (fun c66 => ?_) (fun c66 => ?_)
                                                                                                                                    · refine lv_iload hx hb d_Mo_feed_62 (lv_at hl 0 rfl) ?_
                                                                                                                                      refine lv_bipush (v := 16) hx hb d_Mo_feed_64 (by decide) ?_
                                                                                                                                      refine lv_icmp_ge (tgt := 74) hx hb d_Mo_feed_66 (by decide) (fun c67 => ?_) (fun c67 => ?_)
                                                                                                                                      · refine lv_iload hx hb d_Mo_feed_74 (lv_at hl 7 rfl) ?_
                                                                                                                                        refine lv_istore (lv' := [(7, _), (6, _), (0, _), (1, _), (2, _), (3, _), (4, _), (5, _)]) hx hb d_Mo_feed_76 hl (by decide) rfl (fun ls hl => ?_)
                                                                                                                                        refine lv_aload_n hx hb d_Mo_feed_78 rfl (lv_at hl 2 rfl) ?_
                                                                                                                                        refine va_get (D := D9) (ci := 7) (C := R_Mo) (T := F_Mo) (N := 30) hx hb hts i_Mo hown hK hP 0 rfl rfl 1 (by decide) (hts _ g_723) (fun _ h9 => h9) rfl d_Mo_feed_79 ?_
                                                                                                                                        refine lv_aload_n hx hb d_Mo_feed_82 rfl (lv_at hl 2 rfl) ?_
                                                                                                                                        refine va_get (D := D9) (ci := 7) (C := R_Mo) (T := F_Mo) (N := 30) hx hb hts i_Mo hown hK hP 0 rfl rfl 2 (by decide) (hts _ g_724) (fun _ h9 => h9) rfl d_Mo_feed_83 ?_
                                                                                                                                        refine lv_iload hx hb d_Mo_feed_86 (lv_at hl 1 rfl) ?_
                                                                                                                                        refine lv_iadd hx hb d_Mo_feed_88 ?_
                                                                                                                                        refine lv_iload hx hb d_Mo_feed_89 (lv_at hl 0 rfl) ?_
                                                                                                                                        refine lv_bipush (v := 8) hx hb d_Mo_feed_91 (by decide) ?_
                                                                                                                                        refine lv_iconst (v := 3) hx hb d_Mo_feed_93 (by decide) ?_
                                                                                                                                        refine lv_iload hx hb d_Mo_feed_94 (lv_at hl 1 rfl) ?_
                                                                                                                                        refine lv_iconst (v := 4) hx hb d_Mo_feed_96 (by decide) ?_
                                                                                                                                        refine lv_irem hx hb d_Mo_feed_97 (by decide) ?_
                                                                                                                                        refine lv_isub hx hb d_Mo_feed_98 ?_
                                                                                                                                        refine lv_imul hx hb d_Mo_feed_99 ?_
                                                                                                                                        refine lv_ishr hx hb d_Mo_feed_100 ?_
                                                                                                                                        refine lv_i2b hx hb d_Mo_feed_101 rfl ?_
                                                                                                                                        refine va_bast (D := D9) hx hb hK hP hD hS 1 0 rfl rfl (by unfold vp_in; decide +kernel) d_Mo_feed_102 (fun H locs hP hD hS => ?_)
                                                                                                                                        have hP : va_P D9 cls9 [(mo, .inr (7, [.int (0), .ref xta, .int 0, .ref xst, .int 0, .int 0, .int 0, .int 0, .ref xse, .ref xty, .ref xki, .ref xti, .ref xna, .ref xns, .ref xda, .ref xds, .int (-1), .int 0, .int 0, .int 0, .int 0, .int 0, .int 0, .ref xme, .int 0, .int 0, .ref xep, .ref xea, .int 0, .ref xcw])), (xta, .inl (cB, 65536, .inl _))] H := hP
                                                                                                                                        have hD : va_D _ [(mo, .inr (7, [.int (0), .ref xta, .int 0, .ref xst, .int 0, .int 0, .int 0, .int 0, .ref xse, .ref xty, .ref xki, .ref xti, .ref xna, .ref xns, .ref xda, .ref xds, .int (-1), .int 0, .int 0, .int 0, .int 0, .int 0, .int 0, .ref xme, .int 0, .int 0, .ref xep, .ref xea, .int 0, .ref xcw])), (xta, .inl (cB, 65536, .inl _))] := hD
                                                                                                                                        refine lv_iinc (lv' := [(6, _), (7, _), (0, _), (1, _), (2, _), (3, _), (4, _), (5, _)]) hx hb d_Mo_feed_103 hl (k := 1) rfl rfl (by decide) rfl (fun ls hl => ?_)
                                                                                                                                        refine lv_goto (tgt := 23) hx hb d_Mo_feed_106 (by decide) ?_
                                                                                                                                        refine lv_iload hx hb d_Mo_feed_23 (lv_at hl 0 rfl) ?_
                                                                                                                                        refine lv_bipush (v := 20) hx hb d_Mo_feed_25 (by decide) ?_
                                                                                                                                        refine lv_icmp_ge (tgt := 109) hx hb d_Mo_feed_27 (by decide) (fun c68 => ?_) (fun c68 => ?_)
                                                                                                                                        · exact absurd c68 (by decide +kernel)
                                                                                                                                        · refine lv_iload hx hb d_Mo_feed_30 (lv_at hl 0 rfl) ?_
                                                                                                                                          refine lv_iconst (v := 4) hx hb d_Mo_feed_32 (by decide) ?_
                                                                                                                                          refine lv_icmp_ge (tgt := 40) hx hb d_Mo_feed_33 (by decide) (fun c69 => ?_) (fun c69 => ?_)
                                                                                                                                          · refine lv_iload hx hb d_Mo_feed_40 (lv_at hl 0 rfl) ?_
                                                                                                                                            refine lv_bipush (v := 8) hx hb d_Mo_feed_42 (by decide) ?_
                                                                                                                                            refine lv_icmp_ge (tgt := 51) hx hb d_Mo_feed_44 (by decide) (fun c70 => ?_) (fun c70 => ?_)
                                                                                                                                            · refine lv_iload hx hb d_Mo_feed_51 (lv_at hl 0 rfl) ?_
                                                                                                                                              refine lv_bipush (v := 12) hx hb d_Mo_feed_53 (by decide) ?_
                                                                                                                                              refine lv_icmp_ge (tgt := 62) hx hb d_Mo_feed_55 (by decide) (fun c71 => ?_) (fun c71 => ?_)
                                                                                                                                              · refine lv_iload hx hb d_Mo_feed_62 (lv_at hl 0 rfl) ?_
                                                                                                                                                refine lv_bipush (v := 16) hx hb d_Mo_feed_64 (by decide) ?_
                                                                                                                                                refine lv_icmp_ge (tgt := 74) hx hb d_Mo_feed_66 (by decide) (fun c72 => ?_) (fun c72 => ?_)
                                                                                                                                                · refine lv_iload hx hb d_Mo_feed_74 (lv_at hl 7 rfl) ?_
                                                                                                                                                  refine lv_istore (lv' := [(7, _), (6, _), (0, _), (1, _), (2, _), (3, _), (4, _), (5, _)]) hx hb d_Mo_feed_76 hl (by decide) rfl (fun ls hl => ?_)
                                                                                                                                                  refine lv_aload_n hx hb d_Mo_feed_78 rfl (lv_at hl 2 rfl) ?_
                                                                                                                                                  refine va_get (D := D9) (ci := 7) (C := R_Mo) (T := F_Mo) (N := 30) hx hb hts i_Mo hown hK hP 0 rfl rfl 1 (by decide) (hts _ g_723) (fun _ h9 => h9) rfl d_Mo_feed_79 ?_
                                                                                                                                                  refine lv_aload_n hx hb d_Mo_feed_82 rfl (lv_at hl 2 rfl) ?_
                                                                                                                                                  refine va_get (D := D9) (ci := 7) (C := R_Mo) (T := F_Mo) (N := 30) hx hb hts i_Mo hown hK hP 0 rfl rfl 2 (by decide) (hts _ g_724) (fun _ h9 => h9) rfl d_Mo_feed_83 ?_
                                                                                                                                                  refine lv_iload hx hb d_Mo_feed_86 (lv_at hl 1 rfl) ?_
                                                                                                                                                  refine lv_iadd hx hb d_Mo_feed_88 ?_
                                                                                                                                                  refine lv_iload hx hb d_Mo_feed_89 (lv_at hl 0 rfl) ?_
                                                                                                                                                  refine lv_bipush (v := 8) hx hb d_Mo_feed_91 (by decide) ?_
                                                                                                                                                  refine lv_iconst (v := 3) hx hb d_Mo_feed_93 (by decide) ?_
                                                                                                                                                  refine lv_iload hx hb d_Mo_feed_94 (lv_at hl 1 rfl) ?_
                                                                                                                                                  refine lv_iconst (v := 4) hx hb d_Mo_feed_96 (by decide) ?_
                                                                                                                                                  refine lv_irem hx hb d_Mo_feed_97 (by decide) ?_
                                                                                                                                                  refine lv_isub hx hb d_Mo_feed_98 ?_
                                                                                                                                                  refine lv_imul hx hb d_Mo_feed_99 ?_
                                                                                                                                                  refine lv_ishr hx hb d_Mo_feed_100 ?_
                                                                                                                                                  refine lv_i2b hx hb d_Mo_feed_101 rfl ?_
                                                                                                                                                  refine va_bast (D := D9) hx hb hK hP hD hS 1 0 rfl rfl (by unfold vp_in; decide +kernel) d_Mo_feed_102 (fun H locs hP hD hS => ?_)
                                                                                                                                                  have hP : va_P D9 cls9 [(mo, .inr (7, [.int (0), .ref xta, .int 0, .ref xst, .int 0, .int 0, .int 0, .int 0, .ref xse, .ref xty, .ref xki, .ref xti, .ref xna, .ref xns, .ref xda, .ref xds, .int (-1), .int 0, .int 0, .int 0, .int 0, .int 0, .int 0, .ref xme, .int 0, .int 0, .ref xep, .ref xea, .int 0, .ref xcw])), (xta, .inl (cB, 65536, .inl _))] H := hP
                                                                                                                                                  have hD : va_D _ [(mo, .inr (7, [.int (0), .ref xta, .int 0, .ref xst, .int 0, .int 0, .int 0, .int 0, .ref xse, .ref xty, .ref xki, .ref xti, .ref xna, .ref xns, .ref xda, .ref xds, .int (-1), .int 0, .int 0, .int 0, .int 0, .int 0, .int 0, .ref xme, .int 0, .int 0, .ref xep, .ref xea, .int 0, .ref xcw])), (xta, .inl (cB, 65536, .inl _))] := hD
                                                                                                                                                  refine lv_iinc (lv' := [(6, _), (7, _), (0, _), (1, _), (2, _), (3, _), (4, _), (5, _)]) hx hb d_Mo_feed_103 hl (k := 1) rfl rfl (by decide) rfl (fun ls hl => ?_)
                                                                                                                                                  refine lv_goto (tgt := 23) hx hb d_Mo_feed_106 (by decide) ?_
                                                                                                                                                  refine lv_iload hx hb d_Mo_feed_23 (lv_at hl 0 rfl) ?_
                                                                                                                                                  refine lv_bipush (v := 20) hx hb d_Mo_feed_25 (by decide) ?_
                                                                                                                                                  refine lv_icmp_ge (tgt := 109) hx hb d_Mo_feed_27 (by decide) (fun c73 => ?_) (fun c73 => ?_)
                                                                                                                                                  · exact absurd c73 (by decide +kernel)
                                                                                                                                                  · refine lv_iload hx hb d_Mo_feed_30 (lv_at hl 0 rfl) ?_
                                                                                                                                                    refine lv_iconst (v := 4) hx hb d_Mo_feed_32 (by decide) ?_
                                                                                                                                                    refine lv_icmp_ge (tgt := 40) hx hb d_Mo_feed_33 (by decide) (fun c74 => ?_) (fun c74 => ?_)
                                                                                                                                                    · refine lv_iload hx hb d_Mo_feed_40 (lv_at hl 0 rfl) ?_
                                                                                                                                                      refine lv_bipush (v := 8) hx hb d_Mo_feed_42 (by decide) ?_
                                                                                                                                                      refine lv_icmp_ge (tgt := 51) hx hb d_Mo_feed_44 (by decide) (fun c75 => ?_) (fun c75 => ?_)
                                                                                                                                                      · refine lv_iload hx hb d_Mo_feed_51 (lv_at hl 0 rfl) ?_
                                                                                                                                                        refine lv_bipush (v := 12) hx hb d_Mo_feed_53 (by decide) ?_
                                                                                                                                                        refine lv_icmp_ge (tgt := 62) hx hb d_Mo_feed_55 (by decide) (fun c76 => ?_) (fun c76 => ?_)
                                                                                                                                                        · refine lv_iload hx hb d_Mo_feed_62 (lv_at hl 0 rfl) ?_
                                                                                                                                                          refine lv_bipush (v := 16) hx hb d_Mo_feed_64 (by decide) ?_
                                                                                                                                                          refine lv_icmp_ge (tgt := 74) hx hb d_Mo_feed_66 (by decide) (fun c77 => ?_) (fun c77 => ?_)
                                                                                                                                                          · refine lv_iload hx hb d_Mo_feed_74 (lv_at hl 7 rfl) ?_
                                                                                                                                                            refine lv_istore (lv' := [(7, _), (6, _), (0, _), (1, _), (2, _), (3, _), (4, _), (5, _)]) hx hb d_Mo_feed_76 hl (by decide) rfl (fun ls hl => ?_)
                                                                                                                                                            refine lv_aload_n hx hb d_Mo_feed_78 rfl (lv_at hl 2 rfl) ?_
                                                                                                                                                            refine va_get (D := D9) (ci := 7) (C := R_Mo) (T := F_Mo) (N := 30) hx hb hts i_Mo hown hK hP 0 rfl rfl 1 (by decide) (hts _ g_723) (fun _ h9 => h9) rfl d_Mo_feed_79 ?_
                                                                                                                                                            refine lv_aload_n hx hb d_Mo_feed_82 rfl (lv_at hl 2 rfl) ?_
                                                                                                                                                            refine va_get (D := D9) (ci := 7) (C := R_Mo) (T := F_Mo) (N := 30) hx hb hts i_Mo hown hK hP 0 rfl rfl 2 (by decide) (hts _ g_724) (fun _ h9 => h9) rfl d_Mo_feed_83 ?_
                                                                                                                                                            refine lv_iload hx hb d_Mo_feed_86 (lv_at hl 1 rfl) ?_
                                                                                                                                                            refine lv_iadd hx hb d_Mo_feed_88 ?_
                                                                                                                                                            refine lv_iload hx hb d_Mo_feed_89 (lv_at hl 0 rfl) ?_
                                                                                                                                                            refine lv_bipush (v := 8) hx hb d_Mo_feed_91 (by decide) ?_
                                                                                                                                                            refine lv_iconst (v := 3) hx hb d_Mo_feed_93 (by decide) ?_
                                                                                                                                                            refine lv_iload hx hb d_Mo_feed_94 (lv_at hl 1 rfl) ?_
                                                                                                                                                            refine lv_iconst (v := 4) hx hb d_Mo_feed_96 (by decide) ?_
                                                                                                                                                            refine lv_irem hx hb d_Mo_feed_97 (by decide) ?_
                                                                                                                                                            refine lv_isub hx hb d_Mo_feed_98 ?_
                                                                                                                                                            refine lv_imul hx hb d_Mo_feed_99 ?_
                                                                                                                                                            refine lv_ishr hx hb d_Mo_feed_100 ?_
                                                                                                                                                            refine lv_i2b hx hb d_Mo_feed_101 rfl ?_
                                                                                                                                                            refine va_bast (D := D9) hx hb hK hP hD hS 1 0 rfl rfl (by unfold vp_in; decide +kernel) d_Mo_feed_102 (fun H locs hP hD hS => ?_)
                                                                                                                                                            have hP : va_P D9 cls9 [(mo, .inr (7, [.int (0), .ref xta, .int 0, .ref xst, .int 0, .int 0, .int 0, .int 0, .ref xse, .ref xty, .ref xki, .ref xti, .ref xna, .ref xns, .ref xda, .ref xds, .int (-1), .int 0, .int 0, .int 0, .int 0, .int 0, .int 0, .ref xme, .int 0, .int 0, .ref xep, .ref xea, .int 0, .ref xcw])), (xta, .inl (cB, 65536, .inl _))] H := hP
                                                                                                                                                            have hD : va_D _ [(mo, .inr (7, [.int (0), .ref xta, .int 0, .ref xst, .int 0, .int 0, .int 0, .int 0, .ref xse, .ref xty, .ref xki, .ref xti, .ref xna, .ref xns, .ref xda, .ref xds, .int (-1), .int 0, .int 0, .int 0, .int 0, .int 0, .int 0, .ref xme, .int 0, .int 0, .ref xep, .ref xea, .int 0, .ref xcw])), (xta, .inl (cB, 65536, .inl _))] := hD
                                                                                                                                                            refine lv_iinc (lv' := [(6, _), (7, _), (0, _), (1, _), (2, _), (3, _), (4, _), (5, _)]) hx hb d_Mo_feed_103 hl (k := 1) rfl rfl (by decide) rfl (fun ls hl => ?_)
                                                                                                                                                            refine lv_goto (tgt := 23) hx hb d_Mo_feed_106 (by decide) ?_
                                                                                                                                                            refine lv_iload hx hb d_Mo_feed_23 (lv_at hl 0 rfl) ?_
                                                                                                                                                            refine lv_bipush (v := 20) hx hb d_Mo_feed_25 (by decide) ?_
                                                                                                                                                            refine lv_icmp_ge (tgt := 109) hx hb d_Mo_feed_27 (by decide) (fun c78 => ?_) (fun c78 => ?_)
                                                                                                                                                            · refine lv_aload_n hx hb d_Mo_feed_109 rfl (lv_at hl 2 rfl) ?_
                                                                                                                                                              refine lv_dup hx hb d_Mo_feed_110 rfl ?_
                                                                                                                                                              refine va_get (D := D9) (ci := 7) (C := R_Mo) (T := F_Mo) (N := 30) hx hb hts i_Mo hown hK hP 0 rfl rfl 2 (by decide) (hts _ g_724) (fun _ h9 => h9) rfl d_Mo_feed_111 ?_
                                                                                                                                                              refine lv_bipush (v := 20) hx hb d_Mo_feed_114 (by decide) ?_
                                                                                                                                                              refine lv_iadd hx hb d_Mo_feed_116 ?_
                                                                                                                                                              refine va_put (D := D9) (ty := .int) (ci := 7) (C := R_Mo) (T := F_Mo) (N := 30) hx hb hts i_Mo t_Mo t_Mo_ok n_Mo hown hK hP hD hS 0 rfl rfl 2 (by decide) (hts _ g_724) (fun _ h9 => h9) rfl (by decide +kernel) rfl rfl (Nat.le_of_ble_eq_true rfl) d_Mo_feed_117 (fun H locs hP hD hS => ?_)
                                                                                                                                                              have hP : va_P D9 cls9 [(mo, .inr (7, [.int (0), .ref xta, .int _, .ref xst, .int 0, .int 0, .int 0, .int 0, .ref xse, .ref xty, .ref xki, .ref xti, .ref xna, .ref xns, .ref xda, .ref xds, .int (-1), .int 0, .int 0, .int 0, .int 0, .int 0, .int 0, .ref xme, .int 0, .int 0, .ref xep, .ref xea, .int 0, .ref xcw])), (xta, .inl (cB, 65536, .inl _))] H := hP
                                                                                                                                                              have hD : va_D _ [(mo, .inr (7, [.int (0), .ref xta, .int _, .ref xst, .int 0, .int 0, .int 0, .int 0, .ref xse, .ref xty, .ref xki, .ref xti, .ref xna, .ref xns, .ref xda, .ref xds, .int (-1), .int 0, .int 0, .int 0, .int 0, .int 0, .int 0, .ref xme, .int 0, .int 0, .ref xep, .ref xea, .int 0, .ref xcw])), (xta, .inl (cB, 65536, .inl _))] := hD
                                                                                                                                                              refine lv_aload_n hx hb d_Mo_feed_120 rfl (lv_at hl 2 rfl) ?_
                                                                                                                                                              refine va_get (D := D9) (ci := 7) (C := R_Mo) (T := F_Mo) (N := 30) hx hb hts i_Mo hown hK hP 0 rfl rfl 2 (by decide) (hts _ g_724) (fun _ h9 => h9) rfl d_Mo_feed_121 ?_
                                                                                                                                                              exact mw_zret hx hb hr hlocks hS hP hD (by decide) (by decide) d_Mo_feed_124 (by first | rfl | decide +kernel) (⟨_, _, _, _, _, _, _, _, _, _, _, _, _, _, _, _, _, _, rfl, rfl, ⟨rfl, rfl⟩⟩)
                                                                                                                                                            · exact absurd c78 (by decide +kernel)
                                                                                                                                                          · exact absurd c77 (by decide +kernel)
                                                                                                                                                        · exact absurd c76 (by decide +kernel)
                                                                                                                                                      · exact absurd c75 (by decide +kernel)
                                                                                                                                                    · exact absurd c74 (by decide +kernel)
                                                                                                                                                · exact absurd c72 (by decide +kernel)
                                                                                                                                              · exact absurd c71 (by decide +kernel)
                                                                                                                                            · exact absurd c70 (by decide +kernel)
                                                                                                                                          · exact absurd c69 (by decide +kernel)
                                                                                                                                      · exact absurd c67 (by decide +kernel)
                                                                                                                                    · exact absurd c66 (by decide +kernel)
                                                                                                                                  · exact absurd c65 (by decide +kernel)
                                                                                                                                · exact absurd c64 (by decide +kernel)
                                                                                                                            · exact absurd c62 (by decide +kernel)
                                                                                                                          · exact absurd c61 (by decide +kernel)
                                                                                                                        · exact absurd c60 (by decide +kernel)
                                                                                                                      · exact absurd c59 (by decide +kernel)
                                                                                                                · exact absurd c56 (by decide +kernel)
                                                                                                              · exact absurd c55 (by decide +kernel)
                                                                                                            · exact absurd c54 (by decide +kernel)
                                                                                                      · exact absurd c51 (by decide +kernel)
                                                                                                    · exact absurd c50 (by decide +kernel)
                                                                                                  · exact absurd c49 (by decide +kernel)
                                                                                            · exact absurd c46 (by decide +kernel)
                                                                                          · exact absurd c45 (by decide +kernel)
                                                                                        · exact absurd c44 (by decide +kernel)
                                                                                  · exact absurd c41 (by decide +kernel)
                                                                                · exact absurd c40 (by decide +kernel)
                                                                              · exact absurd c39 (by decide +kernel)
                                                                        · exact absurd c36 (by decide +kernel)
                                                                      · exact absurd c35 (by decide +kernel)
                                                                · exact absurd c32 (by decide +kernel)
                                                              · exact absurd c31 (by decide +kernel)
                                                        · exact absurd c28 (by decide +kernel)
                                                      · exact absurd c27 (by decide +kernel)
                                                · exact absurd c24 (by decide +kernel)
                                              · exact absurd c23 (by decide +kernel)
                                        · exact absurd c20 (by decide +kernel)
                                  · exact absurd c17 (by decide +kernel)
                            · exact absurd c14 (by decide +kernel)
                      · exact absurd c11 (by decide +kernel)
  · exact absurd c1 (by decide +kernel)
