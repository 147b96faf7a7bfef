theorem tdB_n {a w : Int32} : tdB a w ↔ (w < 0 ∨ nI 4 < w ∨ (a = 0 ∧ nI 2 < w)) := Iff.rfl
theorem fl_tb {es : List En9} {r : Nat} {e : En9} (h : es[r]? = some e) {j : Nat} (hj : j < (eN e).length + (eD e).length) : tb (fl es) (of9 es r + j) = tb (eN e ++ eD e) j := by
  unfold tb
  rw [List.getD_eq_getElem?_getD, List.getD_eq_getElem?_getD, fl_at h (by rw [List.length_append]; exact hj)]
theorem g_869 : (Cond.constant "WireMessagesModel" (137 : Nat) (65516 : Int32)) ∈ GT := gt_mem 869 (by decide +kernel) rfl
theorem g_956 : (Cond.methodLink "WireMessagesModel" (190 : Nat) ({ cls := "WireMessagesModel", name := "place", desc := "(II)I" } : MethodName)) ∈ GT := gt_mem 956 (by decide +kernel) rfl
theorem g_958 : (Cond.instanceMethod ({ cls := "WireMessagesModel", name := "place", desc := "(II)I" } : MethodName)) ∈ GT := gt_mem 958 (by decide +kernel) rfl
theorem g_959 : (Cond.code ({ cls := "WireMessagesModel", name := "place", desc := "(II)I" } : MethodName) prog_10_method_7_code (5 : Nat) (Option.some FieldType.int)) ∈ GT := gt_mem 959 (by decide +kernel) rfl
theorem gs_Mo_place : Cond.selects R_Mo y_Mo_place y_Mo_place ∈ GT := gt_sel (q := (⟨"WireMessagesModel", "place", "(II)I"⟩, 30)) (by decide +kernel)
theorem d_Mo_byteOf_0 : decode b_Mo_byteOf 0 = .ok (.aload_n 0, 1) := by decide +kernel
theorem d_Mo_byteOf_1 : decode b_Mo_byteOf 1 = .ok (.iconst 0, 1) := by decide +kernel
theorem d_Mo_byteOf_2 : decode b_Mo_byteOf 2 = .ok (.putfield 61, 3) := by decide +kernel
theorem d_Mo_byteOf_5 : decode b_Mo_byteOf 5 = .ok (.aload_n 0, 1) := by decide +kernel
theorem d_Mo_byteOf_6 : decode b_Mo_byteOf 6 = .ok (.iload_n 1, 1) := by decide +kernel
theorem d_Mo_byteOf_7 : decode b_Mo_byteOf 7 = .ok (.iload_n 2, 1) := by decide +kernel
theorem d_Mo_byteOf_8 : decode b_Mo_byteOf 8 = .ok (.invokevirtual 190, 3) := by decide +kernel
theorem d_Mo_byteOf_11 : decode b_Mo_byteOf 11 = .ok (.istore 4, 2) := by decide +kernel
theorem d_Mo_byteOf_13 : decode b_Mo_byteOf 13 = .ok (.iload 4, 2) := by decide +kernel
theorem d_Mo_byteOf_15 : decode b_Mo_byteOf 15 = .ok (.ifCond .ge 9, 3) := by decide +kernel
theorem d_Mo_byteOf_18 : decode b_Mo_byteOf 18 = .ok (.aload_n 0, 1) := by decide +kernel
theorem d_Mo_byteOf_19 : decode b_Mo_byteOf 19 = .ok (.iconst 1, 1) := by decide +kernel
theorem d_Mo_byteOf_20 : decode b_Mo_byteOf 20 = .ok (.invokevirtual 138, 3) := by decide +kernel
theorem d_Mo_byteOf_23 : decode b_Mo_byteOf 23 = .ok (.ireturn, 1) := by decide +kernel
theorem d_Mo_byteOf_24 : decode b_Mo_byteOf 24 = .ok (.iload_n 3, 1) := by decide +kernel
theorem d_Mo_byteOf_25 : decode b_Mo_byteOf 25 = .ok (.ifCond .lt 22, 3) := by decide +kernel
theorem d_Mo_byteOf_28 : decode b_Mo_byteOf 28 = .ok (.iload_n 3, 1) := by decide +kernel
theorem d_Mo_byteOf_29 : decode b_Mo_byteOf 29 = .ok (.aload_n 0, 1) := by decide +kernel
theorem d_Mo_byteOf_30 : decode b_Mo_byteOf 30 = .ok (.getfield 34, 3) := by decide +kernel
theorem d_Mo_byteOf_33 : decode b_Mo_byteOf 33 = .ok (.iload 4, 2) := by decide +kernel
theorem d_Mo_byteOf_35 : decode b_Mo_byteOf 35 = .ok (.iaload, 1) := by decide +kernel
theorem d_Mo_byteOf_36 : decode b_Mo_byteOf 36 = .ok (.aload_n 0, 1) := by decide +kernel
theorem d_Mo_byteOf_37 : decode b_Mo_byteOf 37 = .ok (.getfield 40, 3) := by decide +kernel
theorem d_Mo_byteOf_40 : decode b_Mo_byteOf 40 = .ok (.iload 4, 2) := by decide +kernel
theorem d_Mo_byteOf_42 : decode b_Mo_byteOf 42 = .ok (.iaload, 1) := by decide +kernel
theorem d_Mo_byteOf_43 : decode b_Mo_byteOf 43 = .ok (.iadd, 1) := by decide +kernel
theorem d_Mo_byteOf_44 : decode b_Mo_byteOf 44 = .ok (.if_icmp .lt 9, 3) := by decide +kernel
theorem d_Mo_byteOf_47 : decode b_Mo_byteOf 47 = .ok (.aload_n 0, 1) := by decide +kernel
theorem d_Mo_byteOf_48 : decode b_Mo_byteOf 48 = .ok (.iconst 2, 1) := by decide +kernel
theorem d_Mo_byteOf_49 : decode b_Mo_byteOf 49 = .ok (.invokevirtual 138, 3) := by decide +kernel
theorem d_Mo_byteOf_52 : decode b_Mo_byteOf 52 = .ok (.ireturn, 1) := by decide +kernel
theorem d_Mo_byteOf_53 : decode b_Mo_byteOf 53 = .ok (.aload_n 0, 1) := by decide +kernel
theorem d_Mo_byteOf_54 : decode b_Mo_byteOf 54 = .ok (.getfield 15, 3) := by decide +kernel
theorem d_Mo_byteOf_57 : decode b_Mo_byteOf 57 = .ok (.iload_n 3, 1) := by decide +kernel
theorem d_Mo_byteOf_58 : decode b_Mo_byteOf 58 = .ok (.aload_n 0, 1) := by decide +kernel
theorem d_Mo_byteOf_59 : decode b_Mo_byteOf 59 = .ok (.getfield 34, 3) := by decide +kernel
theorem d_Mo_byteOf_62 : decode b_Mo_byteOf 62 = .ok (.iload 4, 2) := by decide +kernel
theorem d_Mo_byteOf_64 : decode b_Mo_byteOf 64 = .ok (.iaload, 1) := by decide +kernel
theorem d_Mo_byteOf_65 : decode b_Mo_byteOf 65 = .ok (.if_icmp .ge 15, 3) := by decide +kernel
theorem d_Mo_byteOf_68 : decode b_Mo_byteOf 68 = .ok (.aload_n 0, 1) := by decide +kernel
theorem d_Mo_byteOf_69 : decode b_Mo_byteOf 69 = .ok (.getfield 31, 3) := by decide +kernel
theorem d_Mo_byteOf_72 : decode b_Mo_byteOf 72 = .ok (.iload 4, 2) := by decide +kernel
theorem d_Mo_byteOf_74 : decode b_Mo_byteOf 74 = .ok (.iaload, 1) := by decide +kernel
theorem d_Mo_byteOf_75 : decode b_Mo_byteOf 75 = .ok (.iload_n 3, 1) := by decide +kernel
theorem d_Mo_byteOf_76 : decode b_Mo_byteOf 76 = .ok (.iadd, 1) := by decide +kernel
theorem d_Mo_byteOf_77 : decode b_Mo_byteOf 77 = .ok (.goto 20, 3) := by decide +kernel
theorem d_Mo_byteOf_80 : decode b_Mo_byteOf 80 = .ok (.aload_n 0, 1) := by decide +kernel
theorem d_Mo_byteOf_81 : decode b_Mo_byteOf 81 = .ok (.getfield 37, 3) := by decide +kernel
theorem d_Mo_byteOf_84 : decode b_Mo_byteOf 84 = .ok (.iload 4, 2) := by decide +kernel
theorem d_Mo_byteOf_86 : decode b_Mo_byteOf 86 = .ok (.iaload, 1) := by decide +kernel
theorem d_Mo_byteOf_87 : decode b_Mo_byteOf 87 = .ok (.iload_n 3, 1) := by decide +kernel
theorem d_Mo_byteOf_88 : decode b_Mo_byteOf 88 = .ok (.iadd, 1) := by decide +kernel
theorem d_Mo_byteOf_89 : decode b_Mo_byteOf 89 = .ok (.aload_n 0, 1) := by decide +kernel
theorem d_Mo_byteOf_90 : decode b_Mo_byteOf 90 = .ok (.getfield 34, 3) := by decide +kernel
theorem d_Mo_byteOf_93 : decode b_Mo_byteOf 93 = .ok (.iload 4, 2) := by decide +kernel
theorem d_Mo_byteOf_95 : decode b_Mo_byteOf 95 = .ok (.iaload, 1) := by decide +kernel
theorem d_Mo_byteOf_96 : decode b_Mo_byteOf 96 = .ok (.isub, 1) := by decide +kernel
theorem d_Mo_byteOf_97 : decode b_Mo_byteOf 97 = .ok (.baload, 1) := by decide +kernel
theorem d_Mo_byteOf_98 : decode b_Mo_byteOf 98 = .ok (.sipush 255, 3) := by decide +kernel
theorem d_Mo_byteOf_101 : decode b_Mo_byteOf 101 = .ok (.iand, 1) := by decide +kernel
theorem d_Mo_byteOf_102 : decode b_Mo_byteOf 102 = .ok (.ireturn, 1) := by decide +kernel
theorem d_Mo_feed_0 : decode b_Mo_feed 0 = .ok (.aload_n 0, 1) := by decide +kernel
theorem d_Mo_feed_1 : decode b_Mo_feed 1 = .ok (.iconst 0, 1) := by decide +kernel
theorem d_Mo_feed_2 : decode b_Mo_feed 2 = .ok (.putfield 61, 3) := by decide +kernel
theorem d_Mo_feed_5 : decode b_Mo_feed 5 = .ok (.aload_n 0, 1) := by decide +kernel
theorem d_Mo_feed_6 : decode b_Mo_feed 6 = .ok (.getfield 86, 3) := by decide +kernel
theorem d_Mo_feed_9 : decode b_Mo_feed 9 = .ok (.ldc 137, 2) := by decide +kernel
theorem d_Mo_feed_11 : decode b_Mo_feed 11 = .ok (.if_icmp .le 9, 3) := by decide +kernel
theorem d_Mo_feed_14 : decode b_Mo_feed 14 = .ok (.aload_n 0, 1) := by decide +kernel
theorem d_Mo_feed_15 : decode b_Mo_feed 15 = .ok (.iconst 1, 1) := by decide +kernel
theorem d_Mo_feed_16 : decode b_Mo_feed 16 = .ok (.invokevirtual 138, 3) := by decide +kernel
theorem d_Mo_feed_19 : decode b_Mo_feed 19 = .ok (.ireturn, 1) := by decide +kernel
theorem d_Mo_feed_20 : decode b_Mo_feed 20 = .ok (.iconst 0, 1) := by decide +kernel
theorem d_Mo_feed_21 : decode b_Mo_feed 21 = .ok (.istore 6, 2) := by decide +kernel
theorem d_Mo_feed_23 : decode b_Mo_feed 23 = .ok (.iload 6, 2) := by decide +kernel
theorem d_Mo_feed_25 : decode b_Mo_feed 25 = .ok (.bipush 20, 2) := by decide +kernel
theorem d_Mo_feed_27 : decode b_Mo_feed 27 = .ok (.if_icmp .ge 82, 3) := by decide +kernel
theorem d_Mo_feed_30 : decode b_Mo_feed 30 = .ok (.iload 6, 2) := by decide +kernel
theorem d_Mo_feed_32 : decode b_Mo_feed 32 = .ok (.iconst 4, 1) := by decide +kernel
theorem d_Mo_feed_33 : decode b_Mo_feed 33 = .ok (.if_icmp .ge 7, 3) := by decide +kernel
theorem d_Mo_feed_36 : decode b_Mo_feed 36 = .ok (.iload_n 1, 1) := by decide +kernel
theorem d_Mo_feed_37 : decode b_Mo_feed 37 = .ok (.goto 39, 3) := by decide +kernel
theorem d_Mo_feed_40 : decode b_Mo_feed 40 = .ok (.iload 6, 2) := by decide +kernel
theorem d_Mo_feed_42 : decode b_Mo_feed 42 = .ok (.bipush 8, 2) := by decide +kernel
theorem d_Mo_feed_44 : decode b_Mo_feed 44 = .ok (.if_icmp .ge 7, 3) := by decide +kernel
theorem d_Mo_feed_47 : decode b_Mo_feed 47 = .ok (.iload_n 2, 1) := by decide +kernel
theorem d_Mo_feed_48 : decode b_Mo_feed 48 = .ok (.goto 28, 3) := by decide +kernel
theorem d_Mo_feed_51 : decode b_Mo_feed 51 = .ok (.iload 6, 2) := by decide +kernel
theorem d_Mo_feed_53 : decode b_Mo_feed 53 = .ok (.bipush 12, 2) := by decide +kernel
theorem d_Mo_feed_55 : decode b_Mo_feed 55 = .ok (.if_icmp .ge 7, 3) := by decide +kernel
theorem d_Mo_feed_58 : decode b_Mo_feed 58 = .ok (.iload_n 3, 1) := by decide +kernel
theorem d_Mo_feed_59 : decode b_Mo_feed 59 = .ok (.goto 17, 3) := by decide +kernel
theorem d_Mo_feed_62 : decode b_Mo_feed 62 = .ok (.iload 6, 2) := by decide +kernel
theorem d_Mo_feed_64 : decode b_Mo_feed 64 = .ok (.bipush 16, 2) := by decide +kernel
theorem d_Mo_feed_66 : decode b_Mo_feed 66 = .ok (.if_icmp .ge 8, 3) := by decide +kernel
theorem d_Mo_feed_69 : decode b_Mo_feed 69 = .ok (.iload 4, 2) := by decide +kernel
theorem d_Mo_feed_71 : decode b_Mo_feed 71 = .ok (.goto 5, 3) := by decide +kernel
theorem d_Mo_feed_74 : decode b_Mo_feed 74 = .ok (.iload 5, 2) := by decide +kernel
theorem d_Mo_feed_76 : decode b_Mo_feed 76 = .ok (.istore 7, 2) := by decide +kernel
theorem d_Mo_feed_78 : decode b_Mo_feed 78 = .ok (.aload_n 0, 1) := by decide +kernel
theorem d_Mo_feed_79 : decode b_Mo_feed 79 = .ok (.getfield 8, 3) := by decide +kernel
theorem d_Mo_feed_82 : decode b_Mo_feed 82 = .ok (.aload_n 0, 1) := by decide +kernel
theorem d_Mo_feed_83 : decode b_Mo_feed 83 = .ok (.getfield 86, 3) := by decide +kernel
theorem d_Mo_feed_86 : decode b_Mo_feed 86 = .ok (.iload 6, 2) := by decide +kernel
theorem d_Mo_feed_88 : decode b_Mo_feed 88 = .ok (.iadd, 1) := by decide +kernel
theorem d_Mo_feed_89 : decode b_Mo_feed 89 = .ok (.iload 7, 2) := by decide +kernel
theorem d_Mo_feed_91 : decode b_Mo_feed 91 = .ok (.bipush 8, 2) := by decide +kernel
theorem d_Mo_feed_93 : decode b_Mo_feed 93 = .ok (.iconst 3, 1) := by decide +kernel
theorem d_Mo_feed_94 : decode b_Mo_feed 94 = .ok (.iload 6, 2) := by decide +kernel
theorem d_Mo_feed_96 : decode b_Mo_feed 96 = .ok (.iconst 4, 1) := by decide +kernel
theorem d_Mo_feed_97 : decode b_Mo_feed 97 = .ok (.irem, 1) := by decide +kernel
theorem d_Mo_feed_98 : decode b_Mo_feed 98 = .ok (.isub, 1) := by decide +kernel
theorem d_Mo_feed_99 : decode b_Mo_feed 99 = .ok (.imul, 1) := by decide +kernel
theorem d_Mo_feed_100 : decode b_Mo_feed 100 = .ok (.ishr, 1) := by decide +kernel
theorem d_Mo_feed_101 : decode b_Mo_feed 101 = .ok (.i2b, 1) := by decide +kernel
theorem d_Mo_feed_102 : decode b_Mo_feed 102 = .ok (.bastore, 1) := by decide +kernel
theorem d_Mo_feed_103 : decode b_Mo_feed 103 = .ok (.iinc 6 1, 3) := by decide +kernel
theorem d_Mo_feed_106 : decode b_Mo_feed 106 = .ok (.goto (-83), 3) := by decide +kernel
theorem d_Mo_feed_109 : decode b_Mo_feed 109 = .ok (.aload_n 0, 1) := by decide +kernel
theorem d_Mo_feed_110 : decode b_Mo_feed 110 = .ok (.dup, 1) := by decide +kernel
theorem d_Mo_feed_111 : decode b_Mo_feed 111 = .ok (.getfield 86, 3) := by decide +kernel
theorem d_Mo_feed_114 : decode b_Mo_feed 114 = .ok (.bipush 20, 2) := by decide +kernel
theorem d_Mo_feed_116 : decode b_Mo_feed 116 = .ok (.iadd, 1) := by decide +kernel
theorem d_Mo_feed_117 : decode b_Mo_feed 117 = .ok (.putfield 86, 3) := by decide +kernel
theorem d_Mo_feed_120 : decode b_Mo_feed 120 = .ok (.aload_n 0, 1) := by decide +kernel
theorem d_Mo_feed_121 : decode b_Mo_feed 121 = .ok (.getfield 86, 3) := by decide +kernel
theorem d_Mo_feed_124 : decode b_Mo_feed 124 = .ok (.ireturn, 1) := by decide +kernel
theorem d_Mo_told_0 : decode b_Mo_told 0 = .ok (.aload_n 0, 1) := by decide +kernel
theorem d_Mo_told_1 : decode b_Mo_told 1 = .ok (.iconst 0, 1) := by decide +kernel
theorem d_Mo_told_2 : decode b_Mo_told 2 = .ok (.putfield 61, 3) := by decide +kernel
theorem d_Mo_told_5 : decode b_Mo_told 5 = .ok (.aload_n 0, 1) := by decide +kernel
theorem d_Mo_told_6 : decode b_Mo_told 6 = .ok (.iload_n 1, 1) := by decide +kernel
theorem d_Mo_told_7 : decode b_Mo_told 7 = .ok (.iload_n 2, 1) := by decide +kernel
theorem d_Mo_told_8 : decode b_Mo_told 8 = .ok (.invokevirtual 190, 3) := by decide +kernel
theorem d_Mo_told_11 : decode b_Mo_told 11 = .ok (.istore 4, 2) := by decide +kernel
theorem d_Mo_told_13 : decode b_Mo_told 13 = .ok (.iload 4, 2) := by decide +kernel
theorem d_Mo_told_15 : decode b_Mo_told 15 = .ok (.ifCond .ge 9, 3) := by decide +kernel
theorem d_Mo_told_18 : decode b_Mo_told 18 = .ok (.aload_n 0, 1) := by decide +kernel
theorem d_Mo_told_19 : decode b_Mo_told 19 = .ok (.iconst 1, 1) := by decide +kernel
theorem d_Mo_told_20 : decode b_Mo_told 20 = .ok (.invokevirtual 138, 3) := by decide +kernel
theorem d_Mo_told_23 : decode b_Mo_told 23 = .ok (.ireturn, 1) := by decide +kernel
theorem d_Mo_told_24 : decode b_Mo_told 24 = .ok (.iload_n 3, 1) := by decide +kernel
theorem d_Mo_told_25 : decode b_Mo_told 25 = .ok (.ifCond .lt 17, 3) := by decide +kernel
theorem d_Mo_told_28 : decode b_Mo_told 28 = .ok (.iload_n 3, 1) := by decide +kernel
theorem d_Mo_told_29 : decode b_Mo_told 29 = .ok (.iconst 4, 1) := by decide +kernel
theorem d_Mo_told_30 : decode b_Mo_told 30 = .ok (.if_icmp .gt 12, 3) := by decide +kernel
theorem d_Mo_told_33 : decode b_Mo_told 33 = .ok (.iload_n 3, 1) := by decide +kernel
theorem d_Mo_told_34 : decode b_Mo_told 34 = .ok (.iconst 2, 1) := by decide +kernel
theorem d_Mo_told_35 : decode b_Mo_told 35 = .ok (.if_icmp .le 13, 3) := by decide +kernel
theorem d_Mo_told_38 : decode b_Mo_told 38 = .ok (.iload_n 1, 1) := by decide +kernel
theorem d_Mo_told_39 : decode b_Mo_told 39 = .ok (.ifCond .ne 9, 3) := by decide +kernel
theorem d_Mo_told_42 : decode b_Mo_told 42 = .ok (.aload_n 0, 1) := by decide +kernel
theorem d_Mo_told_43 : decode b_Mo_told 43 = .ok (.iconst 2, 1) := by decide +kernel
theorem d_Mo_told_44 : decode b_Mo_told 44 = .ok (.invokevirtual 138, 3) := by decide +kernel
theorem d_Mo_told_47 : decode b_Mo_told 47 = .ok (.ireturn, 1) := by decide +kernel
theorem d_Mo_told_48 : decode b_Mo_told 48 = .ok (.iload_n 3, 1) := by decide +kernel
theorem d_Mo_told_49 : decode b_Mo_told 49 = .ok (.tableswitch 63 0 3 #[31, 39, 47, 55], 31) := by decide +kernel
theorem d_Mo_told_80 : decode b_Mo_told 80 = .ok (.aload_n 0, 1) := by decide +kernel
theorem d_Mo_told_81 : decode b_Mo_told 81 = .ok (.getfield 22, 3) := by decide +kernel
theorem d_Mo_told_84 : decode b_Mo_told 84 = .ok (.iload 4, 2) := by decide +kernel
theorem d_Mo_told_86 : decode b_Mo_told 86 = .ok (.iaload, 1) := by decide +kernel
theorem d_Mo_told_87 : decode b_Mo_told 87 = .ok (.ireturn, 1) := by decide +kernel
theorem d_Mo_told_88 : decode b_Mo_told 88 = .ok (.aload_n 0, 1) := by decide +kernel
theorem d_Mo_told_89 : decode b_Mo_told 89 = .ok (.getfield 25, 3) := by decide +kernel
theorem d_Mo_told_92 : decode b_Mo_told 92 = .ok (.iload 4, 2) := by decide +kernel
theorem d_Mo_told_94 : decode b_Mo_told 94 = .ok (.iaload, 1) := by decide +kernel
theorem d_Mo_told_95 : decode b_Mo_told 95 = .ok (.ireturn, 1) := by decide +kernel
theorem d_Mo_told_96 : decode b_Mo_told 96 = .ok (.aload_n 0, 1) := by decide +kernel
theorem d_Mo_told_97 : decode b_Mo_told 97 = .ok (.getfield 34, 3) := by decide +kernel
theorem d_Mo_told_100 : decode b_Mo_told 100 = .ok (.iload 4, 2) := by decide +kernel
theorem d_Mo_told_102 : decode b_Mo_told 102 = .ok (.iaload, 1) := by decide +kernel
theorem d_Mo_told_103 : decode b_Mo_told 103 = .ok (.ireturn, 1) := by decide +kernel
theorem d_Mo_told_104 : decode b_Mo_told 104 = .ok (.aload_n 0, 1) := by decide +kernel
theorem d_Mo_told_105 : decode b_Mo_told 105 = .ok (.getfield 40, 3) := by decide +kernel
theorem d_Mo_told_108 : decode b_Mo_told 108 = .ok (.iload 4, 2) := by decide +kernel
theorem d_Mo_told_110 : decode b_Mo_told 110 = .ok (.iaload, 1) := by decide +kernel
theorem d_Mo_told_111 : decode b_Mo_told 111 = .ok (.ireturn, 1) := by decide +kernel
theorem d_Mo_told_112 : decode b_Mo_told 112 = .ok (.aload_n 0, 1) := by decide +kernel
theorem d_Mo_told_113 : decode b_Mo_told 113 = .ok (.getfield 28, 3) := by decide +kernel
theorem d_Mo_told_116 : decode b_Mo_told 116 = .ok (.iload 4, 2) := by decide +kernel
theorem d_Mo_told_118 : decode b_Mo_told 118 = .ok (.iaload, 1) := by decide +kernel
theorem d_Mo_told_119 : decode b_Mo_told 119 = .ok (.ireturn, 1) := by decide +kernel
set_option maxHeartbeats 4000000 in
set_option maxRecDepth 100000 in
/-- the reference: told -/
theorem m_Mo_told (l : Launch) (D9 : va_G) (cB cI cJ cG : ClassId) (a : Nat → Nat) (O : Nat → Int64) (I : Nat → Int32) (F : Nat → Nat → Int32) (es : List En9) (hR : MoR F es) (h18 : I 18 = nI es.length) (hO : okE es) (x y w : Int32) : MC l D9 cB cI cJ cG a O y_Mo_told b_Mo_told 5 (some .int) 1 [.ref (a 33), .int (x), .int (y), .int (w)] I F (fun v I' F' => (rI x y es = none ∧ (∃ u : Int32, v = some (.int u)) ∧ sm [15] I I' ∧ I' 15 = nI 1 ∧ F = F') ∨ (∃ r e, rI x y es = some r ∧ es[r]? = some e ∧ ((tdB x w ∧ (∃ u : Int32, v = some (.int u)) ∧ sm [15] I I' ∧ I' 15 = nI 2 ∧ F = F') ∨ (¬ tdB x w ∧ v = some (.int (tdV e w)) ∧ sm [15] I I' ∧ I' 15 = nI 0 ∧ F = F')))) := by
  refine mc_of (by decide) (Nat.le_of_ble_eq_true rfl) ?_
  intro p e s m below meth c ls A0 Q C0 hP hD hA hS hl hret
  obtain ⟨hx, hb, hml, hr, hlocks, hown, hts, hK⟩ := id C0
  have hl : lv_has ls 5 [(0, .ref (a 33)), (1, .int (x)), (2, .int (y)), (3, .int (w))] := hl
  have hln := okE_len hO
  have k2 := hO.2.2.1
  refine lv_aload_n hx hb d_Mo_told_0 rfl (lv_at hl 0 rfl) ?_
  refine lv_iconst (v := 0) hx hb d_Mo_told_1 (by decide) ?_
  refine lv_topq (y := nI 0) (rfl) ?_
  refine va_put (D := D9) (ty := .int) (ci := 7) (C := R_Mo) (T := F_Mo) (N := 30) hx hb hts i_Mo t_Mo t_Mo_ok n_Mo hown hK hP hD hS 33 ww_33 rfl 0 (by decide) (hts _ g_722) (fun _ h9 => h9) rfl (by decide +kernel) rfl rfl (Nat.le_of_ble_eq_true rfl) d_Mo_told_2 (fun H locs hP hD hS => ?_)
  obtain ⟨I1, aI1, sI1, hP, hD⟩ := fx (P := fun z => va_P D9 cls9 (WW a cB cI cJ cG z _ O) H ∧ va_D A0 (WW a cB cI cJ cG z _ O)) ⟨wp_15 hP, wd_15 hD⟩
  refine lv_aload_n hx hb d_Mo_told_5 rfl (lv_at hl 0 rfl) ?_
  refine lv_iload_n hx hb d_Mo_told_6 rfl (lv_at hl 1 rfl) ?_
  refine lv_iload_n hx hb d_Mo_told_7 rfl (lv_at hl 2 rfl) ?_
  refine mw_cV (ci := 7) (k := 33) C0 (m_Mo_place l D9 cB cI cJ cG a O _ _ es hR ((sI1 18 (by decide)).trans h18) hO x y) g_959 g_8 g_956 g_958 gs_Mo_place ⟨by decide +kernel, by decide +kernel, show Option.map (fun d => d.parameters.length) (parseMethodDescriptor y_Mo_place.desc) = some 2 by decide +kernel⟩ ⟨by decide, by decide⟩ rfl rfl hP hD hS hA rfl ww_33 hl.1 (Nat.le_of_ble_eq_true rfl) rfl d_Mo_told_8 ⟨by decide, by decide⟩ (fun v9 w9 H locs hq hP hD hS => ?_)
  obtain ⟨I2, F3, hw9, q4⟩ := hq
  subst hw9
  obtain ⟨rfl, rfl, rfl⟩ := q4
  cases hr9 : rI x y es with
  | none =>
    refine lv_topq (y := (-1 : Int32)) (rfl) ?_
    refine lv_istore (lv' := [(4, _), (0, _), (1, _), (2, _), (3, _)]) hx hb d_Mo_told_11 hl (by decide) rfl (fun ls hl => ?_)
    refine lv_iload hx hb d_Mo_told_13 (lv_at hl 0 rfl) ?_
    refine lv_if_ge (tgt := 24) hx hb d_Mo_told_15 (by decide) (fun c5 => ?_) (fun c5 => ?_)
    · exact absurd c5 (by decide)
    · refine lv_aload_n hx hb d_Mo_told_18 rfl (lv_at hl 1 rfl) ?_
      refine lv_iconst (v := 1) hx hb d_Mo_told_19 (by decide) ?_
      refine lv_topq (y := nI 1) (rfl) ?_
      refine mw_cV (ci := 7) (k := 33) C0 (m_Mo_fail l D9 cB cI cJ cG a O _ _ (nI 1)) g_873 g_8 g_870 g_872 gs_Mo_fail ⟨by decide +kernel, by decide +kernel, show Option.map (fun d => d.parameters.length) (parseMethodDescriptor y_Mo_fail.desc) = some 1 by decide +kernel⟩ ⟨by decide, by decide⟩ rfl rfl hP hD hS hA rfl ww_33 hl.1 (Nat.le_of_ble_eq_true rfl) rfl d_Mo_told_20 ⟨by decide, by decide⟩ (fun v9 w9 H locs hq hP hD hS => ?_)
      obtain ⟨I6, F7, hw9, q8⟩ := hq
      subst hw9
      obtain ⟨rfl, sI6, zI6, rfl⟩ := q8
      exact hret _ _ _ _ _ _ _ hS hP hD d_Mo_told_23 nr_i (Or.inl ⟨hr9, ⟨_, rfl⟩, (sm_tr (sm_mo sI1 (by decide)) (sm_mo sI6 (by decide))), zI6, rfl⟩)
  | some r9 =>
    refine lv_topq (y := nI r9) (rfl) ?_
    obtain ⟨er9, hrr9, hlr9⟩ := rI_some hr9
    obtain ⟨zr936, zr937, zr938, zr939, zr940, zr941, zr942, zr943⟩ := hR.1 r9 er9 hrr9
    obtain ⟨yr91, yr92, yr93⟩ := hO.2.2.2 er9 (List.mem_of_getElem? hrr9)
    have hofr9 := of9_next hrr9
    have hogr9 := of9_le es (r9 + 1)
    refine lv_istore (lv' := [(4, _), (0, _), (1, _), (2, _), (3, _)]) hx hb d_Mo_told_11 hl (by decide) rfl (fun ls hl => ?_)
    refine lv_iload hx hb d_Mo_told_13 (lv_at hl 0 rfl) ?_
    refine lv_if_ge (tgt := 24) hx hb d_Mo_told_15 (by decide) (fun c9 => ?_) (fun c9 => ?_)
    · have c9 : 0 ≤ r9 := (nI_leI (a := 0) (b := r9) (by omega) (by omega)).mp c9
      rcases pk_ix w (n := 5) (by decide) with h9 | h9 | ⟨j9, hj9, e9⟩
      · have hbad : tdB x w := Or.inl h9
        refine lv_iload_n hx hb d_Mo_told_24 rfl (lv_at hl 4 rfl) ?_
        refine lv_if_lt (tgt := 42) hx hb d_Mo_told_25 (by decide) (fun c10 => ?_) (fun c10 => ?_)
        · refine lv_aload_n hx hb d_Mo_told_42 rfl (lv_at hl 1 rfl) ?_
          refine lv_iconst (v := 2) hx hb d_Mo_told_43 (by decide) ?_
          refine lv_topq (y := nI 2) (rfl) ?_
          refine mw_cV (ci := 7) (k := 33) C0 (m_Mo_fail l D9 cB cI cJ cG a O _ _ (nI 2)) g_873 g_8 g_870 g_872 gs_Mo_fail ⟨by decide +kernel, by decide +kernel, show Option.map (fun d => d.parameters.length) (parseMethodDescriptor y_Mo_fail.desc) = some 1 by decide +kernel⟩ ⟨by decide, by decide⟩ rfl rfl hP hD hS hA rfl ww_33 hl.1 (Nat.le_of_ble_eq_true rfl) rfl d_Mo_told_44 ⟨by decide, by decide⟩ (fun v9 w9 H locs hq hP hD hS => ?_)
          obtain ⟨I11, F12, hw9, q13⟩ := hq
          subst hw9
          obtain ⟨rfl, sI11, zI11, rfl⟩ := q13
          exact hret _ _ _ _ _ _ _ hS hP hD d_Mo_told_47 nr_i (Or.inr ⟨r9, er9, hr9, hrr9, Or.inl ⟨hbad, ⟨_, rfl⟩, (sm_tr (sm_mo sI1 (by decide)) (sm_mo sI11 (by decide))), zI11, rfl⟩⟩)
        · exact absurd h9 c10
      · have hbad : tdB x w := Or.inr (Or.inl (Int32.lt_of_lt_of_le (show nI 4 < nI 5 by decide) h9))
        refine lv_iload_n hx hb d_Mo_told_24 rfl (lv_at hl 4 rfl) ?_
        refine lv_if_lt (tgt := 42) hx hb d_Mo_told_25 (by decide) (fun c14 => ?_) (fun c14 => ?_)
        · exact absurd (Int32.lt_of_le_of_lt (Int32.le_trans (nI_pos' (show 5 < 2 ^ 31 by decide)) h9) c14) (by decide)
        · refine lv_iload_n hx hb d_Mo_told_28 rfl (lv_at hl 4 rfl) ?_
          refine lv_iconst (v := 4) hx hb d_Mo_told_29 (by decide) ?_
          refine lv_topq (y := nI 4) (rfl) ?_
          refine lv_icmp_gt (tgt := 42) hx hb d_Mo_told_30 (by decide) (fun c15 => ?_) (fun c15 => ?_)
          · refine lv_aload_n hx hb d_Mo_told_42 rfl (lv_at hl 1 rfl) ?_
            refine lv_iconst (v := 2) hx hb d_Mo_told_43 (by decide) ?_
            refine lv_topq (y := nI 2) (rfl) ?_
            refine mw_cV (ci := 7) (k := 33) C0 (m_Mo_fail l D9 cB cI cJ cG a O _ _ (nI 2)) g_873 g_8 g_870 g_872 gs_Mo_fail ⟨by decide +kernel, by decide +kernel, show Option.map (fun d => d.parameters.length) (parseMethodDescriptor y_Mo_fail.desc) = some 1 by decide +kernel⟩ ⟨by decide, by decide⟩ rfl rfl hP hD hS hA rfl ww_33 hl.1 (Nat.le_of_ble_eq_true rfl) rfl d_Mo_told_44 ⟨by decide, by decide⟩ (fun v9 w9 H locs hq hP hD hS => ?_)
            obtain ⟨I16, F17, hw9, q18⟩ := hq
            subst hw9
            obtain ⟨rfl, sI16, zI16, rfl⟩ := q18
            exact hret _ _ _ _ _ _ _ hS hP hD d_Mo_told_47 nr_i (Or.inr ⟨r9, er9, hr9, hrr9, Or.inl ⟨hbad, ⟨_, rfl⟩, (sm_tr (sm_mo sI1 (by decide)) (sm_mo sI16 (by decide))), zI16, rfl⟩⟩)
          · exact absurd (Int32.lt_of_lt_of_le (show nI 4 < nI 5 by decide) h9) c15
      · rcases (show j9 = 0 ∨ j9 = 1 ∨ j9 = 2 ∨ j9 = 3 ∨ j9 = 4 by omega) with e8 | e8 | e8 | e8 | e8
        · have e7 : w = nI 0 := by rw [e9, e8]
          rw [e7] at hl
          refine lv_iload_n hx hb d_Mo_told_24 rfl (lv_at hl 4 rfl) ?_
          refine lv_if_lt (tgt := 42) hx hb d_Mo_told_25 (by decide) (fun c19 => ?_) (fun c19 => ?_)
          · exact absurd c19 (by decide)
          · refine lv_iload_n hx hb d_Mo_told_28 rfl (lv_at hl 4 rfl) ?_
            refine lv_iconst (v := 4) hx hb d_Mo_told_29 (by decide) ?_
            refine lv_topq (y := nI 4) (rfl) ?_
            refine lv_icmp_gt (tgt := 42) hx hb d_Mo_told_30 (by decide) (fun c20 => ?_) (fun c20 => ?_)
            · exact absurd c20 (by decide)
            · refine lv_iload_n hx hb d_Mo_told_33 rfl (lv_at hl 4 rfl) ?_
              refine lv_iconst (v := 2) hx hb d_Mo_told_34 (by decide) ?_
              refine lv_topq (y := nI 2) (rfl) ?_
              refine lv_icmp_le (tgt := 48) hx hb d_Mo_told_35 (by decide) (fun c21 => ?_) (fun c21 => ?_)
              · refine lv_iload_n hx hb d_Mo_told_48 rfl (lv_at hl 4 rfl) ?_
                refine lv_tableIn (tgt := 80) hx hb d_Mo_told_49 (by decide) (by decide) rfl (by decide) ?_
                refine lv_aload_n hx hb d_Mo_told_80 rfl (lv_at hl 1 rfl) ?_
                refine va_get (D := D9) (ci := 7) (C := R_Mo) (T := F_Mo) (N := 30) hx hb hts i_Mo hown hK hP 33 ww_33 rfl 9 (by decide) (hts _ g_731) (fun _ h9 => h9) rfl d_Mo_told_81 ?_
                refine lv_iload hx hb d_Mo_told_84 (lv_at hl 0 rfl) ?_
                refine va_iald (D := D9) hx hb hK hP 37 1 ww_37 rfl (vp_in_nI (by omega) (by decide)) d_Mo_told_86 ?_
                refine lv_topq (y := nI (eT er9)) (by rw [nI_clamp (by omega)]; exact zr937) ?_
                exact hret _ _ _ _ _ _ _ hS hP hD d_Mo_told_87 nr_i (Or.inr ⟨r9, er9, hr9, hrr9, Or.inr ⟨fun z9 => by rcases z9 with z9 | z9 | ⟨z9, z8⟩; rw [e7] at z9; exact absurd z9 (by decide); rw [e7] at z9; exact absurd z9 (by decide); rw [e7] at z8; exact absurd z8 (by decide), by rw [e7]; rfl, (sm_mo sI1 (by decide)), aI1, rfl⟩⟩)
              · exact absurd c21 (by decide)
        · have e7 : w = nI 1 := by rw [e9, e8]
          rw [e7] at hl
          refine lv_iload_n hx hb d_Mo_told_24 rfl (lv_at hl 4 rfl) ?_
          refine lv_if_lt (tgt := 42) hx hb d_Mo_told_25 (by decide) (fun c22 => ?_) (fun c22 => ?_)
          · exact absurd c22 (by decide)
          · refine lv_iload_n hx hb d_Mo_told_28 rfl (lv_at hl 4 rfl) ?_
            refine lv_iconst (v := 4) hx hb d_Mo_told_29 (by decide) ?_
            refine lv_topq (y := nI 4) (rfl) ?_
            refine lv_icmp_gt (tgt := 42) hx hb d_Mo_told_30 (by decide) (fun c23 => ?_) (fun c23 => ?_)
            · exact absurd c23 (by decide)
            · refine lv_iload_n hx hb d_Mo_told_33 rfl (lv_at hl 4 rfl) ?_
              refine lv_iconst (v := 2) hx hb d_Mo_told_34 (by decide) ?_
              refine lv_topq (y := nI 2) (rfl) ?_
              refine lv_icmp_le (tgt := 48) hx hb d_Mo_told_35 (by decide) (fun c24 => ?_) (fun c24 => ?_)
              · refine lv_iload_n hx hb d_Mo_told_48 rfl (lv_at hl 4 rfl) ?_
                refine lv_tableIn (tgt := 88) hx hb d_Mo_told_49 (by decide) (by decide) rfl (by decide) ?_
                refine lv_aload_n hx hb d_Mo_told_88 rfl (lv_at hl 1 rfl) ?_
                refine va_get (D := D9) (ci := 7) (C := R_Mo) (T := F_Mo) (N := 30) hx hb hts i_Mo hown hK hP 33 ww_33 rfl 10 (by decide) (hts _ g_732) (fun _ h9 => h9) rfl d_Mo_told_89 ?_
                refine lv_iload hx hb d_Mo_told_92 (lv_at hl 0 rfl) ?_
                refine va_iald (D := D9) hx hb hK hP 38 1 ww_38 rfl (vp_in_nI (by omega) (by decide)) d_Mo_told_94 ?_
                refine lv_topq (y := nI (eK er9)) (by rw [nI_clamp (by omega)]; exact zr938) ?_
                exact hret _ _ _ _ _ _ _ hS hP hD d_Mo_told_95 nr_i (Or.inr ⟨r9, er9, hr9, hrr9, Or.inr ⟨fun z9 => by rcases z9 with z9 | z9 | ⟨z9, z8⟩; rw [e7] at z9; exact absurd z9 (by decide); rw [e7] at z9; exact absurd z9 (by decide); rw [e7] at z8; exact absurd z8 (by decide), by rw [e7]; rfl, (sm_mo sI1 (by decide)), aI1, rfl⟩⟩)
              · exact absurd c24 (by decide)
        · have e7 : w = nI 2 := by rw [e9, e8]
          rw [e7] at hl
          refine lv_iload_n hx hb d_Mo_told_24 rfl (lv_at hl 4 rfl) ?_
          refine lv_if_lt (tgt := 42) hx hb d_Mo_told_25 (by decide) (fun c25 => ?_) (fun c25 => ?_)
          · exact absurd c25 (by decide)
          · refine lv_iload_n hx hb d_Mo_told_28 rfl (lv_at hl 4 rfl) ?_
            refine lv_iconst (v := 4) hx hb d_Mo_told_29 (by decide) ?_
            refine lv_topq (y := nI 4) (rfl) ?_
            refine lv_icmp_gt (tgt := 42) hx hb d_Mo_told_30 (by decide) (fun c26 => ?_) (fun c26 => ?_)
            · exact absurd c26 (by decide)
            · refine lv_iload_n hx hb d_Mo_told_33 rfl (lv_at hl 4 rfl) ?_
              refine lv_iconst (v := 2) hx hb d_Mo_told_34 (by decide) ?_
              refine lv_topq (y := nI 2) (rfl) ?_
              refine lv_icmp_le (tgt := 48) hx hb d_Mo_told_35 (by decide) (fun c27 => ?_) (fun c27 => ?_)
              · refine lv_iload_n hx hb d_Mo_told_48 rfl (lv_at hl 4 rfl) ?_
                refine lv_tableIn (tgt := 96) hx hb d_Mo_told_49 (by decide) (by decide) rfl (by decide) ?_
                refine lv_aload_n hx hb d_Mo_told_96 rfl (lv_at hl 1 rfl) ?_
                refine va_get (D := D9) (ci := 7) (C := R_Mo) (T := F_Mo) (N := 30) hx hb hts i_Mo hown hK hP 33 ww_33 rfl 13 (by decide) (hts _ g_735) (fun _ h9 => h9) rfl d_Mo_told_97 ?_
                refine lv_iload hx hb d_Mo_told_100 (lv_at hl 0 rfl) ?_
                refine va_iald (D := D9) hx hb hK hP 41 1 ww_41 rfl (vp_in_nI (by omega) (by decide)) d_Mo_told_102 ?_
                refine lv_topq (y := nI ((eN er9).length)) (by rw [nI_clamp (by omega)]; exact zr941) ?_
                exact hret _ _ _ _ _ _ _ hS hP hD d_Mo_told_103 nr_i (Or.inr ⟨r9, er9, hr9, hrr9, Or.inr ⟨fun z9 => by rcases z9 with z9 | z9 | ⟨z9, z8⟩; rw [e7] at z9; exact absurd z9 (by decide); rw [e7] at z9; exact absurd z9 (by decide); rw [e7] at z8; exact absurd z8 (by decide), by rw [e7]; rfl, (sm_mo sI1 (by decide)), aI1, rfl⟩⟩)
              · exact absurd c27 (by decide)
        · have e7 : w = nI 3 := by rw [e9, e8]
          rw [e7] at hl
          refine lv_iload_n hx hb d_Mo_told_24 rfl (lv_at hl 4 rfl) ?_
          refine lv_if_lt (tgt := 42) hx hb d_Mo_told_25 (by decide) (fun c28 => ?_) (fun c28 => ?_)
          · exact absurd c28 (by decide)
          · refine lv_iload_n hx hb d_Mo_told_28 rfl (lv_at hl 4 rfl) ?_
            refine lv_iconst (v := 4) hx hb d_Mo_told_29 (by decide) ?_
            refine lv_topq (y := nI 4) (rfl) ?_
            refine lv_icmp_gt (tgt := 42) hx hb d_Mo_told_30 (by decide) (fun c29 => ?_) (fun c29 => ?_)
            · exact absurd c29 (by decide)
            · refine lv_iload_n hx hb d_Mo_told_33 rfl (lv_at hl 4 rfl) ?_
              refine lv_iconst (v := 2) hx hb d_Mo_told_34 (by decide) ?_
              refine lv_topq (y := nI 2) (rfl) ?_
              refine lv_icmp_le (tgt := 48) hx hb d_Mo_told_35 (by decide) (fun c30 => ?_) (fun c30 => ?_)
              · exact absurd c30 (by decide)
              · refine lv_iload_n hx hb d_Mo_told_38 rfl (lv_at hl 2 rfl) ?_
                refine lv_if_ne (tgt := 48) hx hb d_Mo_told_39 (by decide) (fun c31 => ?_) (fun c31 => ?_)
                · refine lv_iload_n hx hb d_Mo_told_48 rfl (lv_at hl 4 rfl) ?_
                  refine lv_tableIn (tgt := 104) hx hb d_Mo_told_49 (by decide) (by decide) rfl (by decide) ?_
                  refine lv_aload_n hx hb d_Mo_told_104 rfl (lv_at hl 1 rfl) ?_
                  refine va_get (D := D9) (ci := 7) (C := R_Mo) (T := F_Mo) (N := 30) hx hb hts i_Mo hown hK hP 33 ww_33 rfl 15 (by decide) (hts _ g_737) (fun _ h9 => h9) rfl d_Mo_told_105 ?_
                  refine lv_iload hx hb d_Mo_told_108 (lv_at hl 0 rfl) ?_
                  refine va_iald (D := D9) hx hb hK hP 43 1 ww_43 rfl (vp_in_nI (by omega) (by decide)) d_Mo_told_110 ?_
                  refine lv_topq (y := nI ((eD er9).length)) (by rw [nI_clamp (by omega)]; exact zr943) ?_
                  exact hret _ _ _ _ _ _ _ hS hP hD d_Mo_told_111 nr_i (Or.inr ⟨r9, er9, hr9, hrr9, Or.inr ⟨fun z9 => by rcases z9 with z9 | z9 | ⟨z9, z8⟩; rw [e7] at z9; exact absurd z9 (by decide); rw [e7] at z9; exact absurd z9 (by decide); exact absurd z9 c31, by rw [e7]; rfl, (sm_mo sI1 (by decide)), aI1, rfl⟩⟩)
                · have hbad : tdB x w := Or.inr (Or.inr ⟨c31, by rw [e7]; decide⟩)
                  refine lv_aload_n hx hb d_Mo_told_42 rfl (lv_at hl 1 rfl) ?_
                  refine lv_iconst (v := 2) hx hb d_Mo_told_43 (by decide) ?_
                  refine lv_topq (y := nI 2) (rfl) ?_
                  refine mw_cV (ci := 7) (k := 33) C0 (m_Mo_fail l D9 cB cI cJ cG a O _ _ (nI 2)) g_873 g_8 g_870 g_872 gs_Mo_fail ⟨by decide +kernel, by decide +kernel, show Option.map (fun d => d.parameters.length) (parseMethodDescriptor y_Mo_fail.desc) = some 1 by decide +kernel⟩ ⟨by decide, by decide⟩ rfl rfl hP hD hS hA rfl ww_33 hl.1 (Nat.le_of_ble_eq_true rfl) rfl d_Mo_told_44 ⟨by decide, by decide⟩ (fun v9 w9 H locs hq hP hD hS => ?_)
                  obtain ⟨I32, F33, hw9, q34⟩ := hq
                  subst hw9
                  obtain ⟨rfl, sI32, zI32, rfl⟩ := q34
                  exact hret _ _ _ _ _ _ _ hS hP hD d_Mo_told_47 nr_i (Or.inr ⟨r9, er9, hr9, hrr9, Or.inl ⟨hbad, ⟨_, rfl⟩, (sm_tr (sm_mo sI1 (by decide)) (sm_mo sI32 (by decide))), zI32, rfl⟩⟩)
        · have e7 : w = nI 4 := by rw [e9, e8]
          rw [e7] at hl
          refine lv_iload_n hx hb d_Mo_told_24 rfl (lv_at hl 4 rfl) ?_
          refine lv_if_lt (tgt := 42) hx hb d_Mo_told_25 (by decide) (fun c35 => ?_) (fun c35 => ?_)
          · exact absurd c35 (by decide)
          · refine lv_iload_n hx hb d_Mo_told_28 rfl (lv_at hl 4 rfl) ?_
            refine lv_iconst (v := 4) hx hb d_Mo_told_29 (by decide) ?_
            refine lv_topq (y := nI 4) (rfl) ?_
            refine lv_icmp_gt (tgt := 42) hx hb d_Mo_told_30 (by decide) (fun c36 => ?_) (fun c36 => ?_)
            · exact absurd c36 (by decide)
            · refine lv_iload_n hx hb d_Mo_told_33 rfl (lv_at hl 4 rfl) ?_
              refine lv_iconst (v := 2) hx hb d_Mo_told_34 (by decide) ?_
              refine lv_topq (y := nI 2) (rfl) ?_
              refine lv_icmp_le (tgt := 48) hx hb d_Mo_told_35 (by decide) (fun c37 => ?_) (fun c37 => ?_)
              · exact absurd c37 (by decide)
              · refine lv_iload_n hx hb d_Mo_told_38 rfl (lv_at hl 2 rfl) ?_
                refine lv_if_ne (tgt := 48) hx hb d_Mo_told_39 (by decide) (fun c38 => ?_) (fun c38 => ?_)
                · refine lv_iload_n hx hb d_Mo_told_48 rfl (lv_at hl 4 rfl) ?_
                  refine lv_tableOut (tgt := 112) hx hb d_Mo_told_49 (Or.inr (by decide)) (by decide) ?_
                  refine lv_aload_n hx hb d_Mo_told_112 rfl (lv_at hl 1 rfl) ?_
                  refine va_get (D := D9) (ci := 7) (C := R_Mo) (T := F_Mo) (N := 30) hx hb hts i_Mo hown hK hP 33 ww_33 rfl 11 (by decide) (hts _ g_733) (fun _ h9 => h9) rfl d_Mo_told_113 ?_
                  refine lv_iload hx hb d_Mo_told_116 (lv_at hl 0 rfl) ?_
                  refine va_iald (D := D9) hx hb hK hP 39 1 ww_39 rfl (vp_in_nI (by omega) (by decide)) d_Mo_told_118 ?_
                  refine lv_topq (y := eL er9) (by rw [nI_clamp (by omega)]; exact zr939) ?_
                  exact hret _ _ _ _ _ _ _ hS hP hD d_Mo_told_119 nr_i (Or.inr ⟨r9, er9, hr9, hrr9, Or.inr ⟨fun z9 => by rcases z9 with z9 | z9 | ⟨z9, z8⟩; rw [e7] at z9; exact absurd z9 (by decide); rw [e7] at z9; exact absurd z9 (by decide); exact absurd z9 c38, by rw [e7]; rfl, (sm_mo sI1 (by decide)), aI1, rfl⟩⟩)
                · have hbad : tdB x w := Or.inr (Or.inr ⟨c38, by rw [e7]; decide⟩)
                  refine lv_aload_n hx hb d_Mo_told_42 rfl (lv_at hl 1 rfl) ?_
                  refine lv_iconst (v := 2) hx hb d_Mo_told_43 (by decide) ?_
                  refine lv_topq (y := nI 2) (rfl) ?_
                  refine mw_cV (ci := 7) (k := 33) C0 (m_Mo_fail l D9 cB cI cJ cG a O _ _ (nI 2)) g_873 g_8 g_870 g_872 gs_Mo_fail ⟨by decide +kernel, by decide +kernel, show Option.map (fun d => d.parameters.length) (parseMethodDescriptor y_Mo_fail.desc) = some 1 by decide +kernel⟩ ⟨by decide, by decide⟩ rfl rfl hP hD hS hA rfl ww_33 hl.1 (Nat.le_of_ble_eq_true rfl) rfl d_Mo_told_44 ⟨by decide, by decide⟩ (fun v9 w9 H locs hq hP hD hS => ?_)
                  obtain ⟨I39, F40, hw9, q41⟩ := hq
                  subst hw9
                  obtain ⟨rfl, sI39, zI39, rfl⟩ := q41
                  exact hret _ _ _ _ _ _ _ hS hP hD d_Mo_told_47 nr_i (Or.inr ⟨r9, er9, hr9, hrr9, Or.inl ⟨hbad, ⟨_, rfl⟩, (sm_tr (sm_mo sI1 (by decide)) (sm_mo sI39 (by decide))), zI39, rfl⟩⟩)
    · have c9 : ¬ (0 ≤ r9) := fun z9 => c9 ((nI_leI (a := 0) (b := r9) (by omega) (by omega)).mpr z9)
      exfalso; omega
set_option maxHeartbeats 4000000 in
set_option maxRecDepth 100000 in
/-- the reference: byteOf -/
theorem m_Mo_byteOf (l : Launch) (D9 : va_G) (cB cI cJ cG : ClassId) (a : Nat → Nat) (O : Nat → Int64) (I : Nat → Int32) (F : Nat → Nat → Int32) (es : List En9) (hR : MoR F es) (h18 : I 18 = nI es.length) (hO : okE es) (x y w : Int32) : MC l D9 cB cI cJ cG a O y_Mo_byteOf b_Mo_byteOf 5 (some .int) 1 [.ref (a 33), .int (x), .int (y), .int (w)] I F (fun v I' F' => (rI x y es = none ∧ (∃ u : Int32, v = some (.int u)) ∧ sm [15] I I' ∧ I' 15 = nI 1 ∧ F = F') ∨ (∃ r e, rI x y es = some r ∧ es[r]? = some e ∧ (((∀ j, j < (eN e).length + (eD e).length → w ≠ nI j) ∧ (∃ u : Int32, v = some (.int u)) ∧ sm [15] I I' ∧ I' 15 = nI 2 ∧ F = F') ∨ (∃ j, j < (eN e).length + (eD e).length ∧ w = nI j ∧ v = some (.int (nI (tb (eN e ++ eD e) j))) ∧ sm [15] I I' ∧ I' 15 = nI 0 ∧ F = F')))) := by
  refine mc_of (by decide) (Nat.le_of_ble_eq_true rfl) ?_
  intro p e s m below meth c ls A0 Q C0 hP hD hA hS hl hret
  obtain ⟨hx, hb, hml, hr, hlocks, hown, hts, hK⟩ := id C0
  have hl : lv_has ls 5 [(0, .ref (a 33)), (1, .int (x)), (2, .int (y)), (3, .int (w))] := hl
  have hln := okE_len hO
  have k2 := hO.2.2.1
  refine lv_aload_n hx hb d_Mo_byteOf_0 rfl (lv_at hl 0 rfl) ?_
  refine lv_iconst (v := 0) hx hb d_Mo_byteOf_1 (by decide) ?_
  refine lv_topq (y := nI 0) (rfl) ?_
  refine va_put (D := D9) (ty := .int) (ci := 7) (C := R_Mo) (T := F_Mo) (N := 30) hx hb hts i_Mo t_Mo t_Mo_ok n_Mo hown hK hP hD hS 33 ww_33 rfl 0 (by decide) (hts _ g_722) (fun _ h9 => h9) rfl (by decide +kernel) rfl rfl (Nat.le_of_ble_eq_true rfl) d_Mo_byteOf_2 (fun H locs hP hD hS => ?_)
  obtain ⟨I1, aI1, sI1, hP, hD⟩ := fx (P := fun z => va_P D9 cls9 (WW a cB cI cJ cG z _ O) H ∧ va_D A0 (WW a cB cI cJ cG z _ O)) ⟨wp_15 hP, wd_15 hD⟩
  refine lv_aload_n hx hb d_Mo_byteOf_5 rfl (lv_at hl 0 rfl) ?_
  refine lv_iload_n hx hb d_Mo_byteOf_6 rfl (lv_at hl 1 rfl) ?_
  refine lv_iload_n hx hb d_Mo_byteOf_7 rfl (lv_at hl 2 rfl) ?_
  refine mw_cV (ci := 7) (k := 33) C0 (m_Mo_place l D9 cB cI cJ cG a O _ _ es hR ((sI1 18 (by decide)).trans h18) hO x y) g_959 g_8 g_956 g_958 gs_Mo_place ⟨by decide +kernel, by decide +kernel, show Option.map (fun d => d.parameters.length) (parseMethodDescriptor y_Mo_place.desc) = some 2 by decide +kernel⟩ ⟨by decide, by decide⟩ rfl rfl hP hD hS hA rfl ww_33 hl.1 (Nat.le_of_ble_eq_true rfl) rfl d_Mo_byteOf_8 ⟨by decide, by decide⟩ (fun v9 w9 H locs hq hP hD hS => ?_)
  obtain ⟨I2, F3, hw9, q4⟩ := hq
  subst hw9
  obtain ⟨rfl, rfl, rfl⟩ := q4
  cases hr9 : rI x y es with
  | none =>
    refine lv_topq (y := (-1 : Int32)) (rfl) ?_
    refine lv_istore (lv' := [(4, _), (0, _), (1, _), (2, _), (3, _)]) hx hb d_Mo_byteOf_11 hl (by decide) rfl (fun ls hl => ?_)
    refine lv_iload hx hb d_Mo_byteOf_13 (lv_at hl 0 rfl) ?_
    refine lv_if_ge (tgt := 24) hx hb d_Mo_byteOf_15 (by decide) (fun c5 => ?_) (fun c5 => ?_)
    · exact absurd c5 (by decide)
    · refine lv_aload_n hx hb d_Mo_byteOf_18 rfl (lv_at hl 1 rfl) ?_
      refine lv_iconst (v := 1) hx hb d_Mo_byteOf_19 (by decide) ?_
      refine lv_topq (y := nI 1) (rfl) ?_
      refine mw_cV (ci := 7) (k := 33) C0 (m_Mo_fail l D9 cB cI cJ cG a O _ _ (nI 1)) g_873 g_8 g_870 g_872 gs_Mo_fail ⟨by decide +kernel, by decide +kernel, show Option.map (fun d => d.parameters.length) (parseMethodDescriptor y_Mo_fail.desc) = some 1 by decide +kernel⟩ ⟨by decide, by decide⟩ rfl rfl hP hD hS hA rfl ww_33 hl.1 (Nat.le_of_ble_eq_true rfl) rfl d_Mo_byteOf_20 ⟨by decide, by decide⟩ (fun v9 w9 H locs hq hP hD hS => ?_)
      obtain ⟨I6, F7, hw9, q8⟩ := hq
      subst hw9
      obtain ⟨rfl, sI6, zI6, rfl⟩ := q8
      exact hret _ _ _ _ _ _ _ hS hP hD d_Mo_byteOf_23 nr_i (Or.inl ⟨hr9, ⟨_, rfl⟩, (sm_tr (sm_mo sI1 (by decide)) (sm_mo sI6 (by decide))), zI6, rfl⟩)
  | some r9 =>
    refine lv_topq (y := nI r9) (rfl) ?_
    obtain ⟨er9, hrr9, hlr9⟩ := rI_some hr9
    obtain ⟨zr936, zr937, zr938, zr939, zr940, zr941, zr942, zr943⟩ := hR.1 r9 er9 hrr9
    obtain ⟨yr91, yr92, yr93⟩ := hO.2.2.2 er9 (List.mem_of_getElem? hrr9)
    have hofr9 := of9_next hrr9
    have hogr9 := of9_le es (r9 + 1)
    refine lv_istore (lv' := [(4, _), (0, _), (1, _), (2, _), (3, _)]) hx hb d_Mo_byteOf_11 hl (by decide) rfl (fun ls hl => ?_)
    refine lv_iload hx hb d_Mo_byteOf_13 (lv_at hl 0 rfl) ?_
    refine lv_if_ge (tgt := 24) hx hb d_Mo_byteOf_15 (by decide) (fun c9 => ?_) (fun c9 => ?_)
    · have c9 : 0 ≤ r9 := (nI_leI (a := 0) (b := r9) (by omega) (by omega)).mp c9
      rcases pk_ix w (n := (eN er9).length + (eD er9).length) (by omega) with h9 | h9 | ⟨j9, hj9, e9⟩
      · have hbad : ∀ j, j < (eN er9).length + (eD er9).length → w ≠ nI j := fun j hj z9 => by rw [z9] at h9; exact nI_pos (by omega) h9
        refine lv_iload_n hx hb d_Mo_byteOf_24 rfl (lv_at hl 4 rfl) ?_
        refine lv_if_lt (tgt := 47) hx hb d_Mo_byteOf_25 (by decide) (fun c10 => ?_) (fun c10 => ?_)
        · refine lv_aload_n hx hb d_Mo_byteOf_47 rfl (lv_at hl 1 rfl) ?_
          refine lv_iconst (v := 2) hx hb d_Mo_byteOf_48 (by decide) ?_
          refine lv_topq (y := nI 2) (rfl) ?_
          refine mw_cV (ci := 7) (k := 33) C0 (m_Mo_fail l D9 cB cI cJ cG a O _ _ (nI 2)) g_873 g_8 g_870 g_872 gs_Mo_fail ⟨by decide +kernel, by decide +kernel, show Option.map (fun d => d.parameters.length) (parseMethodDescriptor y_Mo_fail.desc) = some 1 by decide +kernel⟩ ⟨by decide, by decide⟩ rfl rfl hP hD hS hA rfl ww_33 hl.1 (Nat.le_of_ble_eq_true rfl) rfl d_Mo_byteOf_49 ⟨by decide, by decide⟩ (fun v9 w9 H locs hq hP hD hS => ?_)
          obtain ⟨I11, F12, hw9, q13⟩ := hq
          subst hw9
          obtain ⟨rfl, sI11, zI11, rfl⟩ := q13
          exact hret _ _ _ _ _ _ _ hS hP hD d_Mo_byteOf_52 nr_i (Or.inr ⟨r9, er9, hr9, hrr9, Or.inl ⟨hbad, ⟨_, rfl⟩, (sm_tr (sm_mo sI1 (by decide)) (sm_mo sI11 (by decide))), zI11, rfl⟩⟩)
        · exact absurd h9 c10
      · have hbad : ∀ j, j < (eN er9).length + (eD er9).length → w ≠ nI j := fun j hj z9 => by rw [z9] at h9; exact nI_ge hj (by omega) h9
        refine lv_iload_n hx hb d_Mo_byteOf_24 rfl (lv_at hl 4 rfl) ?_
        refine lv_if_lt (tgt := 47) hx hb d_Mo_byteOf_25 (by decide) (fun c14 => ?_) (fun c14 => ?_)
        · exact absurd (Int32.lt_of_le_of_lt (Int32.le_trans (nI_pos' (show (eN er9).length + (eD er9).length < 2 ^ 31 by omega)) h9) c14) (by decide)
        · refine lv_iload_n hx hb d_Mo_byteOf_28 rfl (lv_at hl 4 rfl) ?_
          refine lv_aload_n hx hb d_Mo_byteOf_29 rfl (lv_at hl 1 rfl) ?_
          refine va_get (D := D9) (ci := 7) (C := R_Mo) (T := F_Mo) (N := 30) hx hb hts i_Mo hown hK hP 33 ww_33 rfl 13 (by decide) (hts _ g_735) (fun _ h9 => h9) rfl d_Mo_byteOf_30 ?_
          refine lv_iload hx hb d_Mo_byteOf_33 (lv_at hl 0 rfl) ?_
          refine va_iald (D := D9) hx hb hK hP 41 1 ww_41 rfl (vp_in_nI (by omega) (by decide)) d_Mo_byteOf_35 ?_
          refine lv_topq (y := nI ((eN er9).length)) (by rw [nI_clamp (by omega)]; exact zr941) ?_
          refine lv_aload_n hx hb d_Mo_byteOf_36 rfl (lv_at hl 1 rfl) ?_
          refine va_get (D := D9) (ci := 7) (C := R_Mo) (T := F_Mo) (N := 30) hx hb hts i_Mo hown hK hP 33 ww_33 rfl 15 (by decide) (hts _ g_737) (fun _ h9 => h9) rfl d_Mo_byteOf_37 ?_
          refine lv_iload hx hb d_Mo_byteOf_40 (lv_at hl 0 rfl) ?_
          refine va_iald (D := D9) hx hb hK hP 43 1 ww_43 rfl (vp_in_nI (by omega) (by decide)) d_Mo_byteOf_42 ?_
          refine lv_topq (y := nI ((eD er9).length)) (by rw [nI_clamp (by omega)]; exact zr943) ?_
          refine lv_iadd hx hb d_Mo_byteOf_43 ?_
          refine lv_topq (y := nI ((eN er9).length + ((eD er9).length))) (nI_add _ _) ?_
          refine lv_icmp_lt (tgt := 53) hx hb d_Mo_byteOf_44 (by decide) (fun c15 => ?_) (fun c15 => ?_)
          · exact absurd (Int32.lt_of_le_of_lt h9 c15) (by simp)
          · refine lv_aload_n hx hb d_Mo_byteOf_47 rfl (lv_at hl 1 rfl) ?_
            refine lv_iconst (v := 2) hx hb d_Mo_byteOf_48 (by decide) ?_
            refine lv_topq (y := nI 2) (rfl) ?_
            refine mw_cV (ci := 7) (k := 33) C0 (m_Mo_fail l D9 cB cI cJ cG a O _ _ (nI 2)) g_873 g_8 g_870 g_872 gs_Mo_fail ⟨by decide +kernel, by decide +kernel, show Option.map (fun d => d.parameters.length) (parseMethodDescriptor y_Mo_fail.desc) = some 1 by decide +kernel⟩ ⟨by decide, by decide⟩ rfl rfl hP hD hS hA rfl ww_33 hl.1 (Nat.le_of_ble_eq_true rfl) rfl d_Mo_byteOf_49 ⟨by decide, by decide⟩ (fun v9 w9 H locs hq hP hD hS => ?_)
            obtain ⟨I16, F17, hw9, q18⟩ := hq
            subst hw9
            obtain ⟨rfl, sI16, zI16, rfl⟩ := q18
            exact hret _ _ _ _ _ _ _ hS hP hD d_Mo_byteOf_52 nr_i (Or.inr ⟨r9, er9, hr9, hrr9, Or.inl ⟨hbad, ⟨_, rfl⟩, (sm_tr (sm_mo sI1 (by decide)) (sm_mo sI16 (by decide))), zI16, rfl⟩⟩)
      · rw [e9] at hl
        have hft := fl_tb hrr9 hj9
        have hgt : ub (F 35 (of9 es r9 + j9)) = tb (fl es) (of9 es r9 + j9) := BR_tb hR.2 (by omega) (by omega) (by omega)
        refine lv_iload_n hx hb d_Mo_byteOf_24 rfl (lv_at hl 4 rfl) ?_
        refine lv_if_lt (tgt := 47) hx hb d_Mo_byteOf_25 (by decide) (fun c19 => ?_) (fun c19 => ?_)
        · have c19 : j9 < 0 := (nI_ltI (a := j9) (b := 0) (by omega) (by omega)).mp c19
          exfalso; omega
        · have c19 : ¬ (j9 < 0) := fun z9 => c19 ((nI_ltI (a := j9) (b := 0) (by omega) (by omega)).mpr z9)
          refine lv_iload_n hx hb d_Mo_byteOf_28 rfl (lv_at hl 4 rfl) ?_
          refine lv_aload_n hx hb d_Mo_byteOf_29 rfl (lv_at hl 1 rfl) ?_
          refine va_get (D := D9) (ci := 7) (C := R_Mo) (T := F_Mo) (N := 30) hx hb hts i_Mo hown hK hP 33 ww_33 rfl 13 (by decide) (hts _ g_735) (fun _ h9 => h9) rfl d_Mo_byteOf_30 ?_
          refine lv_iload hx hb d_Mo_byteOf_33 (lv_at hl 0 rfl) ?_
          refine va_iald (D := D9) hx hb hK hP 41 1 ww_41 rfl (vp_in_nI (by omega) (by decide)) d_Mo_byteOf_35 ?_
          refine lv_topq (y := nI ((eN er9).length)) (by rw [nI_clamp (by omega)]; exact zr941) ?_
          refine lv_aload_n hx hb d_Mo_byteOf_36 rfl (lv_at hl 1 rfl) ?_
          refine va_get (D := D9) (ci := 7) (C := R_Mo) (T := F_Mo) (N := 30) hx hb hts i_Mo hown hK hP 33 ww_33 rfl 15 (by decide) (hts _ g_737) (fun _ h9 => h9) rfl d_Mo_byteOf_37 ?_
          refine lv_iload hx hb d_Mo_byteOf_40 (lv_at hl 0 rfl) ?_
          refine va_iald (D := D9) hx hb hK hP 43 1 ww_43 rfl (vp_in_nI (by omega) (by decide)) d_Mo_byteOf_42 ?_
          refine lv_topq (y := nI ((eD er9).length)) (by rw [nI_clamp (by omega)]; exact zr943) ?_
          refine lv_iadd hx hb d_Mo_byteOf_43 ?_
          refine lv_topq (y := nI ((eN er9).length + ((eD er9).length))) (nI_add _ _) ?_
          refine lv_icmp_lt (tgt := 53) hx hb d_Mo_byteOf_44 (by decide) (fun c20 => ?_) (fun c20 => ?_)
          · have c20 : j9 < (eN er9).length + ((eD er9).length) := (nI_ltI (a := j9) (b := (eN er9).length + ((eD er9).length)) (by omega) (by omega)).mp c20
            refine lv_aload_n hx hb d_Mo_byteOf_53 rfl (lv_at hl 1 rfl) ?_
            refine va_get (D := D9) (ci := 7) (C := R_Mo) (T := F_Mo) (N := 30) hx hb hts i_Mo hown hK hP 33 ww_33 rfl 3 (by decide) (hts _ g_725) (fun _ h9 => h9) rfl d_Mo_byteOf_54 ?_
            refine lv_iload_n hx hb d_Mo_byteOf_57 rfl (lv_at hl 4 rfl) ?_
            refine lv_aload_n hx hb d_Mo_byteOf_58 rfl (lv_at hl 1 rfl) ?_
            refine va_get (D := D9) (ci := 7) (C := R_Mo) (T := F_Mo) (N := 30) hx hb hts i_Mo hown hK hP 33 ww_33 rfl 13 (by decide) (hts _ g_735) (fun _ h9 => h9) rfl d_Mo_byteOf_59 ?_
            refine lv_iload hx hb d_Mo_byteOf_62 (lv_at hl 0 rfl) ?_
            refine va_iald (D := D9) hx hb hK hP 41 1 ww_41 rfl (vp_in_nI (by omega) (by decide)) d_Mo_byteOf_64 ?_
            refine lv_topq (y := nI ((eN er9).length)) (by rw [nI_clamp (by omega)]; exact zr941) ?_
            refine lv_icmp_ge (tgt := 80) hx hb d_Mo_byteOf_65 (by decide) (fun c21 => ?_) (fun c21 => ?_)
            · have c21 : (eN er9).length ≤ j9 := (nI_leI (a := (eN er9).length) (b := j9) (by omega) (by omega)).mp c21
              refine lv_aload_n hx hb d_Mo_byteOf_80 rfl (lv_at hl 1 rfl) ?_
              refine va_get (D := D9) (ci := 7) (C := R_Mo) (T := F_Mo) (N := 30) hx hb hts i_Mo hown hK hP 33 ww_33 rfl 14 (by decide) (hts _ g_736) (fun _ h9 => h9) rfl d_Mo_byteOf_81 ?_
              refine lv_iload hx hb d_Mo_byteOf_84 (lv_at hl 0 rfl) ?_
              refine va_iald (D := D9) hx hb hK hP 42 1 ww_42 rfl (vp_in_nI (by omega) (by decide)) d_Mo_byteOf_86 ?_
              refine lv_topq (y := nI (of9 es r9 + (eN er9).length)) (by rw [nI_clamp (by omega)]; exact zr942) ?_
              refine lv_iload_n hx hb d_Mo_byteOf_87 rfl (lv_at hl 4 rfl) ?_
              refine lv_iadd hx hb d_Mo_byteOf_88 ?_
              refine lv_topq (y := nI (of9 es r9 + (eN er9).length + j9)) (nI_add _ _) ?_
              refine lv_aload_n hx hb d_Mo_byteOf_89 rfl (lv_at hl 1 rfl) ?_
              refine va_get (D := D9) (ci := 7) (C := R_Mo) (T := F_Mo) (N := 30) hx hb hts i_Mo hown hK hP 33 ww_33 rfl 13 (by decide) (hts _ g_735) (fun _ h9 => h9) rfl d_Mo_byteOf_90 ?_
              refine lv_iload hx hb d_Mo_byteOf_93 (lv_at hl 0 rfl) ?_
              refine va_iald (D := D9) hx hb hK hP 41 1 ww_41 rfl (vp_in_nI (by omega) (by decide)) d_Mo_byteOf_95 ?_
              refine lv_topq (y := nI ((eN er9).length)) (by rw [nI_clamp (by omega)]; exact zr941) ?_
              refine lv_isub hx hb d_Mo_byteOf_96 ?_
              refine lv_topq (y := nI (of9 es r9 + j9)) ((pk_sub (by omega)).trans (congrArg nI (by omega))) ?_
              refine va_bald (D := D9) hx hb hK hP 35 0 ww_35 rfl (vp_in_nI (by omega) (by decide)) d_Mo_byteOf_97 ?_
              refine lv_topq (y := F 35 (of9 es r9 + j9)) ((by rw [nI_clamp (by omega)])) ?_
              refine lv_sipush (v := 255) hx hb d_Mo_byteOf_98 (by decide) ?_
              refine lv_topq (y := nI 255) (rfl) ?_
              refine lv_iand hx hb d_Mo_byteOf_101 ?_
              refine lv_topq (y := nI (tb (eN er9 ++ eD er9) j9)) ((ub_and _).trans (congrArg nI (hgt.trans hft))) ?_
              exact hret _ _ _ _ _ _ _ hS hP hD d_Mo_byteOf_102 nr_i (Or.inr ⟨r9, er9, hr9, hrr9, Or.inr ⟨j9, hj9, e9, rfl, (sm_mo sI1 (by decide)), aI1, rfl⟩⟩)
            · have c21 : ¬ ((eN er9).length ≤ j9) := fun z9 => c21 ((nI_leI (a := (eN er9).length) (b := j9) (by omega) (by omega)).mpr z9)
              refine lv_aload_n hx hb d_Mo_byteOf_68 rfl (lv_at hl 1 rfl) ?_
              refine va_get (D := D9) (ci := 7) (C := R_Mo) (T := F_Mo) (N := 30) hx hb hts i_Mo hown hK hP 33 ww_33 rfl 12 (by decide) (hts _ g_734) (fun _ h9 => h9) rfl d_Mo_byteOf_69 ?_
              refine lv_iload hx hb d_Mo_byteOf_72 (lv_at hl 0 rfl) ?_
              refine va_iald (D := D9) hx hb hK hP 40 1 ww_40 rfl (vp_in_nI (by omega) (by decide)) d_Mo_byteOf_74 ?_
              refine lv_topq (y := nI (of9 es r9)) (by rw [nI_clamp (by omega)]; exact zr940) ?_
              refine lv_iload_n hx hb d_Mo_byteOf_75 rfl (lv_at hl 4 rfl) ?_
              refine lv_iadd hx hb d_Mo_byteOf_76 ?_
              refine lv_topq (y := nI (of9 es r9 + j9)) (nI_add _ _) ?_
              refine lv_goto (tgt := 97) hx hb d_Mo_byteOf_77 (by decide) ?_
              refine va_bald (D := D9) hx hb hK hP 35 0 ww_35 rfl (vp_in_nI (by omega) (by decide)) d_Mo_byteOf_97 ?_
              refine lv_topq (y := F 35 (of9 es r9 + j9)) ((by rw [nI_clamp (by omega)])) ?_
              refine lv_sipush (v := 255) hx hb d_Mo_byteOf_98 (by decide) ?_
              refine lv_topq (y := nI 255) (rfl) ?_
              refine lv_iand hx hb d_Mo_byteOf_101 ?_
              refine lv_topq (y := nI (tb (eN er9 ++ eD er9) j9)) ((ub_and _).trans (congrArg nI (hgt.trans hft))) ?_
              exact hret _ _ _ _ _ _ _ hS hP hD d_Mo_byteOf_102 nr_i (Or.inr ⟨r9, er9, hr9, hrr9, Or.inr ⟨j9, hj9, e9, rfl, (sm_mo sI1 (by decide)), aI1, rfl⟩⟩)
          · have c20 : ¬ (j9 < (eN er9).length + ((eD er9).length)) := fun z9 => c20 ((nI_ltI (a := j9) (b := (eN er9).length + ((eD er9).length)) (by omega) (by omega)).mpr z9)
            exfalso; omega
    · have c9 : ¬ (0 ≤ r9) := fun z9 => c9 ((nI_leI (a := 0) (b := r9) (by omega) (by omega)).mpr z9)
      exfalso; omega
set_option maxHeartbeats 4000000 in
set_option maxRecDepth 100000 in
/-- the reference: feed -/
theorem m_Mo_feed (l : Launch) (D9 : va_G) (cB cI cJ cG : ClassId) (a : Nat → Nat) (O : Nat → Int64) (I : Nat → Int32) (F : Nat → Nat → Int32) (t : List Nat) (hT : BR 0 65536 (F 34) t) (h16 : I 16 = nI t.length) (htl : t.length ≤ 65536) (v1 v2 v3 v4 v5 : Int32) : MC l D9 cB cI cJ cG a O y_Mo_feed b_Mo_feed 8 (some .int) 1 [.ref (a 33), .int (v1), .int (v2), .int (v3), .int (v4), .int (v5)] I F (fun v I' F' => (t.length ≤ 65516 ∧ v = some (.int (nI (t.length + 20))) ∧ sm [15, 16] I I' ∧ I' 15 = nI 0 ∧ I' 16 = nI (t.length + 20) ∧ sm [34] F F' ∧ BR 0 65536 (F' 34) (t ++ (b4 v1 ++ (b4 v2 ++ (b4 v3 ++ (b4 v4 ++ b4 v5)))))) ∨ (65516 < t.length ∧ (∃ w : Int32, v = some (.int w)) ∧ sm [15] I I' ∧ I' 15 = nI 1 ∧ F = F')) := by
  refine mc_of (by decide) (Nat.le_of_ble_eq_true rfl) ?_
  intro p e s m below meth c ls A0 Q C0 hP hD hA hS hl hret
  obtain ⟨hx, hb, hml, hr, hlocks, hown, hts, hK⟩ := id C0
  have hl : lv_has ls 8 [(0, .ref (a 33)), (1, .int (v1)), (2, .int (v2)), (3, .int (v3)), (4, .int (v4)), (5, .int (v5))] := hl
  refine lv_aload_n hx hb d_Mo_feed_0 rfl (lv_at hl 0 rfl) ?_
  refine lv_iconst (v := 0) hx hb d_Mo_feed_1 (by decide) ?_
  refine lv_topq (y := nI 0) (rfl) ?_
  refine va_put (D := D9) (ty := .int) (ci := 7) (C := R_Mo) (T := F_Mo) (N := 30) hx hb hts i_Mo t_Mo t_Mo_ok n_Mo hown hK hP hD hS 33 ww_33 rfl 0 (by decide) (hts _ g_722) (fun _ h9 => h9) rfl (by decide +kernel) rfl rfl (Nat.le_of_ble_eq_true rfl) d_Mo_feed_2 (fun H locs hP hD hS => ?_)
  obtain ⟨I1, aI1, sI1, hP, hD⟩ := fx (P := fun z => va_P D9 cls9 (WW a cB cI cJ cG z _ O) H ∧ va_D A0 (WW a cB cI cJ cG z _ O)) ⟨wp_15 hP, wd_15 hD⟩
  refine lv_aload_n hx hb d_Mo_feed_5 rfl (lv_at hl 0 rfl) ?_
  refine va_get (D := D9) (ci := 7) (C := R_Mo) (T := F_Mo) (N := 30) hx hb hts i_Mo hown hK hP 33 ww_33 rfl 2 (by decide) (hts _ g_724) (fun _ h9 => h9) rfl d_Mo_feed_6 ?_
  refine lv_topq (y := nI t.length) (((sI1 16 (by decide)).trans h16)) ?_
  refine lv_ldc hx hb hown (hts _ g_869) d_Mo_feed_9 ?_
  refine lv_topq (y := nI 65516) (rfl) ?_
  refine lv_icmp_le (tgt := 20) hx hb d_Mo_feed_11 (by decide) (fun c2 => ?_) (fun c2 => ?_)
  · have c2 : t.length ≤ 65516 := (nI_leI (a := t.length) (b := 65516) (by omega) (by omega)).mp c2
    refine lv_iconst (v := 0) hx hb d_Mo_feed_20 (by decide) ?_
    refine lv_topq (y := nI 0) (rfl) ?_
    refine lv_istore (lv' := [(6, _), (0, _), (1, _), (2, _), (3, _), (4, _), (5, _)]) hx hb d_Mo_feed_21 hl (by decide) rfl (fun ls hl => ?_)
    refine lv_iload hx hb d_Mo_feed_23 (lv_at hl 0 rfl) ?_
    refine lv_bipush (v := 20) hx hb d_Mo_feed_25 (by decide) ?_
    refine lv_topq (y := nI 20) (rfl) ?_
    refine lv_icmp_ge (tgt := 109) hx hb d_Mo_feed_27 (by decide) (fun c3 => ?_) (fun c3 => ?_)
    · exact absurd c3 (by decide)
    · refine lv_iload hx hb d_Mo_feed_30 (lv_at hl 0 rfl) ?_
      refine lv_iconst (v := 4) hx hb d_Mo_feed_32 (by decide) ?_
      refine lv_topq (y := nI 4) (rfl) ?_
      refine lv_icmp_ge (tgt := 40) hx hb d_Mo_feed_33 (by decide) (fun c4 => ?_) (fun c4 => ?_)
      · exact absurd c4 (by decide)
      · refine lv_iload_n hx hb d_Mo_feed_36 rfl (lv_at hl 2 rfl) ?_
        refine lv_goto (tgt := 76) hx hb d_Mo_feed_37 (by decide) ?_
        refine lv_istore (lv' := [(7, _), (6, _), (0, _), (1, _), (2, _), (3, _), (4, _), (5, _)]) hx hb d_Mo_feed_76 hl (by decide) rfl (fun ls hl => ?_)
        refine lv_aload_n hx hb d_Mo_feed_78 rfl (lv_at hl 2 rfl) ?_
        refine va_get (D := D9) (ci := 7) (C := R_Mo) (T := F_Mo) (N := 30) hx hb hts i_Mo hown hK hP 33 ww_33 rfl 1 (by decide) (hts _ g_723) (fun _ h9 => h9) rfl d_Mo_feed_79 ?_
        refine lv_aload_n hx hb d_Mo_feed_82 rfl (lv_at hl 2 rfl) ?_
        refine va_get (D := D9) (ci := 7) (C := R_Mo) (T := F_Mo) (N := 30) hx hb hts i_Mo hown hK hP 33 ww_33 rfl 2 (by decide) (hts _ g_724) (fun _ h9 => h9) rfl d_Mo_feed_83 ?_
        refine lv_topq (y := nI t.length) (((sI1 16 (by decide)).trans h16)) ?_
        refine lv_iload hx hb d_Mo_feed_86 (lv_at hl 1 rfl) ?_
        refine lv_iadd hx hb d_Mo_feed_88 ?_
        refine lv_topq (y := nI (t.length + 0)) (nI_add _ _) ?_
        refine lv_iload hx hb d_Mo_feed_89 (lv_at hl 0 rfl) ?_
        refine lv_bipush (v := 8) hx hb d_Mo_feed_91 (by decide) ?_
        refine lv_topq (y := nI 8) (rfl) ?_
        refine lv_iconst (v := 3) hx hb d_Mo_feed_93 (by decide) ?_
        refine lv_topq (y := nI 3) (rfl) ?_
        refine lv_iload hx hb d_Mo_feed_94 (lv_at hl 1 rfl) ?_
        refine lv_iconst (v := 4) hx hb d_Mo_feed_96 (by decide) ?_
        refine lv_topq (y := nI 4) (rfl) ?_
        refine lv_irem hx hb d_Mo_feed_97 (by decide) ?_
        refine lv_topq (y := nI 0) (by decide) ?_
        refine lv_isub hx hb d_Mo_feed_98 ?_
        refine lv_topq (y := nI 3) (rfl) ?_
        refine lv_imul hx hb d_Mo_feed_99 ?_
        refine lv_topq (y := nI 24) (rfl) ?_
        refine lv_ishr hx hb d_Mo_feed_100 ?_
        refine lv_topq (y := v1 >>> (nI 24 &&& 31)) (rfl) ?_
        refine lv_i2b hx hb d_Mo_feed_101 rfl ?_
        refine va_bast (D := D9) hx hb hK hP hD hS 34 0 ww_34 rfl (vp_in_nI (by omega) (by decide)) d_Mo_feed_102 (fun H locs hP hD hS => ?_)
        obtain ⟨F5, aF5, sF5, hP, hD⟩ := fx (P := fun z => va_P D9 cls9 (WW a cB cI cJ cG _ z O) H ∧ va_D A0 (WW a cB cI cJ cG _ z O)) ⟨wpa_34 hP, wda_34 hD⟩
        rw [nI_clamp (by omega)] at aF5
        have hB1 := BR_putb (x := v1 >>> (nI 24 &&& 31)) hT (k := t.length + 0) rfl (ub_s24 v1)
        have hB1 := BR_eq hB1 aF5
        refine lv_iinc (lv' := [(6, .int (nI 1)), (7, _), (0, _), (1, _), (2, _), (3, _), (4, _), (5, _)]) hx hb d_Mo_feed_103 hl (k := 1) rfl rfl (by decide) rfl (fun ls hl => ?_)
        refine lv_goto (tgt := 23) hx hb d_Mo_feed_106 (by decide) ?_
        refine lv_iload hx hb d_Mo_feed_23 (lv_at hl 0 rfl) ?_
        refine lv_bipush (v := 20) hx hb d_Mo_feed_25 (by decide) ?_
        refine lv_topq (y := nI 20) (rfl) ?_
        refine lv_icmp_ge (tgt := 109) hx hb d_Mo_feed_27 (by decide) (fun c6 => ?_) (fun c6 => ?_)
        · exact absurd c6 (by decide)
        · refine lv_iload hx hb d_Mo_feed_30 (lv_at hl 0 rfl) ?_
          refine lv_iconst (v := 4) hx hb d_Mo_feed_32 (by decide) ?_
          refine lv_topq (y := nI 4) (rfl) ?_
          refine lv_icmp_ge (tgt := 40) hx hb d_Mo_feed_33 (by decide) (fun c7 => ?_) (fun c7 => ?_)
          · exact absurd c7 (by decide)
          · refine lv_iload_n hx hb d_Mo_feed_36 rfl (lv_at hl 3 rfl) ?_
            refine lv_goto (tgt := 76) hx hb d_Mo_feed_37 (by decide) ?_
            refine lv_istore (lv' := [(7, _), (6, _), (0, _), (1, _), (2, _), (3, _), (4, _), (5, _)]) hx hb d_Mo_feed_76 hl (by decide) rfl (fun ls hl => ?_)
            refine lv_aload_n hx hb d_Mo_feed_78 rfl (lv_at hl 2 rfl) ?_
            refine va_get (D := D9) (ci := 7) (C := R_Mo) (T := F_Mo) (N := 30) hx hb hts i_Mo hown hK hP 33 ww_33 rfl 1 (by decide) (hts _ g_723) (fun _ h9 => h9) rfl d_Mo_feed_79 ?_
            refine lv_aload_n hx hb d_Mo_feed_82 rfl (lv_at hl 2 rfl) ?_
            refine va_get (D := D9) (ci := 7) (C := R_Mo) (T := F_Mo) (N := 30) hx hb hts i_Mo hown hK hP 33 ww_33 rfl 2 (by decide) (hts _ g_724) (fun _ h9 => h9) rfl d_Mo_feed_83 ?_
            refine lv_topq (y := nI t.length) (((sI1 16 (by decide)).trans h16)) ?_
            refine lv_iload hx hb d_Mo_feed_86 (lv_at hl 1 rfl) ?_
            refine lv_iadd hx hb d_Mo_feed_88 ?_
            refine lv_topq (y := nI (t.length + 1)) (nI_add _ _) ?_
            refine lv_iload hx hb d_Mo_feed_89 (lv_at hl 0 rfl) ?_
            refine lv_bipush (v := 8) hx hb d_Mo_feed_91 (by decide) ?_
            refine lv_topq (y := nI 8) (rfl) ?_
            refine lv_iconst (v := 3) hx hb d_Mo_feed_93 (by decide) ?_
            refine lv_topq (y := nI 3) (rfl) ?_
            refine lv_iload hx hb d_Mo_feed_94 (lv_at hl 1 rfl) ?_
            refine lv_iconst (v := 4) hx hb d_Mo_feed_96 (by decide) ?_
            refine lv_topq (y := nI 4) (rfl) ?_
            refine lv_irem hx hb d_Mo_feed_97 (by decide) ?_
            refine lv_topq (y := nI 1) (by decide) ?_
            refine lv_isub hx hb d_Mo_feed_98 ?_
            refine lv_topq (y := nI 2) (rfl) ?_
            refine lv_imul hx hb d_Mo_feed_99 ?_
            refine lv_topq (y := nI 16) (rfl) ?_
            refine lv_ishr hx hb d_Mo_feed_100 ?_
            refine lv_topq (y := v1 >>> (nI 16 &&& 31)) (rfl) ?_
            refine lv_i2b hx hb d_Mo_feed_101 rfl ?_
            refine va_bast (D := D9) hx hb hK hP hD hS 34 0 ww_34 rfl (vp_in_nI (by omega) (by decide)) d_Mo_feed_102 (fun H locs hP hD hS => ?_)
            obtain ⟨F8, aF8, sF8, hP, hD⟩ := fx (P := fun z => va_P D9 cls9 (WW a cB cI cJ cG _ z O) H ∧ va_D A0 (WW a cB cI cJ cG _ z O)) ⟨wpa_34 hP, wda_34 hD⟩
            rw [nI_clamp (by omega)] at aF8
            have hB2 := BR_putb (x := v1 >>> (nI 16 &&& 31)) hB1 (k := t.length + 1) (by simp only [List.length_append, List.length_singleton]) (ub_s16 v1)
            have hB2 := BR_eq hB2 aF8
            refine lv_iinc (lv' := [(6, .int (nI 2)), (7, _), (0, _), (1, _), (2, _), (3, _), (4, _), (5, _)]) hx hb d_Mo_feed_103 hl (k := 1) rfl rfl (by decide) rfl (fun ls hl => ?_)
            refine lv_goto (tgt := 23) hx hb d_Mo_feed_106 (by decide) ?_
            refine lv_iload hx hb d_Mo_feed_23 (lv_at hl 0 rfl) ?_
            refine lv_bipush (v := 20) hx hb d_Mo_feed_25 (by decide) ?_
            refine lv_topq (y := nI 20) (rfl) ?_
            refine lv_icmp_ge (tgt := 109) hx hb d_Mo_feed_27 (by decide) (fun c9 => ?_) (fun c9 => ?_)
            · exact absurd c9 (by decide)
            · refine lv_iload hx hb d_Mo_feed_30 (lv_at hl 0 rfl) ?_
              refine lv_iconst (v := 4) hx hb d_Mo_feed_32 (by decide) ?_
              refine lv_topq (y := nI 4) (rfl) ?_
              refine lv_icmp_ge (tgt := 40) hx hb d_Mo_feed_33 (by decide) (fun c10 => ?_) (fun c10 => ?_)
              · exact absurd c10 (by decide)
              · refine lv_iload_n hx hb d_Mo_feed_36 rfl (lv_at hl 3 rfl) ?_
                refine lv_goto (tgt := 76) hx hb d_Mo_feed_37 (by decide) ?_
                refine lv_istore (lv' := [(7, _), (6, _), (0, _), (1, _), (2, _), (3, _), (4, _), (5, _)]) hx hb d_Mo_feed_76 hl (by decide) rfl (fun ls hl => ?_)
                refine lv_aload_n hx hb d_Mo_feed_78 rfl (lv_at hl 2 rfl) ?_
                refine va_get (D := D9) (ci := 7) (C := R_Mo) (T := F_Mo) (N := 30) hx hb hts i_Mo hown hK hP 33 ww_33 rfl 1 (by decide) (hts _ g_723) (fun _ h9 => h9) rfl d_Mo_feed_79 ?_
                refine lv_aload_n hx hb d_Mo_feed_82 rfl (lv_at hl 2 rfl) ?_
                refine va_get (D := D9) (ci := 7) (C := R_Mo) (T := F_Mo) (N := 30) hx hb hts i_Mo hown hK hP 33 ww_33 rfl 2 (by decide) (hts _ g_724) (fun _ h9 => h9) rfl d_Mo_feed_83 ?_
                refine lv_topq (y := nI t.length) (((sI1 16 (by decide)).trans h16)) ?_
                refine lv_iload hx hb d_Mo_feed_86 (lv_at hl 1 rfl) ?_
                refine lv_iadd hx hb d_Mo_feed_88 ?_
                refine lv_topq (y := nI (t.length + 2)) (nI_add _ _) ?_
                refine lv_iload hx hb d_Mo_feed_89 (lv_at hl 0 rfl) ?_
                refine lv_bipush (v := 8) hx hb d_Mo_feed_91 (by decide) ?_
                refine lv_topq (y := nI 8) (rfl) ?_
                refine lv_iconst (v := 3) hx hb d_Mo_feed_93 (by decide) ?_
                refine lv_topq (y := nI 3) (rfl) ?_
                refine lv_iload hx hb d_Mo_feed_94 (lv_at hl 1 rfl) ?_
                refine lv_iconst (v := 4) hx hb d_Mo_feed_96 (by decide) ?_
                refine lv_topq (y := nI 4) (rfl) ?_
                refine lv_irem hx hb d_Mo_feed_97 (by decide) ?_
                refine lv_topq (y := nI 2) (by decide) ?_
                refine lv_isub hx hb d_Mo_feed_98 ?_
                refine lv_topq (y := nI 1) (rfl) ?_
                refine lv_imul hx hb d_Mo_feed_99 ?_
                refine lv_topq (y := nI 8) (rfl) ?_
                refine lv_ishr hx hb d_Mo_feed_100 ?_
                refine lv_topq (y := v1 >>> (nI 8 &&& 31)) (rfl) ?_
                refine lv_i2b hx hb d_Mo_feed_101 rfl ?_
                refine va_bast (D := D9) hx hb hK hP hD hS 34 0 ww_34 rfl (vp_in_nI (by omega) (by decide)) d_Mo_feed_102 (fun H locs hP hD hS => ?_)
                obtain ⟨F11, aF11, sF11, hP, hD⟩ := fx (P := fun z => va_P D9 cls9 (WW a cB cI cJ cG _ z O) H ∧ va_D A0 (WW a cB cI cJ cG _ z O)) ⟨wpa_34 hP, wda_34 hD⟩
                rw [nI_clamp (by omega)] at aF11
                have hB3 := BR_putb (x := v1 >>> (nI 8 &&& 31)) hB2 (k := t.length + 2) (by simp only [List.length_append, List.length_singleton]) (ub_s8 v1)
                have hB3 := BR_eq hB3 aF11
                refine lv_iinc (lv' := [(6, .int (nI 3)), (7, _), (0, _), (1, _), (2, _), (3, _), (4, _), (5, _)]) hx hb d_Mo_feed_103 hl (k := 1) rfl rfl (by decide) rfl (fun ls hl => ?_)
                refine lv_goto (tgt := 23) hx hb d_Mo_feed_106 (by decide) ?_
                refine lv_iload hx hb d_Mo_feed_23 (lv_at hl 0 rfl) ?_
                refine lv_bipush (v := 20) hx hb d_Mo_feed_25 (by decide) ?_
                refine lv_topq (y := nI 20) (rfl) ?_
                refine lv_icmp_ge (tgt := 109) hx hb d_Mo_feed_27 (by decide) (fun c12 => ?_) (fun c12 => ?_)
                · exact absurd c12 (by decide)
                · refine lv_iload hx hb d_Mo_feed_30 (lv_at hl 0 rfl) ?_
                  refine lv_iconst (v := 4) hx hb d_Mo_feed_32 (by decide) ?_
                  refine lv_topq (y := nI 4) (rfl) ?_
                  refine lv_icmp_ge (tgt := 40) hx hb d_Mo_feed_33 (by decide) (fun c13 => ?_) (fun c13 => ?_)
                  · exact absurd c13 (by decide)
                  · refine lv_iload_n hx hb d_Mo_feed_36 rfl (lv_at hl 3 rfl) ?_
                    refine lv_goto (tgt := 76) hx hb d_Mo_feed_37 (by decide) ?_
                    refine lv_istore (lv' := [(7, _), (6, _), (0, _), (1, _), (2, _), (3, _), (4, _), (5, _)]) hx hb d_Mo_feed_76 hl (by decide) rfl (fun ls hl => ?_)
                    refine lv_aload_n hx hb d_Mo_feed_78 rfl (lv_at hl 2 rfl) ?_
                    refine va_get (D := D9) (ci := 7) (C := R_Mo) (T := F_Mo) (N := 30) hx hb hts i_Mo hown hK hP 33 ww_33 rfl 1 (by decide) (hts _ g_723) (fun _ h9 => h9) rfl d_Mo_feed_79 ?_
                    refine lv_aload_n hx hb d_Mo_feed_82 rfl (lv_at hl 2 rfl) ?_
                    refine va_get (D := D9) (ci := 7) (C := R_Mo) (T := F_Mo) (N := 30) hx hb hts i_Mo hown hK hP 33 ww_33 rfl 2 (by decide) (hts _ g_724) (fun _ h9 => h9) rfl d_Mo_feed_83 ?_
                    refine lv_topq (y := nI t.length) (((sI1 16 (by decide)).trans h16)) ?_
                    refine lv_iload hx hb d_Mo_feed_86 (lv_at hl 1 rfl) ?_
                    refine lv_iadd hx hb d_Mo_feed_88 ?_
                    refine lv_topq (y := nI (t.length + 3)) (nI_add _ _) ?_
                    refine lv_iload hx hb d_Mo_feed_89 (lv_at hl 0 rfl) ?_
                    refine lv_bipush (v := 8) hx hb d_Mo_feed_91 (by decide) ?_
                    refine lv_topq (y := nI 8) (rfl) ?_
                    refine lv_iconst (v := 3) hx hb d_Mo_feed_93 (by decide) ?_
                    refine lv_topq (y := nI 3) (rfl) ?_
                    refine lv_iload hx hb d_Mo_feed_94 (lv_at hl 1 rfl) ?_
                    refine lv_iconst (v := 4) hx hb d_Mo_feed_96 (by decide) ?_
                    refine lv_topq (y := nI 4) (rfl) ?_
                    refine lv_irem hx hb d_Mo_feed_97 (by decide) ?_
                    refine lv_topq (y := nI 3) (by decide) ?_
                    refine lv_isub hx hb d_Mo_feed_98 ?_
                    refine lv_topq (y := nI 0) (rfl) ?_
                    refine lv_imul hx hb d_Mo_feed_99 ?_
                    refine lv_topq (y := nI 0) (rfl) ?_
                    refine lv_ishr hx hb d_Mo_feed_100 ?_
                    refine lv_topq (y := v1 >>> (nI 0 &&& 31)) (rfl) ?_
                    refine lv_i2b hx hb d_Mo_feed_101 rfl ?_
                    refine va_bast (D := D9) hx hb hK hP hD hS 34 0 ww_34 rfl (vp_in_nI (by omega) (by decide)) d_Mo_feed_102 (fun H locs hP hD hS => ?_)
                    obtain ⟨F14, aF14, sF14, hP, hD⟩ := fx (P := fun z => va_P D9 cls9 (WW a cB cI cJ cG _ z O) H ∧ va_D A0 (WW a cB cI cJ cG _ z O)) ⟨wpa_34 hP, wda_34 hD⟩
                    rw [nI_clamp (by omega)] at aF14
                    have hB4 := BR_putb (x := v1 >>> (nI 0 &&& 31)) hB3 (k := t.length + 3) (by simp only [List.length_append, List.length_singleton]) (ub_s0 v1)
                    have hB4 := BR_eq hB4 aF14
                    refine lv_iinc (lv' := [(6, .int (nI 4)), (7, _), (0, _), (1, _), (2, _), (3, _), (4, _), (5, _)]) hx hb d_Mo_feed_103 hl (k := 1) rfl rfl (by decide) rfl (fun ls hl => ?_)
                    refine lv_goto (tgt := 23) hx hb d_Mo_feed_106 (by decide) ?_
                    refine lv_iload hx hb d_Mo_feed_23 (lv_at hl 0 rfl) ?_
                    refine lv_bipush (v := 20) hx hb d_Mo_feed_25 (by decide) ?_
                    refine lv_topq (y := nI 20) (rfl) ?_
                    refine lv_icmp_ge (tgt := 109) hx hb d_Mo_feed_27 (by decide) (fun c15 => ?_) (fun c15 => ?_)
                    · exact absurd c15 (by decide)
                    · refine lv_iload hx hb d_Mo_feed_30 (lv_at hl 0 rfl) ?_
                      refine lv_iconst (v := 4) hx hb d_Mo_feed_32 (by decide) ?_
                      refine lv_topq (y := nI 4) (rfl) ?_
                      refine lv_icmp_ge (tgt := 40) hx hb d_Mo_feed_33 (by decide) (fun c16 => ?_) (fun c16 => ?_)
                      · refine lv_iload hx hb d_Mo_feed_40 (lv_at hl 0 rfl) ?_
                        refine lv_bipush (v := 8) hx hb d_Mo_feed_42 (by decide) ?_
                        refine lv_topq (y := nI 8) (rfl) ?_
                        refine lv_icmp_ge (tgt := 51) hx hb d_Mo_feed_44 (by decide) (fun c17 => ?_) (fun c17 => ?_)
                        · exact absurd c17 (by decide)
                        · refine lv_iload_n hx hb d_Mo_feed_47 rfl (lv_at hl 4 rfl) ?_
                          refine lv_goto (tgt := 76) hx hb d_Mo_feed_48 (by decide) ?_
                          refine lv_istore (lv' := [(7, _), (6, _), (0, _), (1, _), (2, _), (3, _), (4, _), (5, _)]) hx hb d_Mo_feed_76 hl (by decide) rfl (fun ls hl => ?_)
                          refine lv_aload_n hx hb d_Mo_feed_78 rfl (lv_at hl 2 rfl) ?_
                          refine va_get (D := D9) (ci := 7) (C := R_Mo) (T := F_Mo) (N := 30) hx hb hts i_Mo hown hK hP 33 ww_33 rfl 1 (by decide) (hts _ g_723) (fun _ h9 => h9) rfl d_Mo_feed_79 ?_
                          refine lv_aload_n hx hb d_Mo_feed_82 rfl (lv_at hl 2 rfl) ?_
                          refine va_get (D := D9) (ci := 7) (C := R_Mo) (T := F_Mo) (N := 30) hx hb hts i_Mo hown hK hP 33 ww_33 rfl 2 (by decide) (hts _ g_724) (fun _ h9 => h9) rfl d_Mo_feed_83 ?_
                          refine lv_topq (y := nI t.length) (((sI1 16 (by decide)).trans h16)) ?_
                          refine lv_iload hx hb d_Mo_feed_86 (lv_at hl 1 rfl) ?_
                          refine lv_iadd hx hb d_Mo_feed_88 ?_
                          refine lv_topq (y := nI (t.length + 4)) (nI_add _ _) ?_
                          refine lv_iload hx hb d_Mo_feed_89 (lv_at hl 0 rfl) ?_
                          refine lv_bipush (v := 8) hx hb d_Mo_feed_91 (by decide) ?_
                          refine lv_topq (y := nI 8) (rfl) ?_
                          refine lv_iconst (v := 3) hx hb d_Mo_feed_93 (by decide) ?_
                          refine lv_topq (y := nI 3) (rfl) ?_
                          refine lv_iload hx hb d_Mo_feed_94 (lv_at hl 1 rfl) ?_
                          refine lv_iconst (v := 4) hx hb d_Mo_feed_96 (by decide) ?_
                          refine lv_topq (y := nI 4) (rfl) ?_
                          refine lv_irem hx hb d_Mo_feed_97 (by decide) ?_
                          refine lv_topq (y := nI 0) (by decide) ?_
                          refine lv_isub hx hb d_Mo_feed_98 ?_
                          refine lv_topq (y := nI 3) (rfl) ?_
                          refine lv_imul hx hb d_Mo_feed_99 ?_
                          refine lv_topq (y := nI 24) (rfl) ?_
                          refine lv_ishr hx hb d_Mo_feed_100 ?_
                          refine lv_topq (y := v2 >>> (nI 24 &&& 31)) (rfl) ?_
                          refine lv_i2b hx hb d_Mo_feed_101 rfl ?_
                          refine va_bast (D := D9) hx hb hK hP hD hS 34 0 ww_34 rfl (vp_in_nI (by omega) (by decide)) d_Mo_feed_102 (fun H locs hP hD hS => ?_)
                          obtain ⟨F18, aF18, sF18, hP, hD⟩ := fx (P := fun z => va_P D9 cls9 (WW a cB cI cJ cG _ z O) H ∧ va_D A0 (WW a cB cI cJ cG _ z O)) ⟨wpa_34 hP, wda_34 hD⟩
                          rw [nI_clamp (by omega)] at aF18
                          have hB5 := BR_putb (x := v2 >>> (nI 24 &&& 31)) hB4 (k := t.length + 4) (by simp only [List.length_append, List.length_singleton]) (ub_s24 v2)
                          have hB5 := BR_eq hB5 aF18
                          refine lv_iinc (lv' := [(6, .int (nI 5)), (7, _), (0, _), (1, _), (2, _), (3, _), (4, _), (5, _)]) hx hb d_Mo_feed_103 hl (k := 1) rfl rfl (by decide) rfl (fun ls hl => ?_)
                          refine lv_goto (tgt := 23) hx hb d_Mo_feed_106 (by decide) ?_
                          refine lv_iload hx hb d_Mo_feed_23 (lv_at hl 0 rfl) ?_
                          refine lv_bipush (v := 20) hx hb d_Mo_feed_25 (by decide) ?_
                          refine lv_topq (y := nI 20) (rfl) ?_
                          refine lv_icmp_ge (tgt := 109) hx hb d_Mo_feed_27 (by decide) (fun c19 => ?_) (fun c19 => ?_)
                          · exact absurd c19 (by decide)
                          · refine lv_iload hx hb d_Mo_feed_30 (lv_at hl 0 rfl) ?_
                            refine lv_iconst (v := 4) hx hb d_Mo_feed_32 (by decide) ?_
                            refine lv_topq (y := nI 4) (rfl) ?_
                            refine lv_icmp_ge (tgt := 40) hx hb d_Mo_feed_33 (by decide) (fun c20 => ?_) (fun c20 => ?_)
                            · refine lv_iload hx hb d_Mo_feed_40 (lv_at hl 0 rfl) ?_
                              refine lv_bipush (v := 8) hx hb d_Mo_feed_42 (by decide) ?_
                              refine lv_topq (y := nI 8) (rfl) ?_
                              refine lv_icmp_ge (tgt := 51) hx hb d_Mo_feed_44 (by decide) (fun c21 => ?_) (fun c21 => ?_)
                              · exact absurd c21 (by decide)
                              · refine lv_iload_n hx hb d_Mo_feed_47 rfl (lv_at hl 4 rfl) ?_
                                refine lv_goto (tgt := 76) hx hb d_Mo_feed_48 (by decide) ?_
                                refine lv_istore (lv' := [(7, _), (6, _), (0, _), (1, _), (2, _), (3, _), (4, _), (5, _)]) hx hb d_Mo_feed_76 hl (by decide) rfl (fun ls hl => ?_)
                                refine lv_aload_n hx hb d_Mo_feed_78 rfl (lv_at hl 2 rfl) ?_
                                refine va_get (D := D9) (ci := 7) (C := R_Mo) (T := F_Mo) (N := 30) hx hb hts i_Mo hown hK hP 33 ww_33 rfl 1 (by decide) (hts _ g_723) (fun _ h9 => h9) rfl d_Mo_feed_79 ?_
                                refine lv_aload_n hx hb d_Mo_feed_82 rfl (lv_at hl 2 rfl) ?_
                                refine va_get (D := D9) (ci := 7) (C := R_Mo) (T := F_Mo) (N := 30) hx hb hts i_Mo hown hK hP 33 ww_33 rfl 2 (by decide) (hts _ g_724) (fun _ h9 => h9) rfl d_Mo_feed_83 ?_
                                refine lv_topq (y := nI t.length) (((sI1 16 (by decide)).trans h16)) ?_
                                refine lv_iload hx hb d_Mo_feed_86 (lv_at hl 1 rfl) ?_
                                refine lv_iadd hx hb d_Mo_feed_88 ?_
                                refine lv_topq (y := nI (t.length + 5)) (nI_add _ _) ?_
                                refine lv_iload hx hb d_Mo_feed_89 (lv_at hl 0 rfl) ?_
                                refine lv_bipush (v := 8) hx hb d_Mo_feed_91 (by decide) ?_
                                refine lv_topq (y := nI 8) (rfl) ?_
                                refine lv_iconst (v := 3) hx hb d_Mo_feed_93 (by decide) ?_
                                refine lv_topq (y := nI 3) (rfl) ?_
                                refine lv_iload hx hb d_Mo_feed_94 (lv_at hl 1 rfl) ?_
                                refine lv_iconst (v := 4) hx hb d_Mo_feed_96 (by decide) ?_
                                refine lv_topq (y := nI 4) (rfl) ?_
                                refine lv_irem hx hb d_Mo_feed_97 (by decide) ?_
                                refine lv_topq (y := nI 1) (by decide) ?_
                                refine lv_isub hx hb d_Mo_feed_98 ?_
                                refine lv_topq (y := nI 2) (rfl) ?_
                                refine lv_imul hx hb d_Mo_feed_99 ?_
                                refine lv_topq (y := nI 16) (rfl) ?_
                                refine lv_ishr hx hb d_Mo_feed_100 ?_
                                refine lv_topq (y := v2 >>> (nI 16 &&& 31)) (rfl) ?_
                                refine lv_i2b hx hb d_Mo_feed_101 rfl ?_
                                refine va_bast (D := D9) hx hb hK hP hD hS 34 0 ww_34 rfl (vp_in_nI (by omega) (by decide)) d_Mo_feed_102 (fun H locs hP hD hS => ?_)
                                obtain ⟨F22, aF22, sF22, hP, hD⟩ := fx (P := fun z => va_P D9 cls9 (WW a cB cI cJ cG _ z O) H ∧ va_D A0 (WW a cB cI cJ cG _ z O)) ⟨wpa_34 hP, wda_34 hD⟩
                                rw [nI_clamp (by omega)] at aF22
                                have hB6 := BR_putb (x := v2 >>> (nI 16 &&& 31)) hB5 (k := t.length + 5) (by simp only [List.length_append, List.length_singleton]) (ub_s16 v2)
                                have hB6 := BR_eq hB6 aF22
                                refine lv_iinc (lv' := [(6, .int (nI 6)), (7, _), (0, _), (1, _), (2, _), (3, _), (4, _), (5, _)]) hx hb d_Mo_feed_103 hl (k := 1) rfl rfl (by decide) rfl (fun ls hl => ?_)
                                refine lv_goto (tgt := 23) hx hb d_Mo_feed_106 (by decide) ?_
                                refine lv_iload hx hb d_Mo_feed_23 (lv_at hl 0 rfl) ?_
                                refine lv_bipush (v := 20) hx hb d_Mo_feed_25 (by decide) ?_
                                refine lv_topq (y := nI 20) (rfl) ?_
                                refine lv_icmp_ge (tgt := 109) hx hb d_Mo_feed_27 (by decide) (fun c23 => ?_) (fun c23 => ?_)
                                · exact absurd c23 (by decide)
                                · refine lv_iload hx hb d_Mo_feed_30 (lv_at hl 0 rfl) ?_
                                  refine lv_iconst (v := 4) hx hb d_Mo_feed_32 (by decide) ?_
                                  refine lv_topq (y := nI 4) (rfl) ?_
                                  refine lv_icmp_ge (tgt := 40) hx hb d_Mo_feed_33 (by decide) (fun c24 => ?_) (fun c24 => ?_)
                                  · refine lv_iload hx hb d_Mo_feed_40 (lv_at hl 0 rfl) ?_
                                    refine lv_bipush (v := 8) hx hb d_Mo_feed_42 (by decide) ?_
                                    refine lv_topq (y := nI 8) (rfl) ?_
                                    refine lv_icmp_ge (tgt := 51) hx hb d_Mo_feed_44 (by decide) (fun c25 => ?_) (fun c25 => ?_)
                                    · exact absurd c25 (by decide)
                                    · refine lv_iload_n hx hb d_Mo_feed_47 rfl (lv_at hl 4 rfl) ?_
                                      refine lv_goto (tgt := 76) hx hb d_Mo_feed_48 (by decide) ?_
                                      refine lv_istore (lv' := [(7, _), (6, _), (0, _), (1, _), (2, _), (3, _), (4, _), (5, _)]) hx hb d_Mo_feed_76 hl (by decide) rfl (fun ls hl => ?_)
                                      refine lv_aload_n hx hb d_Mo_feed_78 rfl (lv_at hl 2 rfl) ?_
                                      refine va_get (D := D9) (ci := 7) (C := R_Mo) (T := F_Mo) (N := 30) hx hb hts i_Mo hown hK hP 33 ww_33 rfl 1 (by decide) (hts _ g_723) (fun _ h9 => h9) rfl d_Mo_feed_79 ?_
                                      refine lv_aload_n hx hb d_Mo_feed_82 rfl (lv_at hl 2 rfl) ?_
                                      refine va_get (D := D9) (ci := 7) (C := R_Mo) (T := F_Mo) (N := 30) hx hb hts i_Mo hown hK hP 33 ww_33 rfl 2 (by decide) (hts _ g_724) (fun _ h9 => h9) rfl d_Mo_feed_83 ?_
                                      refine lv_topq (y := nI t.length) (((sI1 16 (by decide)).trans h16)) ?_
                                      refine lv_iload hx hb d_Mo_feed_86 (lv_at hl 1 rfl) ?_
                                      refine lv_iadd hx hb d_Mo_feed_88 ?_
                                      refine lv_topq (y := nI (t.length + 6)) (nI_add _ _) ?_
                                      refine lv_iload hx hb d_Mo_feed_89 (lv_at hl 0 rfl) ?_
                                      refine lv_bipush (v := 8) hx hb d_Mo_feed_91 (by decide) ?_
                                      refine lv_topq (y := nI 8) (rfl) ?_
                                      refine lv_iconst (v := 3) hx hb d_Mo_feed_93 (by decide) ?_
                                      refine lv_topq (y := nI 3) (rfl) ?_
                                      refine lv_iload hx hb d_Mo_feed_94 (lv_at hl 1 rfl) ?_
                                      refine lv_iconst (v := 4) hx hb d_Mo_feed_96 (by decide) ?_
                                      refine lv_topq (y := nI 4) (rfl) ?_
                                      refine lv_irem hx hb d_Mo_feed_97 (by decide) ?_
                                      refine lv_topq (y := nI 2) (by decide) ?_
                                      refine lv_isub hx hb d_Mo_feed_98 ?_
                                      refine lv_topq (y := nI 1) (rfl) ?_
                                      refine lv_imul hx hb d_Mo_feed_99 ?_
                                      refine lv_topq (y := nI 8) (rfl) ?_
                                      refine lv_ishr hx hb d_Mo_feed_100 ?_
                                      refine lv_topq (y := v2 >>> (nI 8 &&& 31)) (rfl) ?_
                                      refine lv_i2b hx hb d_Mo_feed_101 rfl ?_
                                      refine va_bast (D := D9) hx hb hK hP hD hS 34 0 ww_34 rfl (vp_in_nI (by omega) (by decide)) d_Mo_feed_102 (fun H locs hP hD hS => ?_)
                                      obtain ⟨F26, aF26, sF26, hP, hD⟩ := fx (P := fun z => va_P D9 cls9 (WW a cB cI cJ cG _ z O) H ∧ va_D A0 (WW a cB cI cJ cG _ z O)) ⟨wpa_34 hP, wda_34 hD⟩
                                      rw [nI_clamp (by omega)] at aF26
                                      have hB7 := BR_putb (x := v2 >>> (nI 8 &&& 31)) hB6 (k := t.length + 6) (by simp only [List.length_append, List.length_singleton]) (ub_s8 v2)
                                      have hB7 := BR_eq hB7 aF26
                                      refine lv_iinc (lv' := [(6, .int (nI 7)), (7, _), (0, _), (1, _), (2, _), (3, _), (4, _), (5, _)]) hx hb d_Mo_feed_103 hl (k := 1) rfl rfl (by decide) rfl (fun ls hl => ?_)
                                      refine lv_goto (tgt := 23) hx hb d_Mo_feed_106 (by decide) ?_
                                      refine lv_iload hx hb d_Mo_feed_23 (lv_at hl 0 rfl) ?_
                                      refine lv_bipush (v := 20) hx hb d_Mo_feed_25 (by decide) ?_
                                      refine lv_topq (y := nI 20) (rfl) ?_
                                      refine lv_icmp_ge (tgt := 109) hx hb d_Mo_feed_27 (by decide) (fun c27 => ?_) (fun c27 => ?_)
                                      · exact absurd c27 (by decide)
                                      · refine lv_iload hx hb d_Mo_feed_30 (lv_at hl 0 rfl) ?_
                                        refine lv_iconst (v := 4) hx hb d_Mo_feed_32 (by decide) ?_
                                        refine lv_topq (y := nI 4) (rfl) ?_
                                        refine lv_icmp_ge (tgt := 40) hx hb d_Mo_feed_33 (by decide) (fun c28 => ?_) (fun c28 => ?_)
                                        · refine lv_iload hx hb d_Mo_feed_40 (lv_at hl 0 rfl) ?_
                                          refine lv_bipush (v := 8) hx hb d_Mo_feed_42 (by decide) ?_
                                          refine lv_topq (y := nI 8) (rfl) ?_
                                          refine lv_icmp_ge (tgt := 51) hx hb d_Mo_feed_44 (by decide) (fun c29 => ?_) (fun c29 => ?_)
                                          · exact absurd c29 (by decide)
                                          · refine lv_iload_n hx hb d_Mo_feed_47 rfl (lv_at hl 4 rfl) ?_
                                            refine lv_goto (tgt := 76) hx hb d_Mo_feed_48 (by decide) ?_
                                            refine lv_istore (lv' := [(7, _), (6, _), (0, _), (1, _), (2, _), (3, _), (4, _), (5, _)]) hx hb d_Mo_feed_76 hl (by decide) rfl (fun ls hl => ?_)
                                            refine lv_aload_n hx hb d_Mo_feed_78 rfl (lv_at hl 2 rfl) ?_
                                            refine va_get (D := D9) (ci := 7) (C := R_Mo) (T := F_Mo) (N := 30) hx hb hts i_Mo hown hK hP 33 ww_33 rfl 1 (by decide) (hts _ g_723) (fun _ h9 => h9) rfl d_Mo_feed_79 ?_
                                            refine lv_aload_n hx hb d_Mo_feed_82 rfl (lv_at hl 2 rfl) ?_
                                            refine va_get (D := D9) (ci := 7) (C := R_Mo) (T := F_Mo) (N := 30) hx hb hts i_Mo hown hK hP 33 ww_33 rfl 2 (by decide) (hts _ g_724) (fun _ h9 => h9) rfl d_Mo_feed_83 ?_
                                            refine lv_topq (y := nI t.length) (((sI1 16 (by decide)).trans h16)) ?_
                                            refine lv_iload hx hb d_Mo_feed_86 (lv_at hl 1 rfl) ?_
                                            refine lv_iadd hx hb d_Mo_feed_88 ?_
                                            refine lv_topq (y := nI (t.length + 7)) (nI_add _ _) ?_
                                            refine lv_iload hx hb d_Mo_feed_89 (lv_at hl 0 rfl) ?_
                                            refine lv_bipush (v := 8) hx hb d_Mo_feed_91 (by decide) ?_
                                            refine lv_topq (y := nI 8) (rfl) ?_
                                            refine lv_iconst (v := 3) hx hb d_Mo_feed_93 (by decide) ?_
                                            refine lv_topq (y := nI 3) (rfl) ?_
                                            refine lv_iload hx hb d_Mo_feed_94 (lv_at hl 1 rfl) ?_
                                            refine lv_iconst (v := 4) hx hb d_Mo_feed_96 (by decide) ?_
                                            refine lv_topq (y := nI 4) (rfl) ?_
                                            refine lv_irem hx hb d_Mo_feed_97 (by decide) ?_
                                            refine lv_topq (y := nI 3) (by decide) ?_
                                            refine lv_isub hx hb d_Mo_feed_98 ?_
                                            refine lv_topq (y := nI 0) (rfl) ?_
                                            refine lv_imul hx hb d_Mo_feed_99 ?_
                                            refine lv_topq (y := nI 0) (rfl) ?_
                                            refine lv_ishr hx hb d_Mo_feed_100 ?_
                                            refine lv_topq (y := v2 >>> (nI 0 &&& 31)) (rfl) ?_
                                            refine lv_i2b hx hb d_Mo_feed_101 rfl ?_
                                            refine va_bast (D := D9) hx hb hK hP hD hS 34 0 ww_34 rfl (vp_in_nI (by omega) (by decide)) d_Mo_feed_102 (fun H locs hP hD hS => ?_)
                                            obtain ⟨F30, aF30, sF30, hP, hD⟩ := fx (P := fun z => va_P D9 cls9 (WW a cB cI cJ cG _ z O) H ∧ va_D A0 (WW a cB cI cJ cG _ z O)) ⟨wpa_34 hP, wda_34 hD⟩
                                            rw [nI_clamp (by omega)] at aF30
                                            have hB8 := BR_putb (x := v2 >>> (nI 0 &&& 31)) hB7 (k := t.length + 7) (by simp only [List.length_append, List.length_singleton]) (ub_s0 v2)
                                            have hB8 := BR_eq hB8 aF30
                                            refine lv_iinc (lv' := [(6, .int (nI 8)), (7, _), (0, _), (1, _), (2, _), (3, _), (4, _), (5, _)]) hx hb d_Mo_feed_103 hl (k := 1) rfl rfl (by decide) rfl (fun ls hl => ?_)
                                            refine lv_goto (tgt := 23) hx hb d_Mo_feed_106 (by decide) ?_
                                            refine lv_iload hx hb d_Mo_feed_23 (lv_at hl 0 rfl) ?_
                                            refine lv_bipush (v := 20) hx hb d_Mo_feed_25 (by decide) ?_
                                            refine lv_topq (y := nI 20) (rfl) ?_
                                            refine lv_icmp_ge (tgt := 109) hx hb d_Mo_feed_27 (by decide) (fun c31 => ?_) (fun c31 => ?_)
                                            · exact absurd c31 (by decide)
                                            · refine lv_iload hx hb d_Mo_feed_30 (lv_at hl 0 rfl) ?_
                                              refine lv_iconst (v := 4) hx hb d_Mo_feed_32 (by decide) ?_
                                              refine lv_topq (y := nI 4) (rfl) ?_
                                              refine lv_icmp_ge (tgt := 40) hx hb d_Mo_feed_33 (by decide) (fun c32 => ?_) (fun c32 => ?_)
                                              · refine lv_iload hx hb d_Mo_feed_40 (lv_at hl 0 rfl) ?_
                                                refine lv_bipush (v := 8) hx hb d_Mo_feed_42 (by decide) ?_
                                                refine lv_topq (y := nI 8) (rfl) ?_
                                                refine lv_icmp_ge (tgt := 51) hx hb d_Mo_feed_44 (by decide) (fun c33 => ?_) (fun c33 => ?_)
                                                · refine lv_iload hx hb d_Mo_feed_51 (lv_at hl 0 rfl) ?_
                                                  refine lv_bipush (v := 12) hx hb d_Mo_feed_53 (by decide) ?_
                                                  refine lv_topq (y := nI 12) (rfl) ?_
                                                  refine lv_icmp_ge (tgt := 62) hx hb d_Mo_feed_55 (by decide) (fun c34 => ?_) (fun c34 => ?_)
                                                  · exact absurd c34 (by decide)
                                                  · refine lv_iload_n hx hb d_Mo_feed_58 rfl (lv_at hl 5 rfl) ?_
                                                    refine lv_goto (tgt := 76) hx hb d_Mo_feed_59 (by decide) ?_
                                                    refine lv_istore (lv' := [(7, _), (6, _), (0, _), (1, _), (2, _), (3, _), (4, _), (5, _)]) hx hb d_Mo_feed_76 hl (by decide) rfl (fun ls hl => ?_)
                                                    refine lv_aload_n hx hb d_Mo_feed_78 rfl (lv_at hl 2 rfl) ?_
                                                    refine va_get (D := D9) (ci := 7) (C := R_Mo) (T := F_Mo) (N := 30) hx hb hts i_Mo hown hK hP 33 ww_33 rfl 1 (by decide) (hts _ g_723) (fun _ h9 => h9) rfl d_Mo_feed_79 ?_
                                                    refine lv_aload_n hx hb d_Mo_feed_82 rfl (lv_at hl 2 rfl) ?_
                                                    refine va_get (D := D9) (ci := 7) (C := R_Mo) (T := F_Mo) (N := 30) hx hb hts i_Mo hown hK hP 33 ww_33 rfl 2 (by decide) (hts _ g_724) (fun _ h9 => h9) rfl d_Mo_feed_83 ?_
                                                    refine lv_topq (y := nI t.length) (((sI1 16 (by decide)).trans h16)) ?_
                                                    refine lv_iload hx hb d_Mo_feed_86 (lv_at hl 1 rfl) ?_
                                                    refine lv_iadd hx hb d_Mo_feed_88 ?_
                                                    refine lv_topq (y := nI (t.length + 8)) (nI_add _ _) ?_
                                                    refine lv_iload hx hb d_Mo_feed_89 (lv_at hl 0 rfl) ?_
                                                    refine lv_bipush (v := 8) hx hb d_Mo_feed_91 (by decide) ?_
                                                    refine lv_topq (y := nI 8) (rfl) ?_
                                                    refine lv_iconst (v := 3) hx hb d_Mo_feed_93 (by decide) ?_
                                                    refine lv_topq (y := nI 3) (rfl) ?_
                                                    refine lv_iload hx hb d_Mo_feed_94 (lv_at hl 1 rfl) ?_
                                                    refine lv_iconst (v := 4) hx hb d_Mo_feed_96 (by decide) ?_
                                                    refine lv_topq (y := nI 4) (rfl) ?_
                                                    refine lv_irem hx hb d_Mo_feed_97 (by decide) ?_
                                                    refine lv_topq (y := nI 0) (by decide) ?_
                                                    refine lv_isub hx hb d_Mo_feed_98 ?_
                                                    refine lv_topq (y := nI 3) (rfl) ?_
                                                    refine lv_imul hx hb d_Mo_feed_99 ?_
                                                    refine lv_topq (y := nI 24) (rfl) ?_
                                                    refine lv_ishr hx hb d_Mo_feed_100 ?_
                                                    refine lv_topq (y := v3 >>> (nI 24 &&& 31)) (rfl) ?_
                                                    refine lv_i2b hx hb d_Mo_feed_101 rfl ?_
                                                    refine va_bast (D := D9) hx hb hK hP hD hS 34 0 ww_34 rfl (vp_in_nI (by omega) (by decide)) d_Mo_feed_102 (fun H locs hP hD hS => ?_)
                                                    obtain ⟨F35, aF35, sF35, hP, hD⟩ := fx (P := fun z => va_P D9 cls9 (WW a cB cI cJ cG _ z O) H ∧ va_D A0 (WW a cB cI cJ cG _ z O)) ⟨wpa_34 hP, wda_34 hD⟩
                                                    rw [nI_clamp (by omega)] at aF35
                                                    have hB9 := BR_putb (x := v3 >>> (nI 24 &&& 31)) hB8 (k := t.length + 8) (by simp only [List.length_append, List.length_singleton]) (ub_s24 v3)
                                                    have hB9 := BR_eq hB9 aF35
                                                    refine lv_iinc (lv' := [(6, .int (nI 9)), (7, _), (0, _), (1, _), (2, _), (3, _), (4, _), (5, _)]) hx hb d_Mo_feed_103 hl (k := 1) rfl rfl (by decide) rfl (fun ls hl => ?_)
                                                    refine lv_goto (tgt := 23) hx hb d_Mo_feed_106 (by decide) ?_
                                                    refine lv_iload hx hb d_Mo_feed_23 (lv_at hl 0 rfl) ?_
                                                    refine lv_bipush (v := 20) hx hb d_Mo_feed_25 (by decide) ?_
                                                    refine lv_topq (y := nI 20) (rfl) ?_
                                                    refine lv_icmp_ge (tgt := 109) hx hb d_Mo_feed_27 (by decide) (fun c36 => ?_) (fun c36 => ?_)
                                                    · exact absurd c36 (by decide)
                                                    · refine lv_iload hx hb d_Mo_feed_30 (lv_at hl 0 rfl) ?_
                                                      refine lv_iconst (v := 4) hx hb d_Mo_feed_32 (by decide) ?_
                                                      refine lv_topq (y := nI 4) (rfl) ?_
                                                      refine lv_icmp_ge (tgt := 40) hx hb d_Mo_feed_33 (by decide) (fun c37 => ?_) (fun c37 => ?_)
                                                      · refine lv_iload hx hb d_Mo_feed_40 (lv_at hl 0 rfl) ?_
                                                        refine lv_bipush (v := 8) hx hb d_Mo_feed_42 (by decide) ?_
                                                        refine lv_topq (y := nI 8) (rfl) ?_
                                                        refine lv_icmp_ge (tgt := 51) hx hb d_Mo_feed_44 (by decide) (fun c38 => ?_) (fun c38 => ?_)
                                                        · refine lv_iload hx hb d_Mo_feed_51 (lv_at hl 0 rfl) ?_
                                                          refine lv_bipush (v := 12) hx hb d_Mo_feed_53 (by decide) ?_
                                                          refine lv_topq (y := nI 12) (rfl) ?_
                                                          refine lv_icmp_ge (tgt := 62) hx hb d_Mo_feed_55 (by decide) (fun c39 => ?_) (fun c39 => ?_)
                                                          · exact absurd c39 (by decide)
                                                          · refine lv_iload_n hx hb d_Mo_feed_58 rfl (lv_at hl 5 rfl) ?_
                                                            refine lv_goto (tgt := 76) hx hb d_Mo_feed_59 (by decide) ?_
                                                            refine lv_istore (lv' := [(7, _), (6, _), (0, _), (1, _), (2, _), (3, _), (4, _), (5, _)]) hx hb d_Mo_feed_76 hl (by decide) rfl (fun ls hl => ?_)
                                                            refine lv_aload_n hx hb d_Mo_feed_78 rfl (lv_at hl 2 rfl) ?_
                                                            refine va_get (D := D9) (ci := 7) (C := R_Mo) (T := F_Mo) (N := 30) hx hb hts i_Mo hown hK hP 33 ww_33 rfl 1 (by decide) (hts _ g_723) (fun _ h9 => h9) rfl d_Mo_feed_79 ?_
                                                            refine lv_aload_n hx hb d_Mo_feed_82 rfl (lv_at hl 2 rfl) ?_
                                                            refine va_get (D := D9) (ci := 7) (C := R_Mo) (T := F_Mo) (N := 30) hx hb hts i_Mo hown hK hP 33 ww_33 rfl 2 (by decide) (hts _ g_724) (fun _ h9 => h9) rfl d_Mo_feed_83 ?_
                                                            refine lv_topq (y := nI t.length) (((sI1 16 (by decide)).trans h16)) ?_
                                                            refine lv_iload hx hb d_Mo_feed_86 (lv_at hl 1 rfl) ?_
                                                            refine lv_iadd hx hb d_Mo_feed_88 ?_
                                                            refine lv_topq (y := nI (t.length + 9)) (nI_add _ _) ?_
                                                            refine lv_iload hx hb d_Mo_feed_89 (lv_at hl 0 rfl) ?_
                                                            refine lv_bipush (v := 8) hx hb d_Mo_feed_91 (by decide) ?_
                                                            refine lv_topq (y := nI 8) (rfl) ?_
                                                            refine lv_iconst (v := 3) hx hb d_Mo_feed_93 (by decide) ?_
                                                            refine lv_topq (y := nI 3) (rfl) ?_
                                                            refine lv_iload hx hb d_Mo_feed_94 (lv_at hl 1 rfl) ?_
                                                            refine lv_iconst (v := 4) hx hb d_Mo_feed_96 (by decide) ?_
                                                            refine lv_topq (y := nI 4) (rfl) ?_
                                                            refine lv_irem hx hb d_Mo_feed_97 (by decide) ?_
                                                            refine lv_topq (y := nI 1) (by decide) ?_
                                                            refine lv_isub hx hb d_Mo_feed_98 ?_
                                                            refine lv_topq (y := nI 2) (rfl) ?_
                                                            refine lv_imul hx hb d_Mo_feed_99 ?_
                                                            refine lv_topq (y := nI 16) (rfl) ?_
                                                            refine lv_ishr hx hb d_Mo_feed_100 ?_
                                                            refine lv_topq (y := v3 >>> (nI 16 &&& 31)) (rfl) ?_
                                                            refine lv_i2b hx hb d_Mo_feed_101 rfl ?_
                                                            refine va_bast (D := D9) hx hb hK hP hD hS 34 0 ww_34 rfl (vp_in_nI (by omega) (by decide)) d_Mo_feed_102 (fun H locs hP hD hS => ?_)
                                                            obtain ⟨F40, aF40, sF40, hP, hD⟩ := fx (P := fun z => va_P D9 cls9 (WW a cB cI cJ cG _ z O) H ∧ va_D A0 (WW a cB cI cJ cG _ z O)) ⟨wpa_34 hP, wda_34 hD⟩
                                                            rw [nI_clamp (by omega)] at aF40
                                                            have hB10 := BR_putb (x := v3 >>> (nI 16 &&& 31)) hB9 (k := t.length + 9) (by simp only [List.length_append, List.length_singleton]) (ub_s16 v3)
                                                            have hB10 := BR_eq hB10 aF40
                                                            refine lv_iinc (lv' := [(6, .int (nI 10)), (7, _), (0, _), (1, _), (2, _), (3, _), (4, _), (5, _)]) hx hb d_Mo_feed_103 hl (k := 1) rfl rfl (by decide) rfl (fun ls hl => ?_)
                                                            refine lv_goto (tgt := 23) hx hb d_Mo_feed_106 (by decide) ?_
                                                            refine lv_iload hx hb d_Mo_feed_23 (lv_at hl 0 rfl) ?_
                                                            refine lv_bipush (v := 20) hx hb d_Mo_feed_25 (by decide) ?_
                                                            refine lv_topq (y := nI 20) (rfl) ?_
                                                            refine lv_icmp_ge (tgt := 109) hx hb d_Mo_feed_27 (by decide) (fun c41 => ?_) (fun c41 => ?_)
                                                            · exact absurd c41 (by decide)
                                                            · refine lv_iload hx hb d_Mo_feed_30 (lv_at hl 0 rfl) ?_
                                                              refine lv_iconst (v := 4) hx hb d_Mo_feed_32 (by decide) ?_
                                                              refine lv_topq (y := nI 4) (rfl) ?_
                                                              refine lv_icmp_ge (tgt := 40) hx hb d_Mo_feed_33 (by decide) (fun c42 => ?_) (fun c42 => ?_)
                                                              · refine lv_iload hx hb d_Mo_feed_40 (lv_at hl 0 rfl) ?_
                                                                refine lv_bipush (v := 8) hx hb d_Mo_feed_42 (by decide) ?_
                                                                refine lv_topq (y := nI 8) (rfl) ?_
                                                                refine lv_icmp_ge (tgt := 51) hx hb d_Mo_feed_44 (by decide) (fun c43 => ?_) (fun c43 => ?_)
                                                                · refine lv_iload hx hb d_Mo_feed_51 (lv_at hl 0 rfl) ?_
                                                                  refine lv_bipush (v := 12) hx hb d_Mo_feed_53 (by decide) ?_
                                                                  refine lv_topq (y := nI 12) (rfl) ?_
                                                                  refine lv_icmp_ge (tgt := 62) hx hb d_Mo_feed_55 (by decide) (fun c44 => ?_) (fun c44 => ?_)
                                                                  · exact absurd c44 (by decide)
                                                                  · refine lv_iload_n hx hb d_Mo_feed_58 rfl (lv_at hl 5 rfl) ?_
                                                                    refine lv_goto (tgt := 76) hx hb d_Mo_feed_59 (by decide) ?_
                                                                    refine lv_istore (lv' := [(7, _), (6, _), (0, _), (1, _), (2, _), (3, _), (4, _), (5, _)]) hx hb d_Mo_feed_76 hl (by decide) rfl (fun ls hl => ?_)
                                                                    refine lv_aload_n hx hb d_Mo_feed_78 rfl (lv_at hl 2 rfl) ?_
                                                                    refine va_get (D := D9) (ci := 7) (C := R_Mo) (T := F_Mo) (N := 30) hx hb hts i_Mo hown hK hP 33 ww_33 rfl 1 (by decide) (hts _ g_723) (fun _ h9 => h9) rfl d_Mo_feed_79 ?_
                                                                    refine lv_aload_n hx hb d_Mo_feed_82 rfl (lv_at hl 2 rfl) ?_
                                                                    refine va_get (D := D9) (ci := 7) (C := R_Mo) (T := F_Mo) (N := 30) hx hb hts i_Mo hown hK hP 33 ww_33 rfl 2 (by decide) (hts _ g_724) (fun _ h9 => h9) rfl d_Mo_feed_83 ?_
                                                                    refine lv_topq (y := nI t.length) (((sI1 16 (by decide)).trans h16)) ?_
                                                                    refine lv_iload hx hb d_Mo_feed_86 (lv_at hl 1 rfl) ?_
                                                                    refine lv_iadd hx hb d_Mo_feed_88 ?_
                                                                    refine lv_topq (y := nI (t.length + 10)) (nI_add _ _) ?_
                                                                    refine lv_iload hx hb d_Mo_feed_89 (lv_at hl 0 rfl) ?_
                                                                    refine lv_bipush (v := 8) hx hb d_Mo_feed_91 (by decide) ?_
                                                                    refine lv_topq (y := nI 8) (rfl) ?_
                                                                    refine lv_iconst (v := 3) hx hb d_Mo_feed_93 (by decide) ?_
                                                                    refine lv_topq (y := nI 3) (rfl) ?_
                                                                    refine lv_iload hx hb d_Mo_feed_94 (lv_at hl 1 rfl) ?_
                                                                    refine lv_iconst (v := 4) hx hb d_Mo_feed_96 (by decide) ?_
                                                                    refine lv_topq (y := nI 4) (rfl) ?_
                                                                    refine lv_irem hx hb d_Mo_feed_97 (by decide) ?_
                                                                    refine lv_topq (y := nI 2) (by decide) ?_
                                                                    refine lv_isub hx hb d_Mo_feed_98 ?_
                                                                    refine lv_topq (y := nI 1) (rfl) ?_
                                                                    refine lv_imul hx hb d_Mo_feed_99 ?_
                                                                    refine lv_topq (y := nI 8) (rfl) ?_
                                                                    refine lv_ishr hx hb d_Mo_feed_100 ?_
                                                                    refine lv_topq (y := v3 >>> (nI 8 &&& 31)) (rfl) ?_
                                                                    refine lv_i2b hx hb d_Mo_feed_101 rfl ?_
                                                                    refine va_bast (D := D9) hx hb hK hP hD hS 34 0 ww_34 rfl (vp_in_nI (by omega) (by decide)) d_Mo_feed_102 (fun H locs hP hD hS => ?_)
                                                                    obtain ⟨F45, aF45, sF45, hP, hD⟩ := fx (P := fun z => va_P D9 cls9 (WW a cB cI cJ cG _ z O) H ∧ va_D A0 (WW a cB cI cJ cG _ z O)) ⟨wpa_34 hP, wda_34 hD⟩
                                                                    rw [nI_clamp (by omega)] at aF45
                                                                    have hB11 := BR_putb (x := v3 >>> (nI 8 &&& 31)) hB10 (k := t.length + 10) (by simp only [List.length_append, List.length_singleton]) (ub_s8 v3)
                                                                    have hB11 := BR_eq hB11 aF45
                                                                    refine lv_iinc (lv' := [(6, .int (nI 11)), (7, _), (0, _), (1, _), (2, _), (3, _), (4, _), (5, _)]) hx hb d_Mo_feed_103 hl (k := 1) rfl rfl (by decide) rfl (fun ls hl => ?_)
                                                                    refine lv_goto (tgt := 23) hx hb d_Mo_feed_106 (by decide) ?_
                                                                    refine lv_iload hx hb d_Mo_feed_23 (lv_at hl 0 rfl) ?_
                                                                    refine lv_bipush (v := 20) hx hb d_Mo_feed_25 (by decide) ?_
                                                                    refine lv_topq (y := nI 20) (rfl) ?_
                                                                    refine lv_icmp_ge (tgt := 109) hx hb d_Mo_feed_27 (by decide) (fun c46 => ?_) (fun c46 => ?_)
                                                                    · exact absurd c46 (by decide)
                                                                    · refine lv_iload hx hb d_Mo_feed_30 (lv_at hl 0 rfl) ?_
                                                                      refine lv_iconst (v := 4) hx hb d_Mo_feed_32 (by decide) ?_
                                                                      refine lv_topq (y := nI 4) (rfl) ?_
                                                                      refine lv_icmp_ge (tgt := 40) hx hb d_Mo_feed_33 (by decide) (fun c47 => ?_) (fun c47 => ?_)
                                                                      · refine lv_iload hx hb d_Mo_feed_40 (lv_at hl 0 rfl) ?_
                                                                        refine lv_bipush (v := 8) hx hb d_Mo_feed_42 (by decide) ?_
                                                                        refine lv_topq (y := nI 8) (rfl) ?_
                                                                        refine lv_icmp_ge (tgt := 51) hx hb d_Mo_feed_44 (by decide) (fun c48 => ?_) (fun c48 => ?_)
                                                                        · refine lv_iload hx hb d_Mo_feed_51 (lv_at hl 0 rfl) ?_
                                                                          refine lv_bipush (v := 12) hx hb d_Mo_feed_53 (by decide) ?_
                                                                          refine lv_topq (y := nI 12) (rfl) ?_
                                                                          refine lv_icmp_ge (tgt := 62) hx hb d_Mo_feed_55 (by decide) (fun c49 => ?_) (fun c49 => ?_)
                                                                          · exact absurd c49 (by decide)
                                                                          · refine lv_iload_n hx hb d_Mo_feed_58 rfl (lv_at hl 5 rfl) ?_
                                                                            refine lv_goto (tgt := 76) hx hb d_Mo_feed_59 (by decide) ?_
                                                                            refine lv_istore (lv' := [(7, _), (6, _), (0, _), (1, _), (2, _), (3, _), (4, _), (5, _)]) hx hb d_Mo_feed_76 hl (by decide) rfl (fun ls hl => ?_)
                                                                            refine lv_aload_n hx hb d_Mo_feed_78 rfl (lv_at hl 2 rfl) ?_
                                                                            refine va_get (D := D9) (ci := 7) (C := R_Mo) (T := F_Mo) (N := 30) hx hb hts i_Mo hown hK hP 33 ww_33 rfl 1 (by decide) (hts _ g_723) (fun _ h9 => h9) rfl d_Mo_feed_79 ?_
                                                                            refine lv_aload_n hx hb d_Mo_feed_82 rfl (lv_at hl 2 rfl) ?_
                                                                            refine va_get (D := D9) (ci := 7) (C := R_Mo) (T := F_Mo) (N := 30) hx hb hts i_Mo hown hK hP 33 ww_33 rfl 2 (by decide) (hts _ g_724) (fun _ h9 => h9) rfl d_Mo_feed_83 ?_
                                                                            refine lv_topq (y := nI t.length) (((sI1 16 (by decide)).trans h16)) ?_
                                                                            refine lv_iload hx hb d_Mo_feed_86 (lv_at hl 1 rfl) ?_
                                                                            refine lv_iadd hx hb d_Mo_feed_88 ?_
                                                                            refine lv_topq (y := nI (t.length + 11)) (nI_add _ _) ?_
                                                                            refine lv_iload hx hb d_Mo_feed_89 (lv_at hl 0 rfl) ?_
                                                                            refine lv_bipush (v := 8) hx hb d_Mo_feed_91 (by decide) ?_
                                                                            refine lv_topq (y := nI 8) (rfl) ?_
                                                                            refine lv_iconst (v := 3) hx hb d_Mo_feed_93 (by decide) ?_
                                                                            refine lv_topq (y := nI 3) (rfl) ?_
                                                                            refine lv_iload hx hb d_Mo_feed_94 (lv_at hl 1 rfl) ?_
                                                                            refine lv_iconst (v := 4) hx hb d_Mo_feed_96 (by decide) ?_
                                                                            refine lv_topq (y := nI 4) (rfl) ?_
                                                                            refine lv_irem hx hb d_Mo_feed_97 (by decide) ?_
                                                                            refine lv_topq (y := nI 3) (by decide) ?_
                                                                            refine lv_isub hx hb d_Mo_feed_98 ?_
                                                                            refine lv_topq (y := nI 0) (rfl) ?_
                                                                            refine lv_imul hx hb d_Mo_feed_99 ?_
                                                                            refine lv_topq (y := nI 0) (rfl) ?_
                                                                            refine lv_ishr hx hb d_Mo_feed_100 ?_
                                                                            refine lv_topq (y := v3 >>> (nI 0 &&& 31)) (rfl) ?_
                                                                            refine lv_i2b hx hb d_Mo_feed_101 rfl ?_
                                                                            refine va_bast (D := D9) hx hb hK hP hD hS 34 0 ww_34 rfl (vp_in_nI (by omega) (by decide)) d_Mo_feed_102 (fun H locs hP hD hS => ?_)
                                                                            obtain ⟨F50, aF50, sF50, hP, hD⟩ := fx (P := fun z => va_P D9 cls9 (WW a cB cI cJ cG _ z O) H ∧ va_D A0 (WW a cB cI cJ cG _ z O)) ⟨wpa_34 hP, wda_34 hD⟩
                                                                            rw [nI_clamp (by omega)] at aF50
                                                                            have hB12 := BR_putb (x := v3 >>> (nI 0 &&& 31)) hB11 (k := t.length + 11) (by simp only [List.length_append, List.length_singleton]) (ub_s0 v3)
                                                                            have hB12 := BR_eq hB12 aF50
                                                                            refine lv_iinc (lv' := [(6, .int (nI 12)), (7, _), (0, _), (1, _), (2, _), (3, _), (4, _), (5, _)]) hx hb d_Mo_feed_103 hl (k := 1) rfl rfl (by decide) rfl (fun ls hl => ?_)
                                                                            refine lv_goto (tgt := 23) hx hb d_Mo_feed_106 (by decide) ?_
                                                                            refine lv_iload hx hb d_Mo_feed_23 (lv_at hl 0 rfl) ?_
                                                                            refine lv_bipush (v := 20) hx hb d_Mo_feed_25 (by decide) ?_
                                                                            refine lv_topq (y := nI 20) (rfl) ?_
                                                                            refine lv_icmp_ge (tgt := 109) hx hb d_Mo_feed_27 (by decide) (fun c51 => ?_) (fun c51 => ?_)
                                                                            · exact absurd c51 (by decide)
                                                                            · refine lv_iload hx hb d_Mo_feed_30 (lv_at hl 0 rfl) ?_
                                                                              refine lv_iconst (v := 4) hx hb d_Mo_feed_32 (by decide) ?_
                                                                              refine lv_topq (y := nI 4) (rfl) ?_
                                                                              refine lv_icmp_ge (tgt := 40) hx hb d_Mo_feed_33 (by decide) (fun c52 => ?_) (fun c52 => ?_)
                                                                              · refine lv_iload hx hb d_Mo_feed_40 (lv_at hl 0 rfl) ?_
                                                                                refine lv_bipush (v := 8) hx hb d_Mo_feed_42 (by decide) ?_
                                                                                refine lv_topq (y := nI 8) (rfl) ?_
                                                                                refine lv_icmp_ge (tgt := 51) hx hb d_Mo_feed_44 (by decide) (fun c53 => ?_) (fun c53 => ?_)
                                                                                · refine lv_iload hx hb d_Mo_feed_51 (lv_at hl 0 rfl) ?_
                                                                                  refine lv_bipush (v := 12) hx hb d_Mo_feed_53 (by decide) ?_
                                                                                  refine lv_topq (y := nI 12) (rfl) ?_
                                                                                  refine lv_icmp_ge (tgt := 62) hx hb d_Mo_feed_55 (by decide) (fun c54 => ?_) (fun c54 => ?_)
                                                                                  · refine lv_iload hx hb d_Mo_feed_62 (lv_at hl 0 rfl) ?_
                                                                                    refine lv_bipush (v := 16) hx hb d_Mo_feed_64 (by decide) ?_
                                                                                    refine lv_topq (y := nI 16) (rfl) ?_
                                                                                    refine lv_icmp_ge (tgt := 74) hx hb d_Mo_feed_66 (by decide) (fun c55 => ?_) (fun c55 => ?_)
                                                                                    · exact absurd c55 (by decide)
                                                                                    · refine lv_iload hx hb d_Mo_feed_69 (lv_at hl 6 rfl) ?_
                                                                                      refine lv_goto (tgt := 76) hx hb d_Mo_feed_71 (by decide) ?_
                                                                                      refine lv_istore (lv' := [(7, _), (6, _), (0, _), (1, _), (2, _), (3, _), (4, _), (5, _)]) hx hb d_Mo_feed_76 hl (by decide) rfl (fun ls hl => ?_)
                                                                                      refine lv_aload_n hx hb d_Mo_feed_78 rfl (lv_at hl 2 rfl) ?_
                                                                                      refine va_get (D := D9) (ci := 7) (C := R_Mo) (T := F_Mo) (N := 30) hx hb hts i_Mo hown hK hP 33 ww_33 rfl 1 (by decide) (hts _ g_723) (fun _ h9 => h9) rfl d_Mo_feed_79 ?_
                                                                                      refine lv_aload_n hx hb d_Mo_feed_82 rfl (lv_at hl 2 rfl) ?_
                                                                                      refine va_get (D := D9) (ci := 7) (C := R_Mo) (T := F_Mo) (N := 30) hx hb hts i_Mo hown hK hP 33 ww_33 rfl 2 (by decide) (hts _ g_724) (fun _ h9 => h9) rfl d_Mo_feed_83 ?_
                                                                                      refine lv_topq (y := nI t.length) (((sI1 16 (by decide)).trans h16)) ?_
                                                                                      refine lv_iload hx hb d_Mo_feed_86 (lv_at hl 1 rfl) ?_
                                                                                      refine lv_iadd hx hb d_Mo_feed_88 ?_
                                                                                      refine lv_topq (y := nI (t.length + 12)) (nI_add _ _) ?_
                                                                                      refine lv_iload hx hb d_Mo_feed_89 (lv_at hl 0 rfl) ?_
                                                                                      refine lv_bipush (v := 8) hx hb d_Mo_feed_91 (by decide) ?_
                                                                                      refine lv_topq (y := nI 8) (rfl) ?_
                                                                                      refine lv_iconst (v := 3) hx hb d_Mo_feed_93 (by decide) ?_
                                                                                      refine lv_topq (y := nI 3) (rfl) ?_
                                                                                      refine lv_iload hx hb d_Mo_feed_94 (lv_at hl 1 rfl) ?_
                                                                                      refine lv_iconst (v := 4) hx hb d_Mo_feed_96 (by decide) ?_
                                                                                      refine lv_topq (y := nI 4) (rfl) ?_
                                                                                      refine lv_irem hx hb d_Mo_feed_97 (by decide) ?_
                                                                                      refine lv_topq (y := nI 0) (by decide) ?_
                                                                                      refine lv_isub hx hb d_Mo_feed_98 ?_
                                                                                      refine lv_topq (y := nI 3) (rfl) ?_
                                                                                      refine lv_imul hx hb d_Mo_feed_99 ?_
                                                                                      refine lv_topq (y := nI 24) (rfl) ?_
                                                                                      refine lv_ishr hx hb d_Mo_feed_100 ?_
                                                                                      refine lv_topq (y := v4 >>> (nI 24 &&& 31)) (rfl) ?_
                                                                                      refine lv_i2b hx hb d_Mo_feed_101 rfl ?_
                                                                                      refine va_bast (D := D9) hx hb hK hP hD hS 34 0 ww_34 rfl (vp_in_nI (by omega) (by decide)) d_Mo_feed_102 (fun H locs hP hD hS => ?_)
                                                                                      obtain ⟨F56, aF56, sF56, hP, hD⟩ := fx (P := fun z => va_P D9 cls9 (WW a cB cI cJ cG _ z O) H ∧ va_D A0 (WW a cB cI cJ cG _ z O)) ⟨wpa_34 hP, wda_34 hD⟩
                                                                                      rw [nI_clamp (by omega)] at aF56
                                                                                      have hB13 := BR_putb (x := v4 >>> (nI 24 &&& 31)) hB12 (k := t.length + 12) (by simp only [List.length_append, List.length_singleton]) (ub_s24 v4)
                                                                                      have hB13 := BR_eq hB13 aF56
                                                                                      refine lv_iinc (lv' := [(6, .int (nI 13)), (7, _), (0, _), (1, _), (2, _), (3, _), (4, _), (5, _)]) hx hb d_Mo_feed_103 hl (k := 1) rfl rfl (by decide) rfl (fun ls hl => ?_)
                                                                                      refine lv_goto (tgt := 23) hx hb d_Mo_feed_106 (by decide) ?_
                                                                                      refine lv_iload hx hb d_Mo_feed_23 (lv_at hl 0 rfl) ?_
                                                                                      refine lv_bipush (v := 20) hx hb d_Mo_feed_25 (by decide) ?_
                                                                                      refine lv_topq (y := nI 20) (rfl) ?_
                                                                                      refine lv_icmp_ge (tgt := 109) hx hb d_Mo_feed_27 (by decide) (fun c57 => ?_) (fun c57 => ?_)
                                                                                      · exact absurd c57 (by decide)
                                                                                      · refine lv_iload hx hb d_Mo_feed_30 (lv_at hl 0 rfl) ?_
                                                                                        refine lv_iconst (v := 4) hx hb d_Mo_feed_32 (by decide) ?_
                                                                                        refine lv_topq (y := nI 4) (rfl) ?_
                                                                                        refine lv_icmp_ge (tgt := 40) hx hb d_Mo_feed_33 (by decide) (fun c58 => ?_) (fun c58 => ?_)
                                                                                        · refine lv_iload hx hb d_Mo_feed_40 (lv_at hl 0 rfl) ?_
                                                                                          refine lv_bipush (v := 8) hx hb d_Mo_feed_42 (by decide) ?_
                                                                                          refine lv_topq (y := nI 8) (rfl) ?_
                                                                                          refine lv_icmp_ge (tgt := 51) hx hb d_Mo_feed_44 (by decide) (fun c59 => ?_) (fun c59 => ?_)
                                                                                          · refine lv_iload hx hb d_Mo_feed_51 (lv_at hl 0 rfl) ?_
                                                                                            refine lv_bipush (v := 12) hx hb d_Mo_feed_53 (by decide) ?_
                                                                                            refine lv_topq (y := nI 12) (rfl) ?_
                                                                                            refine lv_icmp_ge (tgt := 62) hx hb d_Mo_feed_55 (by decide) (fun c60 => ?_) (fun c60 => ?_)
                                                                                            · refine lv_iload hx hb d_Mo_feed_62 (lv_at hl 0 rfl) ?_
                                                                                              refine lv_bipush (v := 16) hx hb d_Mo_feed_64 (by decide) ?_
                                                                                              refine lv_topq (y := nI 16) (rfl) ?_
                                                                                              refine lv_icmp_ge (tgt := 74) hx hb d_Mo_feed_66 (by decide) (fun c61 => ?_) (fun c61 => ?_)
                                                                                              · exact absurd c61 (by decide)
                                                                                              · refine lv_iload hx hb d_Mo_feed_69 (lv_at hl 6 rfl) ?_
                                                                                                refine lv_goto (tgt := 76) hx hb d_Mo_feed_71 (by decide) ?_
                                                                                                refine lv_istore (lv' := [(7, _), (6, _), (0, _), (1, _), (2, _), (3, _), (4, _), (5, _)]) hx hb d_Mo_feed_76 hl (by decide) rfl (fun ls hl => ?_)
                                                                                                refine lv_aload_n hx hb d_Mo_feed_78 rfl (lv_at hl 2 rfl) ?_
                                                                                                refine va_get (D := D9) (ci := 7) (C := R_Mo) (T := F_Mo) (N := 30) hx hb hts i_Mo hown hK hP 33 ww_33 rfl 1 (by decide) (hts _ g_723) (fun _ h9 => h9) rfl d_Mo_feed_79 ?_
                                                                                                refine lv_aload_n hx hb d_Mo_feed_82 rfl (lv_at hl 2 rfl) ?_
                                                                                                refine va_get (D := D9) (ci := 7) (C := R_Mo) (T := F_Mo) (N := 30) hx hb hts i_Mo hown hK hP 33 ww_33 rfl 2 (by decide) (hts _ g_724) (fun _ h9 => h9) rfl d_Mo_feed_83 ?_
                                                                                                refine lv_topq (y := nI t.length) (((sI1 16 (by decide)).trans h16)) ?_
                                                                                                refine lv_iload hx hb d_Mo_feed_86 (lv_at hl 1 rfl) ?_
                                                                                                refine lv_iadd hx hb d_Mo_feed_88 ?_
                                                                                                refine lv_topq (y := nI (t.length + 13)) (nI_add _ _) ?_
                                                                                                refine lv_iload hx hb d_Mo_feed_89 (lv_at hl 0 rfl) ?_
                                                                                                refine lv_bipush (v := 8) hx hb d_Mo_feed_91 (by decide) ?_
                                                                                                refine lv_topq (y := nI 8) (rfl) ?_
                                                                                                refine lv_iconst (v := 3) hx hb d_Mo_feed_93 (by decide) ?_
                                                                                                refine lv_topq (y := nI 3) (rfl) ?_
                                                                                                refine lv_iload hx hb d_Mo_feed_94 (lv_at hl 1 rfl) ?_
                                                                                                refine lv_iconst (v := 4) hx hb d_Mo_feed_96 (by decide) ?_
                                                                                                refine lv_topq (y := nI 4) (rfl) ?_
                                                                                                refine lv_irem hx hb d_Mo_feed_97 (by decide) ?_
                                                                                                refine lv_topq (y := nI 1) (by decide) ?_
                                                                                                refine lv_isub hx hb d_Mo_feed_98 ?_
                                                                                                refine lv_topq (y := nI 2) (rfl) ?_
                                                                                                refine lv_imul hx hb d_Mo_feed_99 ?_
                                                                                                refine lv_topq (y := nI 16) (rfl) ?_
                                                                                                refine lv_ishr hx hb d_Mo_feed_100 ?_
                                                                                                refine lv_topq (y := v4 >>> (nI 16 &&& 31)) (rfl) ?_
                                                                                                refine lv_i2b hx hb d_Mo_feed_101 rfl ?_
                                                                                                refine va_bast (D := D9) hx hb hK hP hD hS 34 0 ww_34 rfl (vp_in_nI (by omega) (by decide)) d_Mo_feed_102 (fun H locs hP hD hS => ?_)
                                                                                                obtain ⟨F62, aF62, sF62, hP, hD⟩ := fx (P := fun z => va_P D9 cls9 (WW a cB cI cJ cG _ z O) H ∧ va_D A0 (WW a cB cI cJ cG _ z O)) ⟨wpa_34 hP, wda_34 hD⟩
                                                                                                rw [nI_clamp (by omega)] at aF62
                                                                                                have hB14 := BR_putb (x := v4 >>> (nI 16 &&& 31)) hB13 (k := t.length + 13) (by simp only [List.length_append, List.length_singleton]) (ub_s16 v4)
                                                                                                have hB14 := BR_eq hB14 aF62
                                                                                                refine lv_iinc (lv' := [(6, .int (nI 14)), (7, _), (0, _), (1, _), (2, _), (3, _), (4, _), (5, _)]) hx hb d_Mo_feed_103 hl (k := 1) rfl rfl (by decide) rfl (fun ls hl => ?_)
                                                                                                refine lv_goto (tgt := 23) hx hb d_Mo_feed_106 (by decide) ?_
                                                                                                refine lv_iload hx hb d_Mo_feed_23 (lv_at hl 0 rfl) ?_
                                                                                                refine lv_bipush (v := 20) hx hb d_Mo_feed_25 (by decide) ?_
                                                                                                refine lv_topq (y := nI 20) (rfl) ?_
                                                                                                refine lv_icmp_ge (tgt := 109) hx hb d_Mo_feed_27 (by decide) (fun c63 => ?_) (fun c63 => ?_)
                                                                                                · exact absurd c63 (by decide)
                                                                                                · refine lv_iload hx hb d_Mo_feed_30 (lv_at hl 0 rfl) ?_
                                                                                                  refine lv_iconst (v := 4) hx hb d_Mo_feed_32 (by decide) ?_
                                                                                                  refine lv_topq (y := nI 4) (rfl) ?_
                                                                                                  refine lv_icmp_ge (tgt := 40) hx hb d_Mo_feed_33 (by decide) (fun c64 => ?_) (fun c64 => ?_)
                                                                                                  · refine lv_iload hx hb d_Mo_feed_40 (lv_at hl 0 rfl) ?_
                                                                                                    refine lv_bipush (v := 8) hx hb d_Mo_feed_42 (by decide) ?_
                                                                                                    refine lv_topq (y := nI 8) (rfl) ?_
                                                                                                    refine lv_icmp_ge (tgt := 51) hx hb d_Mo_feed_44 (by decide) (fun c65 => ?_) (fun c65 => ?_)
                                                                                                    · refine lv_iload hx hb d_Mo_feed_51 (lv_at hl 0 rfl) ?_
                                                                                                      refine lv_bipush (v := 12) hx hb d_Mo_feed_53 (by decide) ?_
                                                                                                      refine lv_topq (y := nI 12) (rfl) ?_
                                                                                                      refine lv_icmp_ge (tgt := 62) hx hb d_Mo_feed_55 (by decide) (fun c66 => ?_) (fun c66 => ?_)
                                                                                                      · refine lv_iload hx hb d_Mo_feed_62 (lv_at hl 0 rfl) ?_
                                                                                                        refine lv_bipush (v := 16) hx hb d_Mo_feed_64 (by decide) ?_
                                                                                                        refine lv_topq (y := nI 16) (rfl) ?_
                                                                                                        refine lv_icmp_ge (tgt := 74) hx hb d_Mo_feed_66 (by decide) (fun c67 => ?_) (fun c67 => ?_)
                                                                                                        · exact absurd c67 (by decide)
                                                                                                        · refine lv_iload hx hb d_Mo_feed_69 (lv_at hl 6 rfl) ?_
                                                                                                          refine lv_goto (tgt := 76) hx hb d_Mo_feed_71 (by decide) ?_
                                                                                                          refine lv_istore (lv' := [(7, _), (6, _), (0, _), (1, _), (2, _), (3, _), (4, _), (5, _)]) hx hb d_Mo_feed_76 hl (by decide) rfl (fun ls hl => ?_)
                                                                                                          refine lv_aload_n hx hb d_Mo_feed_78 rfl (lv_at hl 2 rfl) ?_
                                                                                                          refine va_get (D := D9) (ci := 7) (C := R_Mo) (T := F_Mo) (N := 30) hx hb hts i_Mo hown hK hP 33 ww_33 rfl 1 (by decide) (hts _ g_723) (fun _ h9 => h9) rfl d_Mo_feed_79 ?_
                                                                                                          refine lv_aload_n hx hb d_Mo_feed_82 rfl (lv_at hl 2 rfl) ?_
                                                                                                          refine va_get (D := D9) (ci := 7) (C := R_Mo) (T := F_Mo) (N := 30) hx hb hts i_Mo hown hK hP 33 ww_33 rfl 2 (by decide) (hts _ g_724) (fun _ h9 => h9) rfl d_Mo_feed_83 ?_
                                                                                                          refine lv_topq (y := nI t.length) (((sI1 16 (by decide)).trans h16)) ?_
                                                                                                          refine lv_iload hx hb d_Mo_feed_86 (lv_at hl 1 rfl) ?_
                                                                                                          refine lv_iadd hx hb d_Mo_feed_88 ?_
                                                                                                          refine lv_topq (y := nI (t.length + 14)) (nI_add _ _) ?_
                                                                                                          refine lv_iload hx hb d_Mo_feed_89 (lv_at hl 0 rfl) ?_
                                                                                                          refine lv_bipush (v := 8) hx hb d_Mo_feed_91 (by decide) ?_
                                                                                                          refine lv_topq (y := nI 8) (rfl) ?_
                                                                                                          refine lv_iconst (v := 3) hx hb d_Mo_feed_93 (by decide) ?_
                                                                                                          refine lv_topq (y := nI 3) (rfl) ?_
                                                                                                          refine lv_iload hx hb d_Mo_feed_94 (lv_at hl 1 rfl) ?_
                                                                                                          refine lv_iconst (v := 4) hx hb d_Mo_feed_96 (by decide) ?_
                                                                                                          refine lv_topq (y := nI 4) (rfl) ?_
                                                                                                          refine lv_irem hx hb d_Mo_feed_97 (by decide) ?_
                                                                                                          refine lv_topq (y := nI 2) (by decide) ?_
                                                                                                          refine lv_isub hx hb d_Mo_feed_98 ?_
                                                                                                          refine lv_topq (y := nI 1) (rfl) ?_
                                                                                                          refine lv_imul hx hb d_Mo_feed_99 ?_
                                                                                                          refine lv_topq (y := nI 8) (rfl) ?_
                                                                                                          refine lv_ishr hx hb d_Mo_feed_100 ?_
                                                                                                          refine lv_topq (y := v4 >>> (nI 8 &&& 31)) (rfl) ?_
                                                                                                          refine lv_i2b hx hb d_Mo_feed_101 rfl ?_
                                                                                                          refine va_bast (D := D9) hx hb hK hP hD hS 34 0 ww_34 rfl (vp_in_nI (by omega) (by decide)) d_Mo_feed_102 (fun H locs hP hD hS => ?_)
                                                                                                          obtain ⟨F68, aF68, sF68, hP, hD⟩ := fx (P := fun z => va_P D9 cls9 (WW a cB cI cJ cG _ z O) H ∧ va_D A0 (WW a cB cI cJ cG _ z O)) ⟨wpa_34 hP, wda_34 hD⟩
                                                                                                          rw [nI_clamp (by omega)] at aF68
                                                                                                          have hB15 := BR_putb (x := v4 >>> (nI 8 &&& 31)) hB14 (k := t.length + 14) (by simp only [List.length_append, List.length_singleton]) (ub_s8 v4)
                                                                                                          have hB15 := BR_eq hB15 aF68
                                                                                                          refine lv_iinc (lv' := [(6, .int (nI 15)), (7, _), (0, _), (1, _), (2, _), (3, _), (4, _), (5, _)]) hx hb d_Mo_feed_103 hl (k := 1) rfl rfl (by decide) rfl (fun ls hl => ?_)
                                                                                                          refine lv_goto (tgt := 23) hx hb d_Mo_feed_106 (by decide) ?_
                                                                                                          refine lv_iload hx hb d_Mo_feed_23 (lv_at hl 0 rfl) ?_
                                                                                                          refine lv_bipush (v := 20) hx hb d_Mo_feed_25 (by decide) ?_
                                                                                                          refine lv_topq (y := nI 20) (rfl) ?_
                                                                                                          refine lv_icmp_ge (tgt := 109) hx hb d_Mo_feed_27 (by decide) (fun c69 => ?_) (fun c69 => ?_)
                                                                                                          · exact absurd c69 (by decide)
                                                                                                          · refine lv_iload hx hb d_Mo_feed_30 (lv_at hl 0 rfl) ?_
                                                                                                            refine lv_iconst (v := 4) hx hb d_Mo_feed_32 (by decide) ?_
                                                                                                            refine lv_topq (y := nI 4) (rfl) ?_
                                                                                                            refine lv_icmp_ge (tgt := 40) hx hb d_Mo_feed_33 (by decide) (fun c70 => ?_) (fun c70 => ?_)
                                                                                                            · refine lv_iload hx hb d_Mo_feed_40 (lv_at hl 0 rfl) ?_
                                                                                                              refine lv_bipush (v := 8) hx hb d_Mo_feed_42 (by decide) ?_
                                                                                                              refine lv_topq (y := nI 8) (rfl) ?_
                                                                                                              refine lv_icmp_ge (tgt := 51) hx hb d_Mo_feed_44 (by decide) (fun c71 => ?_) (fun c71 => ?_)
                                                                                                              · refine lv_iload hx hb d_Mo_feed_51 (lv_at hl 0 rfl) ?_
                                                                                                                refine lv_bipush (v := 12) hx hb d_Mo_feed_53 (by decide) ?_
                                                                                                                refine lv_topq (y := nI 12) (rfl) ?_
                                                                                                                refine lv_icmp_ge (tgt := 62) hx hb d_Mo_feed_55 (by decide) (fun c72 => ?_) (fun c72 => ?_)
                                                                                                                · refine lv_iload hx hb d_Mo_feed_62 (lv_at hl 0 rfl) ?_
                                                                                                                  refine lv_bipush (v := 16) hx hb d_Mo_feed_64 (by decide) ?_
                                                                                                                  refine lv_topq (y := nI 16) (rfl) ?_
                                                                                                                  refine lv_icmp_ge (tgt := 74) hx hb d_Mo_feed_66 (by decide) (fun c73 => ?_) (fun c73 => ?_)
                                                                                                                  · exact absurd c73 (by decide)
                                                                                                                  · refine lv_iload hx hb d_Mo_feed_69 (lv_at hl 6 rfl) ?_
                                                                                                                    refine lv_goto (tgt := 76) hx hb d_Mo_feed_71 (by decide) ?_
                                                                                                                    refine lv_istore (lv' := [(7, _), (6, _), (0, _), (1, _), (2, _), (3, _), (4, _), (5, _)]) hx hb d_Mo_feed_76 hl (by decide) rfl (fun ls hl => ?_)
                                                                                                                    refine lv_aload_n hx hb d_Mo_feed_78 rfl (lv_at hl 2 rfl) ?_
                                                                                                                    refine va_get (D := D9) (ci := 7) (C := R_Mo) (T := F_Mo) (N := 30) hx hb hts i_Mo hown hK hP 33 ww_33 rfl 1 (by decide) (hts _ g_723) (fun _ h9 => h9) rfl d_Mo_feed_79 ?_
                                                                                                                    refine lv_aload_n hx hb d_Mo_feed_82 rfl (lv_at hl 2 rfl) ?_
                                                                                                                    refine va_get (D := D9) (ci := 7) (C := R_Mo) (T := F_Mo) (N := 30) hx hb hts i_Mo hown hK hP 33 ww_33 rfl 2 (by decide) (hts _ g_724) (fun _ h9 => h9) rfl d_Mo_feed_83 ?_
                                                                                                                    refine lv_topq (y := nI t.length) (((sI1 16 (by decide)).trans h16)) ?_
                                                                                                                    refine lv_iload hx hb d_Mo_feed_86 (lv_at hl 1 rfl) ?_
                                                                                                                    refine lv_iadd hx hb d_Mo_feed_88 ?_
                                                                                                                    refine lv_topq (y := nI (t.length + 15)) (nI_add _ _) ?_
                                                                                                                    refine lv_iload hx hb d_Mo_feed_89 (lv_at hl 0 rfl) ?_
                                                                                                                    refine lv_bipush (v := 8) hx hb d_Mo_feed_91 (by decide) ?_
                                                                                                                    refine lv_topq (y := nI 8) (rfl) ?_
                                                                                                                    refine lv_iconst (v := 3) hx hb d_Mo_feed_93 (by decide) ?_
                                                                                                                    refine lv_topq (y := nI 3) (rfl) ?_
                                                                                                                    refine lv_iload hx hb d_Mo_feed_94 (lv_at hl 1 rfl) ?_
                                                                                                                    refine lv_iconst (v := 4) hx hb d_Mo_feed_96 (by decide) ?_
                                                                                                                    refine lv_topq (y := nI 4) (rfl) ?_
                                                                                                                    refine lv_irem hx hb d_Mo_feed_97 (by decide) ?_
                                                                                                                    refine lv_topq (y := nI 3) (by decide) ?_
                                                                                                                    refine lv_isub hx hb d_Mo_feed_98 ?_
                                                                                                                    refine lv_topq (y := nI 0) (rfl) ?_
                                                                                                                    refine lv_imul hx hb d_Mo_feed_99 ?_
                                                                                                                    refine lv_topq (y := nI 0) (rfl) ?_
                                                                                                                    refine lv_ishr hx hb d_Mo_feed_100 ?_
                                                                                                                    refine lv_topq (y := v4 >>> (nI 0 &&& 31)) (rfl) ?_
                                                                                                                    refine lv_i2b hx hb d_Mo_feed_101 rfl ?_
                                                                                                                    refine va_bast (D := D9) hx hb hK hP hD hS 34 0 ww_34 rfl (vp_in_nI (by omega) (by decide)) d_Mo_feed_102 (fun H locs hP hD hS => ?_)
                                                                                                                    obtain ⟨F74, aF74, sF74, hP, hD⟩ := fx (P := fun z => va_P D9 cls9 (WW a cB cI cJ cG _ z O) H ∧ va_D A0 (WW a cB cI cJ cG _ z O)) ⟨wpa_34 hP, wda_34 hD⟩
                                                                                                                    rw [nI_clamp (by omega)] at aF74
                                                                                                                    have hB16 := BR_putb (x := v4 >>> (nI 0 &&& 31)) hB15 (k := t.length + 15) (by simp only [List.length_append, List.length_singleton]) (ub_s0 v4)
                                                                                                                    have hB16 := BR_eq hB16 aF74
                                                                                                                    refine lv_iinc (lv' := [(6, .int (nI 16)), (7, _), (0, _), (1, _), (2, _), (3, _), (4, _), (5, _)]) hx hb d_Mo_feed_103 hl (k := 1) rfl rfl (by decide) rfl (fun ls hl => ?_)
                                                                                                                    refine lv_goto (tgt := 23) hx hb d_Mo_feed_106 (by decide) ?_
                                                                                                                    refine lv_iload hx hb d_Mo_feed_23 (lv_at hl 0 rfl) ?_
                                                                                                                    refine lv_bipush (v := 20) hx hb d_Mo_feed_25 (by decide) ?_
                                                                                                                    refine lv_topq (y := nI 20) (rfl) ?_
                                                                                                                    refine lv_icmp_ge (tgt := 109) hx hb d_Mo_feed_27 (by decide) (fun c75 => ?_) (fun c75 => ?_)
                                                                                                                    · exact absurd c75 (by decide)
                                                                                                                    · refine lv_iload hx hb d_Mo_feed_30 (lv_at hl 0 rfl) ?_
                                                                                                                      refine lv_iconst (v := 4) hx hb d_Mo_feed_32 (by decide) ?_
                                                                                                                      refine lv_topq (y := nI 4) (rfl) ?_
                                                                                                                      refine lv_icmp_ge (tgt := 40) hx hb d_Mo_feed_33 (by decide) (fun c76 => ?_) (fun c76 => ?_)
                                                                                                                      · refine lv_iload hx hb d_Mo_feed_40 (lv_at hl 0 rfl) ?_
                                                                                                                        refine lv_bipush (v := 8) hx hb d_Mo_feed_42 (by decide) ?_
                                                                                                                        refine lv_topq (y := nI 8) (rfl) ?_
                                                                                                                        refine lv_icmp_ge (tgt := 51) hx hb d_Mo_feed_44 (by decide) (fun c77 => ?_) (fun c77 => ?_)
                                                                                                                        · refine lv_iload hx hb d_Mo_feed_51 (lv_at hl 0 rfl) ?_
                                                                                                                          refine lv_bipush (v := 12) hx hb d_Mo_feed_53 (by decide) ?_
                                                                                                                          refine lv_topq (y := nI 12) (rfl) ?_
                                                                                                                          refine lv_icmp_ge (tgt := 62) hx hb d_Mo_feed_55 (by decide) (fun c78 => ?_) (fun c78 => ?_)
                                                                                                                          · refine lv_iload hx hb d_Mo_feed_62 (lv_at hl 0 rfl) ?_
                                                                                                                            refine lv_bipush (v := 16) hx hb d_Mo_feed_64 (by decide) ?_
                                                                                                                            refine lv_topq (y := nI 16) (rfl) ?_
                                                                                                                            refine lv_icmp_ge (tgt := 74) hx hb d_Mo_feed_66 (by decide) (fun c79 => ?_) (fun c79 => ?_)
                                                                                                                            · refine lv_iload hx hb d_Mo_feed_74 (lv_at hl 7 rfl) ?_
                                                                                                                              refine lv_istore (lv' := [(7, _), (6, _), (0, _), (1, _), (2, _), (3, _), (4, _), (5, _)]) hx hb d_Mo_feed_76 hl (by decide) rfl (fun ls hl => ?_)
                                                                                                                              refine lv_aload_n hx hb d_Mo_feed_78 rfl (lv_at hl 2 rfl) ?_
                                                                                                                              refine va_get (D := D9) (ci := 7) (C := R_Mo) (T := F_Mo) (N := 30) hx hb hts i_Mo hown hK hP 33 ww_33 rfl 1 (by decide) (hts _ g_723) (fun _ h9 => h9) rfl d_Mo_feed_79 ?_
                                                                                                                              refine lv_aload_n hx hb d_Mo_feed_82 rfl (lv_at hl 2 rfl) ?_
                                                                                                                              refine va_get (D := D9) (ci := 7) (C := R_Mo) (T := F_Mo) (N := 30) hx hb hts i_Mo hown hK hP 33 ww_33 rfl 2 (by decide) (hts _ g_724) (fun _ h9 => h9) rfl d_Mo_feed_83 ?_
                                                                                                                              refine lv_topq (y := nI t.length) (((sI1 16 (by decide)).trans h16)) ?_
                                                                                                                              refine lv_iload hx hb d_Mo_feed_86 (lv_at hl 1 rfl) ?_
                                                                                                                              refine lv_iadd hx hb d_Mo_feed_88 ?_
                                                                                                                              refine lv_topq (y := nI (t.length + 16)) (nI_add _ _) ?_
                                                                                                                              refine lv_iload hx hb d_Mo_feed_89 (lv_at hl 0 rfl) ?_
                                                                                                                              refine lv_bipush (v := 8) hx hb d_Mo_feed_91 (by decide) ?_
                                                                                                                              refine lv_topq (y := nI 8) (rfl) ?_
                                                                                                                              refine lv_iconst (v := 3) hx hb d_Mo_feed_93 (by decide) ?_
                                                                                                                              refine lv_topq (y := nI 3) (rfl) ?_
                                                                                                                              refine lv_iload hx hb d_Mo_feed_94 (lv_at hl 1 rfl) ?_
                                                                                                                              refine lv_iconst (v := 4) hx hb d_Mo_feed_96 (by decide) ?_
                                                                                                                              refine lv_topq (y := nI 4) (rfl) ?_
                                                                                                                              refine lv_irem hx hb d_Mo_feed_97 (by decide) ?_
                                                                                                                              refine lv_topq (y := nI 0) (by decide) ?_
                                                                                                                              refine lv_isub hx hb d_Mo_feed_98 ?_
                                                                                                                              refine lv_topq (y := nI 3) (rfl) ?_
                                                                                                                              refine lv_imul hx hb d_Mo_feed_99 ?_
                                                                                                                              refine lv_topq (y := nI 24) (rfl) ?_
                                                                                                                              refine lv_ishr hx hb d_Mo_feed_100 ?_
                                                                                                                              refine lv_topq (y := v5 >>> (nI 24 &&& 31)) (rfl) ?_
                                                                                                                              refine lv_i2b hx hb d_Mo_feed_101 rfl ?_
                                                                                                                              refine va_bast (D := D9) hx hb hK hP hD hS 34 0 ww_34 rfl (vp_in_nI (by omega) (by decide)) d_Mo_feed_102 (fun H locs hP hD hS => ?_)
                                                                                                                              obtain ⟨F80, aF80, sF80, hP, hD⟩ := fx (P := fun z => va_P D9 cls9 (WW a cB cI cJ cG _ z O) H ∧ va_D A0 (WW a cB cI cJ cG _ z O)) ⟨wpa_34 hP, wda_34 hD⟩
                                                                                                                              rw [nI_clamp (by omega)] at aF80
                                                                                                                              have hB17 := BR_putb (x := v5 >>> (nI 24 &&& 31)) hB16 (k := t.length + 16) (by simp only [List.length_append, List.length_singleton]) (ub_s24 v5)
                                                                                                                              have hB17 := BR_eq hB17 aF80
                                                                                                                              refine lv_iinc (lv' := [(6, .int (nI 17)), (7, _), (0, _), (1, _), (2, _), (3, _), (4, _), (5, _)]) hx hb d_Mo_feed_103 hl (k := 1) rfl rfl (by decide) rfl (fun ls hl => ?_)
                                                                                                                              refine lv_goto (tgt := 23) hx hb d_Mo_feed_106 (by decide) ?_
                                                                                                                              refine lv_iload hx hb d_Mo_feed_23 (lv_at hl 0 rfl) ?_
                                                                                                                              refine lv_bipush (v := 20) hx hb d_Mo_feed_25 (by decide) ?_
                                                                                                                              refine lv_topq (y := nI 20) (rfl) ?_
                                                                                                                              refine lv_icmp_ge (tgt := 109) hx hb d_Mo_feed_27 (by decide) (fun c81 => ?_) (fun c81 => ?_)
                                                                                                                              · exact absurd c81 (by decide)
                                                                                                                              · refine lv_iload hx hb d_Mo_feed_30 (lv_at hl 0 rfl) ?_
                                                                                                                                refine lv_iconst (v := 4) hx hb d_Mo_feed_32 (by decide) ?_
                                                                                                                                refine lv_topq (y := nI 4) (rfl) ?_
                                                                                                                                refine lv_icmp_ge (tgt := 40) hx hb d_Mo_feed_33 (by decide) (fun c82 => ?_) (fun c82 => ?_)
                                                                                                                                · refine lv_iload hx hb d_Mo_feed_40 (lv_at hl 0 rfl) ?_
                                                                                                                                  refine lv_bipush (v := 8) hx hb d_Mo_feed_42 (by decide) ?_
                                                                                                                                  refine lv_topq (y := nI 8) (rfl) ?_
                                                                                                                                  refine lv_icmp_ge (tgt := 51) hx hb d_Mo_feed_44 (by decide) (fun c83 => ?_) (fun c83 => ?_)
                                                                                                                                  · refine lv_iload hx hb d_Mo_feed_51 (lv_at hl 0 rfl) ?_
                                                                                                                                    refine lv_bipush (v := 12) hx hb d_Mo_feed_53 (by decide) ?_
                                                                                                                                    refine lv_topq (y := nI 12) (rfl) ?_
                                                                                                                                    refine lv_icmp_ge (tgt := 62) hx hb d_Mo_feed_55 (by decide) (fun c84 => ?_) (fun c84 => ?_)
                                                                                                                                    · refine lv_iload hx hb d_Mo_feed_62 (lv_at hl 0 rfl) ?_
                                                                                                                                      refine lv_bipush (v := 16) hx hb d_Mo_feed_64 (by decide) ?_
                                                                                                                                      refine lv_topq (y := nI 16) (rfl) ?_
                                                                                                                                      refine lv_icmp_ge (tgt := 74) hx hb d_Mo_feed_66 (by decide) (fun c85 => ?_) (fun c85 => ?_)
                                                                                                                                      · refine lv_iload hx hb d_Mo_feed_74 (lv_at hl 7 rfl) ?_
                                                                                                                                        refine lv_istore (lv' := [(7, _), (6, _), (0, _), (1, _), (2, _), (3, _), (4, _), (5, _)]) hx hb d_Mo_feed_76 hl (by decide) rfl (fun ls hl => ?_)
                                                                                                                                        refine lv_aload_n hx hb d_Mo_feed_78 rfl (lv_at hl 2 rfl) ?_
                                                                                                                                        refine va_get (D := D9) (ci := 7) (C := R_Mo) (T := F_Mo) (N := 30) hx hb hts i_Mo hown hK hP 33 ww_33 rfl 1 (by decide) (hts _ g_723) (fun _ h9 => h9) rfl d_Mo_feed_79 ?_
                                                                                                                                        refine lv_aload_n hx hb d_Mo_feed_82 rfl (lv_at hl 2 rfl) ?_
                                                                                                                                        refine va_get (D := D9) (ci := 7) (C := R_Mo) (T := F_Mo) (N := 30) hx hb hts i_Mo hown hK hP 33 ww_33 rfl 2 (by decide) (hts _ g_724) (fun _ h9 => h9) rfl d_Mo_feed_83 ?_
                                                                                                                                        refine lv_topq (y := nI t.length) (((sI1 16 (by decide)).trans h16)) ?_
                                                                                                                                        refine lv_iload hx hb d_Mo_feed_86 (lv_at hl 1 rfl) ?_
                                                                                                                                        refine lv_iadd hx hb d_Mo_feed_88 ?_
                                                                                                                                        refine lv_topq (y := nI (t.length + 17)) (nI_add _ _) ?_
                                                                                                                                        refine lv_iload hx hb d_Mo_feed_89 (lv_at hl 0 rfl) ?_
                                                                                                                                        refine lv_bipush (v := 8) hx hb d_Mo_feed_91 (by decide) ?_
                                                                                                                                        refine lv_topq (y := nI 8) (rfl) ?_
                                                                                                                                        refine lv_iconst (v := 3) hx hb d_Mo_feed_93 (by decide) ?_
                                                                                                                                        refine lv_topq (y := nI 3) (rfl) ?_
                                                                                                                                        refine lv_iload hx hb d_Mo_feed_94 (lv_at hl 1 rfl) ?_
                                                                                                                                        refine lv_iconst (v := 4) hx hb d_Mo_feed_96 (by decide) ?_
                                                                                                                                        refine lv_topq (y := nI 4) (rfl) ?_
                                                                                                                                        refine lv_irem hx hb d_Mo_feed_97 (by decide) ?_
                                                                                                                                        refine lv_topq (y := nI 1) (by decide) ?_
                                                                                                                                        refine lv_isub hx hb d_Mo_feed_98 ?_
                                                                                                                                        refine lv_topq (y := nI 2) (rfl) ?_
                                                                                                                                        refine lv_imul hx hb d_Mo_feed_99 ?_
                                                                                                                                        refine lv_topq (y := nI 16) (rfl) ?_
                                                                                                                                        refine lv_ishr hx hb d_Mo_feed_100 ?_
                                                                                                                                        refine lv_topq (y := v5 >>> (nI 16 &&& 31)) (rfl) ?_
                                                                                                                                        refine lv_i2b hx hb d_Mo_feed_101 rfl ?_
                                                                                                                                        refine va_bast (D := D9) hx hb hK hP hD hS 34 0 ww_34 rfl (vp_in_nI (by omega) (by decide)) d_Mo_feed_102 (fun H locs hP hD hS => ?_)
                                                                                                                                        obtain ⟨F86, aF86, sF86, hP, hD⟩ := fx (P := fun z => va_P D9 cls9 (WW a cB cI cJ cG _ z O) H ∧ va_D A0 (WW a cB cI cJ cG _ z O)) ⟨wpa_34 hP, wda_34 hD⟩
                                                                                                                                        rw [nI_clamp (by omega)] at aF86
                                                                                                                                        have hB18 := BR_putb (x := v5 >>> (nI 16 &&& 31)) hB17 (k := t.length + 17) (by simp only [List.length_append, List.length_singleton]) (ub_s16 v5)
                                                                                                                                        have hB18 := BR_eq hB18 aF86
                                                                                                                                        refine lv_iinc (lv' := [(6, .int (nI 18)), (7, _), (0, _), (1, _), (2, _), (3, _), (4, _), (5, _)]) hx hb d_Mo_feed_103 hl (k := 1) rfl rfl (by decide) rfl (fun ls hl => ?_)
                                                                                                                                        refine lv_goto (tgt := 23) hx hb d_Mo_feed_106 (by decide) ?_
                                                                                                                                        refine lv_iload hx hb d_Mo_feed_23 (lv_at hl 0 rfl) ?_
                                                                                                                                        refine lv_bipush (v := 20) hx hb d_Mo_feed_25 (by decide) ?_
                                                                                                                                        refine lv_topq (y := nI 20) (rfl) ?_
                                                                                                                                        refine lv_icmp_ge (tgt := 109) hx hb d_Mo_feed_27 (by decide) (fun c87 => ?_) (fun c87 => ?_)
                                                                                                                                        · exact absurd c87 (by decide)
                                                                                                                                        · refine lv_iload hx hb d_Mo_feed_30 (lv_at hl 0 rfl) ?_
                                                                                                                                          refine lv_iconst (v := 4) hx hb d_Mo_feed_32 (by decide) ?_
                                                                                                                                          refine lv_topq (y := nI 4) (rfl) ?_
                                                                                                                                          refine lv_icmp_ge (tgt := 40) hx hb d_Mo_feed_33 (by decide) (fun c88 => ?_) (fun c88 => ?_)
                                                                                                                                          · refine lv_iload hx hb d_Mo_feed_40 (lv_at hl 0 rfl) ?_
                                                                                                                                            refine lv_bipush (v := 8) hx hb d_Mo_feed_42 (by decide) ?_
                                                                                                                                            refine lv_topq (y := nI 8) (rfl) ?_
                                                                                                                                            refine lv_icmp_ge (tgt := 51) hx hb d_Mo_feed_44 (by decide) (fun c89 => ?_) (fun c89 => ?_)
                                                                                                                                            · refine lv_iload hx hb d_Mo_feed_51 (lv_at hl 0 rfl) ?_
                                                                                                                                              refine lv_bipush (v := 12) hx hb d_Mo_feed_53 (by decide) ?_
                                                                                                                                              refine lv_topq (y := nI 12) (rfl) ?_
                                                                                                                                              refine lv_icmp_ge (tgt := 62) hx hb d_Mo_feed_55 (by decide) (fun c90 => ?_) (fun c90 => ?_)
                                                                                                                                              · refine lv_iload hx hb d_Mo_feed_62 (lv_at hl 0 rfl) ?_
                                                                                                                                                refine lv_bipush (v := 16) hx hb d_Mo_feed_64 (by decide) ?_
                                                                                                                                                refine lv_topq (y := nI 16) (rfl) ?_
                                                                                                                                                refine lv_icmp_ge (tgt := 74) hx hb d_Mo_feed_66 (by decide) (fun c91 => ?_) (fun c91 => ?_)
                                                                                                                                                · refine lv_iload hx hb d_Mo_feed_74 (lv_at hl 7 rfl) ?_
                                                                                                                                                  refine lv_istore (lv' := [(7, _), (6, _), (0, _), (1, _), (2, _), (3, _), (4, _), (5, _)]) hx hb d_Mo_feed_76 hl (by decide) rfl (fun ls hl => ?_)
                                                                                                                                                  refine lv_aload_n hx hb d_Mo_feed_78 rfl (lv_at hl 2 rfl) ?_
                                                                                                                                                  refine va_get (D := D9) (ci := 7) (C := R_Mo) (T := F_Mo) (N := 30) hx hb hts i_Mo hown hK hP 33 ww_33 rfl 1 (by decide) (hts _ g_723) (fun _ h9 => h9) rfl d_Mo_feed_79 ?_
                                                                                                                                                  refine lv_aload_n hx hb d_Mo_feed_82 rfl (lv_at hl 2 rfl) ?_
                                                                                                                                                  refine va_get (D := D9) (ci := 7) (C := R_Mo) (T := F_Mo) (N := 30) hx hb hts i_Mo hown hK hP 33 ww_33 rfl 2 (by decide) (hts _ g_724) (fun _ h9 => h9) rfl d_Mo_feed_83 ?_
                                                                                                                                                  refine lv_topq (y := nI t.length) (((sI1 16 (by decide)).trans h16)) ?_
                                                                                                                                                  refine lv_iload hx hb d_Mo_feed_86 (lv_at hl 1 rfl) ?_
                                                                                                                                                  refine lv_iadd hx hb d_Mo_feed_88 ?_
                                                                                                                                                  refine lv_topq (y := nI (t.length + 18)) (nI_add _ _) ?_
                                                                                                                                                  refine lv_iload hx hb d_Mo_feed_89 (lv_at hl 0 rfl) ?_
                                                                                                                                                  refine lv_bipush (v := 8) hx hb d_Mo_feed_91 (by decide) ?_
                                                                                                                                                  refine lv_topq (y := nI 8) (rfl) ?_
                                                                                                                                                  refine lv_iconst (v := 3) hx hb d_Mo_feed_93 (by decide) ?_
                                                                                                                                                  refine lv_topq (y := nI 3) (rfl) ?_
                                                                                                                                                  refine lv_iload hx hb d_Mo_feed_94 (lv_at hl 1 rfl) ?_
                                                                                                                                                  refine lv_iconst (v := 4) hx hb d_Mo_feed_96 (by decide) ?_
                                                                                                                                                  refine lv_topq (y := nI 4) (rfl) ?_
                                                                                                                                                  refine lv_irem hx hb d_Mo_feed_97 (by decide) ?_
                                                                                                                                                  refine lv_topq (y := nI 2) (by decide) ?_
                                                                                                                                                  refine lv_isub hx hb d_Mo_feed_98 ?_
                                                                                                                                                  refine lv_topq (y := nI 1) (rfl) ?_
                                                                                                                                                  refine lv_imul hx hb d_Mo_feed_99 ?_
                                                                                                                                                  refine lv_topq (y := nI 8) (rfl) ?_
                                                                                                                                                  refine lv_ishr hx hb d_Mo_feed_100 ?_
                                                                                                                                                  refine lv_topq (y := v5 >>> (nI 8 &&& 31)) (rfl) ?_
                                                                                                                                                  refine lv_i2b hx hb d_Mo_feed_101 rfl ?_
                                                                                                                                                  refine va_bast (D := D9) hx hb hK hP hD hS 34 0 ww_34 rfl (vp_in_nI (by omega) (by decide)) d_Mo_feed_102 (fun H locs hP hD hS => ?_)
                                                                                                                                                  obtain ⟨F92, aF92, sF92, hP, hD⟩ := fx (P := fun z => va_P D9 cls9 (WW a cB cI cJ cG _ z O) H ∧ va_D A0 (WW a cB cI cJ cG _ z O)) ⟨wpa_34 hP, wda_34 hD⟩
                                                                                                                                                  rw [nI_clamp (by omega)] at aF92
                                                                                                                                                  have hB19 := BR_putb (x := v5 >>> (nI 8 &&& 31)) hB18 (k := t.length + 18) (by simp only [List.length_append, List.length_singleton]) (ub_s8 v5)
                                                                                                                                                  have hB19 := BR_eq hB19 aF92
                                                                                                                                                  refine lv_iinc (lv' := [(6, .int (nI 19)), (7, _), (0, _), (1, _), (2, _), (3, _), (4, _), (5, _)]) hx hb d_Mo_feed_103 hl (k := 1) rfl rfl (by decide) rfl (fun ls hl => ?_)
                                                                                                                                                  refine lv_goto (tgt := 23) hx hb d_Mo_feed_106 (by decide) ?_
                                                                                                                                                  refine lv_iload hx hb d_Mo_feed_23 (lv_at hl 0 rfl) ?_
                                                                                                                                                  refine lv_bipush (v := 20) hx hb d_Mo_feed_25 (by decide) ?_
                                                                                                                                                  refine lv_topq (y := nI 20) (rfl) ?_
                                                                                                                                                  refine lv_icmp_ge (tgt := 109) hx hb d_Mo_feed_27 (by decide) (fun c93 => ?_) (fun c93 => ?_)
                                                                                                                                                  · exact absurd c93 (by decide)
                                                                                                                                                  · refine lv_iload hx hb d_Mo_feed_30 (lv_at hl 0 rfl) ?_
                                                                                                                                                    refine lv_iconst (v := 4) hx hb d_Mo_feed_32 (by decide) ?_
                                                                                                                                                    refine lv_topq (y := nI 4) (rfl) ?_
                                                                                                                                                    refine lv_icmp_ge (tgt := 40) hx hb d_Mo_feed_33 (by decide) (fun c94 => ?_) (fun c94 => ?_)
                                                                                                                                                    · refine lv_iload hx hb d_Mo_feed_40 (lv_at hl 0 rfl) ?_
                                                                                                                                                      refine lv_bipush (v := 8) hx hb d_Mo_feed_42 (by decide) ?_
                                                                                                                                                      refine lv_topq (y := nI 8) (rfl) ?_
                                                                                                                                                      refine lv_icmp_ge (tgt := 51) hx hb d_Mo_feed_44 (by decide) (fun c95 => ?_) (fun c95 => ?_)
                                                                                                                                                      · refine lv_iload hx hb d_Mo_feed_51 (lv_at hl 0 rfl) ?_
                                                                                                                                                        refine lv_bipush (v := 12) hx hb d_Mo_feed_53 (by decide) ?_
                                                                                                                                                        refine lv_topq (y := nI 12) (rfl) ?_
                                                                                                                                                        refine lv_icmp_ge (tgt := 62) hx hb d_Mo_feed_55 (by decide) (fun c96 => ?_) (fun c96 => ?_)
                                                                                                                                                        · refine lv_iload hx hb d_Mo_feed_62 (lv_at hl 0 rfl) ?_
                                                                                                                                                          refine lv_bipush (v := 16) hx hb d_Mo_feed_64 (by decide) ?_
                                                                                                                                                          refine lv_topq (y := nI 16) (rfl) ?_
                                                                                                                                                          refine lv_icmp_ge (tgt := 74) hx hb d_Mo_feed_66 (by decide) (fun c97 => ?_) (fun c97 => ?_)
                                                                                                                                                          · refine lv_iload hx hb d_Mo_feed_74 (lv_at hl 7 rfl) ?_
                                                                                                                                                            refine lv_istore (lv' := [(7, _), (6, _), (0, _), (1, _), (2, _), (3, _), (4, _), (5, _)]) hx hb d_Mo_feed_76 hl (by decide) rfl (fun ls hl => ?_)
                                                                                                                                                            refine lv_aload_n hx hb d_Mo_feed_78 rfl (lv_at hl 2 rfl) ?_
                                                                                                                                                            refine va_get (D := D9) (ci := 7) (C := R_Mo) (T := F_Mo) (N := 30) hx hb hts i_Mo hown hK hP 33 ww_33 rfl 1 (by decide) (hts _ g_723) (fun _ h9 => h9) rfl d_Mo_feed_79 ?_
                                                                                                                                                            refine lv_aload_n hx hb d_Mo_feed_82 rfl (lv_at hl 2 rfl) ?_
                                                                                                                                                            refine va_get (D := D9) (ci := 7) (C := R_Mo) (T := F_Mo) (N := 30) hx hb hts i_Mo hown hK hP 33 ww_33 rfl 2 (by decide) (hts _ g_724) (fun _ h9 => h9) rfl d_Mo_feed_83 ?_
                                                                                                                                                            refine lv_topq (y := nI t.length) (((sI1 16 (by decide)).trans h16)) ?_
                                                                                                                                                            refine lv_iload hx hb d_Mo_feed_86 (lv_at hl 1 rfl) ?_
                                                                                                                                                            refine lv_iadd hx hb d_Mo_feed_88 ?_
                                                                                                                                                            refine lv_topq (y := nI (t.length + 19)) (nI_add _ _) ?_
                                                                                                                                                            refine lv_iload hx hb d_Mo_feed_89 (lv_at hl 0 rfl) ?_
                                                                                                                                                            refine lv_bipush (v := 8) hx hb d_Mo_feed_91 (by decide) ?_
                                                                                                                                                            refine lv_topq (y := nI 8) (rfl) ?_
                                                                                                                                                            refine lv_iconst (v := 3) hx hb d_Mo_feed_93 (by decide) ?_
                                                                                                                                                            refine lv_topq (y := nI 3) (rfl) ?_
                                                                                                                                                            refine lv_iload hx hb d_Mo_feed_94 (lv_at hl 1 rfl) ?_
                                                                                                                                                            refine lv_iconst (v := 4) hx hb d_Mo_feed_96 (by decide) ?_
                                                                                                                                                            refine lv_topq (y := nI 4) (rfl) ?_
                                                                                                                                                            refine lv_irem hx hb d_Mo_feed_97 (by decide) ?_
                                                                                                                                                            refine lv_topq (y := nI 3) (by decide) ?_
                                                                                                                                                            refine lv_isub hx hb d_Mo_feed_98 ?_
                                                                                                                                                            refine lv_topq (y := nI 0) (rfl) ?_
                                                                                                                                                            refine lv_imul hx hb d_Mo_feed_99 ?_
                                                                                                                                                            refine lv_topq (y := nI 0) (rfl) ?_
                                                                                                                                                            refine lv_ishr hx hb d_Mo_feed_100 ?_
                                                                                                                                                            refine lv_topq (y := v5 >>> (nI 0 &&& 31)) (rfl) ?_
                                                                                                                                                            refine lv_i2b hx hb d_Mo_feed_101 rfl ?_
                                                                                                                                                            refine va_bast (D := D9) hx hb hK hP hD hS 34 0 ww_34 rfl (vp_in_nI (by omega) (by decide)) d_Mo_feed_102 (fun H locs hP hD hS => ?_)
                                                                                                                                                            obtain ⟨F98, aF98, sF98, hP, hD⟩ := fx (P := fun z => va_P D9 cls9 (WW a cB cI cJ cG _ z O) H ∧ va_D A0 (WW a cB cI cJ cG _ z O)) ⟨wpa_34 hP, wda_34 hD⟩
                                                                                                                                                            rw [nI_clamp (by omega)] at aF98
                                                                                                                                                            have hB20 := BR_putb (x := v5 >>> (nI 0 &&& 31)) hB19 (k := t.length + 19) (by simp only [List.length_append, List.length_singleton]) (ub_s0 v5)
                                                                                                                                                            have hB20 := BR_eq hB20 aF98
                                                                                                                                                            refine lv_iinc (lv' := [(6, .int (nI 20)), (7, _), (0, _), (1, _), (2, _), (3, _), (4, _), (5, _)]) hx hb d_Mo_feed_103 hl (k := 1) rfl rfl (by decide) rfl (fun ls hl => ?_)
                                                                                                                                                            refine lv_goto (tgt := 23) hx hb d_Mo_feed_106 (by decide) ?_
                                                                                                                                                            refine lv_iload hx hb d_Mo_feed_23 (lv_at hl 0 rfl) ?_
                                                                                                                                                            refine lv_bipush (v := 20) hx hb d_Mo_feed_25 (by decide) ?_
                                                                                                                                                            refine lv_topq (y := nI 20) (rfl) ?_
                                                                                                                                                            refine lv_icmp_ge (tgt := 109) hx hb d_Mo_feed_27 (by decide) (fun c99 => ?_) (fun c99 => ?_)
                                                                                                                                                            · refine lv_aload_n hx hb d_Mo_feed_109 rfl (lv_at hl 2 rfl) ?_
                                                                                                                                                              refine lv_dup hx hb d_Mo_feed_110 rfl ?_
                                                                                                                                                              refine va_get (D := D9) (ci := 7) (C := R_Mo) (T := F_Mo) (N := 30) hx hb hts i_Mo hown hK hP 33 ww_33 rfl 2 (by decide) (hts _ g_724) (fun _ h9 => h9) rfl d_Mo_feed_111 ?_
                                                                                                                                                              refine lv_topq (y := nI t.length) (((sI1 16 (by decide)).trans h16)) ?_
                                                                                                                                                              refine lv_bipush (v := 20) hx hb d_Mo_feed_114 (by decide) ?_
                                                                                                                                                              refine lv_topq (y := nI 20) (rfl) ?_
                                                                                                                                                              refine lv_iadd hx hb d_Mo_feed_116 ?_
                                                                                                                                                              refine lv_topq (y := nI (t.length + 20)) (nI_add _ _) ?_
                                                                                                                                                              refine va_put (D := D9) (ty := .int) (ci := 7) (C := R_Mo) (T := F_Mo) (N := 30) hx hb hts i_Mo t_Mo t_Mo_ok n_Mo hown hK hP hD hS 33 ww_33 rfl 2 (by decide) (hts _ g_724) (fun _ h9 => h9) rfl (by decide +kernel) rfl rfl (Nat.le_of_ble_eq_true rfl) d_Mo_feed_117 (fun H locs hP hD hS => ?_)
                                                                                                                                                              obtain ⟨I100, aI100, sI100, hP, hD⟩ := fx (P := fun z => va_P D9 cls9 (WW a cB cI cJ cG z _ O) H ∧ va_D A0 (WW a cB cI cJ cG z _ O)) ⟨wp_16 hP, wd_16 hD⟩
                                                                                                                                                              refine lv_aload_n hx hb d_Mo_feed_120 rfl (lv_at hl 2 rfl) ?_
                                                                                                                                                              refine va_get (D := D9) (ci := 7) (C := R_Mo) (T := F_Mo) (N := 30) hx hb hts i_Mo hown hK hP 33 ww_33 rfl 2 (by decide) (hts _ g_724) (fun _ h9 => h9) rfl d_Mo_feed_121 ?_
                                                                                                                                                              refine lv_topq (y := nI (t.length + 20)) (aI100) ?_
                                                                                                                                                              exact hret _ _ _ _ _ _ _ hS hP hD d_Mo_feed_124 nr_i (Or.inl ⟨by omega, rfl, (sm_tr (sm_mo sI1 (by decide)) (sm_mo sI100 (by decide))), ((sI100 15 (by decide)).trans aI1), aI100, (sm_tr (sm_tr (sm_tr (sm_tr (sm_tr (sm_tr (sm_tr (sm_tr (sm_tr (sm_tr (sm_tr (sm_tr (sm_tr (sm_tr (sm_tr (sm_tr (sm_tr (sm_tr (sm_tr (sm_mo sF5 (by decide)) (sm_mo sF8 (by decide))) (sm_mo sF11 (by decide))) (sm_mo sF14 (by decide))) (sm_mo sF18 (by decide))) (sm_mo sF22 (by decide))) (sm_mo sF26 (by decide))) (sm_mo sF30 (by decide))) (sm_mo sF35 (by decide))) (sm_mo sF40 (by decide))) (sm_mo sF45 (by decide))) (sm_mo sF50 (by decide))) (sm_mo sF56 (by decide))) (sm_mo sF62 (by decide))) (sm_mo sF68 (by decide))) (sm_mo sF74 (by decide))) (sm_mo sF80 (by decide))) (sm_mo sF86 (by decide))) (sm_mo sF92 (by decide))) (sm_mo sF98 (by decide))), by simpa only [List.append_assoc, List.singleton_append, b4, List.cons_append, List.nil_append] using hB20⟩)
                                                                                                                                                            · exact absurd c99 (by decide)
                                                                                                                                                          · exact absurd c97 (by decide)
                                                                                                                                                        · exact absurd c96 (by decide)
                                                                                                                                                      · exact absurd c95 (by decide)
                                                                                                                                                    · exact absurd c94 (by decide)
                                                                                                                                                · exact absurd c91 (by decide)
                                                                                                                                              · exact absurd c90 (by decide)
                                                                                                                                            · exact absurd c89 (by decide)
                                                                                                                                          · exact absurd c88 (by decide)
                                                                                                                                      · exact absurd c85 (by decide)
                                                                                                                                    · exact absurd c84 (by decide)
                                                                                                                                  · exact absurd c83 (by decide)
                                                                                                                                · exact absurd c82 (by decide)
                                                                                                                            · exact absurd c79 (by decide)
                                                                                                                          · exact absurd c78 (by decide)
                                                                                                                        · exact absurd c77 (by decide)
                                                                                                                      · exact absurd c76 (by decide)
                                                                                                                · exact absurd c72 (by decide)
                                                                                                              · exact absurd c71 (by decide)
                                                                                                            · exact absurd c70 (by decide)
                                                                                                      · exact absurd c66 (by decide)
                                                                                                    · exact absurd c65 (by decide)
                                                                                                  · exact absurd c64 (by decide)
                                                                                            · exact absurd c60 (by decide)
                                                                                          · exact absurd c59 (by decide)
                                                                                        · exact absurd c58 (by decide)
                                                                                  · exact absurd c54 (by decide)
                                                                                · exact absurd c53 (by decide)
                                                                              · exact absurd c52 (by decide)
                                                                        · exact absurd c48 (by decide)
                                                                      · exact absurd c47 (by decide)
                                                                · exact absurd c43 (by decide)
                                                              · exact absurd c42 (by decide)
                                                        · exact absurd c38 (by decide)
                                                      · exact absurd c37 (by decide)
                                                · exact absurd c33 (by decide)
                                              · exact absurd c32 (by decide)
                                        · exact absurd c28 (by decide)
                                  · exact absurd c24 (by decide)
                            · exact absurd c20 (by decide)
                      · exact absurd c16 (by decide)
  · have c2 : ¬ (t.length ≤ 65516) := fun z9 => c2 ((nI_leI (a := t.length) (b := 65516) (by omega) (by omega)).mpr z9)
    refine lv_aload_n hx hb d_Mo_feed_14 rfl (lv_at hl 0 rfl) ?_
    refine lv_iconst (v := 1) hx hb d_Mo_feed_15 (by decide) ?_
    refine lv_topq (y := nI 1) (rfl) ?_
    refine mw_cV (ci := 7) (k := 33) C0 (m_Mo_fail l D9 cB cI cJ cG a O _ _ (nI 1)) g_873 g_8 g_870 g_872 gs_Mo_fail ⟨by decide +kernel, by decide +kernel, show Option.map (fun d => d.parameters.length) (parseMethodDescriptor y_Mo_fail.desc) = some 1 by decide +kernel⟩ ⟨by decide, by decide⟩ rfl rfl hP hD hS hA rfl ww_33 hl.1 (Nat.le_of_ble_eq_true rfl) rfl d_Mo_feed_16 ⟨by decide, by decide⟩ (fun v9 w9 H locs hq hP hD hS => ?_)
    obtain ⟨I101, F102, hw9, q103⟩ := hq
    subst hw9
    obtain ⟨rfl, sI101, zI101, rfl⟩ := q103
    exact hret _ _ _ _ _ _ _ hS hP hD d_Mo_feed_19 nr_i (Or.inr ⟨by omega, ⟨_, rfl⟩, (sm_tr (sm_mo sI1 (by decide)) (sm_mo sI101 (by decide))), zI101, rfl⟩)
