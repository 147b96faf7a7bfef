/-! THE REFERENCE: the order of names -/
theorem raw_neg {x : Int32} {v : Nat} (h : fits .byte (.int x) = true) (hu : ub x = v) (hv : 128 ≤ v) : x < nI 65 := by
  have h1 := fit_in h
  have h2 := mod_256 x
  have h3 : x.toBitVec.toNat % 256 = v := hu
  have h4 := ub_lt x
  rw [Int32.lt_iff_toInt_lt, nI_toInt (by decide)]
  omega
theorem g_968 : (Cond.methodLink "WireMessagesModel" (194 : Nat) ({ cls := "WireMessagesModel", name := "low", desc := "(I)I" } : MethodName)) ∈ GT := gt_mem 968 (by decide +kernel) rfl
theorem g_969 : (Cond.static ({ cls := "WireMessagesModel", name := "low", desc := "(I)I" } : MethodName)) ∈ GT := gt_mem 969 (by decide +kernel) rfl
theorem g_970 : (Cond.code ({ cls := "WireMessagesModel", name := "low", desc := "(I)I" } : MethodName) prog_10_method_40_code (1 : Nat) (Option.some FieldType.int)) ∈ GT := gt_mem 970 (by decide +kernel) rfl
theorem g_975 : (Cond.methodLink "WireMessagesModel" (197 : Nat) ({ cls := "WireMessagesModel", name := "labels", desc := "(I)I" } : MethodName)) ∈ GT := gt_mem 975 (by decide +kernel) rfl
theorem g_977 : (Cond.instanceMethod ({ cls := "WireMessagesModel", name := "labels", desc := "(I)I" } : MethodName)) ∈ GT := gt_mem 977 (by decide +kernel) rfl
theorem g_978 : (Cond.code ({ cls := "WireMessagesModel", name := "labels", desc := "(I)I" } : MethodName) prog_10_method_42_code (4 : Nat) (Option.some FieldType.int)) ∈ GT := gt_mem 978 (by decide +kernel) rfl
theorem gs_Mo_labels : Cond.selects R_Mo y_Mo_labels y_Mo_labels ∈ GT := gt_sel (q := (⟨"WireMessagesModel", "labels", "(I)I"⟩, 30)) (by decide +kernel)
theorem d_Mo_compared_0 : decode b_Mo_compared 0 = .ok (.aload_n 0, 1) := by decide +kernel
theorem d_Mo_compared_1 : decode b_Mo_compared 1 = .ok (.getfield 15, 3) := by decide +kernel
theorem d_Mo_compared_4 : decode b_Mo_compared 4 = .ok (.iload_n 1, 1) := by decide +kernel
theorem d_Mo_compared_5 : decode b_Mo_compared 5 = .ok (.baload, 1) := by decide +kernel
theorem d_Mo_compared_6 : decode b_Mo_compared 6 = .ok (.istore_n 3, 1) := by decide +kernel
theorem d_Mo_compared_7 : decode b_Mo_compared 7 = .ok (.aload_n 0, 1) := by decide +kernel
theorem d_Mo_compared_8 : decode b_Mo_compared 8 = .ok (.getfield 15, 3) := by decide +kernel
theorem d_Mo_compared_11 : decode b_Mo_compared 11 = .ok (.iload_n 2, 1) := by decide +kernel
theorem d_Mo_compared_12 : decode b_Mo_compared 12 = .ok (.baload, 1) := by decide +kernel
theorem d_Mo_compared_13 : decode b_Mo_compared 13 = .ok (.istore 4, 2) := by decide +kernel
theorem d_Mo_compared_15 : decode b_Mo_compared 15 = .ok (.iconst 1, 1) := by decide +kernel
theorem d_Mo_compared_16 : decode b_Mo_compared 16 = .ok (.istore 5, 2) := by decide +kernel
theorem d_Mo_compared_18 : decode b_Mo_compared 18 = .ok (.iload 5, 2) := by decide +kernel
theorem d_Mo_compared_20 : decode b_Mo_compared 20 = .ok (.iload_n 3, 1) := by decide +kernel
theorem d_Mo_compared_21 : decode b_Mo_compared 21 = .ok (.if_icmp .gt 64, 3) := by decide +kernel
theorem d_Mo_compared_24 : decode b_Mo_compared 24 = .ok (.iload 5, 2) := by decide +kernel
theorem d_Mo_compared_26 : decode b_Mo_compared 26 = .ok (.iload 4, 2) := by decide +kernel
theorem d_Mo_compared_28 : decode b_Mo_compared 28 = .ok (.if_icmp .gt 57, 3) := by decide +kernel
theorem d_Mo_compared_31 : decode b_Mo_compared 31 = .ok (.aload_n 0, 1) := by decide +kernel
theorem d_Mo_compared_32 : decode b_Mo_compared 32 = .ok (.getfield 15, 3) := by decide +kernel
theorem d_Mo_compared_35 : decode b_Mo_compared 35 = .ok (.iload_n 1, 1) := by decide +kernel
theorem d_Mo_compared_36 : decode b_Mo_compared 36 = .ok (.iload 5, 2) := by decide +kernel
theorem d_Mo_compared_38 : decode b_Mo_compared 38 = .ok (.iadd, 1) := by decide +kernel
theorem d_Mo_compared_39 : decode b_Mo_compared 39 = .ok (.baload, 1) := by decide +kernel
theorem d_Mo_compared_40 : decode b_Mo_compared 40 = .ok (.invokestatic 194, 3) := by decide +kernel
theorem d_Mo_compared_43 : decode b_Mo_compared 43 = .ok (.istore 6, 2) := by decide +kernel
theorem d_Mo_compared_45 : decode b_Mo_compared 45 = .ok (.aload_n 0, 1) := by decide +kernel
theorem d_Mo_compared_46 : decode b_Mo_compared 46 = .ok (.getfield 15, 3) := by decide +kernel
theorem d_Mo_compared_49 : decode b_Mo_compared 49 = .ok (.iload_n 2, 1) := by decide +kernel
theorem d_Mo_compared_50 : decode b_Mo_compared 50 = .ok (.iload 5, 2) := by decide +kernel
theorem d_Mo_compared_52 : decode b_Mo_compared 52 = .ok (.iadd, 1) := by decide +kernel
theorem d_Mo_compared_53 : decode b_Mo_compared 53 = .ok (.baload, 1) := by decide +kernel
theorem d_Mo_compared_54 : decode b_Mo_compared 54 = .ok (.invokestatic 194, 3) := by decide +kernel
theorem d_Mo_compared_57 : decode b_Mo_compared 57 = .ok (.istore 7, 2) := by decide +kernel
theorem d_Mo_compared_59 : decode b_Mo_compared 59 = .ok (.iload 6, 2) := by decide +kernel
theorem d_Mo_compared_61 : decode b_Mo_compared 61 = .ok (.iload 7, 2) := by decide +kernel
theorem d_Mo_compared_63 : decode b_Mo_compared 63 = .ok (.if_icmp .eq 16, 3) := by decide +kernel
theorem d_Mo_compared_66 : decode b_Mo_compared 66 = .ok (.iload 6, 2) := by decide +kernel
theorem d_Mo_compared_68 : decode b_Mo_compared 68 = .ok (.iload 7, 2) := by decide +kernel
theorem d_Mo_compared_70 : decode b_Mo_compared 70 = .ok (.if_icmp .ge 7, 3) := by decide +kernel
theorem d_Mo_compared_73 : decode b_Mo_compared 73 = .ok (.iconst (-1), 1) := by decide +kernel
theorem d_Mo_compared_74 : decode b_Mo_compared 74 = .ok (.goto 4, 3) := by decide +kernel
theorem d_Mo_compared_77 : decode b_Mo_compared 77 = .ok (.iconst 1, 1) := by decide +kernel
theorem d_Mo_compared_78 : decode b_Mo_compared 78 = .ok (.ireturn, 1) := by decide +kernel
theorem d_Mo_compared_79 : decode b_Mo_compared 79 = .ok (.iinc 5 1, 3) := by decide +kernel
theorem d_Mo_compared_82 : decode b_Mo_compared 82 = .ok (.goto (-64), 3) := by decide +kernel
theorem d_Mo_compared_85 : decode b_Mo_compared 85 = .ok (.iload_n 3, 1) := by decide +kernel
theorem d_Mo_compared_86 : decode b_Mo_compared 86 = .ok (.iload 4, 2) := by decide +kernel
theorem d_Mo_compared_88 : decode b_Mo_compared 88 = .ok (.if_icmp .ne 7, 3) := by decide +kernel
theorem d_Mo_compared_91 : decode b_Mo_compared 91 = .ok (.iconst 0, 1) := by decide +kernel
theorem d_Mo_compared_92 : decode b_Mo_compared 92 = .ok (.goto 14, 3) := by decide +kernel
theorem d_Mo_compared_95 : decode b_Mo_compared 95 = .ok (.iload_n 3, 1) := by decide +kernel
theorem d_Mo_compared_96 : decode b_Mo_compared 96 = .ok (.iload 4, 2) := by decide +kernel
theorem d_Mo_compared_98 : decode b_Mo_compared 98 = .ok (.if_icmp .ge 7, 3) := by decide +kernel
theorem d_Mo_compared_101 : decode b_Mo_compared 101 = .ok (.iconst (-1), 1) := by decide +kernel
theorem d_Mo_compared_102 : decode b_Mo_compared 102 = .ok (.goto 4, 3) := by decide +kernel
theorem d_Mo_compared_105 : decode b_Mo_compared 105 = .ok (.iconst 1, 1) := by decide +kernel
theorem d_Mo_compared_106 : decode b_Mo_compared 106 = .ok (.ireturn, 1) := by decide +kernel
theorem d_Mo_label_0 : decode b_Mo_label 0 = .ok (.aload_n 0, 1) := by decide +kernel
theorem d_Mo_label_1 : decode b_Mo_label 1 = .ok (.getfield 31, 3) := by decide +kernel
theorem d_Mo_label_4 : decode b_Mo_label 4 = .ok (.iload_n 1, 1) := by decide +kernel
theorem d_Mo_label_5 : decode b_Mo_label 5 = .ok (.iaload, 1) := by decide +kernel
theorem d_Mo_label_6 : decode b_Mo_label 6 = .ok (.istore_n 3, 1) := by decide +kernel
theorem d_Mo_label_7 : decode b_Mo_label 7 = .ok (.aload_n 0, 1) := by decide +kernel
theorem d_Mo_label_8 : decode b_Mo_label 8 = .ok (.iload_n 1, 1) := by decide +kernel
theorem d_Mo_label_9 : decode b_Mo_label 9 = .ok (.invokevirtual 197, 3) := by decide +kernel
theorem d_Mo_label_12 : decode b_Mo_label 12 = .ok (.istore 4, 2) := by decide +kernel
theorem d_Mo_label_14 : decode b_Mo_label 14 = .ok (.iload 4, 2) := by decide +kernel
theorem d_Mo_label_16 : decode b_Mo_label 16 = .ok (.iload_n 2, 1) := by decide +kernel
theorem d_Mo_label_17 : decode b_Mo_label 17 = .ok (.if_icmp .le 20, 3) := by decide +kernel
theorem d_Mo_label_20 : decode b_Mo_label 20 = .ok (.iload_n 3, 1) := by decide +kernel
theorem d_Mo_label_21 : decode b_Mo_label 21 = .ok (.aload_n 0, 1) := by decide +kernel
theorem d_Mo_label_22 : decode b_Mo_label 22 = .ok (.getfield 15, 3) := by decide +kernel
theorem d_Mo_label_25 : decode b_Mo_label 25 = .ok (.iload_n 3, 1) := by decide +kernel
theorem d_Mo_label_26 : decode b_Mo_label 26 = .ok (.baload, 1) := by decide +kernel
theorem d_Mo_label_27 : decode b_Mo_label 27 = .ok (.iconst 1, 1) := by decide +kernel
theorem d_Mo_label_28 : decode b_Mo_label 28 = .ok (.iadd, 1) := by decide +kernel
theorem d_Mo_label_29 : decode b_Mo_label 29 = .ok (.iadd, 1) := by decide +kernel
theorem d_Mo_label_30 : decode b_Mo_label 30 = .ok (.istore_n 3, 1) := by decide +kernel
theorem d_Mo_label_31 : decode b_Mo_label 31 = .ok (.iinc 4 (-1), 3) := by decide +kernel
theorem d_Mo_label_34 : decode b_Mo_label 34 = .ok (.goto (-20), 3) := by decide +kernel
theorem d_Mo_label_37 : decode b_Mo_label 37 = .ok (.iload_n 3, 1) := by decide +kernel
theorem d_Mo_label_38 : decode b_Mo_label 38 = .ok (.ireturn, 1) := by decide +kernel
theorem d_Mo_labels_0 : decode b_Mo_labels 0 = .ok (.iconst 0, 1) := by decide +kernel
theorem d_Mo_labels_1 : decode b_Mo_labels 1 = .ok (.istore_n 2, 1) := by decide +kernel
theorem d_Mo_labels_2 : decode b_Mo_labels 2 = .ok (.aload_n 0, 1) := by decide +kernel
theorem d_Mo_labels_3 : decode b_Mo_labels 3 = .ok (.getfield 31, 3) := by decide +kernel
theorem d_Mo_labels_6 : decode b_Mo_labels 6 = .ok (.iload_n 1, 1) := by decide +kernel
theorem d_Mo_labels_7 : decode b_Mo_labels 7 = .ok (.iaload, 1) := by decide +kernel
theorem d_Mo_labels_8 : decode b_Mo_labels 8 = .ok (.istore_n 3, 1) := by decide +kernel
theorem d_Mo_labels_9 : decode b_Mo_labels 9 = .ok (.aload_n 0, 1) := by decide +kernel
theorem d_Mo_labels_10 : decode b_Mo_labels 10 = .ok (.getfield 15, 3) := by decide +kernel
theorem d_Mo_labels_13 : decode b_Mo_labels 13 = .ok (.iload_n 3, 1) := by decide +kernel
theorem d_Mo_labels_14 : decode b_Mo_labels 14 = .ok (.baload, 1) := by decide +kernel
theorem d_Mo_labels_15 : decode b_Mo_labels 15 = .ok (.ifCond .eq 20, 3) := by decide +kernel
theorem d_Mo_labels_18 : decode b_Mo_labels 18 = .ok (.iinc 2 1, 3) := by decide +kernel
theorem d_Mo_labels_21 : decode b_Mo_labels 21 = .ok (.iload_n 3, 1) := by decide +kernel
theorem d_Mo_labels_22 : decode b_Mo_labels 22 = .ok (.aload_n 0, 1) := by decide +kernel
theorem d_Mo_labels_23 : decode b_Mo_labels 23 = .ok (.getfield 15, 3) := by decide +kernel
theorem d_Mo_labels_26 : decode b_Mo_labels 26 = .ok (.iload_n 3, 1) := by decide +kernel
theorem d_Mo_labels_27 : decode b_Mo_labels 27 = .ok (.baload, 1) := by decide +kernel
theorem d_Mo_labels_28 : decode b_Mo_labels 28 = .ok (.iconst 1, 1) := by decide +kernel
theorem d_Mo_labels_29 : decode b_Mo_labels 29 = .ok (.iadd, 1) := by decide +kernel
theorem d_Mo_labels_30 : decode b_Mo_labels 30 = .ok (.iadd, 1) := by decide +kernel
theorem d_Mo_labels_31 : decode b_Mo_labels 31 = .ok (.istore_n 3, 1) := by decide +kernel
theorem d_Mo_labels_32 : decode b_Mo_labels 32 = .ok (.goto (-23), 3) := by decide +kernel
theorem d_Mo_labels_35 : decode b_Mo_labels 35 = .ok (.iload_n 2, 1) := by decide +kernel
theorem d_Mo_labels_36 : decode b_Mo_labels 36 = .ok (.ireturn, 1) := by decide +kernel
theorem d_Mo_low_0 : decode b_Mo_low 0 = .ok (.iload_n 0, 1) := by decide +kernel
theorem d_Mo_low_1 : decode b_Mo_low 1 = .ok (.bipush 65, 2) := by decide +kernel
theorem d_Mo_low_3 : decode b_Mo_low 3 = .ok (.if_icmp .lt 16, 3) := by decide +kernel
theorem d_Mo_low_6 : decode b_Mo_low 6 = .ok (.iload_n 0, 1) := by decide +kernel
theorem d_Mo_low_7 : decode b_Mo_low 7 = .ok (.bipush 90, 2) := by decide +kernel
theorem d_Mo_low_9 : decode b_Mo_low 9 = .ok (.if_icmp .gt 10, 3) := by decide +kernel
theorem d_Mo_low_12 : decode b_Mo_low 12 = .ok (.iload_n 0, 1) := by decide +kernel
theorem d_Mo_low_13 : decode b_Mo_low 13 = .ok (.bipush 32, 2) := by decide +kernel
theorem d_Mo_low_15 : decode b_Mo_low 15 = .ok (.iadd, 1) := by decide +kernel
theorem d_Mo_low_16 : decode b_Mo_low 16 = .ok (.goto 8, 3) := by decide +kernel
theorem d_Mo_low_19 : decode b_Mo_low 19 = .ok (.iload_n 0, 1) := by decide +kernel
theorem d_Mo_low_20 : decode b_Mo_low 20 = .ok (.sipush 255, 3) := by decide +kernel
theorem d_Mo_low_23 : decode b_Mo_low 23 = .ok (.iand, 1) := by decide +kernel
theorem d_Mo_low_24 : decode b_Mo_low 24 = .ok (.ireturn, 1) := by decide +kernel
set_option maxHeartbeats 4000000 in
set_option maxRecDepth 100000 in
/-- the reference: low -/
theorem m_Mo_low (l : Launch) (D9 : va_G) (cB cI cJ cG : ClassId) (a : Nat → Nat) (O : Nat → Int64) (I : Nat → Int32) (F : Nat → Nat → Int32) (G : List Nat) (q : Nat) (hGB : BR 0 140000 (F 35) G) (hq : q < G.length) (hGl : G.length ≤ 65536) : MC l D9 cB cI cJ cG a O y_Mo_low b_Mo_low 1 (some .int) 0 [.int (F 35 q)] I F (fun v I' F' => v = some (.int (nI (lw (tb G q)))) ∧ I = I' ∧ F = F') := by
  refine mc_of (by decide) (Nat.le_of_ble_eq_true rfl) ?_
  intro p e s m below meth c ls A0 Q C0 hP hD hA hS hl hret
  obtain ⟨hx, hb, hml, hr, hlocks, hown, hts, hK⟩ := id C0
  have hl : lv_has ls 1 [(0, .int (F 35 q))] := hl
  have hv := BR_tb hGB hq (Nat.zero_le _) (by omega)
  have hvl : tb G q < 256 := by rw [← hv]; exact ub_lt _
  by_cases hs : tb G q < 128
  · have hraw := raw_nI (hGB.1 q) hv hs
    rw [hraw] at hl
    refine lv_iload_n hx hb d_Mo_low_0 rfl (lv_at hl 0 rfl) ?_
    refine lv_bipush (v := 65) hx hb d_Mo_low_1 (by decide) ?_
    refine lv_topq (y := nI 65) (rfl) ?_
    refine lv_icmp_lt (tgt := 19) hx hb d_Mo_low_3 (by decide) (fun c1 => ?_) (fun c1 => ?_)
    · have c1 : tb G q < 65 := (nI_ltI (a := tb G q) (b := 65) (by omega) (by omega)).mp c1
      refine lv_iload_n hx hb d_Mo_low_19 rfl (lv_at hl 0 rfl) ?_
      refine lv_sipush (v := 255) hx hb d_Mo_low_20 (by decide) ?_
      refine lv_topq (y := nI 255) (rfl) ?_
      refine lv_iand hx hb d_Mo_low_23 ?_
      refine lv_topq (y := nI (tb G q)) ((pk_andN (by omega) 8 (by decide)).trans (congrArg nI (by omega))) ?_
      exact hret _ _ _ _ _ _ _ hS hP hD d_Mo_low_24 nr_i (⟨by unfold lw; rw [if_neg (by omega)], rfl, rfl⟩)
    · have c1 : ¬ (tb G q < 65) := fun z9 => c1 ((nI_ltI (a := tb G q) (b := 65) (by omega) (by omega)).mpr z9)
      refine lv_iload_n hx hb d_Mo_low_6 rfl (lv_at hl 0 rfl) ?_
      refine lv_bipush (v := 90) hx hb d_Mo_low_7 (by decide) ?_
      refine lv_topq (y := nI 90) (rfl) ?_
      refine lv_icmp_gt (tgt := 19) hx hb d_Mo_low_9 (by decide) (fun c2 => ?_) (fun c2 => ?_)
      · have c2 : 90 < tb G q := (nI_ltI (a := 90) (b := tb G q) (by omega) (by omega)).mp c2
        refine lv_iload_n hx hb d_Mo_low_19 rfl (lv_at hl 0 rfl) ?_
        refine lv_sipush (v := 255) hx hb d_Mo_low_20 (by decide) ?_
        refine lv_topq (y := nI 255) (rfl) ?_
        refine lv_iand hx hb d_Mo_low_23 ?_
        refine lv_topq (y := nI (tb G q)) ((pk_andN (by omega) 8 (by decide)).trans (congrArg nI (by omega))) ?_
        exact hret _ _ _ _ _ _ _ hS hP hD d_Mo_low_24 nr_i (⟨by unfold lw; rw [if_neg (by omega)], rfl, rfl⟩)
      · have c2 : ¬ (90 < tb G q) := fun z9 => c2 ((nI_ltI (a := 90) (b := tb G q) (by omega) (by omega)).mpr z9)
        refine lv_iload_n hx hb d_Mo_low_12 rfl (lv_at hl 0 rfl) ?_
        refine lv_bipush (v := 32) hx hb d_Mo_low_13 (by decide) ?_
        refine lv_topq (y := nI 32) (rfl) ?_
        refine lv_iadd hx hb d_Mo_low_15 ?_
        refine lv_topq (y := nI (tb G q + 32)) (nI_add _ _) ?_
        refine lv_goto (tgt := 24) hx hb d_Mo_low_16 (by decide) ?_
        exact hret _ _ _ _ _ _ _ hS hP hD d_Mo_low_24 nr_i (⟨by unfold lw; rw [if_pos (by omega)], rfl, rfl⟩)
  · have hng : F 35 q < nI 65 := raw_neg (hGB.1 q) hv (by omega)
    refine lv_iload_n hx hb d_Mo_low_0 rfl (lv_at hl 0 rfl) ?_
    refine lv_bipush (v := 65) hx hb d_Mo_low_1 (by decide) ?_
    refine lv_topq (y := nI 65) (rfl) ?_
    refine lv_icmp_lt (tgt := 19) hx hb d_Mo_low_3 (by decide) (fun c3 => ?_) (fun c3 => ?_)
    · refine lv_iload_n hx hb d_Mo_low_19 rfl (lv_at hl 0 rfl) ?_
      refine lv_sipush (v := 255) hx hb d_Mo_low_20 (by decide) ?_
      refine lv_topq (y := nI 255) (rfl) ?_
      refine lv_iand hx hb d_Mo_low_23 ?_
      refine lv_topq (y := nI (tb G q)) ((ub_and _).trans (congrArg nI hv)) ?_
      exact hret _ _ _ _ _ _ _ hS hP hD d_Mo_low_24 nr_i (⟨by unfold lw; rw [if_neg (by omega)], rfl, rfl⟩)
    · exact absurd hng c3
set_option maxHeartbeats 4000000 in
set_option maxRecDepth 100000 in
/-- the reference: compared -/
theorem m_Mo_compared (l : Launch) (D9 : va_G) (cB cI cJ cG : ClassId) (a : Nat → Nat) (O : Nat → Int64) (I : Nat → Int32) (F : Nat → Nat → Int32) (G : List Nat) (hGl : G.length ≤ 65536) (hGB : BR 0 140000 (F 35) G) (p9 q9 : Nat) (hp : p9 < G.length) (hq : q9 < G.length) (hpe : p9 + tb G p9 < G.length) (hqe : q9 + tb G q9 < G.length) (hp6 : tb G p9 ≤ 63) (hq6 : tb G q9 ≤ 63) : MC l D9 cB cI cJ cG a O y_Mo_compared b_Mo_compared 8 (some .int) 1 [.ref (a 33), .int (nI p9), .int (nI q9)] I F (fun v I' F' => v = some (.int (cmpL G p9 q9)) ∧ I = I' ∧ F = F') := by
  refine mc_of (by decide) (Nat.le_of_ble_eq_true rfl) ?_
  intro p e s m below meth c ls A0 Q C0 hP hD hA hS hl hret
  obtain ⟨hx, hb, hml, hr, hlocks, hown, hts, hK⟩ := id C0
  have hl : lv_has ls 8 [(0, .ref (a 33)), (1, .int (nI p9)), (2, .int (nI q9))] := hl
  refine lv_aload_n hx hb d_Mo_compared_0 rfl (lv_at hl 0 rfl) ?_
  refine va_get (D := D9) (ci := 7) (C := R_Mo) (T := F_Mo) (N := 30) hx hb hts i_Mo hown hK hP 33 ww_33 rfl 3 (by decide) (hts _ g_725) (fun _ h9 => h9) rfl d_Mo_compared_1 ?_
  refine lv_iload_n hx hb d_Mo_compared_4 rfl (lv_at hl 1 rfl) ?_
  refine va_bald (D := D9) hx hb hK hP 35 0 ww_35 rfl (vp_in_nI (by omega) (by decide)) d_Mo_compared_5 ?_
  refine lv_topq (y := nI (tb G p9)) (by rw [nI_clamp (by omega)]; exact (BR_raw hGB (by omega) (by omega) (by omega))) ?_
  refine lv_istore_n (lv' := [(3, _), (0, _), (1, _), (2, _)]) hx hb d_Mo_compared_6 rfl hl (by decide) rfl (fun ls hl => ?_)
  refine lv_aload_n hx hb d_Mo_compared_7 rfl (lv_at hl 1 rfl) ?_
  refine va_get (D := D9) (ci := 7) (C := R_Mo) (T := F_Mo) (N := 30) hx hb hts i_Mo hown hK hP 33 ww_33 rfl 3 (by decide) (hts _ g_725) (fun _ h9 => h9) rfl d_Mo_compared_8 ?_
  refine lv_iload_n hx hb d_Mo_compared_11 rfl (lv_at hl 3 rfl) ?_
  refine va_bald (D := D9) hx hb hK hP 35 0 ww_35 rfl (vp_in_nI (by omega) (by decide)) d_Mo_compared_12 ?_
  refine lv_topq (y := nI (tb G q9)) (by rw [nI_clamp (by omega)]; exact (BR_raw hGB (by omega) (by omega) (by omega))) ?_
  refine lv_istore (lv' := [(4, _), (3, _), (0, _), (1, _), (2, _)]) hx hb d_Mo_compared_13 hl (by decide) rfl (fun ls hl => ?_)
  refine lv_iconst (v := 1) hx hb d_Mo_compared_15 (by decide) ?_
  refine lv_topq (y := nI 1) (rfl) ?_
  refine lv_istore (lv' := [(5, _), (4, _), (3, _), (0, _), (1, _), (2, _)]) hx hb d_Mo_compared_16 hl (by decide) rfl (fun ls hl => ?_)
  have loop1 : ∀ (n9 : Nat) (i : Nat) (I9 : Nat → Int32) (F9 : Nat → Nat → Int32) (H : Heap) (locs : List Loc) (ls : Array Slot), (I = I9) → (F = F9) → (min (tb G p9) (tb G q9) + 1 - i = n9) → (1 ≤ i ∧ i ≤ min (tb G p9) (tb G q9) + 1) → (cmpL G p9 q9 = cl G p9 q9 (tb G p9) (tb G q9) (min (tb G p9) (tb G q9) + 1 - i) i) → va_P D9 cls9 (WW a cB cI cJ cG I9 F9 O) H → va_D A0 (WW a cB cI cJ cG I9 F9 O) → va_S A0 s.heap H locs → lv_has ls 8 [(0, .ref (a 33)), (1, .int (nI p9)), (2, .int (nI q9)), (3, .int (nI (tb G p9))), (4, .int (nI (tb G q9))), (5, .int (nI i))] → W p l e (rm9 1 0 0) s m ([.ref (a 33), .int (nI p9), .int (nI q9)] : List Value).toArray below meth c H locs 0 0 Q (F0 m 18 ls []) := by
    intro n9
    induction n9 using Nat.strongRecOn with
    | ind n9 ih =>
      intro i I9 F9 H locs ls hsI hsF hn9 hi hC hP hD hS hl
      subst hsI
      subst hsF
      refine lv_iload hx hb d_Mo_compared_18 (lv_at hl 5 rfl) ?_
      refine lv_iload_n hx hb d_Mo_compared_20 rfl (lv_at hl 3 rfl) ?_
      refine lv_icmp_gt (tgt := 85) hx hb d_Mo_compared_21 (by decide) (fun c1 => ?_) (fun c1 => ?_)
      · have c1 : tb G p9 < i := (nI_ltI (a := tb G p9) (b := i) (by omega) (by omega)).mp c1
        rw [show min (tb G p9) (tb G q9) + 1 - i = 0 from by omega] at hC
        have hC : cmpL G p9 q9 = wy (tb G p9) (tb G q9) := hC
        refine lv_iload_n hx hb d_Mo_compared_85 rfl (lv_at hl 3 rfl) ?_
        refine lv_iload hx hb d_Mo_compared_86 (lv_at hl 4 rfl) ?_
        refine lv_icmp_ne (tgt := 95) hx hb d_Mo_compared_88 (by decide) (fun c2 => ?_) (fun c2 => ?_)
        · have c2 : ¬ (tb G p9 = tb G q9) := fun z9 => c2 ((nI_eq (a := tb G p9) (b := tb G q9) (by omega) (by omega)).mpr z9)
          refine lv_iload_n hx hb d_Mo_compared_95 rfl (lv_at hl 3 rfl) ?_
          refine lv_iload hx hb d_Mo_compared_96 (lv_at hl 4 rfl) ?_
          refine lv_icmp_ge (tgt := 105) hx hb d_Mo_compared_98 (by decide) (fun c3 => ?_) (fun c3 => ?_)
          · have c3 : tb G q9 ≤ tb G p9 := (nI_leI (a := tb G q9) (b := tb G p9) (by omega) (by omega)).mp c3
            refine lv_iconst (v := 1) hx hb d_Mo_compared_105 (by decide) ?_
            refine lv_topq (y := nI 1) (rfl) ?_
            exact hret _ _ _ _ _ _ _ hS hP hD d_Mo_compared_106 nr_i (⟨by rw [hC]; unfold wy; rw [if_neg (by omega), if_neg (by omega)]; rfl, rfl, rfl⟩)
          · have c3 : ¬ (tb G q9 ≤ tb G p9) := fun z9 => c3 ((nI_leI (a := tb G q9) (b := tb G p9) (by omega) (by omega)).mpr z9)
            refine lv_iconst (v := -1) hx hb d_Mo_compared_101 (by decide) ?_
            refine lv_topq (y := (-1 : Int32)) rfl ?_
            refine lv_goto (tgt := 106) hx hb d_Mo_compared_102 (by decide) ?_
            exact hret _ _ _ _ _ _ _ hS hP hD d_Mo_compared_106 nr_i (⟨by rw [hC]; unfold wy; rw [if_neg (by omega), if_pos (by omega)], rfl, rfl⟩)
        · have c2 : tb G p9 = tb G q9 := (nI_eq (a := tb G p9) (b := tb G q9) (by omega) (by omega)).mp c2
          refine lv_iconst (v := 0) hx hb d_Mo_compared_91 (by decide) ?_
          refine lv_topq (y := nI 0) (rfl) ?_
          refine lv_goto (tgt := 106) hx hb d_Mo_compared_92 (by decide) ?_
          exact hret _ _ _ _ _ _ _ hS hP hD d_Mo_compared_106 nr_i (⟨by rw [hC]; unfold wy; rw [if_pos (by omega)]; rfl, rfl, rfl⟩)
      · have c1 : ¬ (tb G p9 < i) := fun z9 => c1 ((nI_ltI (a := tb G p9) (b := i) (by omega) (by omega)).mpr z9)
        refine lv_iload hx hb d_Mo_compared_24 (lv_at hl 5 rfl) ?_
        refine lv_iload hx hb d_Mo_compared_26 (lv_at hl 4 rfl) ?_
        refine lv_icmp_gt (tgt := 85) hx hb d_Mo_compared_28 (by decide) (fun c4 => ?_) (fun c4 => ?_)
        · have c4 : tb G q9 < i := (nI_ltI (a := tb G q9) (b := i) (by omega) (by omega)).mp c4
          rw [show min (tb G p9) (tb G q9) + 1 - i = 0 from by omega] at hC
          have hC : cmpL G p9 q9 = wy (tb G p9) (tb G q9) := hC
          refine lv_iload_n hx hb d_Mo_compared_85 rfl (lv_at hl 3 rfl) ?_
          refine lv_iload hx hb d_Mo_compared_86 (lv_at hl 4 rfl) ?_
          refine lv_icmp_ne (tgt := 95) hx hb d_Mo_compared_88 (by decide) (fun c5 => ?_) (fun c5 => ?_)
          · have c5 : ¬ (tb G p9 = tb G q9) := fun z9 => c5 ((nI_eq (a := tb G p9) (b := tb G q9) (by omega) (by omega)).mpr z9)
            refine lv_iload_n hx hb d_Mo_compared_95 rfl (lv_at hl 3 rfl) ?_
            refine lv_iload hx hb d_Mo_compared_96 (lv_at hl 4 rfl) ?_
            refine lv_icmp_ge (tgt := 105) hx hb d_Mo_compared_98 (by decide) (fun c6 => ?_) (fun c6 => ?_)
            · have c6 : tb G q9 ≤ tb G p9 := (nI_leI (a := tb G q9) (b := tb G p9) (by omega) (by omega)).mp c6
              refine lv_iconst (v := 1) hx hb d_Mo_compared_105 (by decide) ?_
              refine lv_topq (y := nI 1) (rfl) ?_
              exact hret _ _ _ _ _ _ _ hS hP hD d_Mo_compared_106 nr_i (⟨by rw [hC]; unfold wy; rw [if_neg (by omega), if_neg (by omega)]; rfl, rfl, rfl⟩)
            · have c6 : ¬ (tb G q9 ≤ tb G p9) := fun z9 => c6 ((nI_leI (a := tb G q9) (b := tb G p9) (by omega) (by omega)).mpr z9)
              refine lv_iconst (v := -1) hx hb d_Mo_compared_101 (by decide) ?_
              refine lv_topq (y := (-1 : Int32)) rfl ?_
              refine lv_goto (tgt := 106) hx hb d_Mo_compared_102 (by decide) ?_
              exact hret _ _ _ _ _ _ _ hS hP hD d_Mo_compared_106 nr_i (⟨by rw [hC]; unfold wy; rw [if_neg (by omega), if_pos (by omega)], rfl, rfl⟩)
          · have c5 : tb G p9 = tb G q9 := (nI_eq (a := tb G p9) (b := tb G q9) (by omega) (by omega)).mp c5
            refine lv_iconst (v := 0) hx hb d_Mo_compared_91 (by decide) ?_
            refine lv_topq (y := nI 0) (rfl) ?_
            refine lv_goto (tgt := 106) hx hb d_Mo_compared_92 (by decide) ?_
            exact hret _ _ _ _ _ _ _ hS hP hD d_Mo_compared_106 nr_i (⟨by rw [hC]; unfold wy; rw [if_pos (by omega)]; rfl, rfl, rfl⟩)
        · have c4 : ¬ (tb G q9 < i) := fun z9 => c4 ((nI_ltI (a := tb G q9) (b := i) (by omega) (by omega)).mpr z9)
          rw [show min (tb G p9) (tb G q9) + 1 - i = (min (tb G p9) (tb G q9) + 1 - (i + 1)) + 1 from by omega] at hC
          have hv1 : tb G (p9 + i) < 256 := BR_lt hGB (by omega) (by omega) (by omega)
          have hv2 : tb G (q9 + i) < 256 := BR_lt hGB (by omega) (by omega) (by omega)
          have hw1 := lw_lt hv1
          have hw2 := lw_lt hv2
          refine lv_aload_n hx hb d_Mo_compared_31 rfl (lv_at hl 0 rfl) ?_
          refine va_get (D := D9) (ci := 7) (C := R_Mo) (T := F_Mo) (N := 30) hx hb hts i_Mo hown hK hP 33 ww_33 rfl 3 (by decide) (hts _ g_725) (fun _ h9 => h9) rfl d_Mo_compared_32 ?_
          refine lv_iload_n hx hb d_Mo_compared_35 rfl (lv_at hl 1 rfl) ?_
          refine lv_iload hx hb d_Mo_compared_36 (lv_at hl 5 rfl) ?_
          refine lv_iadd hx hb d_Mo_compared_38 ?_
          refine lv_topq (y := nI (p9 + i)) (nI_add _ _) ?_
          refine va_bald (D := D9) hx hb hK hP 35 0 ww_35 rfl (vp_in_nI (by omega) (by decide)) d_Mo_compared_39 ?_
          refine lv_topq (y := F 35 (p9 + i)) ((by rw [nI_clamp (by omega)])) ?_
          refine mw_cS C0 (m_Mo_low l D9 cB cI cJ cG a O _ _ G (p9 + i) hGB (by omega) hGl) g_970 g_8 g_968 g_969 ⟨by decide +kernel, by decide +kernel, show Option.map (fun d => d.parameters.length) (parseMethodDescriptor y_Mo_low.desc) = some 1 by decide +kernel⟩ ⟨by decide, by decide⟩ rfl rfl hP hD hS hA hl.1 (Nat.le_of_ble_eq_true rfl) rfl d_Mo_compared_40 ⟨by decide, by decide⟩ (fun v9 w9 H locs hq hP hD hS => ?_)
          obtain ⟨I7, F8, hw9, q9⟩ := hq
          subst hw9
          obtain ⟨rfl, rfl, rfl⟩ := q9
          refine lv_istore (lv' := [(6, _), (0, _), (1, _), (2, _), (3, _), (4, _), (5, _)]) hx hb d_Mo_compared_43 hl (by decide) rfl (fun ls hl => ?_)
          refine lv_aload_n hx hb d_Mo_compared_45 rfl (lv_at hl 1 rfl) ?_
          refine va_get (D := D9) (ci := 7) (C := R_Mo) (T := F_Mo) (N := 30) hx hb hts i_Mo hown hK hP 33 ww_33 rfl 3 (by decide) (hts _ g_725) (fun _ h9 => h9) rfl d_Mo_compared_46 ?_
          refine lv_iload_n hx hb d_Mo_compared_49 rfl (lv_at hl 3 rfl) ?_
          refine lv_iload hx hb d_Mo_compared_50 (lv_at hl 6 rfl) ?_
          refine lv_iadd hx hb d_Mo_compared_52 ?_
          refine lv_topq (y := nI (q9 + i)) (nI_add _ _) ?_
          refine va_bald (D := D9) hx hb hK hP 35 0 ww_35 rfl (vp_in_nI (by omega) (by decide)) d_Mo_compared_53 ?_
          refine lv_topq (y := F 35 (q9 + i)) ((by rw [nI_clamp (by omega)])) ?_
          refine mw_cS C0 (m_Mo_low l D9 cB cI cJ cG a O _ _ G (q9 + i) hGB (by omega) hGl) g_970 g_8 g_968 g_969 ⟨by decide +kernel, by decide +kernel, show Option.map (fun d => d.parameters.length) (parseMethodDescriptor y_Mo_low.desc) = some 1 by decide +kernel⟩ ⟨by decide, by decide⟩ rfl rfl hP hD hS hA hl.1 (Nat.le_of_ble_eq_true rfl) rfl d_Mo_compared_54 ⟨by decide, by decide⟩ (fun v9 w9 H locs hq hP hD hS => ?_)
          obtain ⟨I10, F11, hw9, q12⟩ := hq
          subst hw9
          obtain ⟨rfl, rfl, rfl⟩ := q12
          refine lv_istore (lv' := [(7, _), (6, _), (0, _), (1, _), (2, _), (3, _), (4, _), (5, _)]) hx hb d_Mo_compared_57 hl (by decide) rfl (fun ls hl => ?_)
          refine lv_iload hx hb d_Mo_compared_59 (lv_at hl 1 rfl) ?_
          refine lv_iload hx hb d_Mo_compared_61 (lv_at hl 0 rfl) ?_
          refine lv_icmp_eq (tgt := 79) hx hb d_Mo_compared_63 (by decide) (fun c13 => ?_) (fun c13 => ?_)
          · have c13 : lw (tb G (p9 + i)) = lw (tb G (q9 + i)) := (nI_eq (a := lw (tb G (p9 + i))) (b := lw (tb G (q9 + i))) (by omega) (by omega)).mp c13
            have hC : cmpL G p9 q9 = cl G p9 q9 (tb G p9) (tb G q9) (min (tb G p9) (tb G q9) + 1 - (i + 1)) (i + 1) := by rw [hC]; exact if_pos (by unfold wy; rw [if_pos c13])
            refine lv_iinc (lv' := [(5, .int (nI (i + 1))), (7, _), (6, _), (0, _), (1, _), (2, _), (3, _), (4, _)]) hx hb d_Mo_compared_79 hl (k := 7) rfl (nI_add _ 1) (by decide) rfl (fun ls hl => ?_)
            refine lv_goto (tgt := 18) hx hb d_Mo_compared_82 (by decide) ?_
            exact ih _ (by omega) (i + 1) _ _ _ _ _ rfl rfl rfl ⟨by omega, by omega⟩ hC hP hD hS (lv_pk hl [3, 4, 5, 6, 7, 0] rfl)
          · have c13 : ¬ (lw (tb G (p9 + i)) = lw (tb G (q9 + i))) := fun z9 => c13 ((nI_eq (a := lw (tb G (p9 + i))) (b := lw (tb G (q9 + i))) (by omega) (by omega)).mpr z9)
            have hC : cmpL G p9 q9 = wy (lw (tb G (p9 + i))) (lw (tb G (q9 + i))) := by rw [hC]; exact if_neg (by unfold wy; rw [if_neg c13]; split <;> decide)
            refine lv_iload hx hb d_Mo_compared_66 (lv_at hl 1 rfl) ?_
            refine lv_iload hx hb d_Mo_compared_68 (lv_at hl 0 rfl) ?_
            refine lv_icmp_ge (tgt := 77) hx hb d_Mo_compared_70 (by decide) (fun c14 => ?_) (fun c14 => ?_)
            · have c14 : lw (tb G (q9 + i)) ≤ lw (tb G (p9 + i)) := (nI_leI (a := lw (tb G (q9 + i))) (b := lw (tb G (p9 + i))) (by omega) (by omega)).mp c14
              refine lv_iconst (v := 1) hx hb d_Mo_compared_77 (by decide) ?_
              refine lv_topq (y := nI 1) (rfl) ?_
              exact hret _ _ _ _ _ _ _ hS hP hD d_Mo_compared_78 nr_i (⟨by rw [hC]; unfold wy; rw [if_neg (by omega), if_neg (by omega)]; rfl, rfl, rfl⟩)
            · have c14 : ¬ (lw (tb G (q9 + i)) ≤ lw (tb G (p9 + i))) := fun z9 => c14 ((nI_leI (a := lw (tb G (q9 + i))) (b := lw (tb G (p9 + i))) (by omega) (by omega)).mpr z9)
              refine lv_iconst (v := -1) hx hb d_Mo_compared_73 (by decide) ?_
              refine lv_topq (y := (-1 : Int32)) rfl ?_
              refine lv_goto (tgt := 78) hx hb d_Mo_compared_74 (by decide) ?_
              exact hret _ _ _ _ _ _ _ hS hP hD d_Mo_compared_78 nr_i (⟨by rw [hC]; unfold wy; rw [if_neg (by omega), if_pos (by omega)], rfl, rfl⟩)
  exact loop1 _ 1 _ _ _ _ _ rfl rfl rfl ⟨by omega, by omega⟩ (by unfold cmpL; rw [show min (tb G p9) (tb G q9) + 1 - 1 = min (tb G p9) (tb G q9) from by omega]) hP hD hS (lv_pk hl [3, 4, 5, 2, 1, 0] rfl)
set_option maxHeartbeats 4000000 in
set_option maxRecDepth 100000 in
/-- the reference: labels -/
theorem m_Mo_labels (l : Launch) (D9 : va_G) (cB cI cJ cG : ClassId) (a : Nat → Nat) (O : Nat → Int64) (I : Nat → Int32) (F : Nat → Nat → Int32) (es : List En9) (hR : MoR F es) (h18 : I 18 = nI es.length) (hO : okE es) (hEk : ∀ r e, es[r]? = some e → eOk (fl es) (of9 es r) e) (r : Nat) (e9 : En9) (hre : es[r]? = some e9) (k rt9 : Nat) (hN : isN (fl es) k (of9 es r) rt9) (hk : k ≤ 127) : MC l D9 cB cI cJ cG a O y_Mo_labels b_Mo_labels 4 (some .int) 0 [.ref (a 33), .int (nI r)] I F (fun v I' F' => v = some (.int (nI k)) ∧ I = I' ∧ F = F') := by
  refine mc_of (by decide) (Nat.le_of_ble_eq_true rfl) ?_
  intro p e s m below meth c ls A0 Q C0 hP hD hA hS hl hret
  obtain ⟨hx, hb, hml, hr, hlocks, hown, hts, hK⟩ := id C0
  have hl : lv_has ls 4 [(0, .ref (a 33)), (1, .int (nI r))] := hl
  have hln := okE_len hO
  have hrl := (List.getElem?_eq_some_iff.mp hre).1
  obtain ⟨z36, z37, z38, z39, z40, z41, z42, z43⟩ := hR.1 r e9 hre
  have hGl := hO.2.2.1
  have hGB := hR.2
  have hpn := isN_p hN
  refine lv_iconst (v := 0) hx hb d_Mo_labels_0 (by decide) ?_
  refine lv_topq (y := nI 0) (rfl) ?_
  refine lv_istore_n (lv' := [(2, _), (0, _), (1, _)]) hx hb d_Mo_labels_1 rfl hl (by decide) rfl (fun ls hl => ?_)
  refine lv_aload_n hx hb d_Mo_labels_2 rfl (lv_at hl 1 rfl) ?_
  refine va_get (D := D9) (ci := 7) (C := R_Mo) (T := F_Mo) (N := 30) hx hb hts i_Mo hown hK hP 33 ww_33 rfl 12 (by decide) (hts _ g_734) (fun _ h9 => h9) rfl d_Mo_labels_3 ?_
  refine lv_iload_n hx hb d_Mo_labels_6 rfl (lv_at hl 2 rfl) ?_
  refine va_iald (D := D9) hx hb hK hP 40 1 ww_40 rfl (vp_in_nI (by omega) (by decide)) d_Mo_labels_7 ?_
  refine lv_topq (y := nI (of9 es r)) (by rw [nI_clamp (by omega)]; exact z40) ?_
  refine lv_istore_n (lv' := [(3, _), (2, _), (0, _), (1, _)]) hx hb d_Mo_labels_8 rfl hl (by decide) rfl (fun ls hl => ?_)
  have loop1 : ∀ (n9 : Nat) (i : Nat) (I9 : Nat → Int32) (F9 : Nat → Nat → Int32) (H : Heap) (locs : List Loc) (ls : Array Slot), (I = I9) → (F = F9) → (k - i = n9) → (i ≤ k) → va_P D9 cls9 (WW a cB cI cJ cG I9 F9 O) H → va_D A0 (WW a cB cI cJ cG I9 F9 O) → va_S A0 s.heap H locs → lv_has ls 4 [(0, .ref (a 33)), (1, .int (nI r)), (2, .int (nI i)), (3, .int (nI (lb (fl es) (of9 es r) i)))] → W p l e (rm9 0 0 0) s m ([.ref (a 33), .int (nI r)] : List Value).toArray below meth c H locs 0 0 Q (F0 m 9 ls []) := by
    intro n9
    induction n9 using Nat.strongRecOn with
    | ind n9 ih =>
      intro i I9 F9 H locs ls hsI hsF hn9 hi hP hD hS hl
      subst hsI
      subst hsF
      have hNi := isN_lb hN i hi
      have hpi := isN_p hNi
      refine lv_aload_n hx hb d_Mo_labels_9 rfl (lv_at hl 0 rfl) ?_
      refine va_get (D := D9) (ci := 7) (C := R_Mo) (T := F_Mo) (N := 30) hx hb hts i_Mo hown hK hP 33 ww_33 rfl 3 (by decide) (hts _ g_725) (fun _ h9 => h9) rfl d_Mo_labels_10 ?_
      refine lv_iload_n hx hb d_Mo_labels_13 rfl (lv_at hl 3 rfl) ?_
      refine va_bald (D := D9) hx hb hK hP 35 0 ww_35 rfl (vp_in_nI (by omega) (by decide)) d_Mo_labels_14 ?_
      refine lv_topq (y := nI (tb (fl es) (lb (fl es) (of9 es r) i))) (by rw [nI_clamp (by omega)]; exact (BR_raw hGB (by omega) (by omega) (by omega))) ?_
      refine lv_if_eq (tgt := 35) hx hb d_Mo_labels_15 (by decide) (fun c1 => ?_) (fun c1 => ?_)
      · have c1 : tb (fl es) (lb (fl es) (of9 es r) i) = 0 := (nI_eq (a := tb (fl es) (lb (fl es) (of9 es r) i)) (b := 0) (by omega) (by omega)).mp c1
        have hik : i = k := by rcases Nat.eq_zero_or_pos (k - i) with z | z; omega; have := hpi.2.2.2 z; omega
        refine lv_iload_n hx hb d_Mo_labels_35 rfl (lv_at hl 2 rfl) ?_
        exact hret _ _ _ _ _ _ _ hS hP hD d_Mo_labels_36 nr_i (⟨by rw [hik], rfl, rfl⟩)
      · have c1 : ¬ (tb (fl es) (lb (fl es) (of9 es r) i) = 0) := fun z9 => c1 ((nI_eq (a := tb (fl es) (lb (fl es) (of9 es r) i)) (b := 0) (by omega) (by omega)).mpr z9)
        have hik : i < k := by rcases Nat.eq_zero_or_pos (k - i) with z | z; have := hpi.2.2.1 z; omega; omega
        refine lv_iinc (lv' := [(2, .int (nI (i + 1))), (0, _), (1, _), (3, _)]) hx hb d_Mo_labels_18 hl (k := 2) rfl (nI_add _ 1) (by decide) rfl (fun ls hl => ?_)
        refine lv_iload_n hx hb d_Mo_labels_21 rfl (lv_at hl 3 rfl) ?_
        refine lv_aload_n hx hb d_Mo_labels_22 rfl (lv_at hl 1 rfl) ?_
        refine va_get (D := D9) (ci := 7) (C := R_Mo) (T := F_Mo) (N := 30) hx hb hts i_Mo hown hK hP 33 ww_33 rfl 3 (by decide) (hts _ g_725) (fun _ h9 => h9) rfl d_Mo_labels_23 ?_
        refine lv_iload_n hx hb d_Mo_labels_26 rfl (lv_at hl 3 rfl) ?_
        refine va_bald (D := D9) hx hb hK hP 35 0 ww_35 rfl (vp_in_nI (by omega) (by decide)) d_Mo_labels_27 ?_
        refine lv_topq (y := nI (tb (fl es) (lb (fl es) (of9 es r) i))) (by rw [nI_clamp (by omega)]; exact (BR_raw hGB (by omega) (by omega) (by omega))) ?_
        refine lv_iconst (v := 1) hx hb d_Mo_labels_28 (by decide) ?_
        refine lv_topq (y := nI 1) (rfl) ?_
        refine lv_iadd hx hb d_Mo_labels_29 ?_
        refine lv_topq (y := nI (tb (fl es) (lb (fl es) (of9 es r) i) + 1)) (nI_add _ _) ?_
        refine lv_iadd hx hb d_Mo_labels_30 ?_
        refine lv_topq (y := nI (lb (fl es) (of9 es r) i + (tb (fl es) (lb (fl es) (of9 es r) i) + 1))) (nI_add _ _) ?_
        refine lv_istore_n (lv' := [(3, _), (2, _), (0, _), (1, _)]) hx hb d_Mo_labels_31 rfl hl (by decide) rfl (fun ls hl => ?_)
        refine lv_goto (tgt := 9) hx hb d_Mo_labels_32 (by decide) ?_
        exact ih _ (by omega) (i + 1) _ _ _ _ _ rfl rfl rfl (by omega) hP hD hS (lv_pk hl [2, 3, 1, 0] rfl)
  exact loop1 _ 0 _ _ _ _ _ rfl rfl rfl (Nat.zero_le _) hP hD hS (lv_pk hl [2, 3, 1, 0] rfl)
set_option maxHeartbeats 4000000 in
set_option maxRecDepth 100000 in
/-- the reference: label -/
theorem m_Mo_label (l : Launch) (D9 : va_G) (cB cI cJ cG : ClassId) (a : Nat → Nat) (O : Nat → Int64) (I : Nat → Int32) (F : Nat → Nat → Int32) (es : List En9) (hR : MoR F es) (h18 : I 18 = nI es.length) (hO : okE es) (hEk : ∀ r e, es[r]? = some e → eOk (fl es) (of9 es r) e) (r : Nat) (e9 : En9) (hre : es[r]? = some e9) (k rt9 : Nat) (hN : isN (fl es) k (of9 es r) rt9) (hk : k ≤ 127) (n : Nat) (hn : n ≤ k) : MC l D9 cB cI cJ cG a O y_Mo_label b_Mo_label 5 (some .int) 1 [.ref (a 33), .int (nI r), .int (nI n)] I F (fun v I' F' => v = some (.int (nI (lb (fl es) (of9 es r) (k - n)))) ∧ I = I' ∧ F = F') := by
  refine mc_of (by decide) (Nat.le_of_ble_eq_true rfl) ?_
  intro p e s m below meth c ls A0 Q C0 hP hD hA hS hl hret
  obtain ⟨hx, hb, hml, hr, hlocks, hown, hts, hK⟩ := id C0
  have hl : lv_has ls 5 [(0, .ref (a 33)), (1, .int (nI r)), (2, .int (nI n))] := hl
  have hln := okE_len hO
  have hrl := (List.getElem?_eq_some_iff.mp hre).1
  obtain ⟨z36, z37, z38, z39, z40, z41, z42, z43⟩ := hR.1 r e9 hre
  have hGl := hO.2.2.1
  have hGB := hR.2
  have hpn := isN_p hN
  refine lv_aload_n hx hb d_Mo_label_0 rfl (lv_at hl 0 rfl) ?_
  refine va_get (D := D9) (ci := 7) (C := R_Mo) (T := F_Mo) (N := 30) hx hb hts i_Mo hown hK hP 33 ww_33 rfl 12 (by decide) (hts _ g_734) (fun _ h9 => h9) rfl d_Mo_label_1 ?_
  refine lv_iload_n hx hb d_Mo_label_4 rfl (lv_at hl 1 rfl) ?_
  refine va_iald (D := D9) hx hb hK hP 40 1 ww_40 rfl (vp_in_nI (by omega) (by decide)) d_Mo_label_5 ?_
  refine lv_topq (y := nI (of9 es r)) (by rw [nI_clamp (by omega)]; exact z40) ?_
  refine lv_istore_n (lv' := [(3, _), (0, _), (1, _), (2, _)]) hx hb d_Mo_label_6 rfl hl (by decide) rfl (fun ls hl => ?_)
  refine lv_aload_n hx hb d_Mo_label_7 rfl (lv_at hl 1 rfl) ?_
  refine lv_iload_n hx hb d_Mo_label_8 rfl (lv_at hl 2 rfl) ?_
  refine mw_cV (ci := 7) (k := 33) C0 (m_Mo_labels l D9 cB cI cJ cG a O _ _ es hR h18 hO hEk r e9 hre k rt9 hN hk) g_978 g_8 g_975 g_977 gs_Mo_labels ⟨by decide +kernel, by decide +kernel, show Option.map (fun d => d.parameters.length) (parseMethodDescriptor y_Mo_labels.desc) = some 1 by decide +kernel⟩ ⟨by decide, by decide⟩ rfl rfl hP hD hS hA rfl ww_33 hl.1 (Nat.le_of_ble_eq_true rfl) rfl d_Mo_label_9 ⟨by decide, by decide⟩ (fun v9 w9 H locs hq hP hD hS => ?_)
  obtain ⟨I1, F2, hw9, q3⟩ := hq
  subst hw9
  obtain ⟨rfl, rfl, rfl⟩ := q3
  refine lv_istore (lv' := [(4, _), (3, _), (0, _), (1, _), (2, _)]) hx hb d_Mo_label_12 hl (by decide) rfl (fun ls hl => ?_)
  have loop1 : ∀ (n9 : Nat) (i : Nat) (I9 : Nat → Int32) (F9 : Nat → Nat → Int32) (H : Heap) (locs : List Loc) (ls : Array Slot), (I = I9) → (F = F9) → (k - i = n9) → (i ≤ k - n) → va_P D9 cls9 (WW a cB cI cJ cG I9 F9 O) H → va_D A0 (WW a cB cI cJ cG I9 F9 O) → va_S A0 s.heap H locs → lv_has ls 5 [(0, .ref (a 33)), (1, .int (nI r)), (2, .int (nI n)), (3, .int (nI (lb (fl es) (of9 es r) i))), (4, .int (nI (k - i)))] → W p l e (rm9 1 0 0) s m ([.ref (a 33), .int (nI r), .int (nI n)] : List Value).toArray below meth c H locs 0 0 Q (F0 m 14 ls []) := by
    intro n9
    induction n9 using Nat.strongRecOn with
    | ind n9 ih =>
      intro i I9 F9 H locs ls hsI hsF hn9 hi hP hD hS hl
      subst hsI
      subst hsF
      have hNi := isN_lb hN i (by omega)
      have hpi := isN_p hNi
      refine lv_iload hx hb d_Mo_label_14 (lv_at hl 4 rfl) ?_
      refine lv_iload_n hx hb d_Mo_label_16 rfl (lv_at hl 2 rfl) ?_
      refine lv_icmp_le (tgt := 37) hx hb d_Mo_label_17 (by decide) (fun c4 => ?_) (fun c4 => ?_)
      · have c4 : k - i ≤ n := (nI_leI (a := k - i) (b := n) (by omega) (by omega)).mp c4
        have hik : i = k - n := by omega
        refine lv_iload_n hx hb d_Mo_label_37 rfl (lv_at hl 3 rfl) ?_
        exact hret _ _ _ _ _ _ _ hS hP hD d_Mo_label_38 nr_i (⟨by rw [hik], rfl, rfl⟩)
      · have c4 : ¬ (k - i ≤ n) := fun z9 => c4 ((nI_leI (a := k - i) (b := n) (by omega) (by omega)).mpr z9)
        refine lv_iload_n hx hb d_Mo_label_20 rfl (lv_at hl 3 rfl) ?_
        refine lv_aload_n hx hb d_Mo_label_21 rfl (lv_at hl 0 rfl) ?_
        refine va_get (D := D9) (ci := 7) (C := R_Mo) (T := F_Mo) (N := 30) hx hb hts i_Mo hown hK hP 33 ww_33 rfl 3 (by decide) (hts _ g_725) (fun _ h9 => h9) rfl d_Mo_label_22 ?_
        refine lv_iload_n hx hb d_Mo_label_25 rfl (lv_at hl 3 rfl) ?_
        refine va_bald (D := D9) hx hb hK hP 35 0 ww_35 rfl (vp_in_nI (by omega) (by decide)) d_Mo_label_26 ?_
        refine lv_topq (y := nI (tb (fl es) (lb (fl es) (of9 es r) i))) (by rw [nI_clamp (by omega)]; exact (BR_raw hGB (by omega) (by omega) (by omega))) ?_
        refine lv_iconst (v := 1) hx hb d_Mo_label_27 (by decide) ?_
        refine lv_topq (y := nI 1) (rfl) ?_
        refine lv_iadd hx hb d_Mo_label_28 ?_
        refine lv_topq (y := nI (tb (fl es) (lb (fl es) (of9 es r) i) + 1)) (nI_add _ _) ?_
        refine lv_iadd hx hb d_Mo_label_29 ?_
        refine lv_topq (y := nI (lb (fl es) (of9 es r) i + (tb (fl es) (lb (fl es) (of9 es r) i) + 1))) (nI_add _ _) ?_
        refine lv_istore_n (lv' := [(3, _), (0, _), (1, _), (2, _), (4, _)]) hx hb d_Mo_label_30 rfl hl (by decide) rfl (fun ls hl => ?_)
        refine lv_iinc (lv' := [(4, .int (nI (k - (i + 1)))), (3, _), (0, _), (1, _), (2, _)]) hx hb d_Mo_label_31 hl (k := 4) rfl ((ii_d (by omega)).trans (congrArg nI (by omega))) (by decide) rfl (fun ls hl => ?_)
        refine lv_goto (tgt := 14) hx hb d_Mo_label_34 (by decide) ?_
        exact ih _ (by omega) (i + 1) _ _ _ _ _ rfl rfl rfl (by omega) hP hD hS (lv_pk hl [2, 3, 4, 1, 0] rfl)
  exact loop1 _ 0 _ _ _ _ _ rfl rfl rfl (Nat.zero_le _) hP hD hS (lv_pk hl [2, 3, 4, 1, 0] rfl)
