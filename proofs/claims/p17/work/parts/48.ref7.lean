theorem BR_putb {n : Nat} {f : Nat → Int32} {L : List Nat} {x : Int32} {k v : Nat} (h : BR 0 n f L) (hk : L.length = k) (hv : ub x = v) : BR 0 n (upd f k (vp_nar .byte x.toInt8.toInt32)) (L ++ [v]) := by
  rw [pk_vb, ← hk, ← hv]; exact BR_put h
theorem ub_s24 (x : Int32) : ub (x >>> (nI 24 &&& 31)) = un x / 16777216 % 256 := by
  refine ub_int ?_
  rw [pk_shr x _ 24 (by decide), Int.shiftRight_eq_div_pow]
  rcases toInt_un x with h | h <;> rw [h] <;> omega
theorem ub_s16 (x : Int32) : ub (x >>> (nI 16 &&& 31)) = un x / 65536 % 256 := ub_shr16 x
theorem ub_s8 (x : Int32) : ub (x >>> (nI 8 &&& 31)) = un x / 256 % 256 := ub_shr8 x
theorem ub_s0 (x : Int32) : ub (x >>> (nI 0 &&& 31)) = un x % 256 := by rw [show x >>> (nI 0 &&& 31) = x from sb_shr0 x]; rfl
theorem BR_take {c n k : Nat} {f : Nat → Int32} {L : List Nat} (h : BR c n f L) : BR c n f (L.take k) := by
  have h1 := List.take_append_drop k L
  rw [← h1] at h
  exact BR_pre h
theorem g_870 : (Cond.methodLink "WireMessagesModel" (138 : Nat) ({ cls := "WireMessagesModel", name := "fail", desc := "(I)I" } : MethodName)) ∈ GT := gt_mem 870 (by decide +kernel) rfl
theorem g_872 : (Cond.instanceMethod ({ cls := "WireMessagesModel", name := "fail", desc := "(I)I" } : MethodName)) ∈ GT := gt_mem 872 (by decide +kernel) rfl
theorem g_873 : (Cond.code ({ cls := "WireMessagesModel", name := "fail", desc := "(I)I" } : MethodName) prog_10_method_3_code (2 : Nat) (Option.some FieldType.int)) ∈ GT := gt_mem 873 (by decide +kernel) rfl
theorem g_891 : (Cond.methodLink "WireMessagesModel" (145 : Nat) ({ cls := "WireMessagesModel", name := "gathered", desc := "(IIIII)I" } : MethodName)) ∈ GT := gt_mem 891 (by decide +kernel) rfl
theorem g_893 : (Cond.instanceMethod ({ cls := "WireMessagesModel", name := "gathered", desc := "(IIIII)I" } : MethodName)) ∈ GT := gt_mem 893 (by decide +kernel) rfl
theorem g_894 : (Cond.code ({ cls := "WireMessagesModel", name := "gathered", desc := "(IIIII)I" } : MethodName) prog_10_method_23_code (8 : Nat) (Option.some FieldType.int)) ∈ GT := gt_mem 894 (by decide +kernel) rfl
theorem g_899 : (Cond.methodLink "WireMessagesModel" (149 : Nat) ({ cls := "WireMessagesModel", name := "fits", desc := "(IIZ)Z" } : MethodName)) ∈ GT := gt_mem 899 (by decide +kernel) rfl
theorem g_901 : (Cond.instanceMethod ({ cls := "WireMessagesModel", name := "fits", desc := "(IIZ)Z" } : MethodName)) ∈ GT := gt_mem 901 (by decide +kernel) rfl
theorem g_902 : (Cond.code ({ cls := "WireMessagesModel", name := "fits", desc := "(IIZ)Z" } : MethodName) prog_10_method_22_code (8 : Nat) (Option.some FieldType.boolean)) ∈ GT := gt_mem 902 (by decide +kernel) rfl
theorem gs_Mo_fail : Cond.selects R_Mo y_Mo_fail y_Mo_fail ∈ GT := gt_sel (q := (⟨"WireMessagesModel", "fail", "(I)I"⟩, 30)) (by decide +kernel)
theorem gs_Mo_gathered : Cond.selects R_Mo y_Mo_gathered y_Mo_gathered ∈ GT := gt_sel (q := (⟨"WireMessagesModel", "gathered", "(IIIII)I"⟩, 30)) (by decide +kernel)
theorem gs_Mo_fits : Cond.selects R_Mo y_Mo_fits y_Mo_fits ∈ GT := gt_sel (q := (⟨"WireMessagesModel", "fits", "(IIZ)Z"⟩, 30)) (by decide +kernel)
theorem d_Mo_question_0 : decode b_Mo_question 0 = .ok (.aload_n 0, 1) := by decide +kernel
theorem d_Mo_question_1 : decode b_Mo_question 1 = .ok (.iconst 0, 1) := by decide +kernel
theorem d_Mo_question_2 : decode b_Mo_question 2 = .ok (.putfield 61, 3) := by decide +kernel
theorem d_Mo_question_5 : decode b_Mo_question 5 = .ok (.aload_n 0, 1) := by decide +kernel
theorem d_Mo_question_6 : decode b_Mo_question 6 = .ok (.iconst 0, 1) := by decide +kernel
theorem d_Mo_question_7 : decode b_Mo_question 7 = .ok (.invokevirtual 142, 3) := by decide +kernel
theorem d_Mo_question_10 : decode b_Mo_question 10 = .ok (.aload_n 0, 1) := by decide +kernel
theorem d_Mo_question_11 : decode b_Mo_question 11 = .ok (.getfield 86, 3) := by decide +kernel
theorem d_Mo_question_14 : decode b_Mo_question 14 = .ok (.if_icmp .eq 9, 3) := by decide +kernel
theorem d_Mo_question_17 : decode b_Mo_question 17 = .ok (.aload_n 0, 1) := by decide +kernel
theorem d_Mo_question_18 : decode b_Mo_question 18 = .ok (.iconst 1, 1) := by decide +kernel
theorem d_Mo_question_19 : decode b_Mo_question 19 = .ok (.invokevirtual 138, 3) := by decide +kernel
theorem d_Mo_question_22 : decode b_Mo_question 22 = .ok (.ireturn, 1) := by decide +kernel
theorem d_Mo_question_23 : decode b_Mo_question 23 = .ok (.aload_n 0, 1) := by decide +kernel
theorem d_Mo_question_24 : decode b_Mo_question 24 = .ok (.iconst 0, 1) := by decide +kernel
theorem d_Mo_question_25 : decode b_Mo_question 25 = .ok (.invokevirtual 76, 3) := by decide +kernel
theorem d_Mo_question_28 : decode b_Mo_question 28 = .ok (.bipush 100, 2) := by decide +kernel
theorem d_Mo_question_30 : decode b_Mo_question 30 = .ok (.if_icmp .eq 17, 3) := by decide +kernel
theorem d_Mo_question_33 : decode b_Mo_question 33 = .ok (.aload_n 0, 1) := by decide +kernel
theorem d_Mo_question_34 : decode b_Mo_question 34 = .ok (.getfield 64, 3) := by decide +kernel
theorem d_Mo_question_37 : decode b_Mo_question 37 = .ok (.aload_n 0, 1) := by decide +kernel
theorem d_Mo_question_38 : decode b_Mo_question 38 = .ok (.getfield 86, 3) := by decide +kernel
theorem d_Mo_question_41 : decode b_Mo_question 41 = .ok (.iadd, 1) := by decide +kernel
theorem d_Mo_question_42 : decode b_Mo_question 42 = .ok (.ldc 7, 2) := by decide +kernel
theorem d_Mo_question_44 : decode b_Mo_question 44 = .ok (.if_icmp .le 9, 3) := by decide +kernel
theorem d_Mo_question_47 : decode b_Mo_question 47 = .ok (.aload_n 0, 1) := by decide +kernel
theorem d_Mo_question_48 : decode b_Mo_question 48 = .ok (.iconst 2, 1) := by decide +kernel
theorem d_Mo_question_49 : decode b_Mo_question 49 = .ok (.invokevirtual 138, 3) := by decide +kernel
theorem d_Mo_question_52 : decode b_Mo_question 52 = .ok (.ireturn, 1) := by decide +kernel
theorem d_Mo_question_53 : decode b_Mo_question 53 = .ok (.aload_n 0, 1) := by decide +kernel
theorem d_Mo_question_54 : decode b_Mo_question 54 = .ok (.iconst 0, 1) := by decide +kernel
theorem d_Mo_question_55 : decode b_Mo_question 55 = .ok (.iload_n 1, 1) := by decide +kernel
theorem d_Mo_question_56 : decode b_Mo_question 56 = .ok (.ldc 141, 2) := by decide +kernel
theorem d_Mo_question_58 : decode b_Mo_question 58 = .ok (.iand, 1) := by decide +kernel
theorem d_Mo_question_59 : decode b_Mo_question 59 = .ok (.iload_n 2, 1) := by decide +kernel
theorem d_Mo_question_60 : decode b_Mo_question 60 = .ok (.iconst 0, 1) := by decide +kernel
theorem d_Mo_question_61 : decode b_Mo_question 61 = .ok (.aload_n 0, 1) := by decide +kernel
theorem d_Mo_question_62 : decode b_Mo_question 62 = .ok (.getfield 86, 3) := by decide +kernel
theorem d_Mo_question_65 : decode b_Mo_question 65 = .ok (.invokevirtual 145, 3) := by decide +kernel
theorem d_Mo_question_68 : decode b_Mo_question 68 = .ok (.ireturn, 1) := by decide +kernel
theorem d_Mo_record_0 : decode b_Mo_record 0 = .ok (.aload_n 0, 1) := by decide +kernel
theorem d_Mo_record_1 : decode b_Mo_record 1 = .ok (.iconst 0, 1) := by decide +kernel
theorem d_Mo_record_2 : decode b_Mo_record 2 = .ok (.putfield 61, 3) := by decide +kernel
theorem d_Mo_record_5 : decode b_Mo_record 5 = .ok (.iload_n 1, 1) := by decide +kernel
theorem d_Mo_record_6 : decode b_Mo_record 6 = .ok (.iconst 1, 1) := by decide +kernel
theorem d_Mo_record_7 : decode b_Mo_record 7 = .ok (.if_icmp .lt 8, 3) := by decide +kernel
theorem d_Mo_record_10 : decode b_Mo_record 10 = .ok (.iload_n 1, 1) := by decide +kernel
theorem d_Mo_record_11 : decode b_Mo_record 11 = .ok (.iconst 3, 1) := by decide +kernel
theorem d_Mo_record_12 : decode b_Mo_record 12 = .ok (.if_icmp .le 9, 3) := by decide +kernel
theorem d_Mo_record_15 : decode b_Mo_record 15 = .ok (.aload_n 0, 1) := by decide +kernel
theorem d_Mo_record_16 : decode b_Mo_record 16 = .ok (.iconst 1, 1) := by decide +kernel
theorem d_Mo_record_17 : decode b_Mo_record 17 = .ok (.invokevirtual 138, 3) := by decide +kernel
theorem d_Mo_record_20 : decode b_Mo_record 20 = .ok (.ireturn, 1) := by decide +kernel
theorem d_Mo_record_21 : decode b_Mo_record 21 = .ok (.aload_n 0, 1) := by decide +kernel
theorem d_Mo_record_22 : decode b_Mo_record 22 = .ok (.iconst 0, 1) := by decide +kernel
theorem d_Mo_record_23 : decode b_Mo_record 23 = .ok (.invokevirtual 142, 3) := by decide +kernel
theorem d_Mo_record_26 : decode b_Mo_record 26 = .ok (.istore 5, 2) := by decide +kernel
theorem d_Mo_record_28 : decode b_Mo_record 28 = .ok (.iload 5, 2) := by decide +kernel
theorem d_Mo_record_30 : decode b_Mo_record 30 = .ok (.ifCond .lt 27, 3) := by decide +kernel
theorem d_Mo_record_33 : decode b_Mo_record 33 = .ok (.aload_n 0, 1) := by decide +kernel
theorem d_Mo_record_34 : decode b_Mo_record 34 = .ok (.iload_n 2, 1) := by decide +kernel
theorem d_Mo_record_35 : decode b_Mo_record 35 = .ok (.ldc 141, 2) := by decide +kernel
theorem d_Mo_record_37 : decode b_Mo_record 37 = .ok (.iand, 1) := by decide +kernel
theorem d_Mo_record_38 : decode b_Mo_record 38 = .ok (.iload 5, 2) := by decide +kernel
theorem d_Mo_record_40 : decode b_Mo_record 40 = .ok (.iload 5, 2) := by decide +kernel
theorem d_Mo_record_42 : decode b_Mo_record 42 = .ok (.iconst 1, 1) := by decide +kernel
theorem d_Mo_record_43 : decode b_Mo_record 43 = .ok (.if_icmp .ne 7, 3) := by decide +kernel
theorem d_Mo_record_46 : decode b_Mo_record 46 = .ok (.iconst 1, 1) := by decide +kernel
theorem d_Mo_record_47 : decode b_Mo_record 47 = .ok (.goto 4, 3) := by decide +kernel
theorem d_Mo_record_50 : decode b_Mo_record 50 = .ok (.iconst 0, 1) := by decide +kernel
theorem d_Mo_record_51 : decode b_Mo_record 51 = .ok (.invokevirtual 149, 3) := by decide +kernel
theorem d_Mo_record_54 : decode b_Mo_record 54 = .ok (.ifCond .ne 9, 3) := by decide +kernel
theorem d_Mo_record_57 : decode b_Mo_record 57 = .ok (.aload_n 0, 1) := by decide +kernel
theorem d_Mo_record_58 : decode b_Mo_record 58 = .ok (.iconst 2, 1) := by decide +kernel
theorem d_Mo_record_59 : decode b_Mo_record 59 = .ok (.invokevirtual 138, 3) := by decide +kernel
theorem d_Mo_record_62 : decode b_Mo_record 62 = .ok (.ireturn, 1) := by decide +kernel
theorem d_Mo_record_63 : decode b_Mo_record 63 = .ok (.aload_n 0, 1) := by decide +kernel
theorem d_Mo_record_64 : decode b_Mo_record 64 = .ok (.invokevirtual 124, 3) := by decide +kernel
theorem d_Mo_record_67 : decode b_Mo_record 67 = .ok (.sipush 1000, 3) := by decide +kernel
theorem d_Mo_record_70 : decode b_Mo_record 70 = .ok (.if_icmp .eq 17, 3) := by decide +kernel
theorem d_Mo_record_73 : decode b_Mo_record 73 = .ok (.aload_n 0, 1) := by decide +kernel
theorem d_Mo_record_74 : decode b_Mo_record 74 = .ok (.getfield 64, 3) := by decide +kernel
theorem d_Mo_record_77 : decode b_Mo_record 77 = .ok (.aload_n 0, 1) := by decide +kernel
theorem d_Mo_record_78 : decode b_Mo_record 78 = .ok (.getfield 86, 3) := by decide +kernel
theorem d_Mo_record_81 : decode b_Mo_record 81 = .ok (.iadd, 1) := by decide +kernel
theorem d_Mo_record_82 : decode b_Mo_record 82 = .ok (.ldc 7, 2) := by decide +kernel
theorem d_Mo_record_84 : decode b_Mo_record 84 = .ok (.if_icmp .le 9, 3) := by decide +kernel
theorem d_Mo_record_87 : decode b_Mo_record 87 = .ok (.aload_n 0, 1) := by decide +kernel
theorem d_Mo_record_88 : decode b_Mo_record 88 = .ok (.iconst 3, 1) := by decide +kernel
theorem d_Mo_record_89 : decode b_Mo_record 89 = .ok (.invokevirtual 138, 3) := by decide +kernel
theorem d_Mo_record_92 : decode b_Mo_record 92 = .ok (.ireturn, 1) := by decide +kernel
theorem d_Mo_record_93 : decode b_Mo_record 93 = .ok (.aload_n 0, 1) := by decide +kernel
theorem d_Mo_record_94 : decode b_Mo_record 94 = .ok (.iload_n 1, 1) := by decide +kernel
theorem d_Mo_record_95 : decode b_Mo_record 95 = .ok (.iload_n 2, 1) := by decide +kernel
theorem d_Mo_record_96 : decode b_Mo_record 96 = .ok (.ldc 141, 2) := by decide +kernel
theorem d_Mo_record_98 : decode b_Mo_record 98 = .ok (.iand, 1) := by decide +kernel
theorem d_Mo_record_99 : decode b_Mo_record 99 = .ok (.iload_n 3, 1) := by decide +kernel
theorem d_Mo_record_100 : decode b_Mo_record 100 = .ok (.iload 4, 2) := by decide +kernel
theorem d_Mo_record_102 : decode b_Mo_record 102 = .ok (.iload 5, 2) := by decide +kernel
theorem d_Mo_record_104 : decode b_Mo_record 104 = .ok (.invokevirtual 145, 3) := by decide +kernel
theorem d_Mo_record_107 : decode b_Mo_record 107 = .ok (.ireturn, 1) := by decide +kernel
set_option maxHeartbeats 4000000 in
set_option maxRecDepth 100000 in
/-- the reference: question -/
theorem m_Mo_question (l : Launch) (D9 : va_G) (cB cI cJ cG : ClassId) (a : Nat → Nat) (O : Nat → Int64) (I : Nat → Int32) (F : Nat → Nat → Int32) (t : List Nat) (hT : BR 0 65536 (F 34) t) (h16 : I 16 = nI t.length) (htl : t.length ≤ 65536) (es : List En9) (hR : MoR F es) (h18 : I 18 = nI es.length) (hO : okE es) (x y : Int32) (h17 : I 17 = nI (fl es).length) : MC l D9 cB cI cJ cG a O y_Mo_question b_Mo_question 3 (some .int) 3 [.ref (a 33), .int (x), .int (y)] I F (fun v I' F' => (qN t = none ∧ (∃ w : Int32, v = some (.int w)) ∧ sm [15] I I' ∧ I' 15 = nI 1 ∧ F = F') ∨ (∃ nm, qN t = some nm ∧ okB es ((0, un x % 65536, un y % 65536, nI 0, nm, ([] : List Nat)) : En9) = false ∧ (∃ w : Int32, v = some (.int w)) ∧ sm [15] I I' ∧ I' 15 = nI 2 ∧ F = F') ∨ (∃ nm, qN t = some nm ∧ okB es ((0, un x % 65536, un y % 65536, nI 0, nm, ([] : List Nat)) : En9) = true ∧ okE (es ++ [((0, un x % 65536, un y % 65536, nI 0, nm, ([] : List Nat)) : En9)]) ∧ v = some (.int (nI (cn 0 (es ++ [((0, un x % 65536, un y % 65536, nI 0, nm, ([] : List Nat)) : En9)])))) ∧ sm [15, 16, 17, 18] I I' ∧ I' 15 = nI 0 ∧ I' 16 = nI 0 ∧ I' 17 = nI (fl (es ++ [((0, un x % 65536, un y % 65536, nI 0, nm, ([] : List Nat)) : En9)])).length ∧ I' 18 = nI (es ++ [((0, un x % 65536, un y % 65536, nI 0, nm, ([] : List Nat)) : En9)]).length ∧ sm [35, 36, 37, 38, 39, 40, 41, 42, 43] F F' ∧ MoR F' (es ++ [((0, un x % 65536, un y % 65536, nI 0, nm, ([] : List Nat)) : En9)]))) := by
  refine mc_of (by decide) (Nat.le_of_ble_eq_true rfl) ?_
  intro p e s m below meth c ls A0 Q C0 hP hD hA hS hl hret
  obtain ⟨hx, hb, hml, hr, hlocks, hown, hts, hK⟩ := id C0
  have hl : lv_has ls 3 [(0, .ref (a 33)), (1, .int (x)), (2, .int (y))] := hl
  have hln := okE_len hO
  have k0 := hO.1
  have k1 := hO.2.1
  have k2 := hO.2.2.1
  refine lv_aload_n hx hb d_Mo_question_0 rfl (lv_at hl 0 rfl) ?_
  refine lv_iconst (v := 0) hx hb d_Mo_question_1 (by decide) ?_
  refine lv_topq (y := nI 0) (rfl) ?_
  refine va_put (D := D9) (ty := .int) (ci := 7) (C := R_Mo) (T := F_Mo) (N := 30) hx hb hts i_Mo t_Mo t_Mo_ok n_Mo hown hK hP hD hS 33 ww_33 rfl 0 (by decide) (hts _ g_722) (fun _ h9 => h9) rfl (by decide +kernel) rfl rfl (Nat.le_of_ble_eq_true rfl) d_Mo_question_2 (fun H locs hP hD hS => ?_)
  obtain ⟨I1, aI1, sI1, hP, hD⟩ := fx (P := fun z => va_P D9 cls9 (WW a cB cI cJ cG z _ O) H ∧ va_D A0 (WW a cB cI cJ cG z _ O)) ⟨wp_15 hP, wd_15 hD⟩
  refine lv_aload_n hx hb d_Mo_question_5 rfl (lv_at hl 0 rfl) ?_
  refine lv_iconst (v := 0) hx hb d_Mo_question_6 (by decide) ?_
  refine lv_topq (y := nI 0) (rfl) ?_
  refine mw_cV (ci := 7) (k := 33) C0 (m_Mo_wholeName l D9 cB cI cJ cG a O _ _ t hT ((sI1 16 (by decide)).trans h16) htl 0 (by omega)) g_890 g_8 g_887 g_889 gs_Mo_wholeName ⟨by decide +kernel, by decide +kernel, show Option.map (fun d => d.parameters.length) (parseMethodDescriptor y_Mo_wholeName.desc) = some 1 by decide +kernel⟩ ⟨by decide, by decide⟩ rfl rfl hP hD hS hA rfl ww_33 hl.1 (Nat.le_of_ble_eq_true rfl) rfl d_Mo_question_7 ⟨by decide, by decide⟩ (fun v9 w9 H locs hq hP hD hS => ?_)
  obtain ⟨I2, F3, hw9, q4⟩ := hq
  subst hw9
  obtain ⟨rfl, rfl, rfl⟩ := q4
  cases hm9 : wnO t 0 with
  | none =>
    refine lv_topq (y := (-1 : Int32)) (rfl) ?_
    refine lv_aload_n hx hb d_Mo_question_10 rfl (lv_at hl 0 rfl) ?_
    refine va_get (D := D9) (ci := 7) (C := R_Mo) (T := F_Mo) (N := 30) hx hb hts i_Mo hown hK hP 33 ww_33 rfl 2 (by decide) (hts _ g_724) (fun _ h9 => h9) rfl d_Mo_question_11 ?_
    refine lv_topq (y := nI t.length) (((sI1 16 (by decide)).trans h16)) ?_
    refine lv_icmp_eq (tgt := 23) hx hb d_Mo_question_14 (by decide) (fun c5 => ?_) (fun c5 => ?_)
    · exact absurd c5 (m1_ne (n := t.length) (by omega))
    · refine lv_aload_n hx hb d_Mo_question_17 rfl (lv_at hl 0 rfl) ?_
      refine lv_iconst (v := 1) hx hb d_Mo_question_18 (by decide) ?_
      refine lv_topq (y := nI 1) (rfl) ?_
      refine mw_cV (ci := 7) (k := 33) C0 (m_Mo_fail l D9 cB cI cJ cG a O _ _ (nI 1)) g_873 g_8 g_870 g_872 gs_Mo_fail ⟨by decide +kernel, by decide +kernel, show Option.map (fun d => d.parameters.length) (parseMethodDescriptor y_Mo_fail.desc) = some 1 by decide +kernel⟩ ⟨by decide, by decide⟩ rfl rfl hP hD hS hA rfl ww_33 hl.1 (Nat.le_of_ble_eq_true rfl) rfl d_Mo_question_19 ⟨by decide, by decide⟩ (fun v9 w9 H locs hq hP hD hS => ?_)
      obtain ⟨I6, F7, hw9, q8⟩ := hq
      subst hw9
      obtain ⟨rfl, sI6, zI6, rfl⟩ := q8
      exact hret _ _ _ _ _ _ _ hS hP hD d_Mo_question_22 nr_i (Or.inl ⟨by rw [qN_wn, if_neg (by rw [hm9]; simp)], ⟨_, rfl⟩, (sm_tr (sm_mo sI1 (by decide)) (sm_mo sI6 (by decide))), zI6, rfl⟩)
  | some m9 =>
    refine lv_topq (y := nI m9) (rfl) ?_
    have hbm9 := (wnO_s hm9).2
    refine lv_aload_n hx hb d_Mo_question_10 rfl (lv_at hl 0 rfl) ?_
    refine va_get (D := D9) (ci := 7) (C := R_Mo) (T := F_Mo) (N := 30) hx hb hts i_Mo hown hK hP 33 ww_33 rfl 2 (by decide) (hts _ g_724) (fun _ h9 => h9) rfl d_Mo_question_11 ?_
    refine lv_topq (y := nI t.length) (((sI1 16 (by decide)).trans h16)) ?_
    refine lv_icmp_eq (tgt := 23) hx hb d_Mo_question_14 (by decide) (fun c9 => ?_) (fun c9 => ?_)
    · have c9 : m9 = t.length := (nI_eq (a := m9) (b := t.length) (by omega) (by omega)).mp c9
      have hmn : wnO t 0 = some t.length := by rw [hm9, show m9 = t.length from by omega]
      have hX4 : eS ((0, un x % 65536, un y % 65536, nI 0, t, ([] : List Nat)) : En9) < 4 := by show 0 < 4; decide
      have hokc := okB_iff hO hX4 (show eT ((0, un x % 65536, un y % 65536, nI 0, t, ([] : List Nat)) : En9) < 65536 from lo16_lt x) (show eK ((0, un x % 65536, un y % 65536, nI 0, t, ([] : List Nat)) : En9) < 65536 from lo16_lt y)
      have hoke : okB es ((0, un x % 65536, un y % 65536, nI 0, t, ([] : List Nat)) : En9) = (decide (cn 0 es < 100) && decide ((fl es).length + (t.length + 0) ≤ 65536)) := rfl
      refine lv_aload_n hx hb d_Mo_question_23 rfl (lv_at hl 0 rfl) ?_
      refine lv_iconst (v := 0) hx hb d_Mo_question_24 (by decide) ?_
      refine lv_topq (y := nI 0) (rfl) ?_
      refine mw_cV (ci := 7) (k := 33) C0 (m_Mo_countOf l D9 cB cI cJ cG a O _ _ es hR ((sI1 18 (by decide)).trans h18) (by omega) (fun e he => (hO.2.2.2 e he).1) 0 (by omega)) g_856 g_8 g_853 g_855 gs_Mo_countOf ⟨by decide +kernel, by decide +kernel, show Option.map (fun d => d.parameters.length) (parseMethodDescriptor y_Mo_countOf.desc) = some 1 by decide +kernel⟩ ⟨by decide, by decide⟩ rfl rfl hP hD hS hA rfl ww_33 hl.1 (Nat.le_of_ble_eq_true rfl) rfl d_Mo_question_25 ⟨by decide, by decide⟩ (fun v9 w9 H locs hq hP hD hS => ?_)
      obtain ⟨I10, F11, hw9, q12⟩ := hq
      subst hw9
      obtain ⟨rfl, rfl, rfl⟩ := q12
      refine lv_bipush (v := 100) hx hb d_Mo_question_28 (by decide) ?_
      refine lv_topq (y := nI 100) (rfl) ?_
      refine lv_icmp_eq (tgt := 47) hx hb d_Mo_question_30 (by decide) (fun c13 => ?_) (fun c13 => ?_)
      · have c13 : cn 0 es = 100 := (nI_eq (a := cn 0 es) (b := 100) (by omega) (by omega)).mp c13
        have hokf : okB es ((0, un x % 65536, un y % 65536, nI 0, t, ([] : List Nat)) : En9) = false := by rw [hoke]; simp; omega
        refine lv_aload_n hx hb d_Mo_question_47 rfl (lv_at hl 0 rfl) ?_
        refine lv_iconst (v := 2) hx hb d_Mo_question_48 (by decide) ?_
        refine lv_topq (y := nI 2) (rfl) ?_
        refine mw_cV (ci := 7) (k := 33) C0 (m_Mo_fail l D9 cB cI cJ cG a O _ _ (nI 2)) g_873 g_8 g_870 g_872 gs_Mo_fail ⟨by decide +kernel, by decide +kernel, show Option.map (fun d => d.parameters.length) (parseMethodDescriptor y_Mo_fail.desc) = some 1 by decide +kernel⟩ ⟨by decide, by decide⟩ rfl rfl hP hD hS hA rfl ww_33 hl.1 (Nat.le_of_ble_eq_true rfl) rfl d_Mo_question_49 ⟨by decide, by decide⟩ (fun v9 w9 H locs hq hP hD hS => ?_)
        obtain ⟨I14, F15, hw9, q16⟩ := hq
        subst hw9
        obtain ⟨rfl, sI14, zI14, rfl⟩ := q16
        exact hret _ _ _ _ _ _ _ hS hP hD d_Mo_question_52 nr_i (Or.inr (Or.inl ⟨t, by rw [qN_wn, if_pos hmn], hokf, ⟨_, rfl⟩, (sm_tr (sm_mo sI1 (by decide)) (sm_mo sI14 (by decide))), zI14, rfl⟩))
      · have c13 : ¬ (cn 0 es = 100) := fun z9 => c13 ((nI_eq (a := cn 0 es) (b := 100) (by omega) (by omega)).mpr z9)
        refine lv_aload_n hx hb d_Mo_question_33 rfl (lv_at hl 0 rfl) ?_
        refine va_get (D := D9) (ci := 7) (C := R_Mo) (T := F_Mo) (N := 30) hx hb hts i_Mo hown hK hP 33 ww_33 rfl 4 (by decide) (hts _ g_726) (fun _ h9 => h9) rfl d_Mo_question_34 ?_
        refine lv_topq (y := nI ((fl es).length)) (((sI1 17 (by decide)).trans h17)) ?_
        refine lv_aload_n hx hb d_Mo_question_37 rfl (lv_at hl 0 rfl) ?_
        refine va_get (D := D9) (ci := 7) (C := R_Mo) (T := F_Mo) (N := 30) hx hb hts i_Mo hown hK hP 33 ww_33 rfl 2 (by decide) (hts _ g_724) (fun _ h9 => h9) rfl d_Mo_question_38 ?_
        refine lv_topq (y := nI t.length) (((sI1 16 (by decide)).trans h16)) ?_
        refine lv_iadd hx hb d_Mo_question_41 ?_
        refine lv_topq (y := nI ((fl es).length + t.length)) (nI_add _ _) ?_
        refine lv_ldc hx hb hown (hts _ g_718) d_Mo_question_42 ?_
        refine lv_topq (y := nI 65536) (rfl) ?_
        refine lv_icmp_le (tgt := 53) hx hb d_Mo_question_44 (by decide) (fun c17 => ?_) (fun c17 => ?_)
        · have c17 : (fl es).length + t.length ≤ 65536 := (nI_leI (a := (fl es).length + t.length) (b := 65536) (by omega) (by omega)).mp c17
          have hokt : okB es ((0, un x % 65536, un y % 65536, nI 0, t, ([] : List Nat)) : En9) = true := by rw [hoke]; simp; omega
          have hokE := hokc.mpr hokt
          have hgX : ((0, un x % 65536, un y % 65536, nI 0, sl9 t 0 t.length, sl9 t t.length (t.length - t.length)) : En9) = ((0, un x % 65536, un y % 65536, nI 0, t, ([] : List Nat)) : En9) := by rw [sl9_all, Nat.sub_self, sl9_0]
          refine lv_aload_n hx hb d_Mo_question_53 rfl (lv_at hl 0 rfl) ?_
          refine lv_iconst (v := 0) hx hb d_Mo_question_54 (by decide) ?_
          refine lv_topq (y := nI 0) (rfl) ?_
          refine lv_iload_n hx hb d_Mo_question_55 rfl (lv_at hl 1 rfl) ?_
          refine lv_ldc hx hb hown (hts _ g_882) d_Mo_question_56 ?_
          refine lv_topq (y := nI 65535) (rfl) ?_
          refine lv_iand hx hb d_Mo_question_58 ?_
          refine lv_topq (y := nI (un x % 65536)) (lo16 _ rfl) ?_
          refine lv_iload_n hx hb d_Mo_question_59 rfl (lv_at hl 2 rfl) ?_
          refine lv_iconst (v := 0) hx hb d_Mo_question_60 (by decide) ?_
          refine lv_topq (y := nI 0) (rfl) ?_
          refine lv_aload_n hx hb d_Mo_question_61 rfl (lv_at hl 0 rfl) ?_
          refine va_get (D := D9) (ci := 7) (C := R_Mo) (T := F_Mo) (N := 30) hx hb hts i_Mo hown hK hP 33 ww_33 rfl 2 (by decide) (hts _ g_724) (fun _ h9 => h9) rfl d_Mo_question_62 ?_
          refine lv_topq (y := nI t.length) (((sI1 16 (by decide)).trans h16)) ?_
          refine mw_cV (ci := 7) (k := 33) C0 (m_Mo_gathered l D9 cB cI cJ cG a O _ _ t hT ((sI1 16 (by decide)).trans h16) htl es hR ((sI1 18 (by decide)).trans h18) hO 0 (un x % 65536) t.length y (nI 0) ((sI1 17 (by decide)).trans h17) (by omega) (by omega)) g_894 g_8 g_891 g_893 gs_Mo_gathered ⟨by decide +kernel, by decide +kernel, show Option.map (fun d => d.parameters.length) (parseMethodDescriptor y_Mo_gathered.desc) = some 5 by decide +kernel⟩ ⟨by decide, by decide⟩ rfl rfl hP hD hS hA rfl ww_33 hl.1 (Nat.le_of_ble_eq_true rfl) rfl d_Mo_question_65 ⟨by decide, by decide⟩ (fun v9 w9 H locs hq hP hD hS => ?_)
          obtain ⟨I18, F19, hw9, q20⟩ := hq
          subst hw9
          obtain ⟨rfl, sg, g16, g17, g18, sgF, gR⟩ := q20
          exact hret _ _ _ _ _ _ _ hS hP hD d_Mo_question_68 nr_i (Or.inr (Or.inr ⟨t, by rw [qN_wn, if_pos hmn], hokt, hokE, by rw [hgX], (sm_tr (sm_mo sI1 (by decide)) (sm_mo sg (by decide))), ((sg 15 (by decide)).trans aI1), g16, by rw [hgX] at g17; exact g17, by rw [hgX] at g18; exact g18, (sm_mo sgF (by decide)), by rw [hgX] at gR; exact gR⟩))
        · have c17 : ¬ ((fl es).length + t.length ≤ 65536) := fun z9 => c17 ((nI_leI (a := (fl es).length + t.length) (b := 65536) (by omega) (by omega)).mpr z9)
          have hokf : okB es ((0, un x % 65536, un y % 65536, nI 0, t, ([] : List Nat)) : En9) = false := by rw [hoke]; simp; omega
          refine lv_aload_n hx hb d_Mo_question_47 rfl (lv_at hl 0 rfl) ?_
          refine lv_iconst (v := 2) hx hb d_Mo_question_48 (by decide) ?_
          refine lv_topq (y := nI 2) (rfl) ?_
          refine mw_cV (ci := 7) (k := 33) C0 (m_Mo_fail l D9 cB cI cJ cG a O _ _ (nI 2)) g_873 g_8 g_870 g_872 gs_Mo_fail ⟨by decide +kernel, by decide +kernel, show Option.map (fun d => d.parameters.length) (parseMethodDescriptor y_Mo_fail.desc) = some 1 by decide +kernel⟩ ⟨by decide, by decide⟩ rfl rfl hP hD hS hA rfl ww_33 hl.1 (Nat.le_of_ble_eq_true rfl) rfl d_Mo_question_49 ⟨by decide, by decide⟩ (fun v9 w9 H locs hq hP hD hS => ?_)
          obtain ⟨I21, F22, hw9, q23⟩ := hq
          subst hw9
          obtain ⟨rfl, sI21, zI21, rfl⟩ := q23
          exact hret _ _ _ _ _ _ _ hS hP hD d_Mo_question_52 nr_i (Or.inr (Or.inl ⟨t, by rw [qN_wn, if_pos hmn], hokf, ⟨_, rfl⟩, (sm_tr (sm_mo sI1 (by decide)) (sm_mo sI21 (by decide))), zI21, rfl⟩))
    · have c9 : ¬ (m9 = t.length) := fun z9 => c9 ((nI_eq (a := m9) (b := t.length) (by omega) (by omega)).mpr z9)
      refine lv_aload_n hx hb d_Mo_question_17 rfl (lv_at hl 0 rfl) ?_
      refine lv_iconst (v := 1) hx hb d_Mo_question_18 (by decide) ?_
      refine lv_topq (y := nI 1) (rfl) ?_
      refine mw_cV (ci := 7) (k := 33) C0 (m_Mo_fail l D9 cB cI cJ cG a O _ _ (nI 1)) g_873 g_8 g_870 g_872 gs_Mo_fail ⟨by decide +kernel, by decide +kernel, show Option.map (fun d => d.parameters.length) (parseMethodDescriptor y_Mo_fail.desc) = some 1 by decide +kernel⟩ ⟨by decide, by decide⟩ rfl rfl hP hD hS hA rfl ww_33 hl.1 (Nat.le_of_ble_eq_true rfl) rfl d_Mo_question_19 ⟨by decide, by decide⟩ (fun v9 w9 H locs hq hP hD hS => ?_)
      obtain ⟨I24, F25, hw9, q26⟩ := hq
      subst hw9
      obtain ⟨rfl, sI24, zI24, rfl⟩ := q26
      exact hret _ _ _ _ _ _ _ hS hP hD d_Mo_question_22 nr_i (Or.inl ⟨by rw [qN_wn, if_neg (by rw [hm9]; simp; omega)], ⟨_, rfl⟩, (sm_tr (sm_mo sI1 (by decide)) (sm_mo sI24 (by decide))), zI24, rfl⟩)
set_option maxHeartbeats 4000000 in
set_option maxRecDepth 100000 in
/-- the reference: record -/
theorem m_Mo_record (l : Launch) (D9 : va_G) (cB cI cJ cG : ClassId) (a : Nat → Nat) (O : Nat → Int64) (I : Nat → Int32) (F : Nat → Nat → Int32) (t : List Nat) (hT : BR 0 65536 (F 34) t) (h16 : I 16 = nI t.length) (htl : t.length ≤ 65536) (es : List En9) (hR : MoR F es) (h18 : I 18 = nI es.length) (hO : okE es) (w x y z : Int32) (h17 : I 17 = nI (fl es).length) : MC l D9 cB cI cJ cG a O y_Mo_record b_Mo_record 6 (some .int) 3 [.ref (a 33), .int (w), .int (x), .int (y), .int (z)] I F (fun v I' F' => ((∀ sc : Nat, 1 ≤ sc → sc < 4 → w ≠ nI sc) ∧ (∃ u : Int32, v = some (.int u)) ∧ sm [15] I I' ∧ I' 15 = nI 1 ∧ F = F') ∨ (∃ sc : Nat, (1 ≤ sc ∧ sc < 4) ∧ w = nI sc ∧ ((qD t (un x % 65536) = none ∧ (∃ u : Int32, v = some (.int u)) ∧ sm [15] I I' ∧ I' 15 = nI 2 ∧ F = F') ∨ (∃ nm d, qD t (un x % 65536) = some (nm, d) ∧ okB es ((sc, un x % 65536, un y % 65536, z, nm, d) : En9) = false ∧ (∃ u : Int32, v = some (.int u)) ∧ sm [15] I I' ∧ I' 15 = nI 3 ∧ F = F') ∨ (∃ nm d, qD t (un x % 65536) = some (nm, d) ∧ okB es ((sc, un x % 65536, un y % 65536, z, nm, d) : En9) = true ∧ okE (es ++ [((sc, un x % 65536, un y % 65536, z, nm, d) : En9)]) ∧ v = some (.int (nI (cn sc (es ++ [((sc, un x % 65536, un y % 65536, z, nm, d) : En9)])))) ∧ sm [15, 16, 17, 18] I I' ∧ I' 15 = nI 0 ∧ I' 16 = nI 0 ∧ I' 17 = nI (fl (es ++ [((sc, un x % 65536, un y % 65536, z, nm, d) : En9)])).length ∧ I' 18 = nI (es ++ [((sc, un x % 65536, un y % 65536, z, nm, d) : En9)]).length ∧ sm [35, 36, 37, 38, 39, 40, 41, 42, 43] F F' ∧ MoR F' (es ++ [((sc, un x % 65536, un y % 65536, z, nm, d) : En9)]))))) := by
  refine mc_of (by decide) (Nat.le_of_ble_eq_true rfl) ?_
  intro p e s m below meth c ls A0 Q C0 hP hD hA hS hl hret
  obtain ⟨hx, hb, hml, hr, hlocks, hown, hts, hK⟩ := id C0
  have hl : lv_has ls 6 [(0, .ref (a 33)), (1, .int (w)), (2, .int (x)), (3, .int (y)), (4, .int (z))] := hl
  have hln := okE_len hO
  have k0 := hO.1
  have k1 := hO.2.1
  have k2 := hO.2.2.1
  rcases pk_ix w (n := 4) (by decide) with h9 | h9 | ⟨sc, hsc, rfl⟩
  · refine lv_aload_n hx hb d_Mo_record_0 rfl (lv_at hl 0 rfl) ?_
    refine lv_iconst (v := 0) hx hb d_Mo_record_1 (by decide) ?_
    refine lv_topq (y := nI 0) (rfl) ?_
    refine va_put (D := D9) (ty := .int) (ci := 7) (C := R_Mo) (T := F_Mo) (N := 30) hx hb hts i_Mo t_Mo t_Mo_ok n_Mo hown hK hP hD hS 33 ww_33 rfl 0 (by decide) (hts _ g_722) (fun _ h9 => h9) rfl (by decide +kernel) rfl rfl (Nat.le_of_ble_eq_true rfl) d_Mo_record_2 (fun H locs hP hD hS => ?_)
    obtain ⟨I1, aI1, sI1, hP, hD⟩ := fx (P := fun z => va_P D9 cls9 (WW a cB cI cJ cG z _ O) H ∧ va_D A0 (WW a cB cI cJ cG z _ O)) ⟨wp_15 hP, wd_15 hD⟩
    refine lv_iload_n hx hb d_Mo_record_5 rfl (lv_at hl 1 rfl) ?_
    refine lv_iconst (v := 1) hx hb d_Mo_record_6 (by decide) ?_
    refine lv_topq (y := nI 1) (rfl) ?_
    refine lv_icmp_lt (tgt := 15) hx hb d_Mo_record_7 (by decide) (fun c2 => ?_) (fun c2 => ?_)
    · refine lv_aload_n hx hb d_Mo_record_15 rfl (lv_at hl 0 rfl) ?_
      refine lv_iconst (v := 1) hx hb d_Mo_record_16 (by decide) ?_
      refine lv_topq (y := nI 1) (rfl) ?_
      refine mw_cV (ci := 7) (k := 33) C0 (m_Mo_fail l D9 cB cI cJ cG a O _ _ (nI 1)) g_873 g_8 g_870 g_872 gs_Mo_fail ⟨by decide +kernel, by decide +kernel, show Option.map (fun d => d.parameters.length) (parseMethodDescriptor y_Mo_fail.desc) = some 1 by decide +kernel⟩ ⟨by decide, by decide⟩ rfl rfl hP hD hS hA rfl ww_33 hl.1 (Nat.le_of_ble_eq_true rfl) rfl d_Mo_record_17 ⟨by decide, by decide⟩ (fun v9 w9 H locs hq hP hD hS => ?_)
      obtain ⟨I3, F4, hw9, q5⟩ := hq
      subst hw9
      obtain ⟨rfl, sI3, zI3, rfl⟩ := q5
      exact hret _ _ _ _ _ _ _ hS hP hD d_Mo_record_20 nr_i (Or.inl ⟨fun s4 h1 h4 z9 => by rw [z9] at h9; exact nI_pos (by omega) h9, ⟨_, rfl⟩, (sm_tr (sm_mo sI1 (by decide)) (sm_mo sI3 (by decide))), zI3, rfl⟩)
    · exact absurd (Int32.lt_trans h9 (by decide)) c2
  · refine lv_aload_n hx hb d_Mo_record_0 rfl (lv_at hl 0 rfl) ?_
    refine lv_iconst (v := 0) hx hb d_Mo_record_1 (by decide) ?_
    refine lv_topq (y := nI 0) (rfl) ?_
    refine va_put (D := D9) (ty := .int) (ci := 7) (C := R_Mo) (T := F_Mo) (N := 30) hx hb hts i_Mo t_Mo t_Mo_ok n_Mo hown hK hP hD hS 33 ww_33 rfl 0 (by decide) (hts _ g_722) (fun _ h9 => h9) rfl (by decide +kernel) rfl rfl (Nat.le_of_ble_eq_true rfl) d_Mo_record_2 (fun H locs hP hD hS => ?_)
    obtain ⟨I6, aI6, sI6, hP, hD⟩ := fx (P := fun z => va_P D9 cls9 (WW a cB cI cJ cG z _ O) H ∧ va_D A0 (WW a cB cI cJ cG z _ O)) ⟨wp_15 hP, wd_15 hD⟩
    refine lv_iload_n hx hb d_Mo_record_5 rfl (lv_at hl 1 rfl) ?_
    refine lv_iconst (v := 1) hx hb d_Mo_record_6 (by decide) ?_
    refine lv_topq (y := nI 1) (rfl) ?_
    refine lv_icmp_lt (tgt := 15) hx hb d_Mo_record_7 (by decide) (fun c7 => ?_) (fun c7 => ?_)
    · exact absurd (Int32.lt_of_lt_of_le c7 (show (nI 1) ≤ nI 4 by decide)) (Int32.not_lt.mpr h9)
    · refine lv_iload_n hx hb d_Mo_record_10 rfl (lv_at hl 1 rfl) ?_
      refine lv_iconst (v := 3) hx hb d_Mo_record_11 (by decide) ?_
      refine lv_topq (y := nI 3) (rfl) ?_
      refine lv_icmp_le (tgt := 21) hx hb d_Mo_record_12 (by decide) (fun c8 => ?_) (fun c8 => ?_)
      · exact absurd (Int32.lt_of_le_of_lt c8 (show (nI 3) < nI 4 by decide)) (Int32.not_lt.mpr h9)
      · refine lv_aload_n hx hb d_Mo_record_15 rfl (lv_at hl 0 rfl) ?_
        refine lv_iconst (v := 1) hx hb d_Mo_record_16 (by decide) ?_
        refine lv_topq (y := nI 1) (rfl) ?_
        refine mw_cV (ci := 7) (k := 33) C0 (m_Mo_fail l D9 cB cI cJ cG a O _ _ (nI 1)) g_873 g_8 g_870 g_872 gs_Mo_fail ⟨by decide +kernel, by decide +kernel, show Option.map (fun d => d.parameters.length) (parseMethodDescriptor y_Mo_fail.desc) = some 1 by decide +kernel⟩ ⟨by decide, by decide⟩ rfl rfl hP hD hS hA rfl ww_33 hl.1 (Nat.le_of_ble_eq_true rfl) rfl d_Mo_record_17 ⟨by decide, by decide⟩ (fun v9 w9 H locs hq hP hD hS => ?_)
        obtain ⟨I9, F10, hw9, q11⟩ := hq
        subst hw9
        obtain ⟨rfl, sI9, zI9, rfl⟩ := q11
        exact hret _ _ _ _ _ _ _ hS hP hD d_Mo_record_20 nr_i (Or.inl ⟨fun s4 h1 h4 z9 => by rw [z9] at h9; exact nI_ge (b := 4) h4 (by decide) h9, ⟨_, rfl⟩, (sm_tr (sm_mo sI6 (by decide)) (sm_mo sI9 (by decide))), zI9, rfl⟩)
  · refine lv_aload_n hx hb d_Mo_record_0 rfl (lv_at hl 0 rfl) ?_
    refine lv_iconst (v := 0) hx hb d_Mo_record_1 (by decide) ?_
    refine lv_topq (y := nI 0) (rfl) ?_
    refine va_put (D := D9) (ty := .int) (ci := 7) (C := R_Mo) (T := F_Mo) (N := 30) hx hb hts i_Mo t_Mo t_Mo_ok n_Mo hown hK hP hD hS 33 ww_33 rfl 0 (by decide) (hts _ g_722) (fun _ h9 => h9) rfl (by decide +kernel) rfl rfl (Nat.le_of_ble_eq_true rfl) d_Mo_record_2 (fun H locs hP hD hS => ?_)
    obtain ⟨I12, aI12, sI12, hP, hD⟩ := fx (P := fun z => va_P D9 cls9 (WW a cB cI cJ cG z _ O) H ∧ va_D A0 (WW a cB cI cJ cG z _ O)) ⟨wp_15 hP, wd_15 hD⟩
    refine lv_iload_n hx hb d_Mo_record_5 rfl (lv_at hl 1 rfl) ?_
    refine lv_iconst (v := 1) hx hb d_Mo_record_6 (by decide) ?_
    refine lv_topq (y := nI 1) (rfl) ?_
    refine lv_icmp_lt (tgt := 15) hx hb d_Mo_record_7 (by decide) (fun c13 => ?_) (fun c13 => ?_)
    · have c13 : sc < 1 := (nI_ltI (a := sc) (b := 1) (by omega) (by omega)).mp c13
      refine lv_aload_n hx hb d_Mo_record_15 rfl (lv_at hl 0 rfl) ?_
      refine lv_iconst (v := 1) hx hb d_Mo_record_16 (by decide) ?_
      refine lv_topq (y := nI 1) (rfl) ?_
      refine mw_cV (ci := 7) (k := 33) C0 (m_Mo_fail l D9 cB cI cJ cG a O _ _ (nI 1)) g_873 g_8 g_870 g_872 gs_Mo_fail ⟨by decide +kernel, by decide +kernel, show Option.map (fun d => d.parameters.length) (parseMethodDescriptor y_Mo_fail.desc) = some 1 by decide +kernel⟩ ⟨by decide, by decide⟩ rfl rfl hP hD hS hA rfl ww_33 hl.1 (Nat.le_of_ble_eq_true rfl) rfl d_Mo_record_17 ⟨by decide, by decide⟩ (fun v9 w9 H locs hq hP hD hS => ?_)
      obtain ⟨I14, F15, hw9, q16⟩ := hq
      subst hw9
      obtain ⟨rfl, sI14, zI14, rfl⟩ := q16
      exact hret _ _ _ _ _ _ _ hS hP hD d_Mo_record_20 nr_i (Or.inl ⟨fun s4 h1 h4 z9 => by have := (nI_eq (a := sc) (b := s4) (by omega) (by omega)).mp z9; omega, ⟨_, rfl⟩, (sm_tr (sm_mo sI12 (by decide)) (sm_mo sI14 (by decide))), zI14, rfl⟩)
    · have c13 : ¬ (sc < 1) := fun z9 => c13 ((nI_ltI (a := sc) (b := 1) (by omega) (by omega)).mpr z9)
      refine lv_iload_n hx hb d_Mo_record_10 rfl (lv_at hl 1 rfl) ?_
      refine lv_iconst (v := 3) hx hb d_Mo_record_11 (by decide) ?_
      refine lv_topq (y := nI 3) (rfl) ?_
      refine lv_icmp_le (tgt := 21) hx hb d_Mo_record_12 (by decide) (fun c17 => ?_) (fun c17 => ?_)
      · have c17 : sc ≤ 3 := (nI_leI (a := sc) (b := 3) (by omega) (by omega)).mp c17
        refine lv_aload_n hx hb d_Mo_record_21 rfl (lv_at hl 0 rfl) ?_
        refine lv_iconst (v := 0) hx hb d_Mo_record_22 (by decide) ?_
        refine lv_topq (y := nI 0) (rfl) ?_
        refine mw_cV (ci := 7) (k := 33) C0 (m_Mo_wholeName l D9 cB cI cJ cG a O _ _ t hT ((sI12 16 (by decide)).trans h16) htl 0 (by omega)) g_890 g_8 g_887 g_889 gs_Mo_wholeName ⟨by decide +kernel, by decide +kernel, show Option.map (fun d => d.parameters.length) (parseMethodDescriptor y_Mo_wholeName.desc) = some 1 by decide +kernel⟩ ⟨by decide, by decide⟩ rfl rfl hP hD hS hA rfl ww_33 hl.1 (Nat.le_of_ble_eq_true rfl) rfl d_Mo_record_23 ⟨by decide, by decide⟩ (fun v9 w9 H locs hq hP hD hS => ?_)
        obtain ⟨I18, F19, hw9, q20⟩ := hq
        subst hw9
        obtain ⟨rfl, rfl, rfl⟩ := q20
        cases hm9 : wnO t 0 with
        | none =>
          refine lv_topq (y := (-1 : Int32)) (rfl) ?_
          refine lv_istore (lv' := [(5, _), (0, _), (1, _), (2, _), (3, _), (4, _)]) hx hb d_Mo_record_26 hl (by decide) rfl (fun ls hl => ?_)
          refine lv_iload hx hb d_Mo_record_28 (lv_at hl 0 rfl) ?_
          refine lv_if_lt (tgt := 57) hx hb d_Mo_record_30 (by decide) (fun c21 => ?_) (fun c21 => ?_)
          · have hqn : qD t (un x % 65536) = none := by rw [qD_wn, hm9]
            refine lv_aload_n hx hb d_Mo_record_57 rfl (lv_at hl 1 rfl) ?_
            refine lv_iconst (v := 2) hx hb d_Mo_record_58 (by decide) ?_
            refine lv_topq (y := nI 2) (rfl) ?_
            refine mw_cV (ci := 7) (k := 33) C0 (m_Mo_fail l D9 cB cI cJ cG a O _ _ (nI 2)) g_873 g_8 g_870 g_872 gs_Mo_fail ⟨by decide +kernel, by decide +kernel, show Option.map (fun d => d.parameters.length) (parseMethodDescriptor y_Mo_fail.desc) = some 1 by decide +kernel⟩ ⟨by decide, by decide⟩ rfl rfl hP hD hS hA rfl ww_33 hl.1 (Nat.le_of_ble_eq_true rfl) rfl d_Mo_record_59 ⟨by decide, by decide⟩ (fun v9 w9 H locs hq hP hD hS => ?_)
            obtain ⟨I22, F23, hw9, q24⟩ := hq
            subst hw9
            obtain ⟨rfl, sI22, zI22, rfl⟩ := q24
            exact hret _ _ _ _ _ _ _ hS hP hD d_Mo_record_62 nr_i (Or.inr ⟨sc, ⟨by omega, hsc⟩, rfl, Or.inl ⟨hqn, ⟨_, rfl⟩, (sm_tr (sm_mo sI12 (by decide)) (sm_mo sI22 (by decide))), zI22, rfl⟩⟩)
          · exact absurd c21 (by decide)
        | some m9 =>
          refine lv_topq (y := nI m9) (rfl) ?_
          have hbm9 := (wnO_s hm9).2
          refine lv_istore (lv' := [(5, _), (0, _), (1, _), (2, _), (3, _), (4, _)]) hx hb d_Mo_record_26 hl (by decide) rfl (fun ls hl => ?_)
          refine lv_iload hx hb d_Mo_record_28 (lv_at hl 0 rfl) ?_
          refine lv_if_lt (tgt := 57) hx hb d_Mo_record_30 (by decide) (fun c25 => ?_) (fun c25 => ?_)
          · have c25 : m9 < 0 := (nI_ltI (a := m9) (b := 0) (by omega) (by omega)).mp c25
            exfalso; omega
          · have c25 : ¬ (m9 < 0) := fun z9 => c25 ((nI_ltI (a := m9) (b := 0) (by omega) (by omega)).mpr z9)
            refine lv_aload_n hx hb d_Mo_record_33 rfl (lv_at hl 1 rfl) ?_
            refine lv_iload_n hx hb d_Mo_record_34 rfl (lv_at hl 3 rfl) ?_
            refine lv_ldc hx hb hown (hts _ g_882) d_Mo_record_35 ?_
            refine lv_topq (y := nI 65535) (rfl) ?_
            refine lv_iand hx hb d_Mo_record_37 ?_
            refine lv_topq (y := nI (un x % 65536)) (lo16 _ rfl) ?_
            refine lv_iload hx hb d_Mo_record_38 (lv_at hl 0 rfl) ?_
            refine lv_iload hx hb d_Mo_record_40 (lv_at hl 0 rfl) ?_
            refine lv_iconst (v := 1) hx hb d_Mo_record_42 (by decide) ?_
            refine lv_topq (y := nI 1) (rfl) ?_
            refine lv_icmp_ne (tgt := 50) hx hb d_Mo_record_43 (by decide) (fun c26 => ?_) (fun c26 => ?_)
            · have c26 : ¬ (m9 = 1) := fun z9 => c26 ((nI_eq (a := m9) (b := 1) (by omega) (by omega)).mpr z9)
              refine lv_iconst (v := 0) hx hb d_Mo_record_50 (by decide) ?_
              refine lv_topq (y := nI 0) (rfl) ?_
              refine lv_topq (y := bI (decide (m9 = 1))) (by rw [show decide (m9 = 1) = false from by simp; omega]; rfl) ?_
              refine mw_cV (ci := 7) (k := 33) C0 (m_Mo_fits l D9 cB cI cJ cG a O _ _ t hT ((sI12 16 (by decide)).trans h16) htl (un x % 65536) m9 m9 (lo16_lt x) (by omega)) g_902 g_8 g_899 g_901 gs_Mo_fits ⟨by decide +kernel, by decide +kernel, show Option.map (fun d => d.parameters.length) (parseMethodDescriptor y_Mo_fits.desc) = some 3 by decide +kernel⟩ ⟨by decide, by decide⟩ rfl rfl hP hD hS hA rfl ww_33 hl.1 (Nat.le_of_ble_eq_true rfl) rfl d_Mo_record_51 ⟨by decide, by decide⟩ (fun v9 w9 H locs hq hP hD hS => ?_)
              obtain ⟨I27, F28, hw9, q29⟩ := hq
              subst hw9
              obtain ⟨rfl, rfl, rfl⟩ := q29
              refine lv_if_ne (tgt := 63) hx hb d_Mo_record_54 (by decide) (fun c30 => ?_) (fun c30 => ?_)
              · have c30 : ftB t (un x % 65536) m9 m9 = true := bI_t c30
                have hqd : qD t (un x % 65536) = some (sl9 t 0 m9, sl9 t m9 (t.length - m9)) := by rw [qD_wn, hm9]; simp only; rw [if_pos c30]
                have hX4 : eS ((sc, un x % 65536, un y % 65536, z, sl9 t 0 m9, sl9 t m9 (t.length - m9)) : En9) < 4 := hsc
                have hokc := okB_iff hO hX4 (show eT ((sc, un x % 65536, un y % 65536, z, sl9 t 0 m9, sl9 t m9 (t.length - m9)) : En9) < 65536 from lo16_lt x) (show eK ((sc, un x % 65536, un y % 65536, z, sl9 t 0 m9, sl9 t m9 (t.length - m9)) : En9) < 65536 from lo16_lt y)
                have hnl : (sl9 t 0 m9).length = m9 := sl9_len (by omega)
                have hdl : (sl9 t m9 (t.length - m9)).length = t.length - m9 := sl9_len (by omega)
                have hoke : okB es ((sc, un x % 65536, un y % 65536, z, sl9 t 0 m9, sl9 t m9 (t.length - m9)) : En9) = (decide (cn 1 es + cn 2 es + cn 3 es < 1000) && decide ((fl es).length + ((sl9 t 0 m9).length + (sl9 t m9 (t.length - m9)).length) ≤ 65536)) := by unfold okB hp; rw [if_neg (show ¬ (eS ((sc, un x % 65536, un y % 65536, z, sl9 t 0 m9, sl9 t m9 (t.length - m9)) : En9) = 0) by show ¬ (sc = 0); omega)]; rfl
                rw [hnl, hdl] at hoke
                refine lv_aload_n hx hb d_Mo_record_63 rfl (lv_at hl 1 rfl) ?_
                refine mw_cV (ci := 7) (k := 33) C0 (m_Mo_records l D9 cB cI cJ cG a O _ _ es hR ((sI12 18 (by decide)).trans h18) (by omega) (fun e he => (hO.2.2.2 e he).1)) g_860 g_8 g_857 g_859 gs_Mo_records ⟨by decide +kernel, by decide +kernel, show Option.map (fun d => d.parameters.length) (parseMethodDescriptor y_Mo_records.desc) = some 0 by decide +kernel⟩ ⟨by decide, by decide⟩ rfl rfl hP hD hS hA rfl ww_33 hl.1 (Nat.le_of_ble_eq_true rfl) rfl d_Mo_record_64 ⟨by decide, by decide⟩ (fun v9 w9 H locs hq hP hD hS => ?_)
                obtain ⟨I31, F32, hw9, q33⟩ := hq
                subst hw9
                obtain ⟨rfl, rfl, rfl⟩ := q33
                refine lv_sipush (v := 1000) hx hb d_Mo_record_67 (by decide) ?_
                refine lv_topq (y := nI 1000) (rfl) ?_
                refine lv_icmp_eq (tgt := 87) hx hb d_Mo_record_70 (by decide) (fun c34 => ?_) (fun c34 => ?_)
                · have c34 : es.length - cn 0 es = 1000 := (nI_eq (a := es.length - cn 0 es) (b := 1000) (by omega) (by omega)).mp c34
                  have hokf : okB es ((sc, un x % 65536, un y % 65536, z, sl9 t 0 m9, sl9 t m9 (t.length - m9)) : En9) = false := by rw [hoke]; simp; omega
                  refine lv_aload_n hx hb d_Mo_record_87 rfl (lv_at hl 1 rfl) ?_
                  refine lv_iconst (v := 3) hx hb d_Mo_record_88 (by decide) ?_
                  refine lv_topq (y := nI 3) (rfl) ?_
                  refine mw_cV (ci := 7) (k := 33) C0 (m_Mo_fail l D9 cB cI cJ cG a O _ _ (nI 3)) g_873 g_8 g_870 g_872 gs_Mo_fail ⟨by decide +kernel, by decide +kernel, show Option.map (fun d => d.parameters.length) (parseMethodDescriptor y_Mo_fail.desc) = some 1 by decide +kernel⟩ ⟨by decide, by decide⟩ rfl rfl hP hD hS hA rfl ww_33 hl.1 (Nat.le_of_ble_eq_true rfl) rfl d_Mo_record_89 ⟨by decide, by decide⟩ (fun v9 w9 H locs hq hP hD hS => ?_)
                  obtain ⟨I35, F36, hw9, q37⟩ := hq
                  subst hw9
                  obtain ⟨rfl, sI35, zI35, rfl⟩ := q37
                  exact hret _ _ _ _ _ _ _ hS hP hD d_Mo_record_92 nr_i (Or.inr ⟨sc, ⟨by omega, hsc⟩, rfl, Or.inr (Or.inl ⟨_, _, hqd, hokf, ⟨_, rfl⟩, (sm_tr (sm_mo sI12 (by decide)) (sm_mo sI35 (by decide))), zI35, rfl⟩)⟩)
                · have c34 : ¬ (es.length - cn 0 es = 1000) := fun z9 => c34 ((nI_eq (a := es.length - cn 0 es) (b := 1000) (by omega) (by omega)).mpr z9)
                  refine lv_aload_n hx hb d_Mo_record_73 rfl (lv_at hl 1 rfl) ?_
                  refine va_get (D := D9) (ci := 7) (C := R_Mo) (T := F_Mo) (N := 30) hx hb hts i_Mo hown hK hP 33 ww_33 rfl 4 (by decide) (hts _ g_726) (fun _ h9 => h9) rfl d_Mo_record_74 ?_
                  refine lv_topq (y := nI ((fl es).length)) (((sI12 17 (by decide)).trans h17)) ?_
                  refine lv_aload_n hx hb d_Mo_record_77 rfl (lv_at hl 1 rfl) ?_
                  refine va_get (D := D9) (ci := 7) (C := R_Mo) (T := F_Mo) (N := 30) hx hb hts i_Mo hown hK hP 33 ww_33 rfl 2 (by decide) (hts _ g_724) (fun _ h9 => h9) rfl d_Mo_record_78 ?_
                  refine lv_topq (y := nI t.length) (((sI12 16 (by decide)).trans h16)) ?_
                  refine lv_iadd hx hb d_Mo_record_81 ?_
                  refine lv_topq (y := nI ((fl es).length + t.length)) (nI_add _ _) ?_
                  refine lv_ldc hx hb hown (hts _ g_718) d_Mo_record_82 ?_
                  refine lv_topq (y := nI 65536) (rfl) ?_
                  refine lv_icmp_le (tgt := 93) hx hb d_Mo_record_84 (by decide) (fun c38 => ?_) (fun c38 => ?_)
                  · have c38 : (fl es).length + t.length ≤ 65536 := (nI_leI (a := (fl es).length + t.length) (b := 65536) (by omega) (by omega)).mp c38
                    have hokt : okB es ((sc, un x % 65536, un y % 65536, z, sl9 t 0 m9, sl9 t m9 (t.length - m9)) : En9) = true := by rw [hoke]; simp; omega
                    have hokE := hokc.mpr hokt
                    refine lv_aload_n hx hb d_Mo_record_93 rfl (lv_at hl 1 rfl) ?_
                    refine lv_iload_n hx hb d_Mo_record_94 rfl (lv_at hl 2 rfl) ?_
                    refine lv_iload_n hx hb d_Mo_record_95 rfl (lv_at hl 3 rfl) ?_
                    refine lv_ldc hx hb hown (hts _ g_882) d_Mo_record_96 ?_
                    refine lv_topq (y := nI 65535) (rfl) ?_
                    refine lv_iand hx hb d_Mo_record_98 ?_
                    refine lv_topq (y := nI (un x % 65536)) (lo16 _ rfl) ?_
                    refine lv_iload_n hx hb d_Mo_record_99 rfl (lv_at hl 4 rfl) ?_
                    refine lv_iload hx hb d_Mo_record_100 (lv_at hl 5 rfl) ?_
                    refine lv_iload hx hb d_Mo_record_102 (lv_at hl 0 rfl) ?_
                    refine mw_cV (ci := 7) (k := 33) C0 (m_Mo_gathered l D9 cB cI cJ cG a O _ _ t hT ((sI12 16 (by decide)).trans h16) htl es hR ((sI12 18 (by decide)).trans h18) hO sc (un x % 65536) m9 y z ((sI12 17 (by decide)).trans h17) (by omega) (by omega)) g_894 g_8 g_891 g_893 gs_Mo_gathered ⟨by decide +kernel, by decide +kernel, show Option.map (fun d => d.parameters.length) (parseMethodDescriptor y_Mo_gathered.desc) = some 5 by decide +kernel⟩ ⟨by decide, by decide⟩ rfl rfl hP hD hS hA rfl ww_33 hl.1 (Nat.le_of_ble_eq_true rfl) rfl d_Mo_record_104 ⟨by decide, by decide⟩ (fun v9 w9 H locs hq hP hD hS => ?_)
                    obtain ⟨I39, F40, hw9, q41⟩ := hq
                    subst hw9
                    obtain ⟨rfl, sg, g16, g17, g18, sgF, gR⟩ := q41
                    exact hret _ _ _ _ _ _ _ hS hP hD d_Mo_record_107 nr_i (Or.inr ⟨sc, ⟨by omega, hsc⟩, rfl, Or.inr (Or.inr ⟨_, _, hqd, hokt, hokE, rfl, (sm_tr (sm_mo sI12 (by decide)) (sm_mo sg (by decide))), ((sg 15 (by decide)).trans aI12), g16, g17, g18, (sm_mo sgF (by decide)), gR⟩)⟩)
                  · have c38 : ¬ ((fl es).length + t.length ≤ 65536) := fun z9 => c38 ((nI_leI (a := (fl es).length + t.length) (b := 65536) (by omega) (by omega)).mpr z9)
                    have hokf : okB es ((sc, un x % 65536, un y % 65536, z, sl9 t 0 m9, sl9 t m9 (t.length - m9)) : En9) = false := by rw [hoke]; simp; omega
                    refine lv_aload_n hx hb d_Mo_record_87 rfl (lv_at hl 1 rfl) ?_
                    refine lv_iconst (v := 3) hx hb d_Mo_record_88 (by decide) ?_
                    refine lv_topq (y := nI 3) (rfl) ?_
                    refine mw_cV (ci := 7) (k := 33) C0 (m_Mo_fail l D9 cB cI cJ cG a O _ _ (nI 3)) g_873 g_8 g_870 g_872 gs_Mo_fail ⟨by decide +kernel, by decide +kernel, show Option.map (fun d => d.parameters.length) (parseMethodDescriptor y_Mo_fail.desc) = some 1 by decide +kernel⟩ ⟨by decide, by decide⟩ rfl rfl hP hD hS hA rfl ww_33 hl.1 (Nat.le_of_ble_eq_true rfl) rfl d_Mo_record_89 ⟨by decide, by decide⟩ (fun v9 w9 H locs hq hP hD hS => ?_)
                    obtain ⟨I42, F43, hw9, q44⟩ := hq
                    subst hw9
                    obtain ⟨rfl, sI42, zI42, rfl⟩ := q44
                    exact hret _ _ _ _ _ _ _ hS hP hD d_Mo_record_92 nr_i (Or.inr ⟨sc, ⟨by omega, hsc⟩, rfl, Or.inr (Or.inl ⟨_, _, hqd, hokf, ⟨_, rfl⟩, (sm_tr (sm_mo sI12 (by decide)) (sm_mo sI42 (by decide))), zI42, rfl⟩)⟩)
              · have c30 : ftB t (un x % 65536) m9 m9 = false := bI_f c30
                have hqn : qD t (un x % 65536) = none := by rw [qD_wn, hm9]; simp only; rw [if_neg (by rw [c30]; decide)]
                refine lv_aload_n hx hb d_Mo_record_57 rfl (lv_at hl 1 rfl) ?_
                refine lv_iconst (v := 2) hx hb d_Mo_record_58 (by decide) ?_
                refine lv_topq (y := nI 2) (rfl) ?_
                refine mw_cV (ci := 7) (k := 33) C0 (m_Mo_fail l D9 cB cI cJ cG a O _ _ (nI 2)) g_873 g_8 g_870 g_872 gs_Mo_fail ⟨by decide +kernel, by decide +kernel, show Option.map (fun d => d.parameters.length) (parseMethodDescriptor y_Mo_fail.desc) = some 1 by decide +kernel⟩ ⟨by decide, by decide⟩ rfl rfl hP hD hS hA rfl ww_33 hl.1 (Nat.le_of_ble_eq_true rfl) rfl d_Mo_record_59 ⟨by decide, by decide⟩ (fun v9 w9 H locs hq hP hD hS => ?_)
                obtain ⟨I45, F46, hw9, q47⟩ := hq
                subst hw9
                obtain ⟨rfl, sI45, zI45, rfl⟩ := q47
                exact hret _ _ _ _ _ _ _ hS hP hD d_Mo_record_62 nr_i (Or.inr ⟨sc, ⟨by omega, hsc⟩, rfl, Or.inl ⟨hqn, ⟨_, rfl⟩, (sm_tr (sm_mo sI12 (by decide)) (sm_mo sI45 (by decide))), zI45, rfl⟩⟩)
            · have c26 : m9 = 1 := (nI_eq (a := m9) (b := 1) (by omega) (by omega)).mp c26
              refine lv_iconst (v := 1) hx hb d_Mo_record_46 (by decide) ?_
              refine lv_topq (y := nI 1) (rfl) ?_
              refine lv_goto (tgt := 51) hx hb d_Mo_record_47 (by decide) ?_
              refine lv_topq (y := bI (decide (m9 = 1))) (by rw [show decide (m9 = 1) = true from by simp; omega]; rfl) ?_
              refine mw_cV (ci := 7) (k := 33) C0 (m_Mo_fits l D9 cB cI cJ cG a O _ _ t hT ((sI12 16 (by decide)).trans h16) htl (un x % 65536) m9 m9 (lo16_lt x) (by omega)) g_902 g_8 g_899 g_901 gs_Mo_fits ⟨by decide +kernel, by decide +kernel, show Option.map (fun d => d.parameters.length) (parseMethodDescriptor y_Mo_fits.desc) = some 3 by decide +kernel⟩ ⟨by decide, by decide⟩ rfl rfl hP hD hS hA rfl ww_33 hl.1 (Nat.le_of_ble_eq_true rfl) rfl d_Mo_record_51 ⟨by decide, by decide⟩ (fun v9 w9 H locs hq hP hD hS => ?_)
              obtain ⟨I48, F49, hw9, q50⟩ := hq
              subst hw9
              obtain ⟨rfl, rfl, rfl⟩ := q50
              refine lv_if_ne (tgt := 63) hx hb d_Mo_record_54 (by decide) (fun c51 => ?_) (fun c51 => ?_)
              · have c51 : ftB t (un x % 65536) m9 m9 = true := bI_t c51
                have hqd : qD t (un x % 65536) = some (sl9 t 0 m9, sl9 t m9 (t.length - m9)) := by rw [qD_wn, hm9]; simp only; rw [if_pos c51]
                have hX4 : eS ((sc, un x % 65536, un y % 65536, z, sl9 t 0 m9, sl9 t m9 (t.length - m9)) : En9) < 4 := hsc
                have hokc := okB_iff hO hX4 (show eT ((sc, un x % 65536, un y % 65536, z, sl9 t 0 m9, sl9 t m9 (t.length - m9)) : En9) < 65536 from lo16_lt x) (show eK ((sc, un x % 65536, un y % 65536, z, sl9 t 0 m9, sl9 t m9 (t.length - m9)) : En9) < 65536 from lo16_lt y)
                have hnl : (sl9 t 0 m9).length = m9 := sl9_len (by omega)
                have hdl : (sl9 t m9 (t.length - m9)).length = t.length - m9 := sl9_len (by omega)
                have hoke : okB es ((sc, un x % 65536, un y % 65536, z, sl9 t 0 m9, sl9 t m9 (t.length - m9)) : En9) = (decide (cn 1 es + cn 2 es + cn 3 es < 1000) && decide ((fl es).length + ((sl9 t 0 m9).length + (sl9 t m9 (t.length - m9)).length) ≤ 65536)) := by unfold okB hp; rw [if_neg (show ¬ (eS ((sc, un x % 65536, un y % 65536, z, sl9 t 0 m9, sl9 t m9 (t.length - m9)) : En9) = 0) by show ¬ (sc = 0); omega)]; rfl
                rw [hnl, hdl] at hoke
                refine lv_aload_n hx hb d_Mo_record_63 rfl (lv_at hl 1 rfl) ?_
                refine mw_cV (ci := 7) (k := 33) C0 (m_Mo_records l D9 cB cI cJ cG a O _ _ es hR ((sI12 18 (by decide)).trans h18) (by omega) (fun e he => (hO.2.2.2 e he).1)) g_860 g_8 g_857 g_859 gs_Mo_records ⟨by decide +kernel, by decide +kernel, show Option.map (fun d => d.parameters.length) (parseMethodDescriptor y_Mo_records.desc) = some 0 by decide +kernel⟩ ⟨by decide, by decide⟩ rfl rfl hP hD hS hA rfl ww_33 hl.1 (Nat.le_of_ble_eq_true rfl) rfl d_Mo_record_64 ⟨by decide, by decide⟩ (fun v9 w9 H locs hq hP hD hS => ?_)
                obtain ⟨I52, F53, hw9, q54⟩ := hq
                subst hw9
                obtain ⟨rfl, rfl, rfl⟩ := q54
                refine lv_sipush (v := 1000) hx hb d_Mo_record_67 (by decide) ?_
                refine lv_topq (y := nI 1000) (rfl) ?_
                refine lv_icmp_eq (tgt := 87) hx hb d_Mo_record_70 (by decide) (fun c55 => ?_) (fun c55 => ?_)
                · have c55 : es.length - cn 0 es = 1000 := (nI_eq (a := es.length - cn 0 es) (b := 1000) (by omega) (by omega)).mp c55
                  have hokf : okB es ((sc, un x % 65536, un y % 65536, z, sl9 t 0 m9, sl9 t m9 (t.length - m9)) : En9) = false := by rw [hoke]; simp; omega
                  refine lv_aload_n hx hb d_Mo_record_87 rfl (lv_at hl 1 rfl) ?_
                  refine lv_iconst (v := 3) hx hb d_Mo_record_88 (by decide) ?_
                  refine lv_topq (y := nI 3) (rfl) ?_
                  refine mw_cV (ci := 7) (k := 33) C0 (m_Mo_fail l D9 cB cI cJ cG a O _ _ (nI 3)) g_873 g_8 g_870 g_872 gs_Mo_fail ⟨by decide +kernel, by decide +kernel, show Option.map (fun d => d.parameters.length) (parseMethodDescriptor y_Mo_fail.desc) = some 1 by decide +kernel⟩ ⟨by decide, by decide⟩ rfl rfl hP hD hS hA rfl ww_33 hl.1 (Nat.le_of_ble_eq_true rfl) rfl d_Mo_record_89 ⟨by decide, by decide⟩ (fun v9 w9 H locs hq hP hD hS => ?_)
                  obtain ⟨I56, F57, hw9, q58⟩ := hq
                  subst hw9
                  obtain ⟨rfl, sI56, zI56, rfl⟩ := q58
                  exact hret _ _ _ _ _ _ _ hS hP hD d_Mo_record_92 nr_i (Or.inr ⟨sc, ⟨by omega, hsc⟩, rfl, Or.inr (Or.inl ⟨_, _, hqd, hokf, ⟨_, rfl⟩, (sm_tr (sm_mo sI12 (by decide)) (sm_mo sI56 (by decide))), zI56, rfl⟩)⟩)
                · have c55 : ¬ (es.length - cn 0 es = 1000) := fun z9 => c55 ((nI_eq (a := es.length - cn 0 es) (b := 1000) (by omega) (by omega)).mpr z9)
                  refine lv_aload_n hx hb d_Mo_record_73 rfl (lv_at hl 1 rfl) ?_
                  refine va_get (D := D9) (ci := 7) (C := R_Mo) (T := F_Mo) (N := 30) hx hb hts i_Mo hown hK hP 33 ww_33 rfl 4 (by decide) (hts _ g_726) (fun _ h9 => h9) rfl d_Mo_record_74 ?_
                  refine lv_topq (y := nI ((fl es).length)) (((sI12 17 (by decide)).trans h17)) ?_
                  refine lv_aload_n hx hb d_Mo_record_77 rfl (lv_at hl 1 rfl) ?_
                  refine va_get (D := D9) (ci := 7) (C := R_Mo) (T := F_Mo) (N := 30) hx hb hts i_Mo hown hK hP 33 ww_33 rfl 2 (by decide) (hts _ g_724) (fun _ h9 => h9) rfl d_Mo_record_78 ?_
                  refine lv_topq (y := nI t.length) (((sI12 16 (by decide)).trans h16)) ?_
                  refine lv_iadd hx hb d_Mo_record_81 ?_
                  refine lv_topq (y := nI ((fl es).length + t.length)) (nI_add _ _) ?_
                  refine lv_ldc hx hb hown (hts _ g_718) d_Mo_record_82 ?_
                  refine lv_topq (y := nI 65536) (rfl) ?_
                  refine lv_icmp_le (tgt := 93) hx hb d_Mo_record_84 (by decide) (fun c59 => ?_) (fun c59 => ?_)
                  · have c59 : (fl es).length + t.length ≤ 65536 := (nI_leI (a := (fl es).length + t.length) (b := 65536) (by omega) (by omega)).mp c59
                    have hokt : okB es ((sc, un x % 65536, un y % 65536, z, sl9 t 0 m9, sl9 t m9 (t.length - m9)) : En9) = true := by rw [hoke]; simp; omega
                    have hokE := hokc.mpr hokt
                    refine lv_aload_n hx hb d_Mo_record_93 rfl (lv_at hl 1 rfl) ?_
                    refine lv_iload_n hx hb d_Mo_record_94 rfl (lv_at hl 2 rfl) ?_
                    refine lv_iload_n hx hb d_Mo_record_95 rfl (lv_at hl 3 rfl) ?_
                    refine lv_ldc hx hb hown (hts _ g_882) d_Mo_record_96 ?_
                    refine lv_topq (y := nI 65535) (rfl) ?_
                    refine lv_iand hx hb d_Mo_record_98 ?_
                    refine lv_topq (y := nI (un x % 65536)) (lo16 _ rfl) ?_
                    refine lv_iload_n hx hb d_Mo_record_99 rfl (lv_at hl 4 rfl) ?_
                    refine lv_iload hx hb d_Mo_record_100 (lv_at hl 5 rfl) ?_
                    refine lv_iload hx hb d_Mo_record_102 (lv_at hl 0 rfl) ?_
                    refine mw_cV (ci := 7) (k := 33) C0 (m_Mo_gathered l D9 cB cI cJ cG a O _ _ t hT ((sI12 16 (by decide)).trans h16) htl es hR ((sI12 18 (by decide)).trans h18) hO sc (un x % 65536) m9 y z ((sI12 17 (by decide)).trans h17) (by omega) (by omega)) g_894 g_8 g_891 g_893 gs_Mo_gathered ⟨by decide +kernel, by decide +kernel, show Option.map (fun d => d.parameters.length) (parseMethodDescriptor y_Mo_gathered.desc) = some 5 by decide +kernel⟩ ⟨by decide, by decide⟩ rfl rfl hP hD hS hA rfl ww_33 hl.1 (Nat.le_of_ble_eq_true rfl) rfl d_Mo_record_104 ⟨by decide, by decide⟩ (fun v9 w9 H locs hq hP hD hS => ?_)
                    obtain ⟨I60, F61, hw9, q62⟩ := hq
                    subst hw9
                    obtain ⟨rfl, sg, g16, g17, g18, sgF, gR⟩ := q62
                    exact hret _ _ _ _ _ _ _ hS hP hD d_Mo_record_107 nr_i (Or.inr ⟨sc, ⟨by omega, hsc⟩, rfl, Or.inr (Or.inr ⟨_, _, hqd, hokt, hokE, rfl, (sm_tr (sm_mo sI12 (by decide)) (sm_mo sg (by decide))), ((sg 15 (by decide)).trans aI12), g16, g17, g18, (sm_mo sgF (by decide)), gR⟩)⟩)
                  · have c59 : ¬ ((fl es).length + t.length ≤ 65536) := fun z9 => c59 ((nI_leI (a := (fl es).length + t.length) (b := 65536) (by omega) (by omega)).mpr z9)
                    have hokf : okB es ((sc, un x % 65536, un y % 65536, z, sl9 t 0 m9, sl9 t m9 (t.length - m9)) : En9) = false := by rw [hoke]; simp; omega
                    refine lv_aload_n hx hb d_Mo_record_87 rfl (lv_at hl 1 rfl) ?_
                    refine lv_iconst (v := 3) hx hb d_Mo_record_88 (by decide) ?_
                    refine lv_topq (y := nI 3) (rfl) ?_
                    refine mw_cV (ci := 7) (k := 33) C0 (m_Mo_fail l D9 cB cI cJ cG a O _ _ (nI 3)) g_873 g_8 g_870 g_872 gs_Mo_fail ⟨by decide +kernel, by decide +kernel, show Option.map (fun d => d.parameters.length) (parseMethodDescriptor y_Mo_fail.desc) = some 1 by decide +kernel⟩ ⟨by decide, by decide⟩ rfl rfl hP hD hS hA rfl ww_33 hl.1 (Nat.le_of_ble_eq_true rfl) rfl d_Mo_record_89 ⟨by decide, by decide⟩ (fun v9 w9 H locs hq hP hD hS => ?_)
                    obtain ⟨I63, F64, hw9, q65⟩ := hq
                    subst hw9
                    obtain ⟨rfl, sI63, zI63, rfl⟩ := q65
                    exact hret _ _ _ _ _ _ _ hS hP hD d_Mo_record_92 nr_i (Or.inr ⟨sc, ⟨by omega, hsc⟩, rfl, Or.inr (Or.inl ⟨_, _, hqd, hokf, ⟨_, rfl⟩, (sm_tr (sm_mo sI12 (by decide)) (sm_mo sI63 (by decide))), zI63, rfl⟩)⟩)
              · have c51 : ftB t (un x % 65536) m9 m9 = false := bI_f c51
                have hqn : qD t (un x % 65536) = none := by rw [qD_wn, hm9]; simp only; rw [if_neg (by rw [c51]; decide)]
                refine lv_aload_n hx hb d_Mo_record_57 rfl (lv_at hl 1 rfl) ?_
                refine lv_iconst (v := 2) hx hb d_Mo_record_58 (by decide) ?_
                refine lv_topq (y := nI 2) (rfl) ?_
                refine mw_cV (ci := 7) (k := 33) C0 (m_Mo_fail l D9 cB cI cJ cG a O _ _ (nI 2)) g_873 g_8 g_870 g_872 gs_Mo_fail ⟨by decide +kernel, by decide +kernel, show Option.map (fun d => d.parameters.length) (parseMethodDescriptor y_Mo_fail.desc) = some 1 by decide +kernel⟩ ⟨by decide, by decide⟩ rfl rfl hP hD hS hA rfl ww_33 hl.1 (Nat.le_of_ble_eq_true rfl) rfl d_Mo_record_59 ⟨by decide, by decide⟩ (fun v9 w9 H locs hq hP hD hS => ?_)
                obtain ⟨I66, F67, hw9, q68⟩ := hq
                subst hw9
                obtain ⟨rfl, sI66, zI66, rfl⟩ := q68
                exact hret _ _ _ _ _ _ _ hS hP hD d_Mo_record_62 nr_i (Or.inr ⟨sc, ⟨by omega, hsc⟩, rfl, Or.inl ⟨hqn, ⟨_, rfl⟩, (sm_tr (sm_mo sI12 (by decide)) (sm_mo sI66 (by decide))), zI66, rfl⟩⟩)
      · have c17 : ¬ (sc ≤ 3) := fun z9 => c17 ((nI_leI (a := sc) (b := 3) (by omega) (by omega)).mpr z9)
        exfalso; omega
