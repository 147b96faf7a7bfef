/-! THE CLASS'S OWN METHODS -/
theorem g_12 : (Cond.initialized "java/lang/IllegalStateException") ∈ GT := gt_mem 12 (by decide +kernel) rfl
theorem g_13 : (Cond.initialized "java/lang/IllegalArgumentException") ∈ GT := gt_mem 13 (by decide +kernel) rfl
theorem g_36 : (Cond.fieldLinkNest "WireMessages" (60 : Nat) "WireMessages$Bytes" "length" "I" "WireMessages") ∈ GT := gt_mem 36 (by decide +kernel) rfl
theorem g_124 : (Cond.fieldLinkNest "WireMessages" (78 : Nat) "WireMessages$Reader" "faultPlace" "I" "WireMessages") ∈ GT := gt_mem 124 (by decide +kernel) rfl
theorem g_127 : (Cond.fieldLinkNest "WireMessages" (81 : Nat) "WireMessages$Reader" "followed" "I" "WireMessages") ∈ GT := gt_mem 127 (by decide +kernel) rfl
theorem g_248 : (Cond.methodLinkNest "WireMessages" (74 : Nat) ({ cls := "WireMessages$Reader", name := "takeMessage", desc := "()I" } : MethodName) "WireMessages") ∈ GT := gt_mem 248 (by decide +kernel) rfl
theorem g_250 : (Cond.instanceMethod ({ cls := "WireMessages$Reader", name := "takeMessage", desc := "()I" } : MethodName)) ∈ GT := gt_mem 250 (by decide +kernel) rfl
theorem g_251 : (Cond.code ({ cls := "WireMessages$Reader", name := "takeMessage", desc := "()I" } : MethodName) prog_7_method_3_code (5 : Nat) (Option.some FieldType.int)) ∈ GT := gt_mem 251 (by decide +kernel) rfl
theorem g_369 : (Cond.constant "WireMessages" (84 : Nat) (65535 : Int32)) ∈ GT := gt_mem 369 (by decide +kernel) rfl
theorem g_370 : (Cond.methodLinkNest "WireMessages" (85 : Nat) ({ cls := "WireMessages$Gathered", name := "startAnew", desc := "(II)V" } : MethodName) "WireMessages") ∈ GT := gt_mem 370 (by decide +kernel) rfl
theorem g_383 : (Cond.constant "WireMessages" (63 : Nat) (65536 : Int32)) ∈ GT := gt_mem 383 (by decide +kernel) rfl
theorem g_384 : (Cond.classLink "WireMessages" (64 : Nat) "java/lang/IllegalStateException") ∈ GT := gt_mem 384 (by decide +kernel) rfl
theorem g_449 : (Cond.methodLinkNest "WireMessages" (67 : Nat) ({ cls := "WireMessages$Bytes", name := "putFour", desc := "(I)V" } : MethodName) "WireMessages") ∈ GT := gt_mem 449 (by decide +kernel) rfl
theorem g_466 : (Cond.classLink "WireMessages" (71 : Nat) "java/lang/IllegalArgumentException") ∈ GT := gt_mem 466 (by decide +kernel) rfl
theorem gs_Re_takeMessage : Cond.selects R_Re y_Re_takeMessage y_Re_takeMessage ∈ GT := gt_sel (q := (⟨"WireMessages$Reader", "takeMessage", "()I"⟩, 8)) (by decide +kernel)
theorem at_Wm_66 : ∀ w ∈ (Bundle.ownAtoms0 R_Wm 66 "java/lang/IllegalStateException" ["java/lang/RuntimeException", "java/lang/Exception"]).filter tx_tab, w ∈ GT := gt_all _ (by decide +kernel) (by decide +kernel)
theorem at_Wm_73 : ∀ w ∈ (Bundle.ownAtoms0 R_Wm 73 "java/lang/IllegalArgumentException" ["java/lang/RuntimeException", "java/lang/Exception"]).filter tx_tab, w ∈ GT := gt_all _ (by decide +kernel) (by decide +kernel)
theorem d_Wm_begin_0 : decode b_Wm_begin 0 = .ok (.aload_n 0, 1) := by decide +kernel
theorem d_Wm_begin_1 : decode b_Wm_begin 1 = .ok (.getfield 19, 3) := by decide +kernel
theorem d_Wm_begin_4 : decode b_Wm_begin 4 = .ok (.iload_n 1, 1) := by decide +kernel
theorem d_Wm_begin_5 : decode b_Wm_begin 5 = .ok (.ldc 84, 2) := by decide +kernel
theorem d_Wm_begin_7 : decode b_Wm_begin 7 = .ok (.iand, 1) := by decide +kernel
theorem d_Wm_begin_8 : decode b_Wm_begin 8 = .ok (.iload_n 2, 1) := by decide +kernel
theorem d_Wm_begin_9 : decode b_Wm_begin 9 = .ok (.ldc 84, 2) := by decide +kernel
theorem d_Wm_begin_11 : decode b_Wm_begin 11 = .ok (.iand, 1) := by decide +kernel
theorem d_Wm_begin_12 : decode b_Wm_begin 12 = .ok (.invokevirtual 85, 3) := by decide +kernel
theorem d_Wm_begin_15 : decode b_Wm_begin 15 = .ok (.return_, 1) := by decide +kernel
theorem d_Wm_end_0 : decode b_Wm_end 0 = .ok (.iload_n 1, 1) := by decide +kernel
theorem d_Wm_end_1 : decode b_Wm_end 1 = .ok (.ifCond .lt 14, 3) := by decide +kernel
theorem d_Wm_end_4 : decode b_Wm_end 4 = .ok (.iload_n 1, 1) := by decide +kernel
theorem d_Wm_end_5 : decode b_Wm_end 5 = .ok (.aload_n 0, 1) := by decide +kernel
theorem d_Wm_end_6 : decode b_Wm_end 6 = .ok (.getfield 10, 3) := by decide +kernel
theorem d_Wm_end_9 : decode b_Wm_end 9 = .ok (.getfield 60, 3) := by decide +kernel
theorem d_Wm_end_12 : decode b_Wm_end 12 = .ok (.if_icmp .le 11, 3) := by decide +kernel
theorem d_Wm_end_15 : decode b_Wm_end 15 = .ok (.new 71, 3) := by decide +kernel
theorem d_Wm_end_18 : decode b_Wm_end 18 = .ok (.dup, 1) := by decide +kernel
theorem d_Wm_end_19 : decode b_Wm_end 19 = .ok (.invokespecial 73, 3) := by decide +kernel
theorem d_Wm_end_22 : decode b_Wm_end 22 = .ok (.athrow, 1) := by decide +kernel
theorem d_Wm_end_23 : decode b_Wm_end 23 = .ok (.aload_n 0, 1) := by decide +kernel
theorem d_Wm_end_24 : decode b_Wm_end 24 = .ok (.getfield 10, 3) := by decide +kernel
theorem d_Wm_end_27 : decode b_Wm_end 27 = .ok (.iload_n 1, 1) := by decide +kernel
theorem d_Wm_end_28 : decode b_Wm_end 28 = .ok (.putfield 60, 3) := by decide +kernel
theorem d_Wm_end_31 : decode b_Wm_end 31 = .ok (.iload_n 1, 1) := by decide +kernel
theorem d_Wm_end_32 : decode b_Wm_end 32 = .ok (.ireturn, 1) := by decide +kernel
theorem d_Wm_faultAt_0 : decode b_Wm_faultAt 0 = .ok (.aload_n 0, 1) := by decide +kernel
theorem d_Wm_faultAt_1 : decode b_Wm_faultAt 1 = .ok (.getfield 53, 3) := by decide +kernel
theorem d_Wm_faultAt_4 : decode b_Wm_faultAt 4 = .ok (.ireturn, 1) := by decide +kernel
theorem d_Wm_feed_0 : decode b_Wm_feed 0 = .ok (.aload_n 0, 1) := by decide +kernel
theorem d_Wm_feed_1 : decode b_Wm_feed 1 = .ok (.getfield 10, 3) := by decide +kernel
theorem d_Wm_feed_4 : decode b_Wm_feed 4 = .ok (.getfield 60, 3) := by decide +kernel
theorem d_Wm_feed_7 : decode b_Wm_feed 7 = .ok (.bipush 20, 2) := by decide +kernel
theorem d_Wm_feed_9 : decode b_Wm_feed 9 = .ok (.iadd, 1) := by decide +kernel
theorem d_Wm_feed_10 : decode b_Wm_feed 10 = .ok (.ldc 63, 2) := by decide +kernel
theorem d_Wm_feed_12 : decode b_Wm_feed 12 = .ok (.if_icmp .le 11, 3) := by decide +kernel
theorem d_Wm_feed_15 : decode b_Wm_feed 15 = .ok (.new 64, 3) := by decide +kernel
theorem d_Wm_feed_18 : decode b_Wm_feed 18 = .ok (.dup, 1) := by decide +kernel
theorem d_Wm_feed_19 : decode b_Wm_feed 19 = .ok (.invokespecial 66, 3) := by decide +kernel
theorem d_Wm_feed_22 : decode b_Wm_feed 22 = .ok (.athrow, 1) := by decide +kernel
theorem d_Wm_feed_23 : decode b_Wm_feed 23 = .ok (.aload_n 0, 1) := by decide +kernel
theorem d_Wm_feed_24 : decode b_Wm_feed 24 = .ok (.getfield 10, 3) := by decide +kernel
theorem d_Wm_feed_27 : decode b_Wm_feed 27 = .ok (.iload_n 1, 1) := by decide +kernel
theorem d_Wm_feed_28 : decode b_Wm_feed 28 = .ok (.invokevirtual 67, 3) := by decide +kernel
theorem d_Wm_feed_31 : decode b_Wm_feed 31 = .ok (.aload_n 0, 1) := by decide +kernel
theorem d_Wm_feed_32 : decode b_Wm_feed 32 = .ok (.getfield 10, 3) := by decide +kernel
theorem d_Wm_feed_35 : decode b_Wm_feed 35 = .ok (.iload_n 2, 1) := by decide +kernel
theorem d_Wm_feed_36 : decode b_Wm_feed 36 = .ok (.invokevirtual 67, 3) := by decide +kernel
theorem d_Wm_feed_39 : decode b_Wm_feed 39 = .ok (.aload_n 0, 1) := by decide +kernel
theorem d_Wm_feed_40 : decode b_Wm_feed 40 = .ok (.getfield 10, 3) := by decide +kernel
theorem d_Wm_feed_43 : decode b_Wm_feed 43 = .ok (.iload_n 3, 1) := by decide +kernel
theorem d_Wm_feed_44 : decode b_Wm_feed 44 = .ok (.invokevirtual 67, 3) := by decide +kernel
theorem d_Wm_feed_47 : decode b_Wm_feed 47 = .ok (.aload_n 0, 1) := by decide +kernel
theorem d_Wm_feed_48 : decode b_Wm_feed 48 = .ok (.getfield 10, 3) := by decide +kernel
theorem d_Wm_feed_51 : decode b_Wm_feed 51 = .ok (.iload 4, 2) := by decide +kernel
theorem d_Wm_feed_53 : decode b_Wm_feed 53 = .ok (.invokevirtual 67, 3) := by decide +kernel
theorem d_Wm_feed_56 : decode b_Wm_feed 56 = .ok (.aload_n 0, 1) := by decide +kernel
theorem d_Wm_feed_57 : decode b_Wm_feed 57 = .ok (.getfield 10, 3) := by decide +kernel
theorem d_Wm_feed_60 : decode b_Wm_feed 60 = .ok (.iload 5, 2) := by decide +kernel
theorem d_Wm_feed_62 : decode b_Wm_feed 62 = .ok (.invokevirtual 67, 3) := by decide +kernel
theorem d_Wm_feed_65 : decode b_Wm_feed 65 = .ok (.aload_n 0, 1) := by decide +kernel
theorem d_Wm_feed_66 : decode b_Wm_feed 66 = .ok (.getfield 10, 3) := by decide +kernel
theorem d_Wm_feed_69 : decode b_Wm_feed 69 = .ok (.getfield 60, 3) := by decide +kernel
theorem d_Wm_feed_72 : decode b_Wm_feed 72 = .ok (.ireturn, 1) := by decide +kernel
theorem d_Wm_read_0 : decode b_Wm_read 0 = .ok (.aload_n 0, 1) := by decide +kernel
theorem d_Wm_read_1 : decode b_Wm_read 1 = .ok (.getfield 28, 3) := by decide +kernel
theorem d_Wm_read_4 : decode b_Wm_read 4 = .ok (.invokevirtual 74, 3) := by decide +kernel
theorem d_Wm_read_7 : decode b_Wm_read 7 = .ok (.istore_n 1, 1) := by decide +kernel
theorem d_Wm_read_8 : decode b_Wm_read 8 = .ok (.aload_n 0, 1) := by decide +kernel
theorem d_Wm_read_9 : decode b_Wm_read 9 = .ok (.aload_n 0, 1) := by decide +kernel
theorem d_Wm_read_10 : decode b_Wm_read 10 = .ok (.getfield 28, 3) := by decide +kernel
theorem d_Wm_read_13 : decode b_Wm_read 13 = .ok (.getfield 78, 3) := by decide +kernel
theorem d_Wm_read_16 : decode b_Wm_read 16 = .ok (.putfield 53, 3) := by decide +kernel
theorem d_Wm_read_19 : decode b_Wm_read 19 = .ok (.iload_n 1, 1) := by decide +kernel
theorem d_Wm_read_20 : decode b_Wm_read 20 = .ok (.ifCond .ne 14, 3) := by decide +kernel
theorem d_Wm_read_23 : decode b_Wm_read 23 = .ok (.aload_n 0, 1) := by decide +kernel
theorem d_Wm_read_24 : decode b_Wm_read 24 = .ok (.aload_n 0, 1) := by decide +kernel
theorem d_Wm_read_25 : decode b_Wm_read 25 = .ok (.getfield 28, 3) := by decide +kernel
theorem d_Wm_read_28 : decode b_Wm_read 28 = .ok (.getfield 81, 3) := by decide +kernel
theorem d_Wm_read_31 : decode b_Wm_read 31 = .ok (.putfield 57, 3) := by decide +kernel
theorem d_Wm_read_34 : decode b_Wm_read 34 = .ok (.aload_n 0, 1) := by decide +kernel
theorem d_Wm_read_35 : decode b_Wm_read 35 = .ok (.getfield 10, 3) := by decide +kernel
theorem d_Wm_read_38 : decode b_Wm_read 38 = .ok (.iconst 0, 1) := by decide +kernel
theorem d_Wm_read_39 : decode b_Wm_read 39 = .ok (.putfield 60, 3) := by decide +kernel
theorem d_Wm_read_42 : decode b_Wm_read 42 = .ok (.iload_n 1, 1) := by decide +kernel
theorem d_Wm_read_43 : decode b_Wm_read 43 = .ok (.ireturn, 1) := by decide +kernel
set_option maxHeartbeats 4000000 in
set_option maxRecDepth 100000 in
/-- feed -/
theorem m_Wm_feed (l : Launch) (D9 : va_G) (cB cI cJ cG : ClassId) (a : Nat → Nat) (O : Nat → Int64) (I : Nat → Int32) (F : Nat → Nat → Int32) (hfl : l.flags = pinnedFlags ++ [noTraceFlag]) (t : List Nat) (hT2 : I 2 = nI t.length) (htl : t.length ≤ 65536) (hT : BR 0 65536 (F 2) t) (v1 v2 v3 v4 v5 : Int32) : MZW l D9 cB cI cJ cG a O y_Wm_feed b_Wm_feed 6 (some .int) 6 [.ref (a 0), .int (v1), .int (v2), .int (v3), .int (v4), .int (v5)] I F (fun v I' F' => t.length ≤ 65516 ∧ v = some (.int (nI (t.length + 20))) ∧ sm [2] I I' ∧ I' 2 = nI (t.length + 20) ∧ sm [2] F F' ∧ BR 0 65536 (F' 2) (t ++ (b4 v1 ++ (b4 v2 ++ (b4 v3 ++ (b4 v4 ++ b4 v5)))))) (fun E I' F' => E = "java/lang/IllegalStateException" ∧ 65516 < t.length ∧ I = I' ∧ F = F') := by
  refine mzw_of hfl (by decide) (Nat.le_of_ble_eq_true rfl) (by decide) ?_
  intro p e s m below meth c ls A0 Q C0 hP hD hA hS hZ hl hret hthr hlv
  obtain ⟨hx, hb, hml, hr, hlocks, hown, hts, hK⟩ := id C0
  have hl : lv_has ls 6 [(0, .ref (a 0)), (1, .int (v1)), (2, .int (v2)), (3, .int (v3)), (4, .int (v4)), (5, .int (v5))] := hl
  refine lv_aload_n hx hb d_Wm_feed_0 rfl (lv_at hl 0 rfl) ?_
  refine va_get (D := D9) (ci := 6) (C := R_Wm) (T := F_Wm) (N := 7) hx hb hts i_Wm hown hK hP 0 ww_0 rfl 0 (by decide) (hts _ g_222) (fun _ h9 => h9) rfl d_Wm_feed_1 ?_
  refine va_getN (D := D9) (ci := 0) (C := R_By) (T := F_By) (N := 2) hx hb hts i_By hown hK hP 1 ww_1 rfl 1 (by decide) (hts _ g_36) (fun _ h9 => h9) rfl d_Wm_feed_4 ?_
  refine lv_topq (y := nI t.length) (hT2) ?_
  refine lv_bipush (v := 20) hx hb d_Wm_feed_7 (by decide) ?_
  refine lv_topq (y := nI 20) (rfl) ?_
  refine lv_iadd hx hb d_Wm_feed_9 ?_
  refine lv_topq (y := nI (t.length + 20)) (nI_add _ _) ?_
  refine lv_ldc hx hb hown (hts _ g_383) d_Wm_feed_10 ?_
  refine lv_topq (y := nI 65536) (rfl) ?_
  refine lv_icmp_le (tgt := 23) hx hb d_Wm_feed_12 (by decide) (fun c1 => ?_) (fun c1 => ?_)
  · have c1 : t.length + 20 ≤ 65536 := (nI_leI (a := t.length + 20) (b := 65536) (by omega) (by omega)).mp c1
    refine lv_aload_n hx hb d_Wm_feed_23 rfl (lv_at hl 0 rfl) ?_
    refine va_get (D := D9) (ci := 6) (C := R_Wm) (T := F_Wm) (N := 7) hx hb hts i_Wm hown hK hP 0 ww_0 rfl 0 (by decide) (hts _ g_222) (fun _ h9 => h9) rfl d_Wm_feed_24 ?_
    refine lv_iload_n hx hb d_Wm_feed_27 rfl (lv_at hl 1 rfl) ?_
    refine mw_cVN (ci := 0) (k := 1) C0 (m_By_putFourL_tp l D9 cB cI cJ cG a O _ _ t 0 v1 hT hT2 (by omega)) g_452 g_2 g_449 g_451 gs_By_putFour ⟨by decide +kernel, by decide +kernel, show Option.map (fun d => d.parameters.length) (parseMethodDescriptor y_By_putFour.desc) = some 1 by decide +kernel⟩ ⟨by decide, by decide⟩ rfl rfl hP hD hS hA rfl ww_1 hl.1 (Nat.le_of_ble_eq_true rfl) rfl d_Wm_feed_28 ⟨by decide, by decide⟩ (fun v9 w9 H locs hq hP hD hS => ?_)
    obtain ⟨I2, F3, hw9, q4⟩ := hq
    subst hw9
    obtain ⟨rfl, spa, za, sqa, wa⟩ := q4
    have hlena : (t ++ b4 v1).length = t.length + 4 := by rw [List.length_append]; rfl
    rw [← hlena] at za
    refine lv_aload_n hx hb d_Wm_feed_31 rfl (lv_at hl 0 rfl) ?_
    refine va_get (D := D9) (ci := 6) (C := R_Wm) (T := F_Wm) (N := 7) hx hb hts i_Wm hown hK hP 0 ww_0 rfl 0 (by decide) (hts _ g_222) (fun _ h9 => h9) rfl d_Wm_feed_32 ?_
    refine lv_iload_n hx hb d_Wm_feed_35 rfl (lv_at hl 2 rfl) ?_
    refine mw_cVN (ci := 0) (k := 1) C0 (m_By_putFourL_tp l D9 cB cI cJ cG a O _ _ (t ++ b4 v1) 0 v2 wa za (by omega)) g_452 g_2 g_449 g_451 gs_By_putFour ⟨by decide +kernel, by decide +kernel, show Option.map (fun d => d.parameters.length) (parseMethodDescriptor y_By_putFour.desc) = some 1 by decide +kernel⟩ ⟨by decide, by decide⟩ rfl rfl hP hD hS hA rfl ww_1 hl.1 (Nat.le_of_ble_eq_true rfl) rfl d_Wm_feed_36 ⟨by decide, by decide⟩ (fun v9 w9 H locs hq hP hD hS => ?_)
    obtain ⟨I5, F6, hw9, q7⟩ := hq
    subst hw9
    obtain ⟨rfl, spb, zb, sqb, wb⟩ := q7
    have hlenb : (t ++ b4 v1 ++ b4 v2).length = (t ++ b4 v1).length + 4 := by rw [List.length_append]; rfl
    rw [← hlenb] at zb
    refine lv_aload_n hx hb d_Wm_feed_39 rfl (lv_at hl 0 rfl) ?_
    refine va_get (D := D9) (ci := 6) (C := R_Wm) (T := F_Wm) (N := 7) hx hb hts i_Wm hown hK hP 0 ww_0 rfl 0 (by decide) (hts _ g_222) (fun _ h9 => h9) rfl d_Wm_feed_40 ?_
    refine lv_iload_n hx hb d_Wm_feed_43 rfl (lv_at hl 3 rfl) ?_
    refine mw_cVN (ci := 0) (k := 1) C0 (m_By_putFourL_tp l D9 cB cI cJ cG a O _ _ (t ++ b4 v1 ++ b4 v2) 0 v3 wb zb (by omega)) g_452 g_2 g_449 g_451 gs_By_putFour ⟨by decide +kernel, by decide +kernel, show Option.map (fun d => d.parameters.length) (parseMethodDescriptor y_By_putFour.desc) = some 1 by decide +kernel⟩ ⟨by decide, by decide⟩ rfl rfl hP hD hS hA rfl ww_1 hl.1 (Nat.le_of_ble_eq_true rfl) rfl d_Wm_feed_44 ⟨by decide, by decide⟩ (fun v9 w9 H locs hq hP hD hS => ?_)
    obtain ⟨I8, F9, hw9, q10⟩ := hq
    subst hw9
    obtain ⟨rfl, spc, zc, sqc, wc⟩ := q10
    have hlenc : (t ++ b4 v1 ++ b4 v2 ++ b4 v3).length = (t ++ b4 v1 ++ b4 v2).length + 4 := by rw [List.length_append]; rfl
    rw [← hlenc] at zc
    refine lv_aload_n hx hb d_Wm_feed_47 rfl (lv_at hl 0 rfl) ?_
    refine va_get (D := D9) (ci := 6) (C := R_Wm) (T := F_Wm) (N := 7) hx hb hts i_Wm hown hK hP 0 ww_0 rfl 0 (by decide) (hts _ g_222) (fun _ h9 => h9) rfl d_Wm_feed_48 ?_
    refine lv_iload hx hb d_Wm_feed_51 (lv_at hl 4 rfl) ?_
    refine mw_cVN (ci := 0) (k := 1) C0 (m_By_putFourL_tp l D9 cB cI cJ cG a O _ _ (t ++ b4 v1 ++ b4 v2 ++ b4 v3) 0 v4 wc zc (by omega)) g_452 g_2 g_449 g_451 gs_By_putFour ⟨by decide +kernel, by decide +kernel, show Option.map (fun d => d.parameters.length) (parseMethodDescriptor y_By_putFour.desc) = some 1 by decide +kernel⟩ ⟨by decide, by decide⟩ rfl rfl hP hD hS hA rfl ww_1 hl.1 (Nat.le_of_ble_eq_true rfl) rfl d_Wm_feed_53 ⟨by decide, by decide⟩ (fun v9 w9 H locs hq hP hD hS => ?_)
    obtain ⟨I11, F12, hw9, q13⟩ := hq
    subst hw9
    obtain ⟨rfl, spd, zd, sqd, wd⟩ := q13
    have hlend : (t ++ b4 v1 ++ b4 v2 ++ b4 v3 ++ b4 v4).length = (t ++ b4 v1 ++ b4 v2 ++ b4 v3).length + 4 := by rw [List.length_append]; rfl
    rw [← hlend] at zd
    refine lv_aload_n hx hb d_Wm_feed_56 rfl (lv_at hl 0 rfl) ?_
    refine va_get (D := D9) (ci := 6) (C := R_Wm) (T := F_Wm) (N := 7) hx hb hts i_Wm hown hK hP 0 ww_0 rfl 0 (by decide) (hts _ g_222) (fun _ h9 => h9) rfl d_Wm_feed_57 ?_
    refine lv_iload hx hb d_Wm_feed_60 (lv_at hl 5 rfl) ?_
    refine mw_cVN (ci := 0) (k := 1) C0 (m_By_putFourL_tp l D9 cB cI cJ cG a O _ _ (t ++ b4 v1 ++ b4 v2 ++ b4 v3 ++ b4 v4) 0 v5 wd zd (by omega)) g_452 g_2 g_449 g_451 gs_By_putFour ⟨by decide +kernel, by decide +kernel, show Option.map (fun d => d.parameters.length) (parseMethodDescriptor y_By_putFour.desc) = some 1 by decide +kernel⟩ ⟨by decide, by decide⟩ rfl rfl hP hD hS hA rfl ww_1 hl.1 (Nat.le_of_ble_eq_true rfl) rfl d_Wm_feed_62 ⟨by decide, by decide⟩ (fun v9 w9 H locs hq hP hD hS => ?_)
    obtain ⟨I14, F15, hw9, q16⟩ := hq
    subst hw9
    obtain ⟨rfl, spe, ze, sqe, we⟩ := q16
    have hlene : (t ++ b4 v1 ++ b4 v2 ++ b4 v3 ++ b4 v4 ++ b4 v5).length = (t ++ b4 v1 ++ b4 v2 ++ b4 v3 ++ b4 v4).length + 4 := by rw [List.length_append]; rfl
    rw [← hlene] at ze
    refine lv_aload_n hx hb d_Wm_feed_65 rfl (lv_at hl 0 rfl) ?_
    refine va_get (D := D9) (ci := 6) (C := R_Wm) (T := F_Wm) (N := 7) hx hb hts i_Wm hown hK hP 0 ww_0 rfl 0 (by decide) (hts _ g_222) (fun _ h9 => h9) rfl d_Wm_feed_66 ?_
    refine va_getN (D := D9) (ci := 0) (C := R_By) (T := F_By) (N := 2) hx hb hts i_By hown hK hP 1 ww_1 rfl 1 (by decide) (hts _ g_36) (fun _ h9 => h9) rfl d_Wm_feed_69 ?_
    refine lv_topq (y := nI ((t ++ b4 v1 ++ b4 v2 ++ b4 v3 ++ b4 v4 ++ b4 v5).length)) (ze) ?_
    exact hret _ _ _ _ _ _ _ hS hP hD d_Wm_feed_72 nr_i (⟨by omega, congrArg (fun z => some (Value.int (nI z))) (by omega), (sm_tr (sm_tr (sm_tr (sm_tr (sm_mo spa (by decide)) (sm_mo spb (by decide))) (sm_mo spc (by decide))) (sm_mo spd (by decide))) (sm_mo spe (by decide))), (ze).trans (congrArg nI (by omega)), (sm_tr (sm_tr (sm_tr (sm_tr (sm_mo sqa (by decide)) (sm_mo sqb (by decide))) (sm_mo sqc (by decide))) (sm_mo sqd (by decide))) (sm_mo sqe (by decide))), by simpa only [List.append_assoc] using we⟩)
  · have c1 : ¬ (t.length + 20 ≤ 65536) := fun z9 => c1 ((nI_leI (a := t.length + 20) (b := 65536) (by omega) (by omega)).mpr z9)
    exact hthr "java/lang/IllegalStateException" 64 66 _ _ _ _ _ _ _ (by decide +kernel) at_Wm_66 g_384 g_12 hS hP hD hl.1 (Nat.le_of_ble_eq_true rfl) d_Wm_feed_15 d_Wm_feed_18 d_Wm_feed_19 d_Wm_feed_22 (⟨rfl, by omega, rfl, rfl⟩)
set_option maxHeartbeats 4000000 in
set_option maxRecDepth 100000 in
/-- end -/
theorem m_Wm_end (l : Launch) (D9 : va_G) (cB cI cJ cG : ClassId) (a : Nat → Nat) (O : Nat → Int64) (I : Nat → Int32) (F : Nat → Nat → Int32) (hfl : l.flags = pinnedFlags ++ [noTraceFlag]) (t : List Nat) (hT2 : I 2 = nI t.length) (htl : t.length ≤ 65536) (hT : BR 0 65536 (F 2) t) (x9 : Int32) : MZW l D9 cB cI cJ cG a O y_Wm_end b_Wm_end 2 (some .int) 6 [.ref (a 0), .int (x9)] I F (fun v I' F' => ∃ k, k ≤ t.length ∧ x9 = nI k ∧ v = some (.int x9) ∧ sm [2] I I' ∧ I' 2 = nI k ∧ F = F') (fun E I' F' => E = "java/lang/IllegalArgumentException" ∧ (∀ k, k ≤ t.length → x9 ≠ nI k) ∧ I = I' ∧ F = F') := by
  refine mzw_of hfl (by decide) (Nat.le_of_ble_eq_true rfl) (by decide) ?_
  intro p e s m below meth c ls A0 Q C0 hP hD hA hS hZ hl hret hthr hlv
  obtain ⟨hx, hb, hml, hr, hlocks, hown, hts, hK⟩ := id C0
  have hl : lv_has ls 2 [(0, .ref (a 0)), (1, .int (x9))] := hl
  rcases pk_ix x9 (n := t.length + 1) (by omega) with h9 | h9 | ⟨k, hk, rfl⟩
  · refine lv_iload_n hx hb d_Wm_end_0 rfl (lv_at hl 1 rfl) ?_
    refine lv_if_lt (tgt := 15) hx hb d_Wm_end_1 (by decide) (fun c1 => ?_) (fun c1 => ?_)
    · exact hthr "java/lang/IllegalArgumentException" 71 73 _ _ _ _ _ _ _ (by decide +kernel) at_Wm_73 g_466 g_13 hS hP hD hl.1 (Nat.le_of_ble_eq_true rfl) d_Wm_end_15 d_Wm_end_18 d_Wm_end_19 d_Wm_end_22 (⟨rfl, fun k hk z9 => by rw [z9] at h9; exact nI_pos (by omega) h9, rfl, rfl⟩)
    · exact absurd h9 c1
  · refine lv_iload_n hx hb d_Wm_end_0 rfl (lv_at hl 1 rfl) ?_
    refine lv_if_lt (tgt := 15) hx hb d_Wm_end_1 (by decide) (fun c2 => ?_) (fun c2 => ?_)
    · exact absurd (Int32.lt_of_le_of_lt (Int32.le_trans (nI_pos' (show t.length + 1 < 2 ^ 31 by omega)) h9) c2) (by decide)
    · refine lv_iload_n hx hb d_Wm_end_4 rfl (lv_at hl 1 rfl) ?_
      refine lv_aload_n hx hb d_Wm_end_5 rfl (lv_at hl 0 rfl) ?_
      refine va_get (D := D9) (ci := 6) (C := R_Wm) (T := F_Wm) (N := 7) hx hb hts i_Wm hown hK hP 0 ww_0 rfl 0 (by decide) (hts _ g_222) (fun _ h9 => h9) rfl d_Wm_end_6 ?_
      refine va_getN (D := D9) (ci := 0) (C := R_By) (T := F_By) (N := 2) hx hb hts i_By hown hK hP 1 ww_1 rfl 1 (by decide) (hts _ g_36) (fun _ h9 => h9) rfl d_Wm_end_9 ?_
      refine lv_topq (y := nI t.length) (hT2) ?_
      refine lv_icmp_le (tgt := 23) hx hb d_Wm_end_12 (by decide) (fun c3 => ?_) (fun c3 => ?_)
      · exact absurd (Int32.le_trans h9 c3) (nI_ge (by omega) (by omega))
      · exact hthr "java/lang/IllegalArgumentException" 71 73 _ _ _ _ _ _ _ (by decide +kernel) at_Wm_73 g_466 g_13 hS hP hD hl.1 (Nat.le_of_ble_eq_true rfl) d_Wm_end_15 d_Wm_end_18 d_Wm_end_19 d_Wm_end_22 (⟨rfl, fun k hk z9 => by rw [z9] at h9; exact nI_ge (b := t.length + 1) (by omega) (by omega) h9, rfl, rfl⟩)
  · refine lv_iload_n hx hb d_Wm_end_0 rfl (lv_at hl 1 rfl) ?_
    refine lv_if_lt (tgt := 15) hx hb d_Wm_end_1 (by decide) (fun c4 => ?_) (fun c4 => ?_)
    · have c4 : k < 0 := (nI_ltI (a := k) (b := 0) (by omega) (by omega)).mp c4
      exfalso; omega
    · have c4 : ¬ (k < 0) := fun z9 => c4 ((nI_ltI (a := k) (b := 0) (by omega) (by omega)).mpr z9)
      refine lv_iload_n hx hb d_Wm_end_4 rfl (lv_at hl 1 rfl) ?_
      refine lv_aload_n hx hb d_Wm_end_5 rfl (lv_at hl 0 rfl) ?_
      refine va_get (D := D9) (ci := 6) (C := R_Wm) (T := F_Wm) (N := 7) hx hb hts i_Wm hown hK hP 0 ww_0 rfl 0 (by decide) (hts _ g_222) (fun _ h9 => h9) rfl d_Wm_end_6 ?_
      refine va_getN (D := D9) (ci := 0) (C := R_By) (T := F_By) (N := 2) hx hb hts i_By hown hK hP 1 ww_1 rfl 1 (by decide) (hts _ g_36) (fun _ h9 => h9) rfl d_Wm_end_9 ?_
      refine lv_topq (y := nI t.length) (hT2) ?_
      refine lv_icmp_le (tgt := 23) hx hb d_Wm_end_12 (by decide) (fun c5 => ?_) (fun c5 => ?_)
      · have c5 : k ≤ t.length := (nI_leI (a := k) (b := t.length) (by omega) (by omega)).mp c5
        refine lv_aload_n hx hb d_Wm_end_23 rfl (lv_at hl 0 rfl) ?_
        refine va_get (D := D9) (ci := 6) (C := R_Wm) (T := F_Wm) (N := 7) hx hb hts i_Wm hown hK hP 0 ww_0 rfl 0 (by decide) (hts _ g_222) (fun _ h9 => h9) rfl d_Wm_end_24 ?_
        refine lv_iload_n hx hb d_Wm_end_27 rfl (lv_at hl 1 rfl) ?_
        refine va_putN (D := D9) (ty := .int) (ci := 0) (C := R_By) (T := F_By) (N := 2) hx hb hts i_By t_By t_By_ok n_By hown hK hP hD hS 1 ww_1 rfl 1 (by decide) (hts _ g_36) (fun _ h9 => h9) rfl (by decide +kernel) rfl rfl (Nat.le_of_ble_eq_true rfl) d_Wm_end_28 (fun H locs hP hD hS => ?_)
        obtain ⟨I6, aI6, sI6, hP, hD⟩ := fx (P := fun z => va_P D9 cls9 (WW a cB cI cJ cG z _ O) H ∧ va_D A0 (WW a cB cI cJ cG z _ O)) ⟨wp_2 hP, wd_2 hD⟩
        refine lv_iload_n hx hb d_Wm_end_31 rfl (lv_at hl 1 rfl) ?_
        exact hret _ _ _ _ _ _ _ hS hP hD d_Wm_end_32 nr_i (⟨k, by omega, rfl, rfl, (sm_mo sI6 (by decide)), aI6, rfl⟩)
      · have c5 : ¬ (k ≤ t.length) := fun z9 => c5 ((nI_leI (a := k) (b := t.length) (by omega) (by omega)).mpr z9)
        exfalso; omega
set_option maxHeartbeats 4000000 in
set_option maxRecDepth 100000 in
/-- read -/
theorem m_Wm_read (l : Launch) (D9 : va_G) (cB cI cJ cG : ClassId) (a : Nat → Nat) (O : Nat → Int64) (I : Nat → Int32) (F : Nat → Nat → Int32) (t : List Nat) (hT2 : I 2 = nI t.length) (htl : t.length ≤ 65536) (hT : BR 0 65536 (F 2) t) (hF4 : sb_Fit (F 4)) : MC l D9 cB cI cJ cG a O y_Wm_read b_Wm_read 2 (some .int) 8 [.ref (a 0)] I F (fun v I' F' => (∃ es c, rdM t = some (es, c) ∧ (∃ u : Int32, v = some (.int u)) ∧ sm [0, 1, 2, 3, 4, 5, 6, 7, 8, 9, 11, 12] I I' ∧ I' 1 = nI c ∧ okE es ∧ GaR F' es ∧ I' 3 = nI (fl es).length ∧ I' 11 = nI (t2 t 0) ∧ I' 12 = nI (t2 t 2) ∧ I' 2 = nI 0 ∧ sm [4, 5, 6, 7, 8, 9, 10, 12, 13, 14, 15, 16] F F') ∨ (rdM t = none ∧ (∃ u : Int32, v = some (.int u)) ∧ sm [0, 2, 3, 4, 5, 6, 7, 8, 9, 11, 12] I I' ∧ GaR F' [] ∧ I' 3 = nI (fl []).length ∧ I' 11 = nI 0 ∧ I' 12 = nI 0 ∧ I' 2 = nI 0 ∧ sm [4, 5, 6, 7, 8, 9, 10, 12, 13, 14, 15, 16] F F')) := by
  refine mc_of (by decide) (Nat.le_of_ble_eq_true rfl) ?_
  intro p e s m below meth c ls A0 Q C0 hP hD hA hS hl hret
  obtain ⟨hx, hb, hml, hr, hlocks, hown, hts, hK⟩ := id C0
  have hl : lv_has ls 2 [(0, .ref (a 0))] := hl
  refine lv_aload_n hx hb d_Wm_read_0 rfl (lv_at hl 0 rfl) ?_
  refine va_get (D := D9) (ci := 6) (C := R_Wm) (T := F_Wm) (N := 7) hx hb hts i_Wm hown hK hP 0 ww_0 rfl 2 (by decide) (hts _ g_224) (fun _ h9 => h9) rfl d_Wm_read_1 ?_
  refine mw_cVN (ci := 4) (k := 17) C0 (m_Re_takeMessage l D9 cB cI cJ cG a O _ _ t hT2 htl hT hF4) g_251 g_4 g_248 g_250 gs_Re_takeMessage ⟨by decide +kernel, by decide +kernel, show Option.map (fun d => d.parameters.length) (parseMethodDescriptor y_Re_takeMessage.desc) = some 0 by decide +kernel⟩ ⟨by decide, by decide⟩ rfl rfl hP hD hS hA rfl ww_17 hl.1 (Nat.le_of_ble_eq_true rfl) rfl d_Wm_read_4 ⟨by decide, by decide⟩ (fun v9 w9 H locs hq hP hD hS => ?_)
  obtain ⟨I1, F2, hw9, q3⟩ := hq
  subst hw9
  rcases q3 with ⟨es, c9, hm, rfl, sI9, h7, hO, hG, h3, h11, h12, sF9⟩ | ⟨hm, ⟨x9, hx9, rfl⟩, sI9, hG, h3, h11, h12, sF9⟩
  · refine lv_istore_n (lv' := [(1, _), (0, _)]) hx hb d_Wm_read_7 rfl hl (by decide) rfl (fun ls hl => ?_)
    refine lv_aload_n hx hb d_Wm_read_8 rfl (lv_at hl 1 rfl) ?_
    refine lv_aload_n hx hb d_Wm_read_9 rfl (lv_at hl 1 rfl) ?_
    refine va_get (D := D9) (ci := 6) (C := R_Wm) (T := F_Wm) (N := 7) hx hb hts i_Wm hown hK hP 0 ww_0 rfl 2 (by decide) (hts _ g_224) (fun _ h9 => h9) rfl d_Wm_read_10 ?_
    refine va_getN (D := D9) (ci := 4) (C := R_Re) (T := F_Re) (N := 8) hx hb hts i_Re hown hK hP 17 ww_17 rfl 3 (by decide) (hts _ g_124) (fun _ h9 => h9) rfl d_Wm_read_13 ?_
    refine va_put (D := D9) (ty := .int) (ci := 6) (C := R_Wm) (T := F_Wm) (N := 7) hx hb hts i_Wm t_Wm t_Wm_ok n_Wm hown hK hP hD hS 0 ww_0 rfl 5 (by decide) (hts _ g_227) (fun _ h9 => h9) rfl (by decide +kernel) rfl rfl (Nat.le_of_ble_eq_true rfl) d_Wm_read_16 (fun H locs hP hD hS => ?_)
    obtain ⟨I4, aI4, sI4, hP, hD⟩ := fx (P := fun z => va_P D9 cls9 (WW a cB cI cJ cG z _ O) H ∧ va_D A0 (WW a cB cI cJ cG z _ O)) ⟨wp_0 hP, wd_0 hD⟩
    refine lv_iload_n hx hb d_Wm_read_19 rfl (lv_at hl 0 rfl) ?_
    refine lv_if_ne (tgt := 34) hx hb d_Wm_read_20 (by decide) (fun c5 => ?_) (fun c5 => ?_)
    · exact absurd c5 (by decide)
    · refine lv_aload_n hx hb d_Wm_read_23 rfl (lv_at hl 1 rfl) ?_
      refine lv_aload_n hx hb d_Wm_read_24 rfl (lv_at hl 1 rfl) ?_
      refine va_get (D := D9) (ci := 6) (C := R_Wm) (T := F_Wm) (N := 7) hx hb hts i_Wm hown hK hP 0 ww_0 rfl 2 (by decide) (hts _ g_224) (fun _ h9 => h9) rfl d_Wm_read_25 ?_
      refine va_getN (D := D9) (ci := 4) (C := R_Re) (T := F_Re) (N := 8) hx hb hts i_Re hown hK hP 17 ww_17 rfl 5 (by decide) (hts _ g_127) (fun _ h9 => h9) rfl d_Wm_read_28 ?_
      refine lv_topq (y := nI c9) (((sI4 7 (by decide)).trans h7)) ?_
      refine va_put (D := D9) (ty := .int) (ci := 6) (C := R_Wm) (T := F_Wm) (N := 7) hx hb hts i_Wm t_Wm t_Wm_ok n_Wm hown hK hP hD hS 0 ww_0 rfl 6 (by decide) (hts _ g_228) (fun _ h9 => h9) rfl (by decide +kernel) rfl rfl (Nat.le_of_ble_eq_true rfl) d_Wm_read_31 (fun H locs hP hD hS => ?_)
      obtain ⟨I6, aI6, sI6, hP, hD⟩ := fx (P := fun z => va_P D9 cls9 (WW a cB cI cJ cG z _ O) H ∧ va_D A0 (WW a cB cI cJ cG z _ O)) ⟨wp_1 hP, wd_1 hD⟩
      refine lv_aload_n hx hb d_Wm_read_34 rfl (lv_at hl 1 rfl) ?_
      refine va_get (D := D9) (ci := 6) (C := R_Wm) (T := F_Wm) (N := 7) hx hb hts i_Wm hown hK hP 0 ww_0 rfl 0 (by decide) (hts _ g_222) (fun _ h9 => h9) rfl d_Wm_read_35 ?_
      refine lv_iconst (v := 0) hx hb d_Wm_read_38 (by decide) ?_
      refine lv_topq (y := nI 0) (rfl) ?_
      refine va_putN (D := D9) (ty := .int) (ci := 0) (C := R_By) (T := F_By) (N := 2) hx hb hts i_By t_By t_By_ok n_By hown hK hP hD hS 1 ww_1 rfl 1 (by decide) (hts _ g_36) (fun _ h9 => h9) rfl (by decide +kernel) rfl rfl (Nat.le_of_ble_eq_true rfl) d_Wm_read_39 (fun H locs hP hD hS => ?_)
      obtain ⟨I7, aI7, sI7, hP, hD⟩ := fx (P := fun z => va_P D9 cls9 (WW a cB cI cJ cG z _ O) H ∧ va_D A0 (WW a cB cI cJ cG z _ O)) ⟨wp_2 hP, wd_2 hD⟩
      refine lv_iload_n hx hb d_Wm_read_42 rfl (lv_at hl 0 rfl) ?_
      exact hret _ _ _ _ _ _ _ hS hP hD d_Wm_read_43 nr_i (Or.inl ⟨es, c9, hm, ⟨_, rfl⟩, (sm_tr (sm_tr (sm_tr (sm_mo sI9 (by decide)) (sm_mo sI4 (by decide))) (sm_mo sI6 (by decide))) (sm_mo sI7 (by decide))), ((sI7 1 (by decide)).trans aI6), hO, hG, (((sI7 3 (by decide)).trans ((sI6 3 (by decide)).trans (sI4 3 (by decide)))).trans h3), (((sI7 11 (by decide)).trans ((sI6 11 (by decide)).trans (sI4 11 (by decide)))).trans h11), (((sI7 12 (by decide)).trans ((sI6 12 (by decide)).trans (sI4 12 (by decide)))).trans h12), aI7, (sm_mo sF9 (by decide))⟩)
  · refine lv_istore_n (lv' := [(1, _), (0, _)]) hx hb d_Wm_read_7 rfl hl (by decide) rfl (fun ls hl => ?_)
    refine lv_aload_n hx hb d_Wm_read_8 rfl (lv_at hl 1 rfl) ?_
    refine lv_aload_n hx hb d_Wm_read_9 rfl (lv_at hl 1 rfl) ?_
    refine va_get (D := D9) (ci := 6) (C := R_Wm) (T := F_Wm) (N := 7) hx hb hts i_Wm hown hK hP 0 ww_0 rfl 2 (by decide) (hts _ g_224) (fun _ h9 => h9) rfl d_Wm_read_10 ?_
    refine va_getN (D := D9) (ci := 4) (C := R_Re) (T := F_Re) (N := 8) hx hb hts i_Re hown hK hP 17 ww_17 rfl 3 (by decide) (hts _ g_124) (fun _ h9 => h9) rfl d_Wm_read_13 ?_
    refine va_put (D := D9) (ty := .int) (ci := 6) (C := R_Wm) (T := F_Wm) (N := 7) hx hb hts i_Wm t_Wm t_Wm_ok n_Wm hown hK hP hD hS 0 ww_0 rfl 5 (by decide) (hts _ g_227) (fun _ h9 => h9) rfl (by decide +kernel) rfl rfl (Nat.le_of_ble_eq_true rfl) d_Wm_read_16 (fun H locs hP hD hS => ?_)
    obtain ⟨I8, aI8, sI8, hP, hD⟩ := fx (P := fun z => va_P D9 cls9 (WW a cB cI cJ cG z _ O) H ∧ va_D A0 (WW a cB cI cJ cG z _ O)) ⟨wp_0 hP, wd_0 hD⟩
    refine lv_iload_n hx hb d_Wm_read_19 rfl (lv_at hl 0 rfl) ?_
    refine lv_if_ne (tgt := 34) hx hb d_Wm_read_20 (by decide) (fun c9 => ?_) (fun c9 => ?_)
    · refine lv_aload_n hx hb d_Wm_read_34 rfl (lv_at hl 1 rfl) ?_
      refine va_get (D := D9) (ci := 6) (C := R_Wm) (T := F_Wm) (N := 7) hx hb hts i_Wm hown hK hP 0 ww_0 rfl 0 (by decide) (hts _ g_222) (fun _ h9 => h9) rfl d_Wm_read_35 ?_
      refine lv_iconst (v := 0) hx hb d_Wm_read_38 (by decide) ?_
      refine lv_topq (y := nI 0) (rfl) ?_
      refine va_putN (D := D9) (ty := .int) (ci := 0) (C := R_By) (T := F_By) (N := 2) hx hb hts i_By t_By t_By_ok n_By hown hK hP hD hS 1 ww_1 rfl 1 (by decide) (hts _ g_36) (fun _ h9 => h9) rfl (by decide +kernel) rfl rfl (Nat.le_of_ble_eq_true rfl) d_Wm_read_39 (fun H locs hP hD hS => ?_)
      obtain ⟨I10, aI10, sI10, hP, hD⟩ := fx (P := fun z => va_P D9 cls9 (WW a cB cI cJ cG z _ O) H ∧ va_D A0 (WW a cB cI cJ cG z _ O)) ⟨wp_2 hP, wd_2 hD⟩
      refine lv_iload_n hx hb d_Wm_read_42 rfl (lv_at hl 0 rfl) ?_
      exact hret _ _ _ _ _ _ _ hS hP hD d_Wm_read_43 nr_i (Or.inr ⟨hm, ⟨_, rfl⟩, (sm_tr (sm_tr (sm_mo sI9 (by decide)) (sm_mo sI8 (by decide))) (sm_mo sI10 (by decide))), hG, (((sI10 3 (by decide)).trans (sI8 3 (by decide))).trans h3), (((sI10 11 (by decide)).trans (sI8 11 (by decide))).trans h11), (((sI10 12 (by decide)).trans (sI8 12 (by decide))).trans h12), aI10, (sm_mo sF9 (by decide))⟩)
    · exact absurd c9 hx9
set_option maxHeartbeats 4000000 in
set_option maxRecDepth 100000 in
/-- faultAt -/
theorem m_Wm_faultAt (l : Launch) (D9 : va_G) (cB cI cJ cG : ClassId) (a : Nat → Nat) (O : Nat → Int64) (I : Nat → Int32) (F : Nat → Nat → Int32)  : MC l D9 cB cI cJ cG a O y_Wm_faultAt b_Wm_faultAt 1 (some .int) 0 [.ref (a 0)] I F (fun v I' F' => (∃ u : Int32, v = some (.int u)) ∧ I = I' ∧ F = F') := by
  refine mc_of (by decide) (Nat.le_of_ble_eq_true rfl) ?_
  intro p e s m below meth c ls A0 Q C0 hP hD hA hS hl hret
  obtain ⟨hx, hb, hml, hr, hlocks, hown, hts, hK⟩ := id C0
  have hl : lv_has ls 1 [(0, .ref (a 0))] := hl
  refine lv_aload_n hx hb d_Wm_faultAt_0 rfl (lv_at hl 0 rfl) ?_
  refine va_get (D := D9) (ci := 6) (C := R_Wm) (T := F_Wm) (N := 7) hx hb hts i_Wm hown hK hP 0 ww_0 rfl 5 (by decide) (hts _ g_227) (fun _ h9 => h9) rfl d_Wm_faultAt_1 ?_
  exact hret _ _ _ _ _ _ _ hS hP hD d_Wm_faultAt_4 nr_i (⟨⟨_, rfl⟩, rfl, rfl⟩)
set_option maxHeartbeats 4000000 in
set_option maxRecDepth 100000 in
/-- begin -/
theorem m_Wm_begin (l : Launch) (D9 : va_G) (cB cI cJ cG : ClassId) (a : Nat → Nat) (O : Nat → Int64) (I : Nat → Int32) (F : Nat → Nat → Int32) (v1 v2 : Int32) (hF4 : sb_Fit (F 4)) : MC l D9 cB cI cJ cG a O y_Wm_begin b_Wm_begin 3 (none) 1 [.ref (a 0), .int (v1), .int (v2)] I F (fun v I' F' => v = none ∧ sm [3, 11, 12] I I' ∧ I' 11 = nI (un v1 % 65536) ∧ I' 12 = nI (un v2 % 65536) ∧ I' 3 = nI 0 ∧ sm [16] F F' ∧ GaR F' []) := by
  refine mc_ofv (by decide) (Nat.le_of_ble_eq_true rfl) ?_
  intro p e s m below meth c ls A0 Q C0 hP hD hA hS hl hret
  obtain ⟨hx, hb, hml, hr, hlocks, hown, hts, hK⟩ := id C0
  have hl : lv_has ls 3 [(0, .ref (a 0)), (1, .int (v1)), (2, .int (v2))] := hl
  refine lv_aload_n hx hb d_Wm_begin_0 rfl (lv_at hl 0 rfl) ?_
  refine va_get (D := D9) (ci := 6) (C := R_Wm) (T := F_Wm) (N := 7) hx hb hts i_Wm hown hK hP 0 ww_0 rfl 1 (by decide) (hts _ g_223) (fun _ h9 => h9) rfl d_Wm_begin_1 ?_
  refine lv_iload_n hx hb d_Wm_begin_4 rfl (lv_at hl 1 rfl) ?_
  refine lv_ldc hx hb hown (hts _ g_369) d_Wm_begin_5 ?_
  refine lv_topq (y := nI 65535) (rfl) ?_
  refine lv_iand hx hb d_Wm_begin_7 ?_
  refine lv_topq (y := nI (un v1 % 65536)) (lo16 _ rfl) ?_
  refine lv_iload_n hx hb d_Wm_begin_8 rfl (lv_at hl 2 rfl) ?_
  refine lv_ldc hx hb hown (hts _ g_369) d_Wm_begin_9 ?_
  refine lv_topq (y := nI 65535) (rfl) ?_
  refine lv_iand hx hb d_Wm_begin_11 ?_
  refine lv_topq (y := nI (un v2 % 65536)) (lo16 _ rfl) ?_
  refine mw_cVN (ci := 2) (k := 19) C0 (m_Ga_startAnew l D9 cB cI cJ cG a O _ _ [] (nI (un v1 % 65536)) (nI (un v2 % 65536)) hF4) g_263 g_3 g_370 g_262 gs_Ga_startAnew ⟨by decide +kernel, by decide +kernel, show Option.map (fun d => d.parameters.length) (parseMethodDescriptor y_Ga_startAnew.desc) = some 2 by decide +kernel⟩ ⟨by decide, by decide⟩ rfl rfl hP hD hS hA rfl ww_19 hl.1 (Nat.le_of_ble_eq_true rfl) rfl d_Wm_begin_12 ⟨by decide, by decide⟩ (fun v9 w9 H locs hq hP hD hS => ?_)
  obtain ⟨I1, F2, hw9, q3⟩ := hq
  subst hw9
  obtain ⟨rfl, sa, u11, u12, u3, sb, hGa⟩ := q3
  exact hret _ _ _ _ _ _ hS hP hD d_Wm_begin_15 (⟨rfl, (sm_mo sa (by decide)), u11, u12, u3, (sm_mo sb (by decide)), hGa⟩)
