/-! THE REFERENCE: read -/
theorem g_740 : (Cond.fieldLink "WireMessagesModel" (134 : Nat) "WireMessagesModel" "lastFollowed" "I") ∈ GT := gt_mem 740 (by decide +kernel) rfl
theorem g_817 : (Cond.methodLink "WireMessagesModel" (128 : Nat) ({ cls := "WireMessagesModel", name := "none", desc := "()V" } : MethodName)) ∈ GT := gt_mem 817 (by decide +kernel) rfl
theorem g_819 : (Cond.instanceMethod ({ cls := "WireMessagesModel", name := "none", desc := "()V" } : MethodName)) ∈ GT := gt_mem 819 (by decide +kernel) rfl
theorem g_820 : (Cond.code ({ cls := "WireMessagesModel", name := "none", desc := "()V" } : MethodName) prog_10_method_4_code (1 : Nat) (Option.none : Option FieldType)) ∈ GT := gt_mem 820 (by decide +kernel) rfl
theorem g_833 : (Cond.methodLink "WireMessagesModel" (131 : Nat) ({ cls := "WireMessagesModel", name := "entry", desc := "(I)V" } : MethodName)) ∈ GT := gt_mem 833 (by decide +kernel) rfl
theorem g_835 : (Cond.instanceMethod ({ cls := "WireMessagesModel", name := "entry", desc := "(I)V" } : MethodName)) ∈ GT := gt_mem 835 (by decide +kernel) rfl
theorem g_836 : (Cond.code ({ cls := "WireMessagesModel", name := "entry", desc := "(I)V" } : MethodName) prog_10_method_15_code (6 : Nat) (Option.none : Option FieldType)) ∈ GT := gt_mem 836 (by decide +kernel) rfl
theorem gs_Mo_none : Cond.selects R_Mo y_Mo_none y_Mo_none ∈ GT := gt_sel (q := (⟨"WireMessagesModel", "none", "()V"⟩, 30)) (by decide +kernel)
theorem gs_Mo_entry : Cond.selects R_Mo y_Mo_entry y_Mo_entry ∈ GT := gt_sel (q := (⟨"WireMessagesModel", "entry", "(I)V"⟩, 30)) (by decide +kernel)
theorem d_Mo_read_0 : decode b_Mo_read 0 = .ok (.aload_n 0, 1) := by decide +kernel
theorem d_Mo_read_1 : decode b_Mo_read 1 = .ok (.iconst 0, 1) := by decide +kernel
theorem d_Mo_read_2 : decode b_Mo_read 2 = .ok (.putfield 61, 3) := by decide +kernel
theorem d_Mo_read_5 : decode b_Mo_read 5 = .ok (.aload_n 0, 1) := by decide +kernel
theorem d_Mo_read_6 : decode b_Mo_read 6 = .ok (.invokevirtual 128, 3) := by decide +kernel
theorem d_Mo_read_9 : decode b_Mo_read 9 = .ok (.aload_n 0, 1) := by decide +kernel
theorem d_Mo_read_10 : decode b_Mo_read 10 = .ok (.iconst 0, 1) := by decide +kernel
theorem d_Mo_read_11 : decode b_Mo_read 11 = .ok (.putfield 80, 3) := by decide +kernel
theorem d_Mo_read_14 : decode b_Mo_read 14 = .ok (.aload_n 0, 1) := by decide +kernel
theorem d_Mo_read_15 : decode b_Mo_read 15 = .ok (.iconst (-1), 1) := by decide +kernel
theorem d_Mo_read_16 : decode b_Mo_read 16 = .ok (.putfield 43, 3) := by decide +kernel
theorem d_Mo_read_19 : decode b_Mo_read 19 = .ok (.aload_n 0, 1) := by decide +kernel
theorem d_Mo_read_20 : decode b_Mo_read 20 = .ok (.iconst 0, 1) := by decide +kernel
theorem d_Mo_read_21 : decode b_Mo_read 21 = .ok (.putfield 109, 3) := by decide +kernel
theorem d_Mo_read_24 : decode b_Mo_read 24 = .ok (.aload_n 0, 1) := by decide +kernel
theorem d_Mo_read_25 : decode b_Mo_read 25 = .ok (.bipush 12, 2) := by decide +kernel
theorem d_Mo_read_27 : decode b_Mo_read 27 = .ok (.putfield 99, 3) := by decide +kernel
theorem d_Mo_read_30 : decode b_Mo_read 30 = .ok (.aload_n 0, 1) := by decide +kernel
theorem d_Mo_read_31 : decode b_Mo_read 31 = .ok (.getfield 86, 3) := by decide +kernel
theorem d_Mo_read_34 : decode b_Mo_read 34 = .ok (.bipush 12, 2) := by decide +kernel
theorem d_Mo_read_36 : decode b_Mo_read 36 = .ok (.if_icmp .ge 9, 3) := by decide +kernel
theorem d_Mo_read_39 : decode b_Mo_read 39 = .ok (.aload_n 0, 1) := by decide +kernel
theorem d_Mo_read_40 : decode b_Mo_read 40 = .ok (.iconst 1, 1) := by decide +kernel
theorem d_Mo_read_41 : decode b_Mo_read 41 = .ok (.iconst 0, 1) := by decide +kernel
theorem d_Mo_read_42 : decode b_Mo_read 42 = .ok (.invokevirtual 89, 3) := by decide +kernel
theorem d_Mo_read_45 : decode b_Mo_read 45 = .ok (.iconst 0, 1) := by decide +kernel
theorem d_Mo_read_46 : decode b_Mo_read 46 = .ok (.istore_n 1, 1) := by decide +kernel
theorem d_Mo_read_47 : decode b_Mo_read 47 = .ok (.iload_n 1, 1) := by decide +kernel
theorem d_Mo_read_48 : decode b_Mo_read 48 = .ok (.iconst 4, 1) := by decide +kernel
theorem d_Mo_read_49 : decode b_Mo_read 49 = .ok (.if_icmp .ge 55, 3) := by decide +kernel
theorem d_Mo_read_52 : decode b_Mo_read 52 = .ok (.aload_n 0, 1) := by decide +kernel
theorem d_Mo_read_53 : decode b_Mo_read 53 = .ok (.getfield 80, 3) := by decide +kernel
theorem d_Mo_read_56 : decode b_Mo_read 56 = .ok (.ifCond .le 7, 3) := by decide +kernel
theorem d_Mo_read_59 : decode b_Mo_read 59 = .ok (.iconst 0, 1) := by decide +kernel
theorem d_Mo_read_60 : decode b_Mo_read 60 = .ok (.goto 12, 3) := by decide +kernel
theorem d_Mo_read_63 : decode b_Mo_read 63 = .ok (.aload_n 0, 1) := by decide +kernel
theorem d_Mo_read_64 : decode b_Mo_read 64 = .ok (.iconst 4, 1) := by decide +kernel
theorem d_Mo_read_65 : decode b_Mo_read 65 = .ok (.iconst 2, 1) := by decide +kernel
theorem d_Mo_read_66 : decode b_Mo_read 66 = .ok (.iload_n 1, 1) := by decide +kernel
theorem d_Mo_read_67 : decode b_Mo_read 67 = .ok (.imul, 1) := by decide +kernel
theorem d_Mo_read_68 : decode b_Mo_read 68 = .ok (.iadd, 1) := by decide +kernel
theorem d_Mo_read_69 : decode b_Mo_read 69 = .ok (.invokevirtual 106, 3) := by decide +kernel
theorem d_Mo_read_72 : decode b_Mo_read 72 = .ok (.istore_n 2, 1) := by decide +kernel
theorem d_Mo_read_73 : decode b_Mo_read 73 = .ok (.iconst 0, 1) := by decide +kernel
theorem d_Mo_read_74 : decode b_Mo_read 74 = .ok (.istore_n 3, 1) := by decide +kernel
theorem d_Mo_read_75 : decode b_Mo_read 75 = .ok (.iload_n 3, 1) := by decide +kernel
theorem d_Mo_read_76 : decode b_Mo_read 76 = .ok (.iload_n 2, 1) := by decide +kernel
theorem d_Mo_read_77 : decode b_Mo_read 77 = .ok (.if_icmp .ge 21, 3) := by decide +kernel
theorem d_Mo_read_80 : decode b_Mo_read 80 = .ok (.aload_n 0, 1) := by decide +kernel
theorem d_Mo_read_81 : decode b_Mo_read 81 = .ok (.getfield 80, 3) := by decide +kernel
theorem d_Mo_read_84 : decode b_Mo_read 84 = .ok (.ifCond .ne 14, 3) := by decide +kernel
theorem d_Mo_read_87 : decode b_Mo_read 87 = .ok (.aload_n 0, 1) := by decide +kernel
theorem d_Mo_read_88 : decode b_Mo_read 88 = .ok (.iload_n 1, 1) := by decide +kernel
theorem d_Mo_read_89 : decode b_Mo_read 89 = .ok (.invokevirtual 131, 3) := by decide +kernel
theorem d_Mo_read_92 : decode b_Mo_read 92 = .ok (.iinc 3 1, 3) := by decide +kernel
theorem d_Mo_read_95 : decode b_Mo_read 95 = .ok (.goto (-20), 3) := by decide +kernel
theorem d_Mo_read_98 : decode b_Mo_read 98 = .ok (.iinc 1 1, 3) := by decide +kernel
theorem d_Mo_read_101 : decode b_Mo_read 101 = .ok (.goto (-54), 3) := by decide +kernel
theorem d_Mo_read_104 : decode b_Mo_read 104 = .ok (.aload_n 0, 1) := by decide +kernel
theorem d_Mo_read_105 : decode b_Mo_read 105 = .ok (.getfield 80, 3) := by decide +kernel
theorem d_Mo_read_108 : decode b_Mo_read 108 = .ok (.ifCond .ne 24, 3) := by decide +kernel
theorem d_Mo_read_111 : decode b_Mo_read 111 = .ok (.aload_n 0, 1) := by decide +kernel
theorem d_Mo_read_112 : decode b_Mo_read 112 = .ok (.getfield 99, 3) := by decide +kernel
theorem d_Mo_read_115 : decode b_Mo_read 115 = .ok (.aload_n 0, 1) := by decide +kernel
theorem d_Mo_read_116 : decode b_Mo_read 116 = .ok (.getfield 86, 3) := by decide +kernel
theorem d_Mo_read_119 : decode b_Mo_read 119 = .ok (.if_icmp .ge 13, 3) := by decide +kernel
theorem d_Mo_read_122 : decode b_Mo_read 122 = .ok (.aload_n 0, 1) := by decide +kernel
theorem d_Mo_read_123 : decode b_Mo_read 123 = .ok (.bipush 6, 2) := by decide +kernel
theorem d_Mo_read_125 : decode b_Mo_read 125 = .ok (.aload_n 0, 1) := by decide +kernel
theorem d_Mo_read_126 : decode b_Mo_read 126 = .ok (.getfield 99, 3) := by decide +kernel
theorem d_Mo_read_129 : decode b_Mo_read 129 = .ok (.invokevirtual 89, 3) := by decide +kernel
theorem d_Mo_read_132 : decode b_Mo_read 132 = .ok (.aload_n 0, 1) := by decide +kernel
theorem d_Mo_read_133 : decode b_Mo_read 133 = .ok (.getfield 80, 3) := by decide +kernel
theorem d_Mo_read_136 : decode b_Mo_read 136 = .ok (.ifCond .ne 32, 3) := by decide +kernel
theorem d_Mo_read_139 : decode b_Mo_read 139 = .ok (.aload_n 0, 1) := by decide +kernel
theorem d_Mo_read_140 : decode b_Mo_read 140 = .ok (.aload_n 0, 1) := by decide +kernel
theorem d_Mo_read_141 : decode b_Mo_read 141 = .ok (.iconst 0, 1) := by decide +kernel
theorem d_Mo_read_142 : decode b_Mo_read 142 = .ok (.invokevirtual 106, 3) := by decide +kernel
theorem d_Mo_read_145 : decode b_Mo_read 145 = .ok (.putfield 70, 3) := by decide +kernel
theorem d_Mo_read_148 : decode b_Mo_read 148 = .ok (.aload_n 0, 1) := by decide +kernel
theorem d_Mo_read_149 : decode b_Mo_read 149 = .ok (.aload_n 0, 1) := by decide +kernel
theorem d_Mo_read_150 : decode b_Mo_read 150 = .ok (.iconst 2, 1) := by decide +kernel
theorem d_Mo_read_151 : decode b_Mo_read 151 = .ok (.invokevirtual 106, 3) := by decide +kernel
theorem d_Mo_read_154 : decode b_Mo_read 154 = .ok (.putfield 73, 3) := by decide +kernel
theorem d_Mo_read_157 : decode b_Mo_read 157 = .ok (.aload_n 0, 1) := by decide +kernel
theorem d_Mo_read_158 : decode b_Mo_read 158 = .ok (.aload_n 0, 1) := by decide +kernel
theorem d_Mo_read_159 : decode b_Mo_read 159 = .ok (.getfield 109, 3) := by decide +kernel
theorem d_Mo_read_162 : decode b_Mo_read 162 = .ok (.putfield 134, 3) := by decide +kernel
theorem d_Mo_read_165 : decode b_Mo_read 165 = .ok (.goto 7, 3) := by decide +kernel
theorem d_Mo_read_168 : decode b_Mo_read 168 = .ok (.aload_n 0, 1) := by decide +kernel
theorem d_Mo_read_169 : decode b_Mo_read 169 = .ok (.invokevirtual 128, 3) := by decide +kernel
theorem d_Mo_read_172 : decode b_Mo_read 172 = .ok (.aload_n 0, 1) := by decide +kernel
theorem d_Mo_read_173 : decode b_Mo_read 173 = .ok (.iconst 0, 1) := by decide +kernel
theorem d_Mo_read_174 : decode b_Mo_read 174 = .ok (.putfield 86, 3) := by decide +kernel
theorem d_Mo_read_177 : decode b_Mo_read 177 = .ok (.aload_n 0, 1) := by decide +kernel
theorem d_Mo_read_178 : decode b_Mo_read 178 = .ok (.getfield 80, 3) := by decide +kernel
theorem d_Mo_read_181 : decode b_Mo_read 181 = .ok (.ireturn, 1) := by decide +kernel
set_option maxHeartbeats 4000000 in
set_option maxRecDepth 100000 in
/-- the reference: read -/
theorem m_Mo_read (l : Launch) (D9 : va_G) (cB cI cJ cG : ClassId) (a : Nat → Nat) (O : Nat → Int64) (I : Nat → Int32) (F : Nat → Nat → Int32) (t : List Nat) (hT : BR 0 65536 (F 34) t) (h16 : I 16 = nI t.length) (htl : t.length ≤ 65536) (hF35 : sb_Fit (F 35)) : MC l D9 cB cI cJ cG a O y_Mo_read b_Mo_read 4 (some .int) 5 [.ref (a 33)] I F (fun v I' F' => (∃ es c, rdM t = some (es, c) ∧ (∃ x : Int32, v = some (.int x)) ∧ sm [15, 16, 17, 18, 19, 20, 21, 22, 23, 24, 25, 26, 27] I I' ∧ I' 23 = nI c ∧ okE es ∧ MoR F' es ∧ I' 17 = nI (fl es).length ∧ I' 18 = nI es.length ∧ I' 19 = nI (t2 t 0) ∧ I' 20 = nI (t2 t 2) ∧ I' 16 = nI 0 ∧ I' 15 = nI 0 ∧ sm [35, 36, 37, 38, 39, 40, 41, 42, 43] F F') ∨ (rdM t = none ∧ (∃ x : Int32, v = some (.int x)) ∧ sm [15, 16, 17, 18, 19, 20, 21, 22, 24, 25, 26, 27] I I' ∧ MoR F' [] ∧ I' 17 = nI (fl []).length ∧ I' 18 = nI ([] : List En9).length ∧ I' 19 = nI 0 ∧ I' 20 = nI 0 ∧ I' 16 = nI 0 ∧ I' 15 = nI 0 ∧ sm [35, 36, 37, 38, 39, 40, 41, 42, 43] F F')) := by
  refine mc_of (by decide) (Nat.le_of_ble_eq_true rfl) ?_
  intro p e s m below meth c ls A0 Q C0 hP hD hA hS hl hret
  obtain ⟨hx, hb, hml, hr, hlocks, hown, hts, hK⟩ := id C0
  have hl : lv_has ls 4 [(0, .ref (a 33))] := hl
  refine lv_aload_n hx hb d_Mo_read_0 rfl (lv_at hl 0 rfl) ?_
  refine lv_iconst (v := 0) hx hb d_Mo_read_1 (by decide) ?_
  refine lv_topq (y := nI 0) (rfl) ?_
  refine va_put (D := D9) (ty := .int) (ci := 7) (C := R_Mo) (T := F_Mo) (N := 30) hx hb hts i_Mo t_Mo t_Mo_ok n_Mo hown hK hP hD hS 33 ww_33 rfl 0 (by decide) (hts _ g_722) (fun _ h9 => h9) rfl (by decide +kernel) rfl rfl (Nat.le_of_ble_eq_true rfl) d_Mo_read_2 (fun H locs hP hD hS => ?_)
  obtain ⟨I1, aI1, sI1, hP, hD⟩ := fx (P := fun z => va_P D9 cls9 (WW a cB cI cJ cG z _ O) H ∧ va_D A0 (WW a cB cI cJ cG z _ O)) ⟨wp_15 hP, wd_15 hD⟩
  refine lv_aload_n hx hb d_Mo_read_5 rfl (lv_at hl 0 rfl) ?_
  refine mw_cV (ci := 7) (k := 33) C0 (m_Mo_none l D9 cB cI cJ cG a O _ _ ) g_820 g_8 g_817 g_819 gs_Mo_none ⟨by decide +kernel, by decide +kernel, show Option.map (fun d => d.parameters.length) (parseMethodDescriptor y_Mo_none.desc) = some 0 by decide +kernel⟩ ⟨by decide, by decide⟩ rfl rfl hP hD hS hA rfl ww_33 hl.1 (Nat.le_of_ble_eq_true rfl) rfl d_Mo_read_6 ⟨by decide, by decide⟩ (fun v9 w9 H locs hq hP hD hS => ?_)
  obtain ⟨I2, F3, hw9, q4⟩ := hq
  subst hw9
  obtain ⟨rfl, sa2, u172, u182, u192, u202, rfl⟩ := q4
  refine lv_aload_n hx hb d_Mo_read_9 rfl (lv_at hl 0 rfl) ?_
  refine lv_iconst (v := 0) hx hb d_Mo_read_10 (by decide) ?_
  refine lv_topq (y := nI 0) (rfl) ?_
  refine va_put (D := D9) (ty := .int) (ci := 7) (C := R_Mo) (T := F_Mo) (N := 30) hx hb hts i_Mo t_Mo t_Mo_ok n_Mo hown hK hP hD hS 33 ww_33 rfl 19 (by decide) (hts _ g_741) (fun _ h9 => h9) rfl (by decide +kernel) rfl rfl (Nat.le_of_ble_eq_true rfl) d_Mo_read_11 (fun H locs hP hD hS => ?_)
  obtain ⟨I5, aI5, sI5, hP, hD⟩ := fx (P := fun z => va_P D9 cls9 (WW a cB cI cJ cG z _ O) H ∧ va_D A0 (WW a cB cI cJ cG z _ O)) ⟨wp_24 hP, wd_24 hD⟩
  refine lv_aload_n hx hb d_Mo_read_14 rfl (lv_at hl 0 rfl) ?_
  refine lv_iconst (v := -1) hx hb d_Mo_read_15 (by decide) ?_
  refine lv_topq (y := (-1 : Int32)) rfl ?_
  refine va_put (D := D9) (ty := .int) (ci := 7) (C := R_Mo) (T := F_Mo) (N := 30) hx hb hts i_Mo t_Mo t_Mo_ok n_Mo hown hK hP hD hS 33 ww_33 rfl 16 (by decide) (hts _ g_738) (fun _ h9 => h9) rfl (by decide +kernel) rfl rfl (Nat.le_of_ble_eq_true rfl) d_Mo_read_16 (fun H locs hP hD hS => ?_)
  obtain ⟨I6, aI6, sI6, hP, hD⟩ := fx (P := fun z => va_P D9 cls9 (WW a cB cI cJ cG z _ O) H ∧ va_D A0 (WW a cB cI cJ cG z _ O)) ⟨wp_21 hP, wd_21 hD⟩
  refine lv_aload_n hx hb d_Mo_read_19 rfl (lv_at hl 0 rfl) ?_
  refine lv_iconst (v := 0) hx hb d_Mo_read_20 (by decide) ?_
  refine lv_topq (y := nI 0) (rfl) ?_
  refine va_put (D := D9) (ty := .int) (ci := 7) (C := R_Mo) (T := F_Mo) (N := 30) hx hb hts i_Mo t_Mo t_Mo_ok n_Mo hown hK hP hD hS 33 ww_33 rfl 17 (by decide) (hts _ g_739) (fun _ h9 => h9) rfl (by decide +kernel) rfl rfl (Nat.le_of_ble_eq_true rfl) d_Mo_read_21 (fun H locs hP hD hS => ?_)
  obtain ⟨I7, aI7, sI7, hP, hD⟩ := fx (P := fun z => va_P D9 cls9 (WW a cB cI cJ cG z _ O) H ∧ va_D A0 (WW a cB cI cJ cG z _ O)) ⟨wp_22 hP, wd_22 hD⟩
  refine lv_aload_n hx hb d_Mo_read_24 rfl (lv_at hl 0 rfl) ?_
  refine lv_bipush (v := 12) hx hb d_Mo_read_25 (by decide) ?_
  refine lv_topq (y := nI 12) (rfl) ?_
  refine va_put (D := D9) (ty := .int) (ci := 7) (C := R_Mo) (T := F_Mo) (N := 30) hx hb hts i_Mo t_Mo t_Mo_ok n_Mo hown hK hP hD hS 33 ww_33 rfl 20 (by decide) (hts _ g_742) (fun _ h9 => h9) rfl (by decide +kernel) rfl rfl (Nat.le_of_ble_eq_true rfl) d_Mo_read_27 (fun H locs hP hD hS => ?_)
  obtain ⟨I8, aI8, sI8, hP, hD⟩ := fx (P := fun z => va_P D9 cls9 (WW a cB cI cJ cG z _ O) H ∧ va_D A0 (WW a cB cI cJ cG z _ O)) ⟨wp_25 hP, wd_25 hD⟩
  refine lv_aload_n hx hb d_Mo_read_30 rfl (lv_at hl 0 rfl) ?_
  refine va_get (D := D9) (ci := 7) (C := R_Mo) (T := F_Mo) (N := 30) hx hb hts i_Mo hown hK hP 33 ww_33 rfl 2 (by decide) (hts _ g_724) (fun _ h9 => h9) rfl d_Mo_read_31 ?_
  refine lv_topq (y := nI t.length) (((sI8 16 (by decide)).trans ((sI7 16 (by decide)).trans ((sI6 16 (by decide)).trans ((sI5 16 (by decide)).trans ((sa2 16 (by decide)).trans ((sI1 16 (by decide)).trans h16))))))) ?_
  refine lv_bipush (v := 12) hx hb d_Mo_read_34 (by decide) ?_
  refine lv_topq (y := nI 12) (rfl) ?_
  refine lv_icmp_ge (tgt := 45) hx hb d_Mo_read_36 (by decide) (fun c9 => ?_) (fun c9 => ?_)
  · have c9 : 12 ≤ t.length := (nI_leI (a := 12) (b := t.length) (by omega) (by omega)).mp c9
    refine lv_iconst (v := 0) hx hb d_Mo_read_45 (by decide) ?_
    refine lv_topq (y := nI 0) (rfl) ?_
    refine lv_istore_n (lv' := [(1, _), (0, _)]) hx hb d_Mo_read_46 rfl hl (by decide) rfl (fun ls hl => ?_)
    have loopF : ∀ (nf : Nat) (j : Nat) (fz : Nat) (If : Nat → Int32) (Ff : Nat → Nat → Int32) (H : Heap) (locs : List Loc) (ls : Array Slot), (sm [15, 17, 18, 19, 20, 21, 22, 24, 25, 26, 27] I If) → (sm [35, 36, 37, 38, 39, 40, 41, 42, 43] F Ff) → (4 - j = nf) → (j ≤ 4) → (rdM t = none) → (0 < fz ∧ fz < 100) → (If 24 = nI fz) → (If 15 = nI 0) → (sb_Fit (Ff 35)) → va_P D9 cls9 (WW a cB cI cJ cG If Ff O) H → va_D A0 (WW a cB cI cJ cG If Ff O) → va_S A0 s.heap H locs → lv_has ls 4 [(0, .ref (a 33)), (1, .int (nI j))] → W p l e (rm9 5 0 0) s m ([.ref (a 33)] : List Value).toArray below meth c H locs 0 0 Q (F0 m 47 ls []) := by
      intro nf
      induction nf using Nat.strongRecOn with
      | ind nf ihf =>
        intro j fz If Ff H locs ls hsIf hsFf hnf hj hN hfz k24 k15 hFf hP hD hS hl
        refine lv_iload_n hx hb d_Mo_read_47 rfl (lv_at hl 1 rfl) ?_
        refine lv_iconst (v := 4) hx hb d_Mo_read_48 (by decide) ?_
        refine lv_topq (y := nI 4) (rfl) ?_
        refine lv_icmp_ge (tgt := 104) hx hb d_Mo_read_49 (by decide) (fun c10 => ?_) (fun c10 => ?_)
        · have c10 : 4 ≤ j := (nI_leI (a := 4) (b := j) (by omega) (by omega)).mp c10
          refine lv_aload_n hx hb d_Mo_read_104 rfl (lv_at hl 0 rfl) ?_
          refine va_get (D := D9) (ci := 7) (C := R_Mo) (T := F_Mo) (N := 30) hx hb hts i_Mo hown hK hP 33 ww_33 rfl 19 (by decide) (hts _ g_741) (fun _ h9 => h9) rfl d_Mo_read_105 ?_
          refine lv_topq (y := nI fz) (k24) ?_
          refine lv_if_ne (tgt := 132) hx hb d_Mo_read_108 (by decide) (fun c11 => ?_) (fun c11 => ?_)
          · have c11 : ¬ (fz = 0) := fun z9 => c11 ((nI_eq (a := fz) (b := 0) (by omega) (by omega)).mpr z9)
            refine lv_aload_n hx hb d_Mo_read_132 rfl (lv_at hl 0 rfl) ?_
            refine va_get (D := D9) (ci := 7) (C := R_Mo) (T := F_Mo) (N := 30) hx hb hts i_Mo hown hK hP 33 ww_33 rfl 19 (by decide) (hts _ g_741) (fun _ h9 => h9) rfl d_Mo_read_133 ?_
            refine lv_topq (y := nI fz) (k24) ?_
            refine lv_if_ne (tgt := 168) hx hb d_Mo_read_136 (by decide) (fun c12 => ?_) (fun c12 => ?_)
            · have c12 : ¬ (fz = 0) := fun z9 => c12 ((nI_eq (a := fz) (b := 0) (by omega) (by omega)).mpr z9)
              refine lv_aload_n hx hb d_Mo_read_168 rfl (lv_at hl 0 rfl) ?_
              refine mw_cV (ci := 7) (k := 33) C0 (m_Mo_none l D9 cB cI cJ cG a O _ _ ) g_820 g_8 g_817 g_819 gs_Mo_none ⟨by decide +kernel, by decide +kernel, show Option.map (fun d => d.parameters.length) (parseMethodDescriptor y_Mo_none.desc) = some 0 by decide +kernel⟩ ⟨by decide, by decide⟩ rfl rfl hP hD hS hA rfl ww_33 hl.1 (Nat.le_of_ble_eq_true rfl) rfl d_Mo_read_169 ⟨by decide, by decide⟩ (fun v9 w9 H locs hq hP hD hS => ?_)
              obtain ⟨I13, F14, hw9, q15⟩ := hq
              subst hw9
              obtain ⟨rfl, sa13, u1713, u1813, u1913, u2013, rfl⟩ := q15
              refine lv_aload_n hx hb d_Mo_read_172 rfl (lv_at hl 0 rfl) ?_
              refine lv_iconst (v := 0) hx hb d_Mo_read_173 (by decide) ?_
              refine lv_topq (y := nI 0) (rfl) ?_
              refine va_put (D := D9) (ty := .int) (ci := 7) (C := R_Mo) (T := F_Mo) (N := 30) hx hb hts i_Mo t_Mo t_Mo_ok n_Mo hown hK hP hD hS 33 ww_33 rfl 2 (by decide) (hts _ g_724) (fun _ h9 => h9) rfl (by decide +kernel) rfl rfl (Nat.le_of_ble_eq_true rfl) d_Mo_read_174 (fun H locs hP hD hS => ?_)
              obtain ⟨I16, aI16, sI16, hP, hD⟩ := fx (P := fun z => va_P D9 cls9 (WW a cB cI cJ cG z _ O) H ∧ va_D A0 (WW a cB cI cJ cG z _ O)) ⟨wp_16 hP, wd_16 hD⟩
              refine lv_aload_n hx hb d_Mo_read_177 rfl (lv_at hl 0 rfl) ?_
              refine va_get (D := D9) (ci := 7) (C := R_Mo) (T := F_Mo) (N := 30) hx hb hts i_Mo hown hK hP 33 ww_33 rfl 19 (by decide) (hts _ g_741) (fun _ h9 => h9) rfl d_Mo_read_178 ?_
              refine lv_topq (y := nI fz) (((sI16 24 (by decide)).trans ((sa13 24 (by decide)).trans k24))) ?_
              exact hret _ _ _ _ _ _ _ hS hP hD d_Mo_read_181 nr_i (Or.inr ⟨hN, ⟨_, rfl⟩, (sm_tr (sm_tr (sm_mo hsIf (by decide)) (sm_mo sa13 (by decide))) (sm_mo sI16 (by decide))), MoR_nil hFf, ((sI16 17 (by decide)).trans u1713), ((sI16 18 (by decide)).trans u1813), ((sI16 19 (by decide)).trans u1913), ((sI16 20 (by decide)).trans u2013), aI16, ((sI16 15 (by decide)).trans ((sa13 15 (by decide)).trans k15)), (sm_mo hsFf (by decide))⟩)
            · have c12 : fz = 0 := (nI_eq (a := fz) (b := 0) (by omega) (by omega)).mp c12
              exfalso; omega
          · have c11 : fz = 0 := (nI_eq (a := fz) (b := 0) (by omega) (by omega)).mp c11
            exfalso; omega
        · have c10 : ¬ (4 ≤ j) := fun z9 => c10 ((nI_leI (a := 4) (b := j) (by omega) (by omega)).mpr z9)
          refine lv_aload_n hx hb d_Mo_read_52 rfl (lv_at hl 0 rfl) ?_
          refine va_get (D := D9) (ci := 7) (C := R_Mo) (T := F_Mo) (N := 30) hx hb hts i_Mo hown hK hP 33 ww_33 rfl 19 (by decide) (hts _ g_741) (fun _ h9 => h9) rfl d_Mo_read_53 ?_
          refine lv_topq (y := nI fz) (k24) ?_
          refine lv_if_le (tgt := 63) hx hb d_Mo_read_56 (by decide) (fun c17 => ?_) (fun c17 => ?_)
          · have c17 : fz ≤ 0 := (nI_leI (a := fz) (b := 0) (by omega) (by omega)).mp c17
            exfalso; omega
          · have c17 : ¬ (fz ≤ 0) := fun z9 => c17 ((nI_leI (a := fz) (b := 0) (by omega) (by omega)).mpr z9)
            refine lv_iconst (v := 0) hx hb d_Mo_read_59 (by decide) ?_
            refine lv_topq (y := nI 0) (rfl) ?_
            refine lv_goto (tgt := 72) hx hb d_Mo_read_60 (by decide) ?_
            refine lv_istore_n (lv' := [(2, _), (0, _), (1, _)]) hx hb d_Mo_read_72 rfl hl (by decide) rfl (fun ls hl => ?_)
            refine lv_iconst (v := 0) hx hb d_Mo_read_73 (by decide) ?_
            refine lv_topq (y := nI 0) (rfl) ?_
            refine lv_istore_n (lv' := [(3, _), (2, _), (0, _), (1, _)]) hx hb d_Mo_read_74 rfl hl (by decide) rfl (fun ls hl => ?_)
            refine lv_iload_n hx hb d_Mo_read_75 rfl (lv_at hl 0 rfl) ?_
            refine lv_iload_n hx hb d_Mo_read_76 rfl (lv_at hl 1 rfl) ?_
            refine lv_icmp_ge (tgt := 98) hx hb d_Mo_read_77 (by decide) (fun c18 => ?_) (fun c18 => ?_)
            · refine lv_iinc (lv' := [(1, .int (nI (j + 1))), (3, _), (2, _), (0, _)]) hx hb d_Mo_read_98 hl (k := 3) rfl (nI_add _ 1) (by decide) rfl (fun ls hl => ?_)
              refine lv_goto (tgt := 47) hx hb d_Mo_read_101 (by decide) ?_
              exact ihf _ (by omega) (j + 1) fz _ _ _ _ _ (sm_mo hsIf (by decide)) (sm_mo hsFf (by decide)) rfl (by omega) hN hfz k24 k15 hFf hP hD hS (lv_pk hl [3, 0] rfl)
            · exact absurd c18 (by decide)
    have hM0 : rdM t = (rdS t (4 - 0) [] 12 0).bind (rdX t) := by unfold rdM; rw [if_neg (by omega)]
    have loopG : ∀ (n9 : Nat) (j : Nat) (es : List En9) (pos : Nat) (c8 : Nat) (I9 : Nat → Int32) (F9 : Nat → Nat → Int32) (H : Heap) (locs : List Loc) (ls : Array Slot), (sm [15, 17, 18, 19, 20, 21, 22, 24, 25, 26, 27] I I9) → (sm [35, 36, 37, 38, 39, 40, 41, 42, 43] F F9) → (4 - j = n9) → (j ≤ 4) → (rdM t = (rdS t (4 - j) es pos c8).bind (rdX t)) → (MoR F9 es) → (okE es) → (I9 17 = nI (fl es).length) → (I9 18 = nI es.length) → (I9 25 = nI pos) → (pos ≤ t.length) → (I9 22 = nI c8) → (c8 ≤ 60000 * es.length) → (I9 24 = nI 0) → (I9 15 = nI 0) → va_P D9 cls9 (WW a cB cI cJ cG I9 F9 O) H → va_D A0 (WW a cB cI cJ cG I9 F9 O) → va_S A0 s.heap H locs → lv_has ls 4 [(0, .ref (a 33)), (1, .int (nI j))] → W p l e (rm9 5 0 0) s m ([.ref (a 33)] : List Value).toArray below meth c H locs 0 0 Q (F0 m 47 ls []) := by
      intro n9
      induction n9 using Nat.strongRecOn with
      | ind n9 ih =>
        intro j es pos c8 I9 F9 H locs ls hsI hsF hn9 hj hM hR hO k17 k18 k25 hpb k22 hcb k24 k15 hP hD hS hl
        refine lv_iload_n hx hb d_Mo_read_47 rfl (lv_at hl 1 rfl) ?_
        refine lv_iconst (v := 4) hx hb d_Mo_read_48 (by decide) ?_
        refine lv_topq (y := nI 4) (rfl) ?_
        refine lv_icmp_ge (tgt := 104) hx hb d_Mo_read_49 (by decide) (fun c19 => ?_) (fun c19 => ?_)
        · have c19 : 4 ≤ j := (nI_leI (a := 4) (b := j) (by omega) (by omega)).mp c19
          have hj4 : j = 4 := by omega
          have hM : rdM t = if pos = t.length then some (es, c8) else none := by rw [hM, hj4]; rfl
          refine lv_aload_n hx hb d_Mo_read_104 rfl (lv_at hl 0 rfl) ?_
          refine va_get (D := D9) (ci := 7) (C := R_Mo) (T := F_Mo) (N := 30) hx hb hts i_Mo hown hK hP 33 ww_33 rfl 19 (by decide) (hts _ g_741) (fun _ h9 => h9) rfl d_Mo_read_105 ?_
          refine lv_topq (y := nI 0) (k24) ?_
          refine lv_if_ne (tgt := 132) hx hb d_Mo_read_108 (by decide) (fun c20 => ?_) (fun c20 => ?_)
          · exact absurd c20 (by decide)
          · refine lv_aload_n hx hb d_Mo_read_111 rfl (lv_at hl 0 rfl) ?_
            refine va_get (D := D9) (ci := 7) (C := R_Mo) (T := F_Mo) (N := 30) hx hb hts i_Mo hown hK hP 33 ww_33 rfl 20 (by decide) (hts _ g_742) (fun _ h9 => h9) rfl d_Mo_read_112 ?_
            refine lv_topq (y := nI pos) (k25) ?_
            refine lv_aload_n hx hb d_Mo_read_115 rfl (lv_at hl 0 rfl) ?_
            refine va_get (D := D9) (ci := 7) (C := R_Mo) (T := F_Mo) (N := 30) hx hb hts i_Mo hown hK hP 33 ww_33 rfl 2 (by decide) (hts _ g_724) (fun _ h9 => h9) rfl d_Mo_read_116 ?_
            refine lv_topq (y := nI t.length) (((hsI 16 (by decide)).trans h16)) ?_
            refine lv_icmp_ge (tgt := 132) hx hb d_Mo_read_119 (by decide) (fun c21 => ?_) (fun c21 => ?_)
            · have c21 : t.length ≤ pos := (nI_leI (a := t.length) (b := pos) (by omega) (by omega)).mp c21
              rw [if_pos (by omega)] at hM
              refine lv_aload_n hx hb d_Mo_read_132 rfl (lv_at hl 0 rfl) ?_
              refine va_get (D := D9) (ci := 7) (C := R_Mo) (T := F_Mo) (N := 30) hx hb hts i_Mo hown hK hP 33 ww_33 rfl 19 (by decide) (hts _ g_741) (fun _ h9 => h9) rfl d_Mo_read_133 ?_
              refine lv_topq (y := nI 0) (k24) ?_
              refine lv_if_ne (tgt := 168) hx hb d_Mo_read_136 (by decide) (fun c22 => ?_) (fun c22 => ?_)
              · exact absurd c22 (by decide)
              · refine lv_aload_n hx hb d_Mo_read_139 rfl (lv_at hl 0 rfl) ?_
                refine lv_aload_n hx hb d_Mo_read_140 rfl (lv_at hl 0 rfl) ?_
                refine lv_iconst (v := 0) hx hb d_Mo_read_141 (by decide) ?_
                refine lv_topq (y := nI 0) (rfl) ?_
                refine mw_cV (ci := 7) (k := 33) C0 (m_Mo_two l D9 cB cI cJ cG a O _ _ t (BR_eq hT (hsF 34 (by decide))) ((hsI 16 (by decide)).trans h16) htl 0 (by omega)) g_828 g_8 g_825 g_827 gs_Mo_two ⟨by decide +kernel, by decide +kernel, show Option.map (fun d => d.parameters.length) (parseMethodDescriptor y_Mo_two.desc) = some 1 by decide +kernel⟩ ⟨by decide, by decide⟩ rfl rfl hP hD hS hA rfl ww_33 hl.1 (Nat.le_of_ble_eq_true rfl) rfl d_Mo_read_142 ⟨by decide, by decide⟩ (fun v9 w9 H locs hq hP hD hS => ?_)
                obtain ⟨I23, F24, hw9, q25⟩ := hq
                subst hw9
                obtain ⟨rfl, rfl, rfl⟩ := q25
                refine va_put (D := D9) (ty := .int) (ci := 7) (C := R_Mo) (T := F_Mo) (N := 30) hx hb hts i_Mo t_Mo t_Mo_ok n_Mo hown hK hP hD hS 33 ww_33 rfl 6 (by decide) (hts _ g_728) (fun _ h9 => h9) rfl (by decide +kernel) rfl rfl (Nat.le_of_ble_eq_true rfl) d_Mo_read_145 (fun H locs hP hD hS => ?_)
                obtain ⟨I26, aI26, sI26, hP, hD⟩ := fx (P := fun z => va_P D9 cls9 (WW a cB cI cJ cG z _ O) H ∧ va_D A0 (WW a cB cI cJ cG z _ O)) ⟨wp_19 hP, wd_19 hD⟩
                refine lv_aload_n hx hb d_Mo_read_148 rfl (lv_at hl 0 rfl) ?_
                refine lv_aload_n hx hb d_Mo_read_149 rfl (lv_at hl 0 rfl) ?_
                refine lv_iconst (v := 2) hx hb d_Mo_read_150 (by decide) ?_
                refine lv_topq (y := nI 2) (rfl) ?_
                refine mw_cV (ci := 7) (k := 33) C0 (m_Mo_two l D9 cB cI cJ cG a O _ _ t (BR_eq hT (hsF 34 (by decide))) (((sI26 16 (by decide)).trans (hsI 16 (by decide))).trans h16) htl 2 (by omega)) g_828 g_8 g_825 g_827 gs_Mo_two ⟨by decide +kernel, by decide +kernel, show Option.map (fun d => d.parameters.length) (parseMethodDescriptor y_Mo_two.desc) = some 1 by decide +kernel⟩ ⟨by decide, by decide⟩ rfl rfl hP hD hS hA rfl ww_33 hl.1 (Nat.le_of_ble_eq_true rfl) rfl d_Mo_read_151 ⟨by decide, by decide⟩ (fun v9 w9 H locs hq hP hD hS => ?_)
                obtain ⟨I27, F28, hw9, q29⟩ := hq
                subst hw9
                obtain ⟨rfl, rfl, rfl⟩ := q29
                refine va_put (D := D9) (ty := .int) (ci := 7) (C := R_Mo) (T := F_Mo) (N := 30) hx hb hts i_Mo t_Mo t_Mo_ok n_Mo hown hK hP hD hS 33 ww_33 rfl 7 (by decide) (hts _ g_729) (fun _ h9 => h9) rfl (by decide +kernel) rfl rfl (Nat.le_of_ble_eq_true rfl) d_Mo_read_154 (fun H locs hP hD hS => ?_)
                obtain ⟨I30, aI30, sI30, hP, hD⟩ := fx (P := fun z => va_P D9 cls9 (WW a cB cI cJ cG z _ O) H ∧ va_D A0 (WW a cB cI cJ cG z _ O)) ⟨wp_20 hP, wd_20 hD⟩
                refine lv_aload_n hx hb d_Mo_read_157 rfl (lv_at hl 0 rfl) ?_
                refine lv_aload_n hx hb d_Mo_read_158 rfl (lv_at hl 0 rfl) ?_
                refine va_get (D := D9) (ci := 7) (C := R_Mo) (T := F_Mo) (N := 30) hx hb hts i_Mo hown hK hP 33 ww_33 rfl 17 (by decide) (hts _ g_739) (fun _ h9 => h9) rfl d_Mo_read_159 ?_
                refine lv_topq (y := nI c8) (((sI30 22 (by decide)).trans ((sI26 22 (by decide)).trans k22))) ?_
                refine va_put (D := D9) (ty := .int) (ci := 7) (C := R_Mo) (T := F_Mo) (N := 30) hx hb hts i_Mo t_Mo t_Mo_ok n_Mo hown hK hP hD hS 33 ww_33 rfl 18 (by decide) (hts _ g_740) (fun _ h9 => h9) rfl (by decide +kernel) rfl rfl (Nat.le_of_ble_eq_true rfl) d_Mo_read_162 (fun H locs hP hD hS => ?_)
                obtain ⟨I31, aI31, sI31, hP, hD⟩ := fx (P := fun z => va_P D9 cls9 (WW a cB cI cJ cG z _ O) H ∧ va_D A0 (WW a cB cI cJ cG z _ O)) ⟨wp_23 hP, wd_23 hD⟩
                refine lv_goto (tgt := 172) hx hb d_Mo_read_165 (by decide) ?_
                refine lv_aload_n hx hb d_Mo_read_172 rfl (lv_at hl 0 rfl) ?_
                refine lv_iconst (v := 0) hx hb d_Mo_read_173 (by decide) ?_
                refine lv_topq (y := nI 0) (rfl) ?_
                refine va_put (D := D9) (ty := .int) (ci := 7) (C := R_Mo) (T := F_Mo) (N := 30) hx hb hts i_Mo t_Mo t_Mo_ok n_Mo hown hK hP hD hS 33 ww_33 rfl 2 (by decide) (hts _ g_724) (fun _ h9 => h9) rfl (by decide +kernel) rfl rfl (Nat.le_of_ble_eq_true rfl) d_Mo_read_174 (fun H locs hP hD hS => ?_)
                obtain ⟨I32, aI32, sI32, hP, hD⟩ := fx (P := fun z => va_P D9 cls9 (WW a cB cI cJ cG z _ O) H ∧ va_D A0 (WW a cB cI cJ cG z _ O)) ⟨wp_16 hP, wd_16 hD⟩
                refine lv_aload_n hx hb d_Mo_read_177 rfl (lv_at hl 0 rfl) ?_
                refine va_get (D := D9) (ci := 7) (C := R_Mo) (T := F_Mo) (N := 30) hx hb hts i_Mo hown hK hP 33 ww_33 rfl 19 (by decide) (hts _ g_741) (fun _ h9 => h9) rfl d_Mo_read_178 ?_
                refine lv_topq (y := nI 0) (((sI32 24 (by decide)).trans ((sI31 24 (by decide)).trans ((sI30 24 (by decide)).trans ((sI26 24 (by decide)).trans k24))))) ?_
                exact hret _ _ _ _ _ _ _ hS hP hD d_Mo_read_181 nr_i (Or.inl ⟨es, c8, hM, ⟨_, rfl⟩, (sm_tr (sm_tr (sm_tr (sm_tr (sm_mo hsI (by decide)) (sm_mo sI26 (by decide))) (sm_mo sI30 (by decide))) (sm_mo sI31 (by decide))) (sm_mo sI32 (by decide))), ((sI32 23 (by decide)).trans aI31), hO, hR, ((sI32 17 (by decide)).trans ((sI31 17 (by decide)).trans ((sI30 17 (by decide)).trans ((sI26 17 (by decide)).trans k17)))), ((sI32 18 (by decide)).trans ((sI31 18 (by decide)).trans ((sI30 18 (by decide)).trans ((sI26 18 (by decide)).trans k18)))), ((sI32 19 (by decide)).trans ((sI31 19 (by decide)).trans ((sI30 19 (by decide)).trans aI26))), ((sI32 20 (by decide)).trans ((sI31 20 (by decide)).trans aI30)), aI32, ((sI32 15 (by decide)).trans ((sI31 15 (by decide)).trans ((sI30 15 (by decide)).trans ((sI26 15 (by decide)).trans k15)))), (sm_mo hsF (by decide))⟩)
            · have c21 : ¬ (t.length ≤ pos) := fun z9 => c21 ((nI_leI (a := t.length) (b := pos) (by omega) (by omega)).mpr z9)
              rw [if_neg (by omega)] at hM
              have hN := hM
              refine lv_aload_n hx hb d_Mo_read_122 rfl (lv_at hl 0 rfl) ?_
              refine lv_bipush (v := 6) hx hb d_Mo_read_123 (by decide) ?_
              refine lv_topq (y := nI 6) (rfl) ?_
              refine lv_aload_n hx hb d_Mo_read_125 rfl (lv_at hl 0 rfl) ?_
              refine va_get (D := D9) (ci := 7) (C := R_Mo) (T := F_Mo) (N := 30) hx hb hts i_Mo hown hK hP 33 ww_33 rfl 20 (by decide) (hts _ g_742) (fun _ h9 => h9) rfl d_Mo_read_126 ?_
              refine lv_topq (y := nI pos) (k25) ?_
              refine mw_cV (ci := 7) (k := 33) C0 (m_Mo_wrong l D9 cB cI cJ cG a O _ _ (nI 6) _ k24) g_824 g_8 g_821 g_823 gs_Mo_wrong ⟨by decide +kernel, by decide +kernel, show Option.map (fun d => d.parameters.length) (parseMethodDescriptor y_Mo_wrong.desc) = some 2 by decide +kernel⟩ ⟨by decide, by decide⟩ rfl rfl hP hD hS hA rfl ww_33 hl.1 (Nat.le_of_ble_eq_true rfl) rfl d_Mo_read_129 ⟨by decide, by decide⟩ (fun v9 w9 H locs hq hP hD hS => ?_)
              obtain ⟨I33, F34, hw9, q35⟩ := hq
              subst hw9
              obtain ⟨rfl, sI33, zI33, rfl⟩ := q35
              refine lv_aload_n hx hb d_Mo_read_132 rfl (lv_at hl 0 rfl) ?_
              refine va_get (D := D9) (ci := 7) (C := R_Mo) (T := F_Mo) (N := 30) hx hb hts i_Mo hown hK hP 33 ww_33 rfl 19 (by decide) (hts _ g_741) (fun _ h9 => h9) rfl d_Mo_read_133 ?_
              refine lv_topq (y := nI 6) (zI33) ?_
              refine lv_if_ne (tgt := 168) hx hb d_Mo_read_136 (by decide) (fun c36 => ?_) (fun c36 => ?_)
              · refine lv_aload_n hx hb d_Mo_read_168 rfl (lv_at hl 0 rfl) ?_
                refine mw_cV (ci := 7) (k := 33) C0 (m_Mo_none l D9 cB cI cJ cG a O _ _ ) g_820 g_8 g_817 g_819 gs_Mo_none ⟨by decide +kernel, by decide +kernel, show Option.map (fun d => d.parameters.length) (parseMethodDescriptor y_Mo_none.desc) = some 0 by decide +kernel⟩ ⟨by decide, by decide⟩ rfl rfl hP hD hS hA rfl ww_33 hl.1 (Nat.le_of_ble_eq_true rfl) rfl d_Mo_read_169 ⟨by decide, by decide⟩ (fun v9 w9 H locs hq hP hD hS => ?_)
                obtain ⟨I37, F38, hw9, q39⟩ := hq
                subst hw9
                obtain ⟨rfl, sa37, u1737, u1837, u1937, u2037, rfl⟩ := q39
                refine lv_aload_n hx hb d_Mo_read_172 rfl (lv_at hl 0 rfl) ?_
                refine lv_iconst (v := 0) hx hb d_Mo_read_173 (by decide) ?_
                refine lv_topq (y := nI 0) (rfl) ?_
                refine va_put (D := D9) (ty := .int) (ci := 7) (C := R_Mo) (T := F_Mo) (N := 30) hx hb hts i_Mo t_Mo t_Mo_ok n_Mo hown hK hP hD hS 33 ww_33 rfl 2 (by decide) (hts _ g_724) (fun _ h9 => h9) rfl (by decide +kernel) rfl rfl (Nat.le_of_ble_eq_true rfl) d_Mo_read_174 (fun H locs hP hD hS => ?_)
                obtain ⟨I40, aI40, sI40, hP, hD⟩ := fx (P := fun z => va_P D9 cls9 (WW a cB cI cJ cG z _ O) H ∧ va_D A0 (WW a cB cI cJ cG z _ O)) ⟨wp_16 hP, wd_16 hD⟩
                refine lv_aload_n hx hb d_Mo_read_177 rfl (lv_at hl 0 rfl) ?_
                refine va_get (D := D9) (ci := 7) (C := R_Mo) (T := F_Mo) (N := 30) hx hb hts i_Mo hown hK hP 33 ww_33 rfl 19 (by decide) (hts _ g_741) (fun _ h9 => h9) rfl d_Mo_read_178 ?_
                refine lv_topq (y := nI 6) (((sI40 24 (by decide)).trans ((sa37 24 (by decide)).trans zI33))) ?_
                exact hret _ _ _ _ _ _ _ hS hP hD d_Mo_read_181 nr_i (Or.inr ⟨hN, ⟨_, rfl⟩, (sm_tr (sm_tr (sm_tr (sm_mo hsI (by decide)) (sm_mo sI33 (by decide))) (sm_mo sa37 (by decide))) (sm_mo sI40 (by decide))), MoR_nil hR.2.1, ((sI40 17 (by decide)).trans u1737), ((sI40 18 (by decide)).trans u1837), ((sI40 19 (by decide)).trans u1937), ((sI40 20 (by decide)).trans u2037), aI40, ((sI40 15 (by decide)).trans ((sa37 15 (by decide)).trans ((sI33 15 (by decide)).trans k15))), (sm_mo hsF (by decide))⟩)
              · exact absurd c36 (by decide)
        · have c19 : ¬ (4 ≤ j) := fun z9 => c19 ((nI_leI (a := 4) (b := j) (by omega) (by omega)).mpr z9)
          rw [rdS_j (by omega)] at hM
          refine lv_aload_n hx hb d_Mo_read_52 rfl (lv_at hl 0 rfl) ?_
          refine va_get (D := D9) (ci := 7) (C := R_Mo) (T := F_Mo) (N := 30) hx hb hts i_Mo hown hK hP 33 ww_33 rfl 19 (by decide) (hts _ g_741) (fun _ h9 => h9) rfl d_Mo_read_53 ?_
          refine lv_topq (y := nI 0) (k24) ?_
          refine lv_if_le (tgt := 63) hx hb d_Mo_read_56 (by decide) (fun c41 => ?_) (fun c41 => ?_)
          · refine lv_aload_n hx hb d_Mo_read_63 rfl (lv_at hl 0 rfl) ?_
            refine lv_iconst (v := 4) hx hb d_Mo_read_64 (by decide) ?_
            refine lv_topq (y := nI 4) (rfl) ?_
            refine lv_iconst (v := 2) hx hb d_Mo_read_65 (by decide) ?_
            refine lv_topq (y := nI 2) (rfl) ?_
            refine lv_iload_n hx hb d_Mo_read_66 rfl (lv_at hl 1 rfl) ?_
            refine lv_imul hx hb d_Mo_read_67 ?_
            refine lv_topq (y := nI (2 * j)) (pk_mul _ _) ?_
            refine lv_iadd hx hb d_Mo_read_68 ?_
            refine lv_topq (y := nI (4 + (2 * j))) (nI_add _ _) ?_
            refine mw_cV (ci := 7) (k := 33) C0 (m_Mo_two l D9 cB cI cJ cG a O _ _ t (BR_eq hT (hsF 34 (by decide))) ((hsI 16 (by decide)).trans h16) htl (4 + (2 * j)) (by omega)) g_828 g_8 g_825 g_827 gs_Mo_two ⟨by decide +kernel, by decide +kernel, show Option.map (fun d => d.parameters.length) (parseMethodDescriptor y_Mo_two.desc) = some 1 by decide +kernel⟩ ⟨by decide, by decide⟩ rfl rfl hP hD hS hA rfl ww_33 hl.1 (Nat.le_of_ble_eq_true rfl) rfl d_Mo_read_69 ⟨by decide, by decide⟩ (fun v9 w9 H locs hq hP hD hS => ?_)
            obtain ⟨I42, F43, hw9, q44⟩ := hq
            subst hw9
            obtain ⟨rfl, rfl, rfl⟩ := q44
            refine lv_istore_n (lv' := [(2, _), (0, _), (1, _)]) hx hb d_Mo_read_72 rfl hl (by decide) rfl (fun ls hl => ?_)
            refine lv_iconst (v := 0) hx hb d_Mo_read_73 (by decide) ?_
            refine lv_topq (y := nI 0) (rfl) ?_
            refine lv_istore_n (lv' := [(3, _), (2, _), (0, _), (1, _)]) hx hb d_Mo_read_74 rfl hl (by decide) rfl (fun ls hl => ?_)
            have hdue : t2 t (4 + 2 * j) < 65536 := t2_lt hT htl (by omega)
            have loopI : ∀ (ni : Nat) (k : Nat) (es2 : List En9) (pos2 : Nat) (c2 : Nat) (Ii : Nat → Int32) (Fi : Nat → Nat → Int32) (H : Heap) (locs : List Loc) (ls : Array Slot), (sm [15, 17, 18, 19, 20, 21, 22, 24, 25, 26, 27] I Ii) → (sm [35, 36, 37, 38, 39, 40, 41, 42, 43] F Fi) → (t2 t (4 + 2 * j) - k = ni) → (k ≤ t2 t (4 + 2 * j)) → (rdM t = ((rdL t j (t2 t (4 + 2 * j) - k) es2 pos2 c2).bind (fun r => rdS t (4 - (j + 1)) r.1 r.2.1 r.2.2)).bind (rdX t)) → (MoR Fi es2) → (okE es2) → (Ii 17 = nI (fl es2).length) → (Ii 18 = nI es2.length) → (Ii 25 = nI pos2) → (pos2 ≤ t.length) → (Ii 22 = nI c2) → (c2 ≤ 60000 * es2.length) → (Ii 24 = nI 0) → (Ii 15 = nI 0) → va_P D9 cls9 (WW a cB cI cJ cG Ii Fi O) H → va_D A0 (WW a cB cI cJ cG Ii Fi O) → va_S A0 s.heap H locs → lv_has ls 4 [(0, .ref (a 33)), (1, .int (nI j)), (2, .int (nI (t2 t (4 + 2 * j)))), (3, .int (nI k))] → W p l e (rm9 5 0 0) s m ([.ref (a 33)] : List Value).toArray below meth c H locs 0 0 Q (F0 m 75 ls []) := by
              intro ni
              induction ni using Nat.strongRecOn with
              | ind ni ihi =>
                intro k es2 pos2 c2 Ii Fi H locs ls hsIi hsFi hni hk hMi hRi hOi k17i k18i k25i hpbi k22i hcbi k24i k15i hP hD hS hl
                have hlni := okE_len hOi
                refine lv_iload_n hx hb d_Mo_read_75 rfl (lv_at hl 3 rfl) ?_
                refine lv_iload_n hx hb d_Mo_read_76 rfl (lv_at hl 2 rfl) ?_
                refine lv_icmp_ge (tgt := 98) hx hb d_Mo_read_77 (by decide) (fun c45 => ?_) (fun c45 => ?_)
                · have c45 : t2 t (4 + 2 * j) ≤ k := (nI_leI (a := t2 t (4 + 2 * j)) (b := k) (by omega) (by omega)).mp c45
                  have hke : k = t2 t (4 + 2 * j) := by omega
                  rw [hke, Nat.sub_self] at hMi
                  refine lv_iinc (lv' := [(1, .int (nI (j + 1))), (0, _), (2, _), (3, _)]) hx hb d_Mo_read_98 hl (k := 1) rfl (nI_add _ 1) (by decide) rfl (fun ls hl => ?_)
                  refine lv_goto (tgt := 47) hx hb d_Mo_read_101 (by decide) ?_
                  exact ih _ (by omega) (j + 1) es2 pos2 c2 _ _ _ _ _ (sm_mo hsIi (by decide)) (sm_mo hsFi (by decide)) rfl (by omega) hMi hRi hOi k17i k18i k25i hpbi k22i hcbi k24i k15i hP hD hS (lv_pk hl [1, 0] rfl)
                · have c45 : ¬ (t2 t (4 + 2 * j) ≤ k) := fun z9 => c45 ((nI_leI (a := t2 t (4 + 2 * j)) (b := k) (by omega) (by omega)).mpr z9)
                  have hke : t2 t (4 + 2 * j) - k = (t2 t (4 + 2 * j) - (k + 1)) + 1 := by omega
                  rw [hke] at hMi
                  refine lv_aload_n hx hb d_Mo_read_80 rfl (lv_at hl 0 rfl) ?_
                  refine va_get (D := D9) (ci := 7) (C := R_Mo) (T := F_Mo) (N := 30) hx hb hts i_Mo hown hK hP 33 ww_33 rfl 19 (by decide) (hts _ g_741) (fun _ h9 => h9) rfl d_Mo_read_81 ?_
                  refine lv_topq (y := nI 0) (k24i) ?_
                  refine lv_if_ne (tgt := 98) hx hb d_Mo_read_84 (by decide) (fun c46 => ?_) (fun c46 => ?_)
                  · exact absurd c46 (by decide)
                  · refine lv_aload_n hx hb d_Mo_read_87 rfl (lv_at hl 0 rfl) ?_
                    refine lv_iload_n hx hb d_Mo_read_88 rfl (lv_at hl 1 rfl) ?_
                    refine mw_cV (ci := 7) (k := 33) C0 (m_Mo_entry l D9 cB cI cJ cG a O _ _ t (BR_eq hT (hsFi 34 (by decide))) ((hsIi 16 (by decide)).trans h16) htl es2 hRi k18i hOi pos2 c2 j k17i k25i (by omega) k22i k24i (by omega)) g_836 g_8 g_833 g_835 gs_Mo_entry ⟨by decide +kernel, by decide +kernel, show Option.map (fun d => d.parameters.length) (parseMethodDescriptor y_Mo_entry.desc) = some 1 by decide +kernel⟩ ⟨by decide, by decide⟩ rfl rfl hP hD hS hA rfl ww_33 hl.1 (Nat.le_of_ble_eq_true rfl) rfl d_Mo_read_89 ⟨by decide, by decide⟩ (fun v9 w9 H locs hq hP hD hS => ?_)
                    obtain ⟨I47, F48, hw9, q49⟩ := hq
                    subst hw9
                    rcases q49 with ⟨x9, e9, c9x, hx9, hy9, hO9, rfl, sE, v17, v18, v25, v22, v24, sG9, hR9⟩ | ⟨hx9, rfl, sE, ⟨fz, fy, v24⟩, sG9, v5⟩
                    · rw [rdL_ok hx9 hy9] at hMi
                      have hbe := rdE_bd hT htl hx9
                      refine lv_iinc (lv' := [(3, .int (nI (k + 1))), (0, _), (1, _), (2, _)]) hx hb d_Mo_read_92 hl (k := 3) rfl (nI_add _ 1) (by decide) rfl (fun ls hl => ?_)
                      refine lv_goto (tgt := 75) hx hb d_Mo_read_95 (by decide) ?_
                      exact ihi _ (by omega) (k + 1) (es2 ++ [x9]) e9 (c2 + c9x) _ _ _ _ _ (sm_tr (sm_mo hsIi (by decide)) (sm_mo sE (by decide))) (sm_tr (sm_mo hsFi (by decide)) (sm_mo sG9 (by decide))) rfl (by omega) hMi hR9 hO9 v17 v18 v25 (by omega) v22 (by rw [List.length_append, List.length_singleton]; omega) v24 ((sE 15 (by decide)).trans k15i) hP hD hS (lv_pk hl [1, 2, 3, 0] rfl)
                    · rw [rdL_no hx9] at hMi
                      have hN : rdM t = none := hMi
                      refine lv_iinc (lv' := [(3, .int (nI (k + 1))), (0, _), (1, _), (2, _)]) hx hb d_Mo_read_92 hl (k := 3) rfl (nI_add _ 1) (by decide) rfl (fun ls hl => ?_)
                      refine lv_goto (tgt := 75) hx hb d_Mo_read_95 (by decide) ?_
                      refine lv_iload_n hx hb d_Mo_read_75 rfl (lv_at hl 0 rfl) ?_
                      refine lv_iload_n hx hb d_Mo_read_76 rfl (lv_at hl 3 rfl) ?_
                      refine lv_icmp_ge (tgt := 98) hx hb d_Mo_read_77 (by decide) (fun c50 => ?_) (fun c50 => ?_)
                      · have c50 : t2 t (4 + 2 * j) ≤ k + 1 := (nI_leI (a := t2 t (4 + 2 * j)) (b := k + 1) (by omega) (by omega)).mp c50
                        refine lv_iinc (lv' := [(1, .int (nI (j + 1))), (3, _), (0, _), (2, _)]) hx hb d_Mo_read_98 hl (k := 2) rfl (nI_add _ 1) (by decide) rfl (fun ls hl => ?_)
                        refine lv_goto (tgt := 47) hx hb d_Mo_read_101 (by decide) ?_
                        exact loopF _ (j + 1) fz _ _ _ _ _ (sm_tr (sm_mo hsIi (by decide)) (sm_mo sE (by decide))) (sm_tr (sm_mo hsFi (by decide)) (sm_mo sG9 (by decide))) rfl (by omega) hN fy v24 ((sE 15 (by decide)).trans k15i) v5 hP hD hS (lv_pk hl [2, 0] rfl)
                      · have c50 : ¬ (t2 t (4 + 2 * j) ≤ k + 1) := fun z9 => c50 ((nI_leI (a := t2 t (4 + 2 * j)) (b := k + 1) (by omega) (by omega)).mpr z9)
                        refine lv_aload_n hx hb d_Mo_read_80 rfl (lv_at hl 1 rfl) ?_
                        refine va_get (D := D9) (ci := 7) (C := R_Mo) (T := F_Mo) (N := 30) hx hb hts i_Mo hown hK hP 33 ww_33 rfl 19 (by decide) (hts _ g_741) (fun _ h9 => h9) rfl d_Mo_read_81 ?_
                        refine lv_topq (y := nI fz) (v24) ?_
                        refine lv_if_ne (tgt := 98) hx hb d_Mo_read_84 (by decide) (fun c51 => ?_) (fun c51 => ?_)
                        · have c51 : ¬ (fz = 0) := fun z9 => c51 ((nI_eq (a := fz) (b := 0) (by omega) (by omega)).mpr z9)
                          refine lv_iinc (lv' := [(1, .int (nI (j + 1))), (3, _), (0, _), (2, _)]) hx hb d_Mo_read_98 hl (k := 2) rfl (nI_add _ 1) (by decide) rfl (fun ls hl => ?_)
                          refine lv_goto (tgt := 47) hx hb d_Mo_read_101 (by decide) ?_
                          exact loopF _ (j + 1) fz _ _ _ _ _ (sm_tr (sm_mo hsIi (by decide)) (sm_mo sE (by decide))) (sm_tr (sm_mo hsFi (by decide)) (sm_mo sG9 (by decide))) rfl (by omega) hN fy v24 ((sE 15 (by decide)).trans k15i) v5 hP hD hS (lv_pk hl [2, 0] rfl)
                        · have c51 : fz = 0 := (nI_eq (a := fz) (b := 0) (by omega) (by omega)).mp c51
                          exfalso; omega
            exact loopI _ 0 es pos c8 _ _ _ _ _ (sm_mo hsI (by decide)) (sm_mo hsF (by decide)) rfl (Nat.zero_le _) hM hR hO k17 k18 k25 hpb k22 hcb k24 k15 hP hD hS (lv_pk hl [2, 3, 1, 0] rfl)
          · exact absurd c41 (by decide)
    exact loopG _ 0 [] 12 0 _ _ _ _ _ (sm_tr (sm_tr (sm_tr (sm_tr (sm_tr (sm_mo sI1 (by decide)) (sm_mo sa2 (by decide))) (sm_mo sI5 (by decide))) (sm_mo sI6 (by decide))) (sm_mo sI7 (by decide))) (sm_mo sI8 (by decide))) sm_rf rfl (by decide) hM0 (MoR_nil hF35) okE_nil ((sI8 17 (by decide)).trans ((sI7 17 (by decide)).trans ((sI6 17 (by decide)).trans ((sI5 17 (by decide)).trans u172)))) ((sI8 18 (by decide)).trans ((sI7 18 (by decide)).trans ((sI6 18 (by decide)).trans ((sI5 18 (by decide)).trans u182)))) aI8 (by omega) ((sI8 22 (by decide)).trans aI7) (by decide) ((sI8 24 (by decide)).trans ((sI7 24 (by decide)).trans ((sI6 24 (by decide)).trans aI5))) ((sI8 15 (by decide)).trans ((sI7 15 (by decide)).trans ((sI6 15 (by decide)).trans ((sI5 15 (by decide)).trans ((sa2 15 (by decide)).trans aI1))))) hP hD hS (lv_pk hl [1, 0] rfl)
  · have c9 : ¬ (12 ≤ t.length) := fun z9 => c9 ((nI_leI (a := 12) (b := t.length) (by omega) (by omega)).mpr z9)
    refine lv_aload_n hx hb d_Mo_read_39 rfl (lv_at hl 0 rfl) ?_
    refine lv_iconst (v := 1) hx hb d_Mo_read_40 (by decide) ?_
    refine lv_topq (y := nI 1) (rfl) ?_
    refine lv_iconst (v := 0) hx hb d_Mo_read_41 (by decide) ?_
    refine lv_topq (y := nI 0) (rfl) ?_
    refine mw_cV (ci := 7) (k := 33) C0 (m_Mo_wrong l D9 cB cI cJ cG a O _ _ (nI 1) _ ((sI8 24 (by decide)).trans ((sI7 24 (by decide)).trans ((sI6 24 (by decide)).trans aI5)))) g_824 g_8 g_821 g_823 gs_Mo_wrong ⟨by decide +kernel, by decide +kernel, show Option.map (fun d => d.parameters.length) (parseMethodDescriptor y_Mo_wrong.desc) = some 2 by decide +kernel⟩ ⟨by decide, by decide⟩ rfl rfl hP hD hS hA rfl ww_33 hl.1 (Nat.le_of_ble_eq_true rfl) rfl d_Mo_read_42 ⟨by decide, by decide⟩ (fun v9 w9 H locs hq hP hD hS => ?_)
    obtain ⟨I52, F53, hw9, q54⟩ := hq
    subst hw9
    obtain ⟨rfl, sI52, zI52, rfl⟩ := q54
    refine lv_iconst (v := 0) hx hb d_Mo_read_45 (by decide) ?_
    refine lv_topq (y := nI 0) (rfl) ?_
    refine lv_istore_n (lv' := [(1, _), (0, _)]) hx hb d_Mo_read_46 rfl hl (by decide) rfl (fun ls hl => ?_)
    have hN : rdM t = none := by unfold rdM; rw [if_pos (by omega)]
    have loopF : ∀ (nf : Nat) (j : Nat) (fz : Nat) (If : Nat → Int32) (Ff : Nat → Nat → Int32) (H : Heap) (locs : List Loc) (ls : Array Slot), (sm [15, 17, 18, 19, 20, 21, 22, 24, 25, 26, 27] I If) → (sm [35, 36, 37, 38, 39, 40, 41, 42, 43] F Ff) → (4 - j = nf) → (j ≤ 4) → (rdM t = none) → (0 < fz ∧ fz < 100) → (If 24 = nI fz) → (If 15 = nI 0) → (sb_Fit (Ff 35)) → va_P D9 cls9 (WW a cB cI cJ cG If Ff O) H → va_D A0 (WW a cB cI cJ cG If Ff O) → va_S A0 s.heap H locs → lv_has ls 4 [(0, .ref (a 33)), (1, .int (nI j))] → W p l e (rm9 5 0 0) s m ([.ref (a 33)] : List Value).toArray below meth c H locs 0 0 Q (F0 m 47 ls []) := by
      intro nf
      induction nf using Nat.strongRecOn with
      | ind nf ihf =>
        intro j fz If Ff H locs ls hsIf hsFf hnf hj hN hfz k24 k15 hFf hP hD hS hl
        refine lv_iload_n hx hb d_Mo_read_47 rfl (lv_at hl 1 rfl) ?_
        refine lv_iconst (v := 4) hx hb d_Mo_read_48 (by decide) ?_
        refine lv_topq (y := nI 4) (rfl) ?_
        refine lv_icmp_ge (tgt := 104) hx hb d_Mo_read_49 (by decide) (fun c55 => ?_) (fun c55 => ?_)
        · have c55 : 4 ≤ j := (nI_leI (a := 4) (b := j) (by omega) (by omega)).mp c55
          refine lv_aload_n hx hb d_Mo_read_104 rfl (lv_at hl 0 rfl) ?_
          refine va_get (D := D9) (ci := 7) (C := R_Mo) (T := F_Mo) (N := 30) hx hb hts i_Mo hown hK hP 33 ww_33 rfl 19 (by decide) (hts _ g_741) (fun _ h9 => h9) rfl d_Mo_read_105 ?_
          refine lv_topq (y := nI fz) (k24) ?_
          refine lv_if_ne (tgt := 132) hx hb d_Mo_read_108 (by decide) (fun c56 => ?_) (fun c56 => ?_)
          · have c56 : ¬ (fz = 0) := fun z9 => c56 ((nI_eq (a := fz) (b := 0) (by omega) (by omega)).mpr z9)
            refine lv_aload_n hx hb d_Mo_read_132 rfl (lv_at hl 0 rfl) ?_
            refine va_get (D := D9) (ci := 7) (C := R_Mo) (T := F_Mo) (N := 30) hx hb hts i_Mo hown hK hP 33 ww_33 rfl 19 (by decide) (hts _ g_741) (fun _ h9 => h9) rfl d_Mo_read_133 ?_
            refine lv_topq (y := nI fz) (k24) ?_
            refine lv_if_ne (tgt := 168) hx hb d_Mo_read_136 (by decide) (fun c57 => ?_) (fun c57 => ?_)
            · have c57 : ¬ (fz = 0) := fun z9 => c57 ((nI_eq (a := fz) (b := 0) (by omega) (by omega)).mpr z9)
              refine lv_aload_n hx hb d_Mo_read_168 rfl (lv_at hl 0 rfl) ?_
              refine mw_cV (ci := 7) (k := 33) C0 (m_Mo_none l D9 cB cI cJ cG a O _ _ ) g_820 g_8 g_817 g_819 gs_Mo_none ⟨by decide +kernel, by decide +kernel, show Option.map (fun d => d.parameters.length) (parseMethodDescriptor y_Mo_none.desc) = some 0 by decide +kernel⟩ ⟨by decide, by decide⟩ rfl rfl hP hD hS hA rfl ww_33 hl.1 (Nat.le_of_ble_eq_true rfl) rfl d_Mo_read_169 ⟨by decide, by decide⟩ (fun v9 w9 H locs hq hP hD hS => ?_)
              obtain ⟨I58, F59, hw9, q60⟩ := hq
              subst hw9
              obtain ⟨rfl, sa58, u1758, u1858, u1958, u2058, rfl⟩ := q60
              refine lv_aload_n hx hb d_Mo_read_172 rfl (lv_at hl 0 rfl) ?_
              refine lv_iconst (v := 0) hx hb d_Mo_read_173 (by decide) ?_
              refine lv_topq (y := nI 0) (rfl) ?_
              refine va_put (D := D9) (ty := .int) (ci := 7) (C := R_Mo) (T := F_Mo) (N := 30) hx hb hts i_Mo t_Mo t_Mo_ok n_Mo hown hK hP hD hS 33 ww_33 rfl 2 (by decide) (hts _ g_724) (fun _ h9 => h9) rfl (by decide +kernel) rfl rfl (Nat.le_of_ble_eq_true rfl) d_Mo_read_174 (fun H locs hP hD hS => ?_)
              obtain ⟨I61, aI61, sI61, hP, hD⟩ := fx (P := fun z => va_P D9 cls9 (WW a cB cI cJ cG z _ O) H ∧ va_D A0 (WW a cB cI cJ cG z _ O)) ⟨wp_16 hP, wd_16 hD⟩
              refine lv_aload_n hx hb d_Mo_read_177 rfl (lv_at hl 0 rfl) ?_
              refine va_get (D := D9) (ci := 7) (C := R_Mo) (T := F_Mo) (N := 30) hx hb hts i_Mo hown hK hP 33 ww_33 rfl 19 (by decide) (hts _ g_741) (fun _ h9 => h9) rfl d_Mo_read_178 ?_
              refine lv_topq (y := nI fz) (((sI61 24 (by decide)).trans ((sa58 24 (by decide)).trans k24))) ?_
              exact hret _ _ _ _ _ _ _ hS hP hD d_Mo_read_181 nr_i (Or.inr ⟨hN, ⟨_, rfl⟩, (sm_tr (sm_tr (sm_mo hsIf (by decide)) (sm_mo sa58 (by decide))) (sm_mo sI61 (by decide))), MoR_nil hFf, ((sI61 17 (by decide)).trans u1758), ((sI61 18 (by decide)).trans u1858), ((sI61 19 (by decide)).trans u1958), ((sI61 20 (by decide)).trans u2058), aI61, ((sI61 15 (by decide)).trans ((sa58 15 (by decide)).trans k15)), (sm_mo hsFf (by decide))⟩)
            · have c57 : fz = 0 := (nI_eq (a := fz) (b := 0) (by omega) (by omega)).mp c57
              exfalso; omega
          · have c56 : fz = 0 := (nI_eq (a := fz) (b := 0) (by omega) (by omega)).mp c56
            exfalso; omega
        · have c55 : ¬ (4 ≤ j) := fun z9 => c55 ((nI_leI (a := 4) (b := j) (by omega) (by omega)).mpr z9)
          refine lv_aload_n hx hb d_Mo_read_52 rfl (lv_at hl 0 rfl) ?_
          refine va_get (D := D9) (ci := 7) (C := R_Mo) (T := F_Mo) (N := 30) hx hb hts i_Mo hown hK hP 33 ww_33 rfl 19 (by decide) (hts _ g_741) (fun _ h9 => h9) rfl d_Mo_read_53 ?_
          refine lv_topq (y := nI fz) (k24) ?_
          refine lv_if_le (tgt := 63) hx hb d_Mo_read_56 (by decide) (fun c62 => ?_) (fun c62 => ?_)
          · have c62 : fz ≤ 0 := (nI_leI (a := fz) (b := 0) (by omega) (by omega)).mp c62
            exfalso; omega
          · have c62 : ¬ (fz ≤ 0) := fun z9 => c62 ((nI_leI (a := fz) (b := 0) (by omega) (by omega)).mpr z9)
            refine lv_iconst (v := 0) hx hb d_Mo_read_59 (by decide) ?_
            refine lv_topq (y := nI 0) (rfl) ?_
            refine lv_goto (tgt := 72) hx hb d_Mo_read_60 (by decide) ?_
            refine lv_istore_n (lv' := [(2, _), (0, _), (1, _)]) hx hb d_Mo_read_72 rfl hl (by decide) rfl (fun ls hl => ?_)
            refine lv_iconst (v := 0) hx hb d_Mo_read_73 (by decide) ?_
            refine lv_topq (y := nI 0) (rfl) ?_
            refine lv_istore_n (lv' := [(3, _), (2, _), (0, _), (1, _)]) hx hb d_Mo_read_74 rfl hl (by decide) rfl (fun ls hl => ?_)
            refine lv_iload_n hx hb d_Mo_read_75 rfl (lv_at hl 0 rfl) ?_
            refine lv_iload_n hx hb d_Mo_read_76 rfl (lv_at hl 1 rfl) ?_
            refine lv_icmp_ge (tgt := 98) hx hb d_Mo_read_77 (by decide) (fun c63 => ?_) (fun c63 => ?_)
            · refine lv_iinc (lv' := [(1, .int (nI (j + 1))), (3, _), (2, _), (0, _)]) hx hb d_Mo_read_98 hl (k := 3) rfl (nI_add _ 1) (by decide) rfl (fun ls hl => ?_)
              refine lv_goto (tgt := 47) hx hb d_Mo_read_101 (by decide) ?_
              exact ihf _ (by omega) (j + 1) fz _ _ _ _ _ (sm_mo hsIf (by decide)) (sm_mo hsFf (by decide)) rfl (by omega) hN hfz k24 k15 hFf hP hD hS (lv_pk hl [3, 0] rfl)
            · exact absurd c63 (by decide)
    exact loopF _ 0 1 _ _ _ _ _ (sm_tr (sm_tr (sm_tr (sm_tr (sm_tr (sm_tr (sm_mo sI1 (by decide)) (sm_mo sa2 (by decide))) (sm_mo sI5 (by decide))) (sm_mo sI6 (by decide))) (sm_mo sI7 (by decide))) (sm_mo sI8 (by decide))) (sm_mo sI52 (by decide))) sm_rf rfl (by decide) hN (by decide) zI52 ((sI52 15 (by decide)).trans ((sI8 15 (by decide)).trans ((sI7 15 (by decide)).trans ((sI6 15 (by decide)).trans ((sI5 15 (by decide)).trans ((sa2 15 (by decide)).trans aI1)))))) hF35 hP hD hS (lv_pk hl [1, 0] rfl)
