/-! THE MESSAGE ON THE TAPE -/
theorem rdS_j {t : List Nat} {j : Nat} {es : List En9} {pos c : Nat} (h : j < 4) : rdS t (4 - j) es pos c = (rdL t j (t2 t (4 + 2 * j)) es pos c).bind (fun r => rdS t (4 - (j + 1)) r.1 r.2.1 r.2.2) := by
  rcases lt4 h with rfl | rfl | rfl | rfl <;> rfl
theorem rdL_ok {t : List Nat} {s k : Nat} {es : List En9} {pos c e c1 : Nat} {x : En9} (h : rdE t s pos = some (x, e, c1)) (hb : okB es x = true) : rdL t s (k + 1) es pos c = rdL t s k (es ++ [x]) e (c + c1) := by
  conv => lhs; unfold rdL
  rw [h]; simp only; rw [if_pos hb]
theorem rdL_no {t : List Nat} {s k : Nat} {es : List En9} {pos c : Nat} (h : ∀ x e c1, rdE t s pos = some (x, e, c1) → okB es x = false) : rdL t s (k + 1) es pos c = none := by
  unfold rdL
  cases hr : rdE t s pos with
  | none => rfl
  | some r =>
    obtain ⟨x, e, c1⟩ := r
    simp only
    rw [if_neg (by rw [h x e c1 hr]; decide)]
theorem g_260 : (Cond.methodLinkNest "WireMessages$Reader" (35 : Nat) ({ cls := "WireMessages$Gathered", name := "startAnew", desc := "(II)V" } : MethodName) "WireMessages") ∈ GT := gt_mem 260 (by decide +kernel) rfl
theorem g_262 : (Cond.instanceMethod ({ cls := "WireMessages$Gathered", name := "startAnew", desc := "(II)V" } : MethodName)) ∈ GT := gt_mem 262 (by decide +kernel) rfl
theorem g_263 : (Cond.code ({ cls := "WireMessages$Gathered", name := "startAnew", desc := "(II)V" } : MethodName) prog_4_method_2_code (4 : Nat) (Option.none : Option FieldType)) ∈ GT := gt_mem 263 (by decide +kernel) rfl
theorem g_268 : (Cond.methodLink "WireMessages$Reader" (51 : Nat) ({ cls := "WireMessages$Reader", name := "takeQuestion", desc := "()Z" } : MethodName)) ∈ GT := gt_mem 268 (by decide +kernel) rfl
theorem g_270 : (Cond.instanceMethod ({ cls := "WireMessages$Reader", name := "takeQuestion", desc := "()Z" } : MethodName)) ∈ GT := gt_mem 270 (by decide +kernel) rfl
theorem g_271 : (Cond.code ({ cls := "WireMessages$Reader", name := "takeQuestion", desc := "()Z" } : MethodName) prog_7_method_4_code (5 : Nat) (Option.some FieldType.boolean)) ∈ GT := gt_mem 271 (by decide +kernel) rfl
theorem g_320 : (Cond.methodLink "WireMessages$Reader" (55 : Nat) ({ cls := "WireMessages$Reader", name := "takeRecord", desc := "(I)Z" } : MethodName)) ∈ GT := gt_mem 320 (by decide +kernel) rfl
theorem g_322 : (Cond.instanceMethod ({ cls := "WireMessages$Reader", name := "takeRecord", desc := "(I)Z" } : MethodName)) ∈ GT := gt_mem 322 (by decide +kernel) rfl
theorem g_323 : (Cond.code ({ cls := "WireMessages$Reader", name := "takeRecord", desc := "(I)Z" } : MethodName) prog_7_method_5_code (10 : Nat) (Option.some FieldType.boolean)) ∈ GT := gt_mem 323 (by decide +kernel) rfl
theorem gs_Ga_startAnew : Cond.selects R_Ga y_Ga_startAnew y_Ga_startAnew ∈ GT := gt_sel (q := (⟨"WireMessages$Gathered", "startAnew", "(II)V"⟩, 11)) (by decide +kernel)
theorem gs_Re_takeRecord : Cond.selects R_Re y_Re_takeRecord y_Re_takeRecord ∈ GT := gt_sel (q := (⟨"WireMessages$Reader", "takeRecord", "(I)Z"⟩, 8)) (by decide +kernel)
theorem gs_Re_takeQuestion : Cond.selects R_Re y_Re_takeQuestion y_Re_takeQuestion ∈ GT := gt_sel (q := (⟨"WireMessages$Reader", "takeQuestion", "()Z"⟩, 8)) (by decide +kernel)
theorem d_Re_takeMessage_0 : decode b_Re_takeMessage 0 = .ok (.aload_n 0, 1) := by decide +kernel
theorem d_Re_takeMessage_1 : decode b_Re_takeMessage 1 = .ok (.iconst 0, 1) := by decide +kernel
theorem d_Re_takeMessage_2 : decode b_Re_takeMessage 2 = .ok (.putfield 19, 3) := by decide +kernel
theorem d_Re_takeMessage_5 : decode b_Re_takeMessage 5 = .ok (.aload_n 0, 1) := by decide +kernel
theorem d_Re_takeMessage_6 : decode b_Re_takeMessage 6 = .ok (.iconst (-1), 1) := by decide +kernel
theorem d_Re_takeMessage_7 : decode b_Re_takeMessage 7 = .ok (.putfield 23, 3) := by decide +kernel
theorem d_Re_takeMessage_10 : decode b_Re_takeMessage 10 = .ok (.aload_n 0, 1) := by decide +kernel
theorem d_Re_takeMessage_11 : decode b_Re_takeMessage 11 = .ok (.iconst 0, 1) := by decide +kernel
theorem d_Re_takeMessage_12 : decode b_Re_takeMessage 12 = .ok (.putfield 26, 3) := by decide +kernel
theorem d_Re_takeMessage_15 : decode b_Re_takeMessage 15 = .ok (.aload_n 0, 1) := by decide +kernel
theorem d_Re_takeMessage_16 : decode b_Re_takeMessage 16 = .ok (.getfield 15, 3) := by decide +kernel
theorem d_Re_takeMessage_19 : decode b_Re_takeMessage 19 = .ok (.aload_n 0, 1) := by decide +kernel
theorem d_Re_takeMessage_20 : decode b_Re_takeMessage 20 = .ok (.getfield 9, 3) := by decide +kernel
theorem d_Re_takeMessage_23 : decode b_Re_takeMessage 23 = .ok (.iconst 0, 1) := by decide +kernel
theorem d_Re_takeMessage_24 : decode b_Re_takeMessage 24 = .ok (.invokevirtual 29, 3) := by decide +kernel
theorem d_Re_takeMessage_27 : decode b_Re_takeMessage 27 = .ok (.aload_n 0, 1) := by decide +kernel
theorem d_Re_takeMessage_28 : decode b_Re_takeMessage 28 = .ok (.getfield 9, 3) := by decide +kernel
theorem d_Re_takeMessage_31 : decode b_Re_takeMessage 31 = .ok (.iconst 2, 1) := by decide +kernel
theorem d_Re_takeMessage_32 : decode b_Re_takeMessage 32 = .ok (.invokevirtual 29, 3) := by decide +kernel
theorem d_Re_takeMessage_35 : decode b_Re_takeMessage 35 = .ok (.invokevirtual 35, 3) := by decide +kernel
theorem d_Re_takeMessage_38 : decode b_Re_takeMessage 38 = .ok (.aload_n 0, 1) := by decide +kernel
theorem d_Re_takeMessage_39 : decode b_Re_takeMessage 39 = .ok (.bipush 12, 2) := by decide +kernel
theorem d_Re_takeMessage_41 : decode b_Re_takeMessage 41 = .ok (.putfield 41, 3) := by decide +kernel
theorem d_Re_takeMessage_44 : decode b_Re_takeMessage 44 = .ok (.aload_n 0, 1) := by decide +kernel
theorem d_Re_takeMessage_45 : decode b_Re_takeMessage 45 = .ok (.getfield 9, 3) := by decide +kernel
theorem d_Re_takeMessage_48 : decode b_Re_takeMessage 48 = .ok (.getfield 44, 3) := by decide +kernel
theorem d_Re_takeMessage_51 : decode b_Re_takeMessage 51 = .ok (.bipush 12, 2) := by decide +kernel
theorem d_Re_takeMessage_53 : decode b_Re_takeMessage 53 = .ok (.if_icmp .ge 12, 3) := by decide +kernel
theorem d_Re_takeMessage_56 : decode b_Re_takeMessage 56 = .ok (.aload_n 0, 1) := by decide +kernel
theorem d_Re_takeMessage_57 : decode b_Re_takeMessage 57 = .ok (.iconst 1, 1) := by decide +kernel
theorem d_Re_takeMessage_58 : decode b_Re_takeMessage 58 = .ok (.iconst 0, 1) := by decide +kernel
theorem d_Re_takeMessage_59 : decode b_Re_takeMessage 59 = .ok (.invokevirtual 47, 3) := by decide +kernel
theorem d_Re_takeMessage_62 : decode b_Re_takeMessage 62 = .ok (.ifCond .eq 7, 3) := by decide +kernel
theorem d_Re_takeMessage_65 : decode b_Re_takeMessage 65 = .ok (.iconst 1, 1) := by decide +kernel
theorem d_Re_takeMessage_66 : decode b_Re_takeMessage 66 = .ok (.goto 4, 3) := by decide +kernel
theorem d_Re_takeMessage_69 : decode b_Re_takeMessage 69 = .ok (.iconst 0, 1) := by decide +kernel
theorem d_Re_takeMessage_70 : decode b_Re_takeMessage 70 = .ok (.istore_n 1, 1) := by decide +kernel
theorem d_Re_takeMessage_71 : decode b_Re_takeMessage 71 = .ok (.iconst 0, 1) := by decide +kernel
theorem d_Re_takeMessage_72 : decode b_Re_takeMessage 72 = .ok (.istore_n 2, 1) := by decide +kernel
theorem d_Re_takeMessage_73 : decode b_Re_takeMessage 73 = .ok (.iload_n 2, 1) := by decide +kernel
theorem d_Re_takeMessage_74 : decode b_Re_takeMessage 74 = .ok (.iconst 4, 1) := by decide +kernel
theorem d_Re_takeMessage_75 : decode b_Re_takeMessage 75 = .ok (.if_icmp .ge 58, 3) := by decide +kernel
theorem d_Re_takeMessage_78 : decode b_Re_takeMessage 78 = .ok (.aload_n 0, 1) := by decide +kernel
theorem d_Re_takeMessage_79 : decode b_Re_takeMessage 79 = .ok (.getfield 9, 3) := by decide +kernel
theorem d_Re_takeMessage_82 : decode b_Re_takeMessage 82 = .ok (.iconst 4, 1) := by decide +kernel
theorem d_Re_takeMessage_83 : decode b_Re_takeMessage 83 = .ok (.iconst 2, 1) := by decide +kernel
theorem d_Re_takeMessage_84 : decode b_Re_takeMessage 84 = .ok (.iload_n 2, 1) := by decide +kernel
theorem d_Re_takeMessage_85 : decode b_Re_takeMessage 85 = .ok (.imul, 1) := by decide +kernel
theorem d_Re_takeMessage_86 : decode b_Re_takeMessage 86 = .ok (.iadd, 1) := by decide +kernel
theorem d_Re_takeMessage_87 : decode b_Re_takeMessage 87 = .ok (.invokevirtual 29, 3) := by decide +kernel
theorem d_Re_takeMessage_90 : decode b_Re_takeMessage 90 = .ok (.istore_n 3, 1) := by decide +kernel
theorem d_Re_takeMessage_91 : decode b_Re_takeMessage 91 = .ok (.iconst 0, 1) := by decide +kernel
theorem d_Re_takeMessage_92 : decode b_Re_takeMessage 92 = .ok (.istore 4, 2) := by decide +kernel
theorem d_Re_takeMessage_94 : decode b_Re_takeMessage 94 = .ok (.iload 4, 2) := by decide +kernel
theorem d_Re_takeMessage_96 : decode b_Re_takeMessage 96 = .ok (.iload_n 3, 1) := by decide +kernel
theorem d_Re_takeMessage_97 : decode b_Re_takeMessage 97 = .ok (.if_icmp .ge 30, 3) := by decide +kernel
theorem d_Re_takeMessage_100 : decode b_Re_takeMessage 100 = .ok (.iload_n 1, 1) := by decide +kernel
theorem d_Re_takeMessage_101 : decode b_Re_takeMessage 101 = .ok (.ifCond .eq 26, 3) := by decide +kernel
theorem d_Re_takeMessage_104 : decode b_Re_takeMessage 104 = .ok (.iload_n 2, 1) := by decide +kernel
theorem d_Re_takeMessage_105 : decode b_Re_takeMessage 105 = .ok (.ifCond .ne 10, 3) := by decide +kernel
theorem d_Re_takeMessage_108 : decode b_Re_takeMessage 108 = .ok (.aload_n 0, 1) := by decide +kernel
theorem d_Re_takeMessage_109 : decode b_Re_takeMessage 109 = .ok (.invokevirtual 51, 3) := by decide +kernel
theorem d_Re_takeMessage_112 : decode b_Re_takeMessage 112 = .ok (.goto 8, 3) := by decide +kernel
theorem d_Re_takeMessage_115 : decode b_Re_takeMessage 115 = .ok (.aload_n 0, 1) := by decide +kernel
theorem d_Re_takeMessage_116 : decode b_Re_takeMessage 116 = .ok (.iload_n 2, 1) := by decide +kernel
theorem d_Re_takeMessage_117 : decode b_Re_takeMessage 117 = .ok (.invokevirtual 55, 3) := by decide +kernel
theorem d_Re_takeMessage_120 : decode b_Re_takeMessage 120 = .ok (.istore_n 1, 1) := by decide +kernel
theorem d_Re_takeMessage_121 : decode b_Re_takeMessage 121 = .ok (.iinc 4 1, 3) := by decide +kernel
theorem d_Re_takeMessage_124 : decode b_Re_takeMessage 124 = .ok (.goto (-30), 3) := by decide +kernel
theorem d_Re_takeMessage_127 : decode b_Re_takeMessage 127 = .ok (.iinc 2 1, 3) := by decide +kernel
theorem d_Re_takeMessage_130 : decode b_Re_takeMessage 130 = .ok (.goto (-57), 3) := by decide +kernel
theorem d_Re_takeMessage_133 : decode b_Re_takeMessage 133 = .ok (.iload_n 1, 1) := by decide +kernel
theorem d_Re_takeMessage_134 : decode b_Re_takeMessage 134 = .ok (.ifCond .eq 28, 3) := by decide +kernel
theorem d_Re_takeMessage_137 : decode b_Re_takeMessage 137 = .ok (.aload_n 0, 1) := by decide +kernel
theorem d_Re_takeMessage_138 : decode b_Re_takeMessage 138 = .ok (.getfield 41, 3) := by decide +kernel
theorem d_Re_takeMessage_141 : decode b_Re_takeMessage 141 = .ok (.aload_n 0, 1) := by decide +kernel
theorem d_Re_takeMessage_142 : decode b_Re_takeMessage 142 = .ok (.getfield 9, 3) := by decide +kernel
theorem d_Re_takeMessage_145 : decode b_Re_takeMessage 145 = .ok (.getfield 44, 3) := by decide +kernel
theorem d_Re_takeMessage_148 : decode b_Re_takeMessage 148 = .ok (.if_icmp .eq 14, 3) := by decide +kernel
theorem d_Re_takeMessage_151 : decode b_Re_takeMessage 151 = .ok (.aload_n 0, 1) := by decide +kernel
theorem d_Re_takeMessage_152 : decode b_Re_takeMessage 152 = .ok (.bipush 6, 2) := by decide +kernel
theorem d_Re_takeMessage_154 : decode b_Re_takeMessage 154 = .ok (.aload_n 0, 1) := by decide +kernel
theorem d_Re_takeMessage_155 : decode b_Re_takeMessage 155 = .ok (.getfield 41, 3) := by decide +kernel
theorem d_Re_takeMessage_158 : decode b_Re_takeMessage 158 = .ok (.invokevirtual 47, 3) := by decide +kernel
theorem d_Re_takeMessage_161 : decode b_Re_takeMessage 161 = .ok (.pop, 1) := by decide +kernel
theorem d_Re_takeMessage_162 : decode b_Re_takeMessage 162 = .ok (.aload_n 0, 1) := by decide +kernel
theorem d_Re_takeMessage_163 : decode b_Re_takeMessage 163 = .ok (.getfield 19, 3) := by decide +kernel
theorem d_Re_takeMessage_166 : decode b_Re_takeMessage 166 = .ok (.ifCond .eq 12, 3) := by decide +kernel
theorem d_Re_takeMessage_169 : decode b_Re_takeMessage 169 = .ok (.aload_n 0, 1) := by decide +kernel
theorem d_Re_takeMessage_170 : decode b_Re_takeMessage 170 = .ok (.getfield 15, 3) := by decide +kernel
theorem d_Re_takeMessage_173 : decode b_Re_takeMessage 173 = .ok (.iconst 0, 1) := by decide +kernel
theorem d_Re_takeMessage_174 : decode b_Re_takeMessage 174 = .ok (.iconst 0, 1) := by decide +kernel
theorem d_Re_takeMessage_175 : decode b_Re_takeMessage 175 = .ok (.invokevirtual 35, 3) := by decide +kernel
theorem d_Re_takeMessage_178 : decode b_Re_takeMessage 178 = .ok (.aload_n 0, 1) := by decide +kernel
theorem d_Re_takeMessage_179 : decode b_Re_takeMessage 179 = .ok (.getfield 19, 3) := by decide +kernel
theorem d_Re_takeMessage_182 : decode b_Re_takeMessage 182 = .ok (.ireturn, 1) := by decide +kernel
set_option maxHeartbeats 4000000 in
set_option maxRecDepth 100000 in
/-- Reader.takeMessage -/
theorem m_Re_takeMessage (l : Launch) (D9 : va_G) (cB cI cJ cG : ClassId) (a : Nat → Nat) (O : Nat → Int64) (I : Nat → Int32) (F : Nat → Nat → Int32) (t : List Nat) (hT2 : I 2 = nI t.length) (htl : t.length ≤ 65536) (hT : BR 0 65536 (F 2) t) (hF4 : sb_Fit (F 4)) : MC l D9 cB cI cJ cG a O y_Re_takeMessage b_Re_takeMessage 5 (some .int) 7 [.ref (a 17)] I F (fun v I' F' => (∃ es c, rdM t = some (es, c) ∧ v = some (.int (nI 0)) ∧ sm [3, 4, 5, 6, 7, 8, 9, 11, 12] I I' ∧ I' 7 = nI c ∧ okE es ∧ GaR F' es ∧ I' 3 = nI (fl es).length ∧ I' 11 = nI (t2 t 0) ∧ I' 12 = nI (t2 t 2) ∧ sm [4, 5, 6, 7, 8, 9, 10, 12, 13, 14, 15, 16] F F') ∨ (rdM t = none ∧ (∃ x : Int32, ¬ x = 0 ∧ v = some (.int x)) ∧ sm [3, 4, 5, 6, 7, 8, 9, 11, 12] I I' ∧ GaR F' [] ∧ I' 3 = nI (fl []).length ∧ I' 11 = nI 0 ∧ I' 12 = nI 0 ∧ sm [4, 5, 6, 7, 8, 9, 10, 12, 13, 14, 15, 16] F F')) := by
  refine mc_of (by decide) (Nat.le_of_ble_eq_true rfl) ?_
  intro p e s m below meth c ls A0 Q C0 hP hD hA hS hl hret
  obtain ⟨hx, hb, hml, hr, hlocks, hown, hts, hK⟩ := id C0
  have hl : lv_has ls 5 [(0, .ref (a 17))] := hl
  refine lv_aload_n hx hb d_Re_takeMessage_0 rfl (lv_at hl 0 rfl) ?_
  refine lv_iconst (v := 0) hx hb d_Re_takeMessage_1 (by decide) ?_
  refine lv_topq (y := nI 0) (rfl) ?_
  refine va_put (D := D9) (ty := .int) (ci := 4) (C := R_Re) (T := F_Re) (N := 8) hx hb hts i_Re t_Re t_Re_ok n_Re hown hK hP hD hS 17 ww_17 rfl 2 (by decide) (hts _ g_122) (fun _ h9 => h9) rfl (by decide +kernel) rfl rfl (Nat.le_of_ble_eq_true rfl) d_Re_takeMessage_2 (fun H locs hP hD hS => ?_)
  obtain ⟨I1, aI1, sI1, hP, hD⟩ := fx (P := fun z => va_P D9 cls9 (WW a cB cI cJ cG z _ O) H ∧ va_D A0 (WW a cB cI cJ cG z _ O)) ⟨wp_4 hP, wd_4 hD⟩
  refine lv_aload_n hx hb d_Re_takeMessage_5 rfl (lv_at hl 0 rfl) ?_
  refine lv_iconst (v := -1) hx hb d_Re_takeMessage_6 (by decide) ?_
  refine lv_topq (y := (-1 : Int32)) rfl ?_
  refine va_put (D := D9) (ty := .int) (ci := 4) (C := R_Re) (T := F_Re) (N := 8) hx hb hts i_Re t_Re t_Re_ok n_Re hown hK hP hD hS 17 ww_17 rfl 3 (by decide) (hts _ g_123) (fun _ h9 => h9) rfl (by decide +kernel) rfl rfl (Nat.le_of_ble_eq_true rfl) d_Re_takeMessage_7 (fun H locs hP hD hS => ?_)
  obtain ⟨I2, aI2, sI2, hP, hD⟩ := fx (P := fun z => va_P D9 cls9 (WW a cB cI cJ cG z _ O) H ∧ va_D A0 (WW a cB cI cJ cG z _ O)) ⟨wp_5 hP, wd_5 hD⟩
  refine lv_aload_n hx hb d_Re_takeMessage_10 rfl (lv_at hl 0 rfl) ?_
  refine lv_iconst (v := 0) hx hb d_Re_takeMessage_11 (by decide) ?_
  refine lv_topq (y := nI 0) (rfl) ?_
  refine va_put (D := D9) (ty := .int) (ci := 4) (C := R_Re) (T := F_Re) (N := 8) hx hb hts i_Re t_Re t_Re_ok n_Re hown hK hP hD hS 17 ww_17 rfl 5 (by decide) (hts _ g_126) (fun _ h9 => h9) rfl (by decide +kernel) rfl rfl (Nat.le_of_ble_eq_true rfl) d_Re_takeMessage_12 (fun H locs hP hD hS => ?_)
  obtain ⟨I3, aI3, sI3, hP, hD⟩ := fx (P := fun z => va_P D9 cls9 (WW a cB cI cJ cG z _ O) H ∧ va_D A0 (WW a cB cI cJ cG z _ O)) ⟨wp_7 hP, wd_7 hD⟩
  refine lv_aload_n hx hb d_Re_takeMessage_15 rfl (lv_at hl 0 rfl) ?_
  refine va_get (D := D9) (ci := 4) (C := R_Re) (T := F_Re) (N := 8) hx hb hts i_Re hown hK hP 17 ww_17 rfl 1 (by decide) (hts _ g_121) (fun _ h9 => h9) rfl d_Re_takeMessage_16 ?_
  refine lv_aload_n hx hb d_Re_takeMessage_19 rfl (lv_at hl 0 rfl) ?_
  refine va_get (D := D9) (ci := 4) (C := R_Re) (T := F_Re) (N := 8) hx hb hts i_Re hown hK hP 17 ww_17 rfl 0 (by decide) (hts _ g_120) (fun _ h9 => h9) rfl d_Re_takeMessage_20 ?_
  refine lv_iconst (v := 0) hx hb d_Re_takeMessage_23 (by decide) ?_
  refine lv_topq (y := nI 0) (rfl) ?_
  refine mw_cVN (ci := 0) (k := 1) C0 (m_By_twoAt_tp l D9 cB cI cJ cG a O _ _ (nI 0)) g_255 g_2 g_252 g_254 gs_By_twoAt ⟨by decide +kernel, by decide +kernel, show Option.map (fun d => d.parameters.length) (parseMethodDescriptor y_By_twoAt.desc) = some 1 by decide +kernel⟩ ⟨by decide, by decide⟩ rfl rfl hP hD hS hA rfl ww_1 hl.1 (Nat.le_of_ble_eq_true rfl) rfl d_Re_takeMessage_24 ⟨by decide, by decide⟩ (fun v9 w9 H locs hq hP hD hS => ?_)
  obtain ⟨I4, F5, hw9, q6⟩ := hq
  subst hw9
  obtain ⟨rfl, rfl, rfl⟩ := q6
  refine lv_aload_n hx hb d_Re_takeMessage_27 rfl (lv_at hl 0 rfl) ?_
  refine va_get (D := D9) (ci := 4) (C := R_Re) (T := F_Re) (N := 8) hx hb hts i_Re hown hK hP 17 ww_17 rfl 0 (by decide) (hts _ g_120) (fun _ h9 => h9) rfl d_Re_takeMessage_28 ?_
  refine lv_iconst (v := 2) hx hb d_Re_takeMessage_31 (by decide) ?_
  refine lv_topq (y := nI 2) (rfl) ?_
  refine mw_cVN (ci := 0) (k := 1) C0 (m_By_twoAt_tp l D9 cB cI cJ cG a O _ _ (nI 2)) g_255 g_2 g_252 g_254 gs_By_twoAt ⟨by decide +kernel, by decide +kernel, show Option.map (fun d => d.parameters.length) (parseMethodDescriptor y_By_twoAt.desc) = some 1 by decide +kernel⟩ ⟨by decide, by decide⟩ rfl rfl hP hD hS hA rfl ww_1 hl.1 (Nat.le_of_ble_eq_true rfl) rfl d_Re_takeMessage_32 ⟨by decide, by decide⟩ (fun v9 w9 H locs hq hP hD hS => ?_)
  obtain ⟨I7, F8, hw9, q9⟩ := hq
  subst hw9
  obtain ⟨rfl, rfl, rfl⟩ := q9
  refine mw_cVN (ci := 2) (k := 19) C0 (m_Ga_startAnew l D9 cB cI cJ cG a O _ _ [] (bt2 (F 2) (nI 0)) (bt2 (F 2) (nI 2)) hF4) g_263 g_3 g_260 g_262 gs_Ga_startAnew ⟨by decide +kernel, by decide +kernel, show Option.map (fun d => d.parameters.length) (parseMethodDescriptor y_Ga_startAnew.desc) = some 2 by decide +kernel⟩ ⟨by decide, by decide⟩ rfl rfl hP hD hS hA rfl ww_19 hl.1 (Nat.le_of_ble_eq_true rfl) rfl d_Re_takeMessage_35 ⟨by decide, by decide⟩ (fun v9 w9 H locs hq hP hD hS => ?_)
  obtain ⟨I10, F11, hw9, q12⟩ := hq
  subst hw9
  obtain ⟨rfl, sa10, u1110, u1210, u310, sb10, hGa10⟩ := q12
  refine lv_aload_n hx hb d_Re_takeMessage_38 rfl (lv_at hl 0 rfl) ?_
  refine lv_bipush (v := 12) hx hb d_Re_takeMessage_39 (by decide) ?_
  refine lv_topq (y := nI 12) (rfl) ?_
  refine va_put (D := D9) (ty := .int) (ci := 4) (C := R_Re) (T := F_Re) (N := 8) hx hb hts i_Re t_Re t_Re_ok n_Re hown hK hP hD hS 17 ww_17 rfl 4 (by decide) (hts _ g_125) (fun _ h9 => h9) rfl (by decide +kernel) rfl rfl (Nat.le_of_ble_eq_true rfl) d_Re_takeMessage_41 (fun H locs hP hD hS => ?_)
  obtain ⟨I13, aI13, sI13, hP, hD⟩ := fx (P := fun z => va_P D9 cls9 (WW a cB cI cJ cG z _ O) H ∧ va_D A0 (WW a cB cI cJ cG z _ O)) ⟨wp_6 hP, wd_6 hD⟩
  refine lv_aload_n hx hb d_Re_takeMessage_44 rfl (lv_at hl 0 rfl) ?_
  refine va_get (D := D9) (ci := 4) (C := R_Re) (T := F_Re) (N := 8) hx hb hts i_Re hown hK hP 17 ww_17 rfl 0 (by decide) (hts _ g_120) (fun _ h9 => h9) rfl d_Re_takeMessage_45 ?_
  refine va_getN (D := D9) (ci := 0) (C := R_By) (T := F_By) (N := 2) hx hb hts i_By hown hK hP 1 ww_1 rfl 1 (by decide) (hts _ g_39) (fun _ h9 => h9) rfl d_Re_takeMessage_48 ?_
  refine lv_topq (y := nI t.length) (((sI13 2 (by decide)).trans ((sa10 2 (by decide)).trans ((sI3 2 (by decide)).trans ((sI2 2 (by decide)).trans ((sI1 2 (by decide)).trans hT2)))))) ?_
  refine lv_bipush (v := 12) hx hb d_Re_takeMessage_51 (by decide) ?_
  refine lv_topq (y := nI 12) (rfl) ?_
  refine lv_icmp_ge (tgt := 65) hx hb d_Re_takeMessage_53 (by decide) (fun c14 => ?_) (fun c14 => ?_)
  · have c14 : 12 ≤ t.length := (nI_leI (a := 12) (b := t.length) (by omega) (by omega)).mp c14
    refine lv_iconst (v := 1) hx hb d_Re_takeMessage_65 (by decide) ?_
    refine lv_topq (y := nI 1) (rfl) ?_
    refine lv_goto (tgt := 70) hx hb d_Re_takeMessage_66 (by decide) ?_
    refine lv_istore_n (lv' := [(1, _), (0, _)]) hx hb d_Re_takeMessage_70 rfl hl (by decide) rfl (fun ls hl => ?_)
    refine lv_iconst (v := 0) hx hb d_Re_takeMessage_71 (by decide) ?_
    refine lv_topq (y := nI 0) (rfl) ?_
    refine lv_istore_n (lv' := [(2, _), (1, _), (0, _)]) hx hb d_Re_takeMessage_72 rfl hl (by decide) rfl (fun ls hl => ?_)
    have loopF : ∀ (nf : Nat) (j : Nat) (If : Nat → Int32) (Ff : Nat → Nat → Int32) (H : Heap) (locs : List Loc) (ls : Array Slot), (sm [3, 4, 5, 6, 7, 8, 9, 11, 12] I If) → (sm [4, 5, 6, 7, 8, 9, 10, 12, 13, 14, 15, 16] F Ff) → (4 - j = nf) → (j ≤ 4) → (rdM t = none) → (¬ If 4 = 0) → (sb_Fit (Ff 4)) → va_P D9 cls9 (WW a cB cI cJ cG If Ff O) H → va_D A0 (WW a cB cI cJ cG If Ff O) → va_S A0 s.heap H locs → lv_has ls 5 [(0, .ref (a 17)), (1, .int (nI 0)), (2, .int (nI j))] → W p l e (rm9 7 0 0) s m ([.ref (a 17)] : List Value).toArray below meth c H locs 0 0 Q (F0 m 73 ls []) := by
      intro nf
      induction nf using Nat.strongRecOn with
      | ind nf ihf =>
        intro j If Ff H locs ls hsIf hsFf hnf hj hN h4 hFf hP hD hS hl
        refine lv_iload_n hx hb d_Re_takeMessage_73 rfl (lv_at hl 2 rfl) ?_
        refine lv_iconst (v := 4) hx hb d_Re_takeMessage_74 (by decide) ?_
        refine lv_topq (y := nI 4) (rfl) ?_
        refine lv_icmp_ge (tgt := 133) hx hb d_Re_takeMessage_75 (by decide) (fun c15 => ?_) (fun c15 => ?_)
        · have c15 : 4 ≤ j := (nI_leI (a := 4) (b := j) (by omega) (by omega)).mp c15
          refine lv_iload_n hx hb d_Re_takeMessage_133 rfl (lv_at hl 1 rfl) ?_
          refine lv_if_eq (tgt := 162) hx hb d_Re_takeMessage_134 (by decide) (fun c16 => ?_) (fun c16 => ?_)
          · refine lv_aload_n hx hb d_Re_takeMessage_162 rfl (lv_at hl 0 rfl) ?_
            refine va_get (D := D9) (ci := 4) (C := R_Re) (T := F_Re) (N := 8) hx hb hts i_Re hown hK hP 17 ww_17 rfl 2 (by decide) (hts _ g_122) (fun _ h9 => h9) rfl d_Re_takeMessage_163 ?_
            refine lv_if_eq (tgt := 178) hx hb d_Re_takeMessage_166 (by decide) (fun c17 => ?_) (fun c17 => ?_)
            · exact absurd c17 h4
            · refine lv_aload_n hx hb d_Re_takeMessage_169 rfl (lv_at hl 0 rfl) ?_
              refine va_get (D := D9) (ci := 4) (C := R_Re) (T := F_Re) (N := 8) hx hb hts i_Re hown hK hP 17 ww_17 rfl 1 (by decide) (hts _ g_121) (fun _ h9 => h9) rfl d_Re_takeMessage_170 ?_
              refine lv_iconst (v := 0) hx hb d_Re_takeMessage_173 (by decide) ?_
              refine lv_topq (y := nI 0) (rfl) ?_
              refine lv_iconst (v := 0) hx hb d_Re_takeMessage_174 (by decide) ?_
              refine lv_topq (y := nI 0) (rfl) ?_
              refine mw_cVN (ci := 2) (k := 19) C0 (m_Ga_startAnew l D9 cB cI cJ cG a O _ _ [] (nI 0) (nI 0) hFf) g_263 g_3 g_260 g_262 gs_Ga_startAnew ⟨by decide +kernel, by decide +kernel, show Option.map (fun d => d.parameters.length) (parseMethodDescriptor y_Ga_startAnew.desc) = some 2 by decide +kernel⟩ ⟨by decide, by decide⟩ rfl rfl hP hD hS hA rfl ww_19 hl.1 (Nat.le_of_ble_eq_true rfl) rfl d_Re_takeMessage_175 ⟨by decide, by decide⟩ (fun v9 w9 H locs hq hP hD hS => ?_)
              obtain ⟨I18, F19, hw9, q20⟩ := hq
              subst hw9
              obtain ⟨rfl, sa18, u1118, u1218, u318, sb18, hGa18⟩ := q20
              refine lv_aload_n hx hb d_Re_takeMessage_178 rfl (lv_at hl 0 rfl) ?_
              refine va_get (D := D9) (ci := 4) (C := R_Re) (T := F_Re) (N := 8) hx hb hts i_Re hown hK hP 17 ww_17 rfl 2 (by decide) (hts _ g_122) (fun _ h9 => h9) rfl d_Re_takeMessage_179 ?_
              exact hret _ _ _ _ _ _ _ hS hP hD d_Re_takeMessage_182 nr_i (Or.inr ⟨hN, ⟨_, (by rw [(sa18 4 (by decide))]; exact h4), rfl⟩, (sm_tr (sm_mo hsIf (by decide)) (sm_mo sa18 (by decide))), hGa18, u318, u1118, u1218, (sm_tr (sm_mo hsFf (by decide)) (sm_mo sb18 (by decide)))⟩)
          · exact absurd c16 (by decide)
        · have c15 : ¬ (4 ≤ j) := fun z9 => c15 ((nI_leI (a := 4) (b := j) (by omega) (by omega)).mpr z9)
          refine lv_aload_n hx hb d_Re_takeMessage_78 rfl (lv_at hl 0 rfl) ?_
          refine va_get (D := D9) (ci := 4) (C := R_Re) (T := F_Re) (N := 8) hx hb hts i_Re hown hK hP 17 ww_17 rfl 0 (by decide) (hts _ g_120) (fun _ h9 => h9) rfl d_Re_takeMessage_79 ?_
          refine lv_iconst (v := 4) hx hb d_Re_takeMessage_82 (by decide) ?_
          refine lv_topq (y := nI 4) (rfl) ?_
          refine lv_iconst (v := 2) hx hb d_Re_takeMessage_83 (by decide) ?_
          refine lv_topq (y := nI 2) (rfl) ?_
          refine lv_iload_n hx hb d_Re_takeMessage_84 rfl (lv_at hl 2 rfl) ?_
          refine lv_imul hx hb d_Re_takeMessage_85 ?_
          refine lv_topq (y := nI (2 * j)) (pk_mul _ _) ?_
          refine lv_iadd hx hb d_Re_takeMessage_86 ?_
          refine lv_topq (y := nI (4 + (2 * j))) (nI_add _ _) ?_
          refine mw_cVN (ci := 0) (k := 1) C0 (m_By_twoAt_tp l D9 cB cI cJ cG a O _ _ _) g_255 g_2 g_252 g_254 gs_By_twoAt ⟨by decide +kernel, by decide +kernel, show Option.map (fun d => d.parameters.length) (parseMethodDescriptor y_By_twoAt.desc) = some 1 by decide +kernel⟩ ⟨by decide, by decide⟩ rfl rfl hP hD hS hA rfl ww_1 hl.1 (Nat.le_of_ble_eq_true rfl) rfl d_Re_takeMessage_87 ⟨by decide, by decide⟩ (fun v9 w9 H locs hq hP hD hS => ?_)
          obtain ⟨I21, F22, hw9, q23⟩ := hq
          subst hw9
          obtain ⟨rfl, rfl, rfl⟩ := q23
          obtain ⟨w9, hw9, ew9⟩ := bt2_ex (Ff 2) (nI (4 + 2 * j))
          refine lv_topq (y := nI w9) (ew9) ?_
          refine lv_istore_n (lv' := [(3, _), (0, _), (1, _), (2, _)]) hx hb d_Re_takeMessage_90 rfl hl (by decide) rfl (fun ls hl => ?_)
          refine lv_iconst (v := 0) hx hb d_Re_takeMessage_91 (by decide) ?_
          refine lv_topq (y := nI 0) (rfl) ?_
          refine lv_istore (lv' := [(4, _), (3, _), (0, _), (1, _), (2, _)]) hx hb d_Re_takeMessage_92 hl (by decide) rfl (fun ls hl => ?_)
          refine lv_iload hx hb d_Re_takeMessage_94 (lv_at hl 0 rfl) ?_
          refine lv_iload_n hx hb d_Re_takeMessage_96 rfl (lv_at hl 1 rfl) ?_
          refine lv_icmp_ge (tgt := 127) hx hb d_Re_takeMessage_97 (by decide) (fun c24 => ?_) (fun c24 => ?_)
          · have c24 : w9 ≤ 0 := (nI_leI (a := w9) (b := 0) (by omega) (by omega)).mp c24
            refine lv_iinc (lv' := [(2, .int (nI (j + 1))), (4, _), (3, _), (0, _), (1, _)]) hx hb d_Re_takeMessage_127 hl (k := 4) rfl (nI_add _ 1) (by decide) rfl (fun ls hl => ?_)
            refine lv_goto (tgt := 73) hx hb d_Re_takeMessage_130 (by decide) ?_
            exact ihf _ (by omega) (j + 1) _ _ _ _ _ (sm_mo hsIf (by decide)) (sm_mo hsFf (by decide)) rfl (by omega) hN h4 hFf hP hD hS (lv_pk hl [3, 4, 0] rfl)
          · have c24 : ¬ (w9 ≤ 0) := fun z9 => c24 ((nI_leI (a := w9) (b := 0) (by omega) (by omega)).mpr z9)
            refine lv_iload_n hx hb d_Re_takeMessage_100 rfl (lv_at hl 3 rfl) ?_
            refine lv_if_eq (tgt := 127) hx hb d_Re_takeMessage_101 (by decide) (fun c25 => ?_) (fun c25 => ?_)
            · refine lv_iinc (lv' := [(2, .int (nI (j + 1))), (4, _), (3, _), (0, _), (1, _)]) hx hb d_Re_takeMessage_127 hl (k := 4) rfl (nI_add _ 1) (by decide) rfl (fun ls hl => ?_)
              refine lv_goto (tgt := 73) hx hb d_Re_takeMessage_130 (by decide) ?_
              exact ihf _ (by omega) (j + 1) _ _ _ _ _ (sm_mo hsIf (by decide)) (sm_mo hsFf (by decide)) rfl (by omega) hN h4 hFf hP hD hS (lv_pk hl [3, 4, 0] rfl)
            · exact absurd c25 (by decide)
    have e11 : bt2 (F 2) (nI 0) = nI (t2 t 0) := bt2_L hT htl (by omega)
    have e12 : bt2 (F 2) (nI 2) = nI (t2 t 2) := bt2_L hT htl (by omega)
    have hM0 : rdM t = (rdS t (4 - 0) [] 12 0).bind (rdX t) := by unfold rdM; rw [if_neg (by omega)]
    have loopG : ∀ (n9 : Nat) (j : Nat) (es : List En9) (pos : Nat) (c8 : Nat) (I9 : Nat → Int32) (F9 : Nat → Nat → Int32) (H : Heap) (locs : List Loc) (ls : Array Slot), (sm [3, 4, 5, 6, 7, 8, 9, 11, 12] I I9) → (sm [4, 5, 6, 7, 8, 9, 10, 12, 13, 14, 15, 16] F F9) → (4 - j = n9) → (j ≤ 4) → (rdM t = (rdS t (4 - j) es pos c8).bind (rdX t)) → (GaR F9 es) → (okE es) → (I9 3 = nI (fl es).length) → (I9 6 = nI pos) → (pos ≤ t.length) → (I9 7 = nI c8) → (c8 ≤ 60000 * es.length) → (I9 4 = nI 0) → (I9 11 = nI (t2 t 0)) → (I9 12 = nI (t2 t 2)) → va_P D9 cls9 (WW a cB cI cJ cG I9 F9 O) H → va_D A0 (WW a cB cI cJ cG I9 F9 O) → va_S A0 s.heap H locs → lv_has ls 5 [(0, .ref (a 17)), (1, .int (nI 1)), (2, .int (nI j))] → W p l e (rm9 7 0 0) s m ([.ref (a 17)] : List Value).toArray below meth c H locs 0 0 Q (F0 m 73 ls []) := by
      intro n9
      induction n9 using Nat.strongRecOn with
      | ind n9 ih =>
        intro j es pos c8 I9 F9 H locs ls hsI hsF hn9 hj hM hG hO h3 h6 hpb h7 hcb h4 h11 h12 hP hD hS hl
        refine lv_iload_n hx hb d_Re_takeMessage_73 rfl (lv_at hl 2 rfl) ?_
        refine lv_iconst (v := 4) hx hb d_Re_takeMessage_74 (by decide) ?_
        refine lv_topq (y := nI 4) (rfl) ?_
        refine lv_icmp_ge (tgt := 133) hx hb d_Re_takeMessage_75 (by decide) (fun c26 => ?_) (fun c26 => ?_)
        · have c26 : 4 ≤ j := (nI_leI (a := 4) (b := j) (by omega) (by omega)).mp c26
          obtain rfl : j = 4 := by omega
          have hM : rdM t = if pos = t.length then some (es, c8) else none := hM
          refine lv_iload_n hx hb d_Re_takeMessage_133 rfl (lv_at hl 1 rfl) ?_
          refine lv_if_eq (tgt := 162) hx hb d_Re_takeMessage_134 (by decide) (fun c27 => ?_) (fun c27 => ?_)
          · exact absurd c27 (by decide)
          · refine lv_aload_n hx hb d_Re_takeMessage_137 rfl (lv_at hl 0 rfl) ?_
            refine va_get (D := D9) (ci := 4) (C := R_Re) (T := F_Re) (N := 8) hx hb hts i_Re hown hK hP 17 ww_17 rfl 4 (by decide) (hts _ g_125) (fun _ h9 => h9) rfl d_Re_takeMessage_138 ?_
            refine lv_topq (y := nI pos) (h6) ?_
            refine lv_aload_n hx hb d_Re_takeMessage_141 rfl (lv_at hl 0 rfl) ?_
            refine va_get (D := D9) (ci := 4) (C := R_Re) (T := F_Re) (N := 8) hx hb hts i_Re hown hK hP 17 ww_17 rfl 0 (by decide) (hts _ g_120) (fun _ h9 => h9) rfl d_Re_takeMessage_142 ?_
            refine va_getN (D := D9) (ci := 0) (C := R_By) (T := F_By) (N := 2) hx hb hts i_By hown hK hP 1 ww_1 rfl 1 (by decide) (hts _ g_39) (fun _ h9 => h9) rfl d_Re_takeMessage_145 ?_
            refine lv_topq (y := nI t.length) (((hsI 2 (by decide)).trans hT2)) ?_
            refine lv_icmp_eq (tgt := 162) hx hb d_Re_takeMessage_148 (by decide) (fun c28 => ?_) (fun c28 => ?_)
            · have c28 : pos = t.length := (nI_eq (a := pos) (b := t.length) (by omega) (by omega)).mp c28
              rw [if_pos c28] at hM
              refine lv_aload_n hx hb d_Re_takeMessage_162 rfl (lv_at hl 0 rfl) ?_
              refine va_get (D := D9) (ci := 4) (C := R_Re) (T := F_Re) (N := 8) hx hb hts i_Re hown hK hP 17 ww_17 rfl 2 (by decide) (hts _ g_122) (fun _ h9 => h9) rfl d_Re_takeMessage_163 ?_
              refine lv_topq (y := nI 0) (h4) ?_
              refine lv_if_eq (tgt := 178) hx hb d_Re_takeMessage_166 (by decide) (fun c29 => ?_) (fun c29 => ?_)
              · refine lv_aload_n hx hb d_Re_takeMessage_178 rfl (lv_at hl 0 rfl) ?_
                refine va_get (D := D9) (ci := 4) (C := R_Re) (T := F_Re) (N := 8) hx hb hts i_Re hown hK hP 17 ww_17 rfl 2 (by decide) (hts _ g_122) (fun _ h9 => h9) rfl d_Re_takeMessage_179 ?_
                refine lv_topq (y := nI 0) (h4) ?_
                exact hret _ _ _ _ _ _ _ hS hP hD d_Re_takeMessage_182 nr_i (Or.inl ⟨es, c8, hM, rfl, (sm_mo hsI (by decide)), h7, hO, hG, h3, h11, h12, (sm_mo hsF (by decide))⟩)
              · exact absurd c29 (by decide)
            · have c28 : ¬ (pos = t.length) := fun z9 => c28 ((nI_eq (a := pos) (b := t.length) (by omega) (by omega)).mpr z9)
              rw [if_neg c28] at hM
              have hN := hM
              refine lv_aload_n hx hb d_Re_takeMessage_151 rfl (lv_at hl 0 rfl) ?_
              refine lv_bipush (v := 6) hx hb d_Re_takeMessage_152 (by decide) ?_
              refine lv_topq (y := nI 6) (rfl) ?_
              refine lv_aload_n hx hb d_Re_takeMessage_154 rfl (lv_at hl 0 rfl) ?_
              refine va_get (D := D9) (ci := 4) (C := R_Re) (T := F_Re) (N := 8) hx hb hts i_Re hown hK hP 17 ww_17 rfl 4 (by decide) (hts _ g_125) (fun _ h9 => h9) rfl d_Re_takeMessage_155 ?_
              refine lv_topq (y := nI pos) (h6) ?_
              refine mw_cV (ci := 4) (k := 17) C0 (m_Re_fail l D9 cB cI cJ cG a O _ _ (nI 6) _) g_267 g_4 g_264 g_266 gs_Re_fail ⟨by decide +kernel, by decide +kernel, show Option.map (fun d => d.parameters.length) (parseMethodDescriptor y_Re_fail.desc) = some 2 by decide +kernel⟩ ⟨by decide, by decide⟩ rfl rfl hP hD hS hA rfl ww_17 hl.1 (Nat.le_of_ble_eq_true rfl) rfl d_Re_takeMessage_158 ⟨by decide, by decide⟩ (fun v9 w9 H locs hq hP hD hS => ?_)
              obtain ⟨I30, F31, hw9, q32⟩ := hq
              subst hw9
              obtain ⟨rfl, sI30, zI30, rfl⟩ := q32
              refine lv_pop hx hb d_Re_takeMessage_161 rfl ?_
              refine lv_aload_n hx hb d_Re_takeMessage_162 rfl (lv_at hl 0 rfl) ?_
              refine va_get (D := D9) (ci := 4) (C := R_Re) (T := F_Re) (N := 8) hx hb hts i_Re hown hK hP 17 ww_17 rfl 2 (by decide) (hts _ g_122) (fun _ h9 => h9) rfl d_Re_takeMessage_163 ?_
              refine lv_topq (y := nI 6) (zI30) ?_
              refine lv_if_eq (tgt := 178) hx hb d_Re_takeMessage_166 (by decide) (fun c33 => ?_) (fun c33 => ?_)
              · exact absurd c33 (by decide)
              · refine lv_aload_n hx hb d_Re_takeMessage_169 rfl (lv_at hl 0 rfl) ?_
                refine va_get (D := D9) (ci := 4) (C := R_Re) (T := F_Re) (N := 8) hx hb hts i_Re hown hK hP 17 ww_17 rfl 1 (by decide) (hts _ g_121) (fun _ h9 => h9) rfl d_Re_takeMessage_170 ?_
                refine lv_iconst (v := 0) hx hb d_Re_takeMessage_173 (by decide) ?_
                refine lv_topq (y := nI 0) (rfl) ?_
                refine lv_iconst (v := 0) hx hb d_Re_takeMessage_174 (by decide) ?_
                refine lv_topq (y := nI 0) (rfl) ?_
                refine mw_cVN (ci := 2) (k := 19) C0 (m_Ga_startAnew l D9 cB cI cJ cG a O _ _ [] (nI 0) (nI 0) (GaR_fit hG)) g_263 g_3 g_260 g_262 gs_Ga_startAnew ⟨by decide +kernel, by decide +kernel, show Option.map (fun d => d.parameters.length) (parseMethodDescriptor y_Ga_startAnew.desc) = some 2 by decide +kernel⟩ ⟨by decide, by decide⟩ rfl rfl hP hD hS hA rfl ww_19 hl.1 (Nat.le_of_ble_eq_true rfl) rfl d_Re_takeMessage_175 ⟨by decide, by decide⟩ (fun v9 w9 H locs hq hP hD hS => ?_)
                obtain ⟨I34, F35, hw9, q36⟩ := hq
                subst hw9
                obtain ⟨rfl, sa34, u1134, u1234, u334, sb34, hGa34⟩ := q36
                refine lv_aload_n hx hb d_Re_takeMessage_178 rfl (lv_at hl 0 rfl) ?_
                refine va_get (D := D9) (ci := 4) (C := R_Re) (T := F_Re) (N := 8) hx hb hts i_Re hown hK hP 17 ww_17 rfl 2 (by decide) (hts _ g_122) (fun _ h9 => h9) rfl d_Re_takeMessage_179 ?_
                refine lv_topq (y := nI 6) (((sa34 4 (by decide)).trans zI30)) ?_
                exact hret _ _ _ _ _ _ _ hS hP hD d_Re_takeMessage_182 nr_i (Or.inr ⟨hN, ⟨_, by decide, rfl⟩, (sm_tr (sm_tr (sm_mo hsI (by decide)) (sm_mo sI30 (by decide))) (sm_mo sa34 (by decide))), hGa34, u334, u1134, u1234, (sm_tr (sm_mo hsF (by decide)) (sm_mo sb34 (by decide)))⟩)
        · have c26 : ¬ (4 ≤ j) := fun z9 => c26 ((nI_leI (a := 4) (b := j) (by omega) (by omega)).mpr z9)
          rw [rdS_j (by omega)] at hM
          refine lv_aload_n hx hb d_Re_takeMessage_78 rfl (lv_at hl 0 rfl) ?_
          refine va_get (D := D9) (ci := 4) (C := R_Re) (T := F_Re) (N := 8) hx hb hts i_Re hown hK hP 17 ww_17 rfl 0 (by decide) (hts _ g_120) (fun _ h9 => h9) rfl d_Re_takeMessage_79 ?_
          refine lv_iconst (v := 4) hx hb d_Re_takeMessage_82 (by decide) ?_
          refine lv_topq (y := nI 4) (rfl) ?_
          refine lv_iconst (v := 2) hx hb d_Re_takeMessage_83 (by decide) ?_
          refine lv_topq (y := nI 2) (rfl) ?_
          refine lv_iload_n hx hb d_Re_takeMessage_84 rfl (lv_at hl 2 rfl) ?_
          refine lv_imul hx hb d_Re_takeMessage_85 ?_
          refine lv_topq (y := nI (2 * j)) (pk_mul _ _) ?_
          refine lv_iadd hx hb d_Re_takeMessage_86 ?_
          refine lv_topq (y := nI (4 + (2 * j))) (nI_add _ _) ?_
          refine mw_cVN (ci := 0) (k := 1) C0 (m_By_twoAtL_tp l D9 cB cI cJ cG a O _ _ t (4 + 2 * j) (BR_eq hT (hsF 2 (by decide))) htl (by omega)) g_255 g_2 g_252 g_254 gs_By_twoAt ⟨by decide +kernel, by decide +kernel, show Option.map (fun d => d.parameters.length) (parseMethodDescriptor y_By_twoAt.desc) = some 1 by decide +kernel⟩ ⟨by decide, by decide⟩ rfl rfl hP hD hS hA rfl ww_1 hl.1 (Nat.le_of_ble_eq_true rfl) rfl d_Re_takeMessage_87 ⟨by decide, by decide⟩ (fun v9 w9 H locs hq hP hD hS => ?_)
          obtain ⟨I37, F38, hw9, q39⟩ := hq
          subst hw9
          obtain ⟨rfl, rfl, rfl⟩ := q39
          refine lv_istore_n (lv' := [(3, _), (0, _), (1, _), (2, _)]) hx hb d_Re_takeMessage_90 rfl hl (by decide) rfl (fun ls hl => ?_)
          refine lv_iconst (v := 0) hx hb d_Re_takeMessage_91 (by decide) ?_
          refine lv_topq (y := nI 0) (rfl) ?_
          refine lv_istore (lv' := [(4, _), (3, _), (0, _), (1, _), (2, _)]) hx hb d_Re_takeMessage_92 hl (by decide) rfl (fun ls hl => ?_)
          have hdue : t2 t (4 + 2 * j) < 65536 := t2_lt hT htl (by omega)
          have loopI : ∀ (ni : Nat) (k : Nat) (es2 : List En9) (pos2 : Nat) (c2 : Nat) (Ii : Nat → Int32) (Fi : Nat → Nat → Int32) (H : Heap) (locs : List Loc) (ls : Array Slot), (sm [3, 4, 5, 6, 7, 8, 9, 11, 12] I Ii) → (sm [4, 5, 6, 7, 8, 9, 10, 12, 13, 14, 15, 16] F Fi) → (t2 t (4 + 2 * j) - k = ni) → (k ≤ t2 t (4 + 2 * j)) → (rdM t = ((rdL t j (t2 t (4 + 2 * j) - k) es2 pos2 c2).bind (fun r => rdS t (4 - (j + 1)) r.1 r.2.1 r.2.2)).bind (rdX t)) → (GaR Fi es2) → (okE es2) → (Ii 3 = nI (fl es2).length) → (Ii 6 = nI pos2) → (pos2 ≤ t.length) → (Ii 7 = nI c2) → (c2 ≤ 60000 * es2.length) → (Ii 4 = nI 0) → (Ii 11 = nI (t2 t 0)) → (Ii 12 = nI (t2 t 2)) → va_P D9 cls9 (WW a cB cI cJ cG Ii Fi O) H → va_D A0 (WW a cB cI cJ cG Ii Fi O) → va_S A0 s.heap H locs → lv_has ls 5 [(0, .ref (a 17)), (1, .int (nI 1)), (2, .int (nI j)), (3, .int (nI (t2 t (4 + 2 * j)))), (4, .int (nI k))] → W p l e (rm9 7 0 0) s m ([.ref (a 17)] : List Value).toArray below meth c H locs 0 0 Q (F0 m 94 ls []) := by
            intro ni
            induction ni using Nat.strongRecOn with
            | ind ni ihi =>
              intro k es2 pos2 c2 Ii Fi H locs ls hsIi hsFi hni hk hMi hGi hOi h3i h6i hpbi h7i hcbi h4i h11i h12i hP hD hS hl
              have hlni := okE_len hOi
              refine lv_iload hx hb d_Re_takeMessage_94 (lv_at hl 4 rfl) ?_
              refine lv_iload_n hx hb d_Re_takeMessage_96 rfl (lv_at hl 3 rfl) ?_
              refine lv_icmp_ge (tgt := 127) hx hb d_Re_takeMessage_97 (by decide) (fun c40 => ?_) (fun c40 => ?_)
              · have c40 : t2 t (4 + 2 * j) ≤ k := (nI_leI (a := t2 t (4 + 2 * j)) (b := k) (by omega) (by omega)).mp c40
                have hke : k = t2 t (4 + 2 * j) := by omega
                rw [hke, Nat.sub_self] at hMi
                refine lv_iinc (lv' := [(2, .int (nI (j + 1))), (0, _), (1, _), (3, _), (4, _)]) hx hb d_Re_takeMessage_127 hl (k := 2) rfl (nI_add _ 1) (by decide) rfl (fun ls hl => ?_)
                refine lv_goto (tgt := 73) hx hb d_Re_takeMessage_130 (by decide) ?_
                exact ih _ (by omega) (j + 1) es2 pos2 c2 _ _ _ _ _ (sm_mo hsIi (by decide)) (sm_mo hsFi (by decide)) rfl (by omega) hMi hGi hOi h3i h6i hpbi h7i hcbi h4i h11i h12i hP hD hS (lv_pk hl [1, 2, 0] rfl)
              · have c40 : ¬ (t2 t (4 + 2 * j) ≤ k) := fun z9 => c40 ((nI_leI (a := t2 t (4 + 2 * j)) (b := k) (by omega) (by omega)).mpr z9)
                have hke : t2 t (4 + 2 * j) - k = (t2 t (4 + 2 * j) - (k + 1)) + 1 := by omega
                rw [hke] at hMi
                refine lv_iload_n hx hb d_Re_takeMessage_100 rfl (lv_at hl 1 rfl) ?_
                refine lv_if_eq (tgt := 127) hx hb d_Re_takeMessage_101 (by decide) (fun c41 => ?_) (fun c41 => ?_)
                · exact absurd c41 (by decide)
                · refine lv_iload_n hx hb d_Re_takeMessage_104 rfl (lv_at hl 2 rfl) ?_
                  refine lv_if_ne (tgt := 115) hx hb d_Re_takeMessage_105 (by decide) (fun c42 => ?_) (fun c42 => ?_)
                  · have c42 : ¬ (j = 0) := fun z9 => c42 ((nI_eq (a := j) (b := 0) (by omega) (by omega)).mpr z9)
                    have hE : rdE t j pos2 = rdR t j pos2 := by unfold rdE; rw [if_neg c42]
                    refine lv_aload_n hx hb d_Re_takeMessage_115 rfl (lv_at hl 0 rfl) ?_
                    refine lv_iload_n hx hb d_Re_takeMessage_116 rfl (lv_at hl 2 rfl) ?_
                    refine mw_cV (ci := 4) (k := 17) C0 (m_Re_takeRecord l D9 cB cI cJ cG a O _ _ t ((hsIi 2 (by decide)).trans hT2) htl (BR_eq hT (hsFi 2 (by decide))) es2 pos2 c2 hGi hOi h3i h6i (by omega) h7i (by omega) j (by omega)) g_323 g_4 g_320 g_322 gs_Re_takeRecord ⟨by decide +kernel, by decide +kernel, show Option.map (fun d => d.parameters.length) (parseMethodDescriptor y_Re_takeRecord.desc) = some 1 by decide +kernel⟩ ⟨by decide, by decide⟩ rfl rfl hP hD hS hA rfl ww_17 hl.1 (Nat.le_of_ble_eq_true rfl) rfl d_Re_takeMessage_117 ⟨by decide, by decide⟩ (fun v9 w9 H locs hq hP hD hS => ?_)
                    obtain ⟨I43, F44, hw9, q45⟩ := hq
                    subst hw9
                    rcases q45 with ⟨x9, e9, c9x, hx9, hy9, hO9, rfl, sE, v3, v6, v7, sG9, hG9⟩ | ⟨hx9, rfl, sE, v4, sG9, v5⟩
                    · rw [rdL_ok (hE.trans hx9) hy9] at hMi
                      have hbe := rdE_bd hT htl (hE.trans hx9)
                      refine lv_istore_n (lv' := [(1, _), (0, _), (2, _), (3, _), (4, _)]) hx hb d_Re_takeMessage_120 rfl hl (by decide) rfl (fun ls hl => ?_)
                      refine lv_iinc (lv' := [(4, .int (nI (k + 1))), (1, _), (0, _), (2, _), (3, _)]) hx hb d_Re_takeMessage_121 hl (k := 4) rfl (nI_add _ 1) (by decide) rfl (fun ls hl => ?_)
                      refine lv_goto (tgt := 94) hx hb d_Re_takeMessage_124 (by decide) ?_
                      exact ihi _ (by omega) (k + 1) (es2 ++ [x9]) e9 (c2 + c9x) _ _ _ _ _ (sm_tr (sm_mo hsIi (by decide)) (sm_mo sE (by decide))) (sm_tr (sm_mo hsFi (by decide)) (sm_mo sG9 (by decide))) rfl (by omega) hMi hG9 hO9 v3 v6 (by omega) v7 (by rw [List.length_append, List.length_singleton]; omega) ((sE 4 (by decide)).trans h4i) ((sE 11 (by decide)).trans h11i) ((sE 12 (by decide)).trans h12i) hP hD hS (lv_pk hl [2, 1, 3, 4, 0] rfl)
                    · rw [rdL_no (fun x e c1 hz => hx9 x e c1 (hE.symm.trans hz))] at hMi
                      have hN : rdM t = none := hMi
                      refine lv_istore_n (lv' := [(1, _), (0, _), (2, _), (3, _), (4, _)]) hx hb d_Re_takeMessage_120 rfl hl (by decide) rfl (fun ls hl => ?_)
                      refine lv_iinc (lv' := [(4, .int (nI (k + 1))), (1, _), (0, _), (2, _), (3, _)]) hx hb d_Re_takeMessage_121 hl (k := 4) rfl (nI_add _ 1) (by decide) rfl (fun ls hl => ?_)
                      refine lv_goto (tgt := 94) hx hb d_Re_takeMessage_124 (by decide) ?_
                      refine lv_iload hx hb d_Re_takeMessage_94 (lv_at hl 0 rfl) ?_
                      refine lv_iload_n hx hb d_Re_takeMessage_96 rfl (lv_at hl 4 rfl) ?_
                      refine lv_icmp_ge (tgt := 127) hx hb d_Re_takeMessage_97 (by decide) (fun c46 => ?_) (fun c46 => ?_)
                      · have c46 : t2 t (4 + 2 * j) ≤ k + 1 := (nI_leI (a := t2 t (4 + 2 * j)) (b := k + 1) (by omega) (by omega)).mp c46
                        refine lv_iinc (lv' := [(2, .int (nI (j + 1))), (4, _), (1, _), (0, _), (3, _)]) hx hb d_Re_takeMessage_127 hl (k := 3) rfl (nI_add _ 1) (by decide) rfl (fun ls hl => ?_)
                        refine lv_goto (tgt := 73) hx hb d_Re_takeMessage_130 (by decide) ?_
                        exact loopF _ (j + 1) _ _ _ _ _ (sm_tr (sm_mo hsIi (by decide)) (sm_mo sE (by decide))) (sm_tr (sm_mo hsFi (by decide)) (sm_mo sG9 (by decide))) rfl (by omega) hN v4 v5 hP hD hS (lv_pk hl [3, 2, 0] rfl)
                      · have c46 : ¬ (t2 t (4 + 2 * j) ≤ k + 1) := fun z9 => c46 ((nI_leI (a := t2 t (4 + 2 * j)) (b := k + 1) (by omega) (by omega)).mpr z9)
                        refine lv_iload_n hx hb d_Re_takeMessage_100 rfl (lv_at hl 1 rfl) ?_
                        refine lv_if_eq (tgt := 127) hx hb d_Re_takeMessage_101 (by decide) (fun c47 => ?_) (fun c47 => ?_)
                        · refine lv_iinc (lv' := [(2, .int (nI (j + 1))), (4, _), (1, _), (0, _), (3, _)]) hx hb d_Re_takeMessage_127 hl (k := 3) rfl (nI_add _ 1) (by decide) rfl (fun ls hl => ?_)
                          refine lv_goto (tgt := 73) hx hb d_Re_takeMessage_130 (by decide) ?_
                          exact loopF _ (j + 1) _ _ _ _ _ (sm_tr (sm_mo hsIi (by decide)) (sm_mo sE (by decide))) (sm_tr (sm_mo hsFi (by decide)) (sm_mo sG9 (by decide))) rfl (by omega) hN v4 v5 hP hD hS (lv_pk hl [3, 2, 0] rfl)
                        · exact absurd c47 (by decide)
                  · have c42 : j = 0 := (nI_eq (a := j) (b := 0) (by omega) (by omega)).mp c42
                    have hE : rdE t j pos2 = rdQ t pos2 := by unfold rdE; rw [if_pos c42]
                    refine lv_aload_n hx hb d_Re_takeMessage_108 rfl (lv_at hl 0 rfl) ?_
                    refine mw_cV (ci := 4) (k := 17) C0 (m_Re_takeQuestion l D9 cB cI cJ cG a O _ _ t ((hsIi 2 (by decide)).trans hT2) htl (BR_eq hT (hsFi 2 (by decide))) es2 pos2 c2 hGi hOi h3i h6i (by omega) h7i (by omega)) g_271 g_4 g_268 g_270 gs_Re_takeQuestion ⟨by decide +kernel, by decide +kernel, show Option.map (fun d => d.parameters.length) (parseMethodDescriptor y_Re_takeQuestion.desc) = some 0 by decide +kernel⟩ ⟨by decide, by decide⟩ rfl rfl hP hD hS hA rfl ww_17 hl.1 (Nat.le_of_ble_eq_true rfl) rfl d_Re_takeMessage_109 ⟨by decide, by decide⟩ (fun v9 w9 H locs hq hP hD hS => ?_)
                    obtain ⟨I48, F49, hw9, q50⟩ := hq
                    subst hw9
                    rcases q50 with ⟨x9, e9, c9x, hx9, hy9, hO9, rfl, sE, v3, v6, v7, sG9, hG9⟩ | ⟨hx9, rfl, sE, v4, sG9, v5⟩
                    · rw [rdL_ok (hE.trans hx9) hy9] at hMi
                      have hbe := rdE_bd hT htl (hE.trans hx9)
                      refine lv_goto (tgt := 120) hx hb d_Re_takeMessage_112 (by decide) ?_
                      refine lv_istore_n (lv' := [(1, _), (0, _), (2, _), (3, _), (4, _)]) hx hb d_Re_takeMessage_120 rfl hl (by decide) rfl (fun ls hl => ?_)
                      refine lv_iinc (lv' := [(4, .int (nI (k + 1))), (1, _), (0, _), (2, _), (3, _)]) hx hb d_Re_takeMessage_121 hl (k := 4) rfl (nI_add _ 1) (by decide) rfl (fun ls hl => ?_)
                      refine lv_goto (tgt := 94) hx hb d_Re_takeMessage_124 (by decide) ?_
                      exact ihi _ (by omega) (k + 1) (es2 ++ [x9]) e9 (c2 + c9x) _ _ _ _ _ (sm_tr (sm_mo hsIi (by decide)) (sm_mo sE (by decide))) (sm_tr (sm_mo hsFi (by decide)) (sm_mo sG9 (by decide))) rfl (by omega) hMi hG9 hO9 v3 v6 (by omega) v7 (by rw [List.length_append, List.length_singleton]; omega) ((sE 4 (by decide)).trans h4i) ((sE 11 (by decide)).trans h11i) ((sE 12 (by decide)).trans h12i) hP hD hS (lv_pk hl [2, 1, 3, 4, 0] rfl)
                    · rw [rdL_no (fun x e c1 hz => hx9 x e c1 (hE.symm.trans hz))] at hMi
                      have hN : rdM t = none := hMi
                      refine lv_goto (tgt := 120) hx hb d_Re_takeMessage_112 (by decide) ?_
                      refine lv_istore_n (lv' := [(1, _), (0, _), (2, _), (3, _), (4, _)]) hx hb d_Re_takeMessage_120 rfl hl (by decide) rfl (fun ls hl => ?_)
                      refine lv_iinc (lv' := [(4, .int (nI (k + 1))), (1, _), (0, _), (2, _), (3, _)]) hx hb d_Re_takeMessage_121 hl (k := 4) rfl (nI_add _ 1) (by decide) rfl (fun ls hl => ?_)
                      refine lv_goto (tgt := 94) hx hb d_Re_takeMessage_124 (by decide) ?_
                      refine lv_iload hx hb d_Re_takeMessage_94 (lv_at hl 0 rfl) ?_
                      refine lv_iload_n hx hb d_Re_takeMessage_96 rfl (lv_at hl 4 rfl) ?_
                      refine lv_icmp_ge (tgt := 127) hx hb d_Re_takeMessage_97 (by decide) (fun c51 => ?_) (fun c51 => ?_)
                      · have c51 : t2 t (4 + 2 * j) ≤ k + 1 := (nI_leI (a := t2 t (4 + 2 * j)) (b := k + 1) (by omega) (by omega)).mp c51
                        refine lv_iinc (lv' := [(2, .int (nI (j + 1))), (4, _), (1, _), (0, _), (3, _)]) hx hb d_Re_takeMessage_127 hl (k := 3) rfl (nI_add _ 1) (by decide) rfl (fun ls hl => ?_)
                        refine lv_goto (tgt := 73) hx hb d_Re_takeMessage_130 (by decide) ?_
                        exact loopF _ (j + 1) _ _ _ _ _ (sm_tr (sm_mo hsIi (by decide)) (sm_mo sE (by decide))) (sm_tr (sm_mo hsFi (by decide)) (sm_mo sG9 (by decide))) rfl (by omega) hN v4 v5 hP hD hS (lv_pk hl [3, 2, 0] rfl)
                      · have c51 : ¬ (t2 t (4 + 2 * j) ≤ k + 1) := fun z9 => c51 ((nI_leI (a := t2 t (4 + 2 * j)) (b := k + 1) (by omega) (by omega)).mpr z9)
                        refine lv_iload_n hx hb d_Re_takeMessage_100 rfl (lv_at hl 1 rfl) ?_
                        refine lv_if_eq (tgt := 127) hx hb d_Re_takeMessage_101 (by decide) (fun c52 => ?_) (fun c52 => ?_)
                        · refine lv_iinc (lv' := [(2, .int (nI (j + 1))), (4, _), (1, _), (0, _), (3, _)]) hx hb d_Re_takeMessage_127 hl (k := 3) rfl (nI_add _ 1) (by decide) rfl (fun ls hl => ?_)
                          refine lv_goto (tgt := 73) hx hb d_Re_takeMessage_130 (by decide) ?_
                          exact loopF _ (j + 1) _ _ _ _ _ (sm_tr (sm_mo hsIi (by decide)) (sm_mo sE (by decide))) (sm_tr (sm_mo hsFi (by decide)) (sm_mo sG9 (by decide))) rfl (by omega) hN v4 v5 hP hD hS (lv_pk hl [3, 2, 0] rfl)
                        · exact absurd c52 (by decide)
          exact loopI _ 0 es pos c8 _ _ _ _ _ (sm_mo hsI (by decide)) (sm_mo hsF (by decide)) rfl (Nat.zero_le _) hM hG hO h3 h6 hpb h7 hcb h4 h11 h12 hP hD hS (lv_pk hl [2, 3, 4, 1, 0] rfl)
    exact loopG _ 0 [] 12 0 _ _ _ _ _ (sm_tr (sm_tr (sm_tr (sm_tr (sm_mo sI1 (by decide)) (sm_mo sI2 (by decide))) (sm_mo sI3 (by decide))) (sm_mo sa10 (by decide))) (sm_mo sI13 (by decide))) (sm_mo sb10 (by decide)) rfl (by decide) hM0 (hGa10) okE_nil ((sI13 3 (by decide)).trans u310) aI13 (by omega) ((sI13 7 (by decide)).trans ((sa10 7 (by decide)).trans aI3)) (by decide) ((sI13 4 (by decide)).trans ((sa10 4 (by decide)).trans ((sI3 4 (by decide)).trans ((sI2 4 (by decide)).trans aI1)))) (((sI13 11 (by decide)).trans u1110).trans e11) (((sI13 12 (by decide)).trans u1210).trans e12) hP hD hS (lv_pk hl [2, 1, 0] rfl)
  · have c14 : ¬ (12 ≤ t.length) := fun z9 => c14 ((nI_leI (a := 12) (b := t.length) (by omega) (by omega)).mpr z9)
    refine lv_aload_n hx hb d_Re_takeMessage_56 rfl (lv_at hl 0 rfl) ?_
    refine lv_iconst (v := 1) hx hb d_Re_takeMessage_57 (by decide) ?_
    refine lv_topq (y := nI 1) (rfl) ?_
    refine lv_iconst (v := 0) hx hb d_Re_takeMessage_58 (by decide) ?_
    refine lv_topq (y := nI 0) (rfl) ?_
    refine mw_cV (ci := 4) (k := 17) C0 (m_Re_fail l D9 cB cI cJ cG a O _ _ (nI 1) _) g_267 g_4 g_264 g_266 gs_Re_fail ⟨by decide +kernel, by decide +kernel, show Option.map (fun d => d.parameters.length) (parseMethodDescriptor y_Re_fail.desc) = some 2 by decide +kernel⟩ ⟨by decide, by decide⟩ rfl rfl hP hD hS hA rfl ww_17 hl.1 (Nat.le_of_ble_eq_true rfl) rfl d_Re_takeMessage_59 ⟨by decide, by decide⟩ (fun v9 w9 H locs hq hP hD hS => ?_)
    obtain ⟨I53, F54, hw9, q55⟩ := hq
    subst hw9
    obtain ⟨rfl, sI53, zI53, rfl⟩ := q55
    refine lv_if_eq (tgt := 69) hx hb d_Re_takeMessage_62 (by decide) (fun c56 => ?_) (fun c56 => ?_)
    · refine lv_iconst (v := 0) hx hb d_Re_takeMessage_69 (by decide) ?_
      refine lv_topq (y := nI 0) (rfl) ?_
      refine lv_istore_n (lv' := [(1, _), (0, _)]) hx hb d_Re_takeMessage_70 rfl hl (by decide) rfl (fun ls hl => ?_)
      refine lv_iconst (v := 0) hx hb d_Re_takeMessage_71 (by decide) ?_
      refine lv_topq (y := nI 0) (rfl) ?_
      refine lv_istore_n (lv' := [(2, _), (1, _), (0, _)]) hx hb d_Re_takeMessage_72 rfl hl (by decide) rfl (fun ls hl => ?_)
      have hN : rdM t = none := by unfold rdM; rw [if_pos (by omega)]
      have loopF : ∀ (nf : Nat) (j : Nat) (If : Nat → Int32) (Ff : Nat → Nat → Int32) (H : Heap) (locs : List Loc) (ls : Array Slot), (sm [3, 4, 5, 6, 7, 8, 9, 11, 12] I If) → (sm [4, 5, 6, 7, 8, 9, 10, 12, 13, 14, 15, 16] F Ff) → (4 - j = nf) → (j ≤ 4) → (rdM t = none) → (¬ If 4 = 0) → (sb_Fit (Ff 4)) → va_P D9 cls9 (WW a cB cI cJ cG If Ff O) H → va_D A0 (WW a cB cI cJ cG If Ff O) → va_S A0 s.heap H locs → lv_has ls 5 [(0, .ref (a 17)), (1, .int (nI 0)), (2, .int (nI j))] → W p l e (rm9 7 0 0) s m ([.ref (a 17)] : List Value).toArray below meth c H locs 0 0 Q (F0 m 73 ls []) := by
        intro nf
        induction nf using Nat.strongRecOn with
        | ind nf ihf =>
          intro j If Ff H locs ls hsIf hsFf hnf hj hN h4 hFf hP hD hS hl
          refine lv_iload_n hx hb d_Re_takeMessage_73 rfl (lv_at hl 2 rfl) ?_
          refine lv_iconst (v := 4) hx hb d_Re_takeMessage_74 (by decide) ?_
          refine lv_topq (y := nI 4) (rfl) ?_
          refine lv_icmp_ge (tgt := 133) hx hb d_Re_takeMessage_75 (by decide) (fun c57 => ?_) (fun c57 => ?_)
          · have c57 : 4 ≤ j := (nI_leI (a := 4) (b := j) (by omega) (by omega)).mp c57
            refine lv_iload_n hx hb d_Re_takeMessage_133 rfl (lv_at hl 1 rfl) ?_
            refine lv_if_eq (tgt := 162) hx hb d_Re_takeMessage_134 (by decide) (fun c58 => ?_) (fun c58 => ?_)
            · refine lv_aload_n hx hb d_Re_takeMessage_162 rfl (lv_at hl 0 rfl) ?_
              refine va_get (D := D9) (ci := 4) (C := R_Re) (T := F_Re) (N := 8) hx hb hts i_Re hown hK hP 17 ww_17 rfl 2 (by decide) (hts _ g_122) (fun _ h9 => h9) rfl d_Re_takeMessage_163 ?_
              refine lv_if_eq (tgt := 178) hx hb d_Re_takeMessage_166 (by decide) (fun c59 => ?_) (fun c59 => ?_)
              · exact absurd c59 h4
              · refine lv_aload_n hx hb d_Re_takeMessage_169 rfl (lv_at hl 0 rfl) ?_
                refine va_get (D := D9) (ci := 4) (C := R_Re) (T := F_Re) (N := 8) hx hb hts i_Re hown hK hP 17 ww_17 rfl 1 (by decide) (hts _ g_121) (fun _ h9 => h9) rfl d_Re_takeMessage_170 ?_
                refine lv_iconst (v := 0) hx hb d_Re_takeMessage_173 (by decide) ?_
                refine lv_topq (y := nI 0) (rfl) ?_
                refine lv_iconst (v := 0) hx hb d_Re_takeMessage_174 (by decide) ?_
                refine lv_topq (y := nI 0) (rfl) ?_
                refine mw_cVN (ci := 2) (k := 19) C0 (m_Ga_startAnew l D9 cB cI cJ cG a O _ _ [] (nI 0) (nI 0) hFf) g_263 g_3 g_260 g_262 gs_Ga_startAnew ⟨by decide +kernel, by decide +kernel, show Option.map (fun d => d.parameters.length) (parseMethodDescriptor y_Ga_startAnew.desc) = some 2 by decide +kernel⟩ ⟨by decide, by decide⟩ rfl rfl hP hD hS hA rfl ww_19 hl.1 (Nat.le_of_ble_eq_true rfl) rfl d_Re_takeMessage_175 ⟨by decide, by decide⟩ (fun v9 w9 H locs hq hP hD hS => ?_)
                obtain ⟨I60, F61, hw9, q62⟩ := hq
                subst hw9
                obtain ⟨rfl, sa60, u1160, u1260, u360, sb60, hGa60⟩ := q62
                refine lv_aload_n hx hb d_Re_takeMessage_178 rfl (lv_at hl 0 rfl) ?_
                refine va_get (D := D9) (ci := 4) (C := R_Re) (T := F_Re) (N := 8) hx hb hts i_Re hown hK hP 17 ww_17 rfl 2 (by decide) (hts _ g_122) (fun _ h9 => h9) rfl d_Re_takeMessage_179 ?_
                exact hret _ _ _ _ _ _ _ hS hP hD d_Re_takeMessage_182 nr_i (Or.inr ⟨hN, ⟨_, (by rw [(sa60 4 (by decide))]; exact h4), rfl⟩, (sm_tr (sm_mo hsIf (by decide)) (sm_mo sa60 (by decide))), hGa60, u360, u1160, u1260, (sm_tr (sm_mo hsFf (by decide)) (sm_mo sb60 (by decide)))⟩)
            · exact absurd c58 (by decide)
          · have c57 : ¬ (4 ≤ j) := fun z9 => c57 ((nI_leI (a := 4) (b := j) (by omega) (by omega)).mpr z9)
            refine lv_aload_n hx hb d_Re_takeMessage_78 rfl (lv_at hl 0 rfl) ?_
            refine va_get (D := D9) (ci := 4) (C := R_Re) (T := F_Re) (N := 8) hx hb hts i_Re hown hK hP 17 ww_17 rfl 0 (by decide) (hts _ g_120) (fun _ h9 => h9) rfl d_Re_takeMessage_79 ?_
            refine lv_iconst (v := 4) hx hb d_Re_takeMessage_82 (by decide) ?_
            refine lv_topq (y := nI 4) (rfl) ?_
            refine lv_iconst (v := 2) hx hb d_Re_takeMessage_83 (by decide) ?_
            refine lv_topq (y := nI 2) (rfl) ?_
            refine lv_iload_n hx hb d_Re_takeMessage_84 rfl (lv_at hl 2 rfl) ?_
            refine lv_imul hx hb d_Re_takeMessage_85 ?_
            refine lv_topq (y := nI (2 * j)) (pk_mul _ _) ?_
            refine lv_iadd hx hb d_Re_takeMessage_86 ?_
            refine lv_topq (y := nI (4 + (2 * j))) (nI_add _ _) ?_
            refine mw_cVN (ci := 0) (k := 1) C0 (m_By_twoAt_tp l D9 cB cI cJ cG a O _ _ _) g_255 g_2 g_252 g_254 gs_By_twoAt ⟨by decide +kernel, by decide +kernel, show Option.map (fun d => d.parameters.length) (parseMethodDescriptor y_By_twoAt.desc) = some 1 by decide +kernel⟩ ⟨by decide, by decide⟩ rfl rfl hP hD hS hA rfl ww_1 hl.1 (Nat.le_of_ble_eq_true rfl) rfl d_Re_takeMessage_87 ⟨by decide, by decide⟩ (fun v9 w9 H locs hq hP hD hS => ?_)
            obtain ⟨I63, F64, hw9, q65⟩ := hq
            subst hw9
            obtain ⟨rfl, rfl, rfl⟩ := q65
            obtain ⟨w9, hw9, ew9⟩ := bt2_ex (Ff 2) (nI (4 + 2 * j))
            refine lv_topq (y := nI w9) (ew9) ?_
            refine lv_istore_n (lv' := [(3, _), (0, _), (1, _), (2, _)]) hx hb d_Re_takeMessage_90 rfl hl (by decide) rfl (fun ls hl => ?_)
            refine lv_iconst (v := 0) hx hb d_Re_takeMessage_91 (by decide) ?_
            refine lv_topq (y := nI 0) (rfl) ?_
            refine lv_istore (lv' := [(4, _), (3, _), (0, _), (1, _), (2, _)]) hx hb d_Re_takeMessage_92 hl (by decide) rfl (fun ls hl => ?_)
            refine lv_iload hx hb d_Re_takeMessage_94 (lv_at hl 0 rfl) ?_
            refine lv_iload_n hx hb d_Re_takeMessage_96 rfl (lv_at hl 1 rfl) ?_
            refine lv_icmp_ge (tgt := 127) hx hb d_Re_takeMessage_97 (by decide) (fun c66 => ?_) (fun c66 => ?_)
            · have c66 : w9 ≤ 0 := (nI_leI (a := w9) (b := 0) (by omega) (by omega)).mp c66
              refine lv_iinc (lv' := [(2, .int (nI (j + 1))), (4, _), (3, _), (0, _), (1, _)]) hx hb d_Re_takeMessage_127 hl (k := 4) rfl (nI_add _ 1) (by decide) rfl (fun ls hl => ?_)
              refine lv_goto (tgt := 73) hx hb d_Re_takeMessage_130 (by decide) ?_
              exact ihf _ (by omega) (j + 1) _ _ _ _ _ (sm_mo hsIf (by decide)) (sm_mo hsFf (by decide)) rfl (by omega) hN h4 hFf hP hD hS (lv_pk hl [3, 4, 0] rfl)
            · have c66 : ¬ (w9 ≤ 0) := fun z9 => c66 ((nI_leI (a := w9) (b := 0) (by omega) (by omega)).mpr z9)
              refine lv_iload_n hx hb d_Re_takeMessage_100 rfl (lv_at hl 3 rfl) ?_
              refine lv_if_eq (tgt := 127) hx hb d_Re_takeMessage_101 (by decide) (fun c67 => ?_) (fun c67 => ?_)
              · refine lv_iinc (lv' := [(2, .int (nI (j + 1))), (4, _), (3, _), (0, _), (1, _)]) hx hb d_Re_takeMessage_127 hl (k := 4) rfl (nI_add _ 1) (by decide) rfl (fun ls hl => ?_)
                refine lv_goto (tgt := 73) hx hb d_Re_takeMessage_130 (by decide) ?_
                exact ihf _ (by omega) (j + 1) _ _ _ _ _ (sm_mo hsIf (by decide)) (sm_mo hsFf (by decide)) rfl (by omega) hN h4 hFf hP hD hS (lv_pk hl [3, 4, 0] rfl)
              · exact absurd c67 (by decide)
      exact loopF _ 0 _ _ _ _ _ (sm_tr (sm_tr (sm_tr (sm_tr (sm_tr (sm_mo sI1 (by decide)) (sm_mo sI2 (by decide))) (sm_mo sI3 (by decide))) (sm_mo sa10 (by decide))) (sm_mo sI13 (by decide))) (sm_mo sI53 (by decide))) (sm_mo sb10 (by decide)) rfl (by decide) hN (by rw [zI53]; decide) (GaR_fit hGa10) hP hD hS (lv_pk hl [2, 1, 0] rfl)
    · exact absurd c56 (by decide)
