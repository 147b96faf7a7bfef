/-! THE REFERENCE: write -/
theorem mu3_fil {es : List En9} {k : Nat} {e : En9} (h : es[k]? = some e) : mu3 (fil 3 (es.take (k + 1))) = mu3 (fil 3 (es.take k)) + (if mst e = true then 11 + (eD e).length else 0) := by
  have e1 : fil 3 (es.take (k + 1)) = fil 3 (es.take k) ++ fil 3 [e] := by unfold fil; rw [take_get h, List.filter_append]
  rw [e1, mu3_app]
  congr 1
  unfold fil mst
  by_cases h3 : eS e = 3
  · simp [h3, mu3]
  · simp [h3, mu3]
theorem wDL_eq {G : List Nat} {ty q D : Nat} {B : List Nat} {E : List (Nat × Nat)} {pt : Nat} {B1 : List Nat} {E1 : List (Nat × Nat)} {p1 : Nat} (h : wD G ty q D (B ++ b2 0) E pt = (B1, E1, p1)) : wDL G ty q D B E pt = (ln2 B (B1.length - B.length - 2) B1, E1, p1) := wDL_of h
theorem MoR_sm {F F' : Nat → Nat → Int32} {es : List En9} (h : MoR F es) (e35 : F' 35 = F 35) (e36 : F' 36 = F 36) (e37 : F' 37 = F 37) (e38 : F' 38 = F 38) (e39 : F' 39 = F 39) (e40 : F' 40 = F 40) (e41 : F' 41 = F 41) (e42 : F' 42 = F 42) (e43 : F' 43 = F 43) : MoR F' es := by
  unfold MoR; rw [e35, e36, e37, e38, e39, e40, e41, e42, e43]; exact h
theorem g_936 : (Cond.methodLink "WireMessagesModel" (180 : Nat) ({ cls := "WireMessagesModel", name := "putData", desc := "(I)V" } : MethodName)) ∈ GT := gt_mem 936 (by decide +kernel) rfl
theorem g_938 : (Cond.instanceMethod ({ cls := "WireMessagesModel", name := "putData", desc := "(I)V" } : MethodName)) ∈ GT := gt_mem 938 (by decide +kernel) rfl
theorem g_939 : (Cond.code ({ cls := "WireMessagesModel", name := "putData", desc := "(I)V" } : MethodName) prog_10_method_31_code (6 : Nat) (Option.none : Option FieldType)) ∈ GT := gt_mem 939 (by decide +kernel) rfl
theorem gs_Mo_putData : Cond.selects R_Mo y_Mo_putData y_Mo_putData ∈ GT := gt_sel (q := (⟨"WireMessagesModel", "putData", "(I)V"⟩, 30)) (by decide +kernel)
theorem d_Mo_must_0 : decode b_Mo_must 0 = .ok (.aload_n 0, 1) := by decide +kernel
theorem d_Mo_must_1 : decode b_Mo_must 1 = .ok (.getfield 18, 3) := by decide +kernel
theorem d_Mo_must_4 : decode b_Mo_must 4 = .ok (.iload_n 1, 1) := by decide +kernel
theorem d_Mo_must_5 : decode b_Mo_must 5 = .ok (.iaload, 1) := by decide +kernel
theorem d_Mo_must_6 : decode b_Mo_must 6 = .ok (.iconst 3, 1) := by decide +kernel
theorem d_Mo_must_7 : decode b_Mo_must 7 = .ok (.if_icmp .ne 18, 3) := by decide +kernel
theorem d_Mo_must_10 : decode b_Mo_must 10 = .ok (.aload_n 0, 1) := by decide +kernel
theorem d_Mo_must_11 : decode b_Mo_must 11 = .ok (.getfield 22, 3) := by decide +kernel
theorem d_Mo_must_14 : decode b_Mo_must 14 = .ok (.iload_n 1, 1) := by decide +kernel
theorem d_Mo_must_15 : decode b_Mo_must 15 = .ok (.iaload, 1) := by decide +kernel
theorem d_Mo_must_16 : decode b_Mo_must 16 = .ok (.bipush 41, 2) := by decide +kernel
theorem d_Mo_must_18 : decode b_Mo_must 18 = .ok (.if_icmp .ne 7, 3) := by decide +kernel
theorem d_Mo_must_21 : decode b_Mo_must 21 = .ok (.iconst 1, 1) := by decide +kernel
theorem d_Mo_must_22 : decode b_Mo_must 22 = .ok (.goto 4, 3) := by decide +kernel
theorem d_Mo_must_25 : decode b_Mo_must 25 = .ok (.iconst 0, 1) := by decide +kernel
theorem d_Mo_must_26 : decode b_Mo_must 26 = .ok (.ireturn, 1) := by decide +kernel
theorem d_Mo_putEntry_0 : decode b_Mo_putEntry 0 = .ok (.aload_n 0, 1) := by decide +kernel
theorem d_Mo_putEntry_1 : decode b_Mo_putEntry 1 = .ok (.aload_n 0, 1) := by decide +kernel
theorem d_Mo_putEntry_2 : decode b_Mo_putEntry 2 = .ok (.getfield 31, 3) := by decide +kernel
theorem d_Mo_putEntry_5 : decode b_Mo_putEntry 5 = .ok (.iload_n 1, 1) := by decide +kernel
theorem d_Mo_putEntry_6 : decode b_Mo_putEntry 6 = .ok (.iaload, 1) := by decide +kernel
theorem d_Mo_putEntry_7 : decode b_Mo_putEntry 7 = .ok (.iconst 1, 1) := by decide +kernel
theorem d_Mo_putEntry_8 : decode b_Mo_putEntry 8 = .ok (.invokevirtual 176, 3) := by decide +kernel
theorem d_Mo_putEntry_11 : decode b_Mo_putEntry 11 = .ok (.pop, 1) := by decide +kernel
theorem d_Mo_putEntry_12 : decode b_Mo_putEntry 12 = .ok (.aload_n 0, 1) := by decide +kernel
theorem d_Mo_putEntry_13 : decode b_Mo_putEntry 13 = .ok (.aload_n 0, 1) := by decide +kernel
theorem d_Mo_putEntry_14 : decode b_Mo_putEntry 14 = .ok (.getfield 22, 3) := by decide +kernel
theorem d_Mo_putEntry_17 : decode b_Mo_putEntry 17 = .ok (.iload_n 1, 1) := by decide +kernel
theorem d_Mo_putEntry_18 : decode b_Mo_putEntry 18 = .ok (.iaload, 1) := by decide +kernel
theorem d_Mo_putEntry_19 : decode b_Mo_putEntry 19 = .ok (.invokevirtual 170, 3) := by decide +kernel
theorem d_Mo_putEntry_22 : decode b_Mo_putEntry 22 = .ok (.aload_n 0, 1) := by decide +kernel
theorem d_Mo_putEntry_23 : decode b_Mo_putEntry 23 = .ok (.aload_n 0, 1) := by decide +kernel
theorem d_Mo_putEntry_24 : decode b_Mo_putEntry 24 = .ok (.getfield 25, 3) := by decide +kernel
theorem d_Mo_putEntry_27 : decode b_Mo_putEntry 27 = .ok (.iload_n 1, 1) := by decide +kernel
theorem d_Mo_putEntry_28 : decode b_Mo_putEntry 28 = .ok (.iaload, 1) := by decide +kernel
theorem d_Mo_putEntry_29 : decode b_Mo_putEntry 29 = .ok (.invokevirtual 170, 3) := by decide +kernel
theorem d_Mo_putEntry_32 : decode b_Mo_putEntry 32 = .ok (.aload_n 0, 1) := by decide +kernel
theorem d_Mo_putEntry_33 : decode b_Mo_putEntry 33 = .ok (.getfield 18, 3) := by decide +kernel
theorem d_Mo_putEntry_36 : decode b_Mo_putEntry 36 = .ok (.iload_n 1, 1) := by decide +kernel
theorem d_Mo_putEntry_37 : decode b_Mo_putEntry 37 = .ok (.iaload, 1) := by decide +kernel
theorem d_Mo_putEntry_38 : decode b_Mo_putEntry 38 = .ok (.ifCond .ne 4, 3) := by decide +kernel
theorem d_Mo_putEntry_41 : decode b_Mo_putEntry 41 = .ok (.return_, 1) := by decide +kernel
theorem d_Mo_putEntry_42 : decode b_Mo_putEntry 42 = .ok (.aload_n 0, 1) := by decide +kernel
theorem d_Mo_putEntry_43 : decode b_Mo_putEntry 43 = .ok (.aload_n 0, 1) := by decide +kernel
theorem d_Mo_putEntry_44 : decode b_Mo_putEntry 44 = .ok (.getfield 28, 3) := by decide +kernel
theorem d_Mo_putEntry_47 : decode b_Mo_putEntry 47 = .ok (.iload_n 1, 1) := by decide +kernel
theorem d_Mo_putEntry_48 : decode b_Mo_putEntry 48 = .ok (.iaload, 1) := by decide +kernel
theorem d_Mo_putEntry_49 : decode b_Mo_putEntry 49 = .ok (.bipush 16, 2) := by decide +kernel
theorem d_Mo_putEntry_51 : decode b_Mo_putEntry 51 = .ok (.iushr, 1) := by decide +kernel
theorem d_Mo_putEntry_52 : decode b_Mo_putEntry 52 = .ok (.invokevirtual 170, 3) := by decide +kernel
theorem d_Mo_putEntry_55 : decode b_Mo_putEntry 55 = .ok (.aload_n 0, 1) := by decide +kernel
theorem d_Mo_putEntry_56 : decode b_Mo_putEntry 56 = .ok (.aload_n 0, 1) := by decide +kernel
theorem d_Mo_putEntry_57 : decode b_Mo_putEntry 57 = .ok (.getfield 28, 3) := by decide +kernel
theorem d_Mo_putEntry_60 : decode b_Mo_putEntry 60 = .ok (.iload_n 1, 1) := by decide +kernel
theorem d_Mo_putEntry_61 : decode b_Mo_putEntry 61 = .ok (.iaload, 1) := by decide +kernel
theorem d_Mo_putEntry_62 : decode b_Mo_putEntry 62 = .ok (.invokevirtual 170, 3) := by decide +kernel
theorem d_Mo_putEntry_65 : decode b_Mo_putEntry 65 = .ok (.aload_n 0, 1) := by decide +kernel
theorem d_Mo_putEntry_66 : decode b_Mo_putEntry 66 = .ok (.getfield 153, 3) := by decide +kernel
theorem d_Mo_putEntry_69 : decode b_Mo_putEntry 69 = .ok (.istore_n 2, 1) := by decide +kernel
theorem d_Mo_putEntry_70 : decode b_Mo_putEntry 70 = .ok (.aload_n 0, 1) := by decide +kernel
theorem d_Mo_putEntry_71 : decode b_Mo_putEntry 71 = .ok (.iconst 0, 1) := by decide +kernel
theorem d_Mo_putEntry_72 : decode b_Mo_putEntry 72 = .ok (.invokevirtual 170, 3) := by decide +kernel
theorem d_Mo_putEntry_75 : decode b_Mo_putEntry 75 = .ok (.aload_n 0, 1) := by decide +kernel
theorem d_Mo_putEntry_76 : decode b_Mo_putEntry 76 = .ok (.iload_n 1, 1) := by decide +kernel
theorem d_Mo_putEntry_77 : decode b_Mo_putEntry 77 = .ok (.invokevirtual 180, 3) := by decide +kernel
theorem d_Mo_putEntry_80 : decode b_Mo_putEntry 80 = .ok (.aload_n 0, 1) := by decide +kernel
theorem d_Mo_putEntry_81 : decode b_Mo_putEntry 81 = .ok (.getfield 153, 3) := by decide +kernel
theorem d_Mo_putEntry_84 : decode b_Mo_putEntry 84 = .ok (.iload_n 2, 1) := by decide +kernel
theorem d_Mo_putEntry_85 : decode b_Mo_putEntry 85 = .ok (.isub, 1) := by decide +kernel
theorem d_Mo_putEntry_86 : decode b_Mo_putEntry 86 = .ok (.iconst 2, 1) := by decide +kernel
theorem d_Mo_putEntry_87 : decode b_Mo_putEntry 87 = .ok (.isub, 1) := by decide +kernel
theorem d_Mo_putEntry_88 : decode b_Mo_putEntry 88 = .ok (.istore_n 3, 1) := by decide +kernel
theorem d_Mo_putEntry_89 : decode b_Mo_putEntry 89 = .ok (.aload_n 0, 1) := by decide +kernel
theorem d_Mo_putEntry_90 : decode b_Mo_putEntry 90 = .ok (.getfield 48, 3) := by decide +kernel
theorem d_Mo_putEntry_93 : decode b_Mo_putEntry 93 = .ok (.iload_n 2, 1) := by decide +kernel
theorem d_Mo_putEntry_94 : decode b_Mo_putEntry 94 = .ok (.iload_n 3, 1) := by decide +kernel
theorem d_Mo_putEntry_95 : decode b_Mo_putEntry 95 = .ok (.bipush 8, 2) := by decide +kernel
theorem d_Mo_putEntry_97 : decode b_Mo_putEntry 97 = .ok (.ishr, 1) := by decide +kernel
theorem d_Mo_putEntry_98 : decode b_Mo_putEntry 98 = .ok (.i2b, 1) := by decide +kernel
theorem d_Mo_putEntry_99 : decode b_Mo_putEntry 99 = .ok (.bastore, 1) := by decide +kernel
theorem d_Mo_putEntry_100 : decode b_Mo_putEntry 100 = .ok (.aload_n 0, 1) := by decide +kernel
theorem d_Mo_putEntry_101 : decode b_Mo_putEntry 101 = .ok (.getfield 48, 3) := by decide +kernel
theorem d_Mo_putEntry_104 : decode b_Mo_putEntry 104 = .ok (.iload_n 2, 1) := by decide +kernel
theorem d_Mo_putEntry_105 : decode b_Mo_putEntry 105 = .ok (.iconst 1, 1) := by decide +kernel
theorem d_Mo_putEntry_106 : decode b_Mo_putEntry 106 = .ok (.iadd, 1) := by decide +kernel
theorem d_Mo_putEntry_107 : decode b_Mo_putEntry 107 = .ok (.iload_n 3, 1) := by decide +kernel
theorem d_Mo_putEntry_108 : decode b_Mo_putEntry 108 = .ok (.i2b, 1) := by decide +kernel
theorem d_Mo_putEntry_109 : decode b_Mo_putEntry 109 = .ok (.bastore, 1) := by decide +kernel
theorem d_Mo_putEntry_110 : decode b_Mo_putEntry 110 = .ok (.return_, 1) := by decide +kernel
set_option maxHeartbeats 4000000 in
set_option maxRecDepth 100000 in
/-- the reference: must -/
theorem m_Mo_must (l : Launch) (D9 : va_G) (cB cI cJ cG : ClassId) (a : Nat → Nat) (O : Nat → Int64) (I : Nat → Int32) (F : Nat → Nat → Int32) (es : List En9) (r : Nat) (e9 : En9) (hre : es[r]? = some e9) (hR : MoR F es) (hO : okE es) : MC l D9 cB cI cJ cG a O y_Mo_must b_Mo_must 2 (some .boolean) 0 [.ref (a 33), .int (nI r)] I F (fun v I' F' => v = some (.int (bI (mst e9))) ∧ I = I' ∧ F = F') := by
  refine mc_of (by decide) (Nat.le_of_ble_eq_true rfl) ?_
  intro p e s m below meth c ls A0 Q C0 hP hD hA hS hl hret
  obtain ⟨hx, hb, hml, hr, hlocks, hown, hts, hK⟩ := id C0
  have hl : lv_has ls 2 [(0, .ref (a 33)), (1, .int (nI r))] := hl
  have hln := okE_len hO
  have hrl := (List.getElem?_eq_some_iff.mp hre).1
  obtain ⟨z36, z37, z38, z39, z40, z41, z42, z43⟩ := hR.1 r e9 hre
  obtain ⟨y1, y2, y3⟩ := hO.2.2.2 e9 (List.mem_of_getElem? hre)
  refine lv_aload_n hx hb d_Mo_must_0 rfl (lv_at hl 0 rfl) ?_
  refine va_get (D := D9) (ci := 7) (C := R_Mo) (T := F_Mo) (N := 30) hx hb hts i_Mo hown hK hP 33 ww_33 rfl 8 (by decide) (hts _ g_730) (fun _ h9 => h9) rfl d_Mo_must_1 ?_
  refine lv_iload_n hx hb d_Mo_must_4 rfl (lv_at hl 1 rfl) ?_
  refine va_iald (D := D9) hx hb hK hP 36 1 ww_36 rfl (vp_in_nI (by omega) (by decide)) d_Mo_must_5 ?_
  refine lv_topq (y := nI (eS e9)) (by rw [nI_clamp (by omega)]; exact z36) ?_
  refine lv_iconst (v := 3) hx hb d_Mo_must_6 (by decide) ?_
  refine lv_topq (y := nI 3) (rfl) ?_
  refine lv_icmp_ne (tgt := 25) hx hb d_Mo_must_7 (by decide) (fun c1 => ?_) (fun c1 => ?_)
  · have c1 : ¬ (eS e9 = 3) := fun z9 => c1 ((nI_eq (a := eS e9) (b := 3) (by omega) (by omega)).mpr z9)
    refine lv_iconst (v := 0) hx hb d_Mo_must_25 (by decide) ?_
    refine lv_topq (y := nI 0) (rfl) ?_
    exact hret _ _ _ _ _ _ _ hS hP hD d_Mo_must_26 (nr_z (Or.inl rfl)) (by have e8 : mst e9 = false := (by unfold mst; simp <;> omega); rw [e8]; exact ⟨rfl, rfl, rfl⟩)
  · have c1 : eS e9 = 3 := (nI_eq (a := eS e9) (b := 3) (by omega) (by omega)).mp c1
    refine lv_aload_n hx hb d_Mo_must_10 rfl (lv_at hl 0 rfl) ?_
    refine va_get (D := D9) (ci := 7) (C := R_Mo) (T := F_Mo) (N := 30) hx hb hts i_Mo hown hK hP 33 ww_33 rfl 9 (by decide) (hts _ g_731) (fun _ h9 => h9) rfl d_Mo_must_11 ?_
    refine lv_iload_n hx hb d_Mo_must_14 rfl (lv_at hl 1 rfl) ?_
    refine va_iald (D := D9) hx hb hK hP 37 1 ww_37 rfl (vp_in_nI (by omega) (by decide)) d_Mo_must_15 ?_
    refine lv_topq (y := nI (eT e9)) (by rw [nI_clamp (by omega)]; exact z37) ?_
    refine lv_bipush (v := 41) hx hb d_Mo_must_16 (by decide) ?_
    refine lv_topq (y := nI 41) (rfl) ?_
    refine lv_icmp_ne (tgt := 25) hx hb d_Mo_must_18 (by decide) (fun c2 => ?_) (fun c2 => ?_)
    · have c2 : ¬ (eT e9 = 41) := fun z9 => c2 ((nI_eq (a := eT e9) (b := 41) (by omega) (by omega)).mpr z9)
      refine lv_iconst (v := 0) hx hb d_Mo_must_25 (by decide) ?_
      refine lv_topq (y := nI 0) (rfl) ?_
      exact hret _ _ _ _ _ _ _ hS hP hD d_Mo_must_26 (nr_z (Or.inl rfl)) (by have e8 : mst e9 = false := (by unfold mst; simp <;> omega); rw [e8]; exact ⟨rfl, rfl, rfl⟩)
    · have c2 : eT e9 = 41 := (nI_eq (a := eT e9) (b := 41) (by omega) (by omega)).mp c2
      refine lv_iconst (v := 1) hx hb d_Mo_must_21 (by decide) ?_
      refine lv_topq (y := nI 1) (rfl) ?_
      refine lv_goto (tgt := 26) hx hb d_Mo_must_22 (by decide) ?_
      exact hret _ _ _ _ _ _ _ hS hP hD d_Mo_must_26 (nr_z (Or.inr rfl)) (by have e8 : mst e9 = true := (by unfold mst; simp <;> omega); rw [e8]; exact ⟨rfl, rfl, rfl⟩)
set_option maxHeartbeats 4000000 in
set_option maxRecDepth 100000 in
/-- the reference: putEntry -/
theorem m_Mo_putEntry (l : Launch) (D9 : va_G) (cB cI cJ cG : ClassId) (a : Nat → Nat) (O : Nat → Int64) (I : Nat → Int32) (F : Nat → Nat → Int32) (es : List En9) (r : Nat) (e9 : En9) (hre : es[r]? = some e9) (hR : MoR F es) (hO : okE es) (X B : List Nat) (E : List (Nat × Nat)) (pt : Nat) (hX : X.length = 12) (hM : BR 0 131200 (F 44) (X ++ B)) (h28 : I 28 = nI (12 + B.length)) (hE9 : MeR F E) (h30 : I 30 = nI E.length) (hW : wW (fl es) B E) (h29 : I 29 = nI pt) (hBb : B.length + (eN e9).length + (eD e9).length ≤ 131150) (hek : eOk (fl es) (of9 es r) e9) : MC l D9 cB cI cJ cG a O y_Mo_putEntry b_Mo_putEntry 4 (none) 4 [.ref (a 33), .int (nI r)] I F (fun v I' F' => v = none ∧ sm [28, 29, 30] I I' ∧ I' 28 = nI (12 + (wE (fl es) (of9 es r) e9 B E pt).1.length) ∧ I' 30 = nI (wE (fl es) (of9 es r) e9 B E pt).2.1.length ∧ I' 29 = nI (wE (fl es) (of9 es r) e9 B E pt).2.2 ∧ sm [44, 45, 46] F F' ∧ BR 0 131200 (F' 44) (X ++ (wE (fl es) (of9 es r) e9 B E pt).1) ∧ MeR F' (wE (fl es) (of9 es r) e9 B E pt).2.1) := by
  refine mc_ofv (by decide) (Nat.le_of_ble_eq_true rfl) ?_
  intro p e s m below meth c ls A0 Q C0 hP hD hA hS hl hret
  obtain ⟨hx, hb, hml, hr, hlocks, hown, hts, hK⟩ := id C0
  have hl : lv_has ls 4 [(0, .ref (a 33)), (1, .int (nI r))] := hl
  have hln := okE_len hO
  have hrl := (List.getElem?_eq_some_iff.mp hre).1
  obtain ⟨z36, z37, z38, z39, z40, z41, z42, z43⟩ := hR.1 r e9 hre
  obtain ⟨y1, y2, y3⟩ := hO.2.2.2 e9 (List.mem_of_getElem? hre)
  have hGl := hO.2.2.1
  have hGB := hR.2
  have hnx := of9_next hre
  have hnl := of9_le es (r + 1)
  have xl0 : 12 + B.length = (X ++ B).length := xl_of hX
  obtain ⟨⟨kN, nN, nk7⟩, hn1, -, -⟩ := id hek
  refine lv_aload_n hx hb d_Mo_putEntry_0 rfl (lv_at hl 0 rfl) ?_
  refine lv_aload_n hx hb d_Mo_putEntry_1 rfl (lv_at hl 0 rfl) ?_
  refine va_get (D := D9) (ci := 7) (C := R_Mo) (T := F_Mo) (N := 30) hx hb hts i_Mo hown hK hP 33 ww_33 rfl 12 (by decide) (hts _ g_734) (fun _ h9 => h9) rfl d_Mo_putEntry_2 ?_
  refine lv_iload_n hx hb d_Mo_putEntry_5 rfl (lv_at hl 1 rfl) ?_
  refine va_iald (D := D9) hx hb hK hP 40 1 ww_40 rfl (vp_in_nI (by omega) (by decide)) d_Mo_putEntry_6 ?_
  refine lv_topq (y := nI (of9 es r)) (by rw [nI_clamp (by omega)]; exact z40) ?_
  refine lv_iconst (v := 1) hx hb d_Mo_putEntry_7 (by decide) ?_
  refine lv_topq (y := nI 1) (rfl) ?_
  refine mw_cV (ci := 7) (k := 33) C0 (m_Mo_putName l D9 cB cI cJ cG a O _ _ (fl es) hGl hGB X B E pt kN (of9 es r) ((of9 es r + (eN e9).length - 1)) hX hM h28 (by omega) hE9 h30 hW h29 nN nk7) g_918 g_8 g_915 g_917 gs_Mo_putName ⟨by decide +kernel, by decide +kernel, show Option.map (fun d => d.parameters.length) (parseMethodDescriptor y_Mo_putName.desc) = some 2 by decide +kernel⟩ ⟨by decide, by decide⟩ rfl rfl hP hD hS hA rfl ww_33 hl.1 (Nat.le_of_ble_eq_true rfl) rfl d_Mo_putEntry_8 ⟨by decide, by decide⟩ (fun v9 w9 H locs hq hP hD hS => ?_)
  obtain ⟨I1, F2, hw9, q3⟩ := hq
  subst hw9
  obtain ⟨rfl, sw1, x281, x301, x291, sW1, xM1, xE1⟩ := q3
  have ok1 := wN_ok (B := B) (pt := pt) nN nk7 hW
  obtain ⟨B1, E1, p1, hw1⟩ : ∃ B9 E9 p9, wN (fl es) kN (of9 es r) B E pt = (B9, E9, p9) := ⟨_, _, _, rfl⟩
  rw [hw1] at x281 x301 x291 xM1 xE1 ok1
  obtain ⟨W1, ⟨Z1, hz1, hy1, hx1⟩, -⟩ := ok1
  have W1 : wW (fl es) B1 E1 := W1
  have hv1 : B1.length = B.length + Z1.length := (congrArg List.length hz1).trans List.length_append
  have xl4 : 12 + B1.length = (X ++ B1).length := xl_of hX
  refine lv_pop hx hb d_Mo_putEntry_11 rfl ?_
  refine lv_aload_n hx hb d_Mo_putEntry_12 rfl (lv_at hl 0 rfl) ?_
  refine lv_aload_n hx hb d_Mo_putEntry_13 rfl (lv_at hl 0 rfl) ?_
  refine va_get (D := D9) (ci := 7) (C := R_Mo) (T := F_Mo) (N := 30) hx hb hts i_Mo hown hK hP 33 ww_33 rfl 9 (by decide) (hts _ g_731) (fun _ h9 => h9) rfl d_Mo_putEntry_14 ?_
  refine lv_iload_n hx hb d_Mo_putEntry_17 rfl (lv_at hl 1 rfl) ?_
  refine va_iald (D := D9) hx hb hK hP 37 1 ww_37 rfl (vp_in_nI (by omega) (by decide)) d_Mo_putEntry_18 ?_
  refine lv_topq (y := nI (eT e9)) (by rw [nI_clamp (by omega)]; exact ((congrFun (sW1 37 (by decide)) _).trans z37)) ?_
  refine mw_cV (ci := 7) (k := 33) C0 (m_Mo_putTwo l D9 cB cI cJ cG a O _ _ (X ++ B1) (nI (eT e9)) xM1 (x281.trans (congrArg nI xl4)) (by rw [← xl4]; omega)) g_935 g_8 g_932 g_934 gs_Mo_putTwo ⟨by decide +kernel, by decide +kernel, show Option.map (fun d => d.parameters.length) (parseMethodDescriptor y_Mo_putTwo.desc) = some 1 by decide +kernel⟩ ⟨by decide, by decide⟩ rfl rfl hP hD hS hA rfl ww_33 hl.1 (Nat.le_of_ble_eq_true rfl) rfl d_Mo_putEntry_19 ⟨by decide, by decide⟩ (fun v9 w9 H locs hq hP hD hS => ?_)
  obtain ⟨I5, F6, hw9, q7⟩ := hq
  subst hw9
  obtain ⟨rfl, sp5, yl5, sq5, ym5⟩ := q7
  rw [un_nI (by omega)] at ym5
  rw [List.append_assoc] at ym5
  have hq5 : (B1 ++ b2 (eT e9)).length = B1.length + 2 := by rw [List.length_append]; rfl
  have yl5 : I5 28 = nI (12 + (B1 ++ b2 (eT e9)).length) := yl5.trans (congrArg nI (by rw [← xl4, hq5]; omega))
  have xl8 : 12 + (B1 ++ b2 (eT e9)).length = (X ++ (B1 ++ b2 (eT e9))).length := xl_of hX
  refine lv_aload_n hx hb d_Mo_putEntry_22 rfl (lv_at hl 0 rfl) ?_
  refine lv_aload_n hx hb d_Mo_putEntry_23 rfl (lv_at hl 0 rfl) ?_
  refine va_get (D := D9) (ci := 7) (C := R_Mo) (T := F_Mo) (N := 30) hx hb hts i_Mo hown hK hP 33 ww_33 rfl 10 (by decide) (hts _ g_732) (fun _ h9 => h9) rfl d_Mo_putEntry_24 ?_
  refine lv_iload_n hx hb d_Mo_putEntry_27 rfl (lv_at hl 1 rfl) ?_
  refine va_iald (D := D9) hx hb hK hP 38 1 ww_38 rfl (vp_in_nI (by omega) (by decide)) d_Mo_putEntry_28 ?_
  refine lv_topq (y := nI (eK e9)) (by rw [nI_clamp (by omega)]; exact ((congrFun (sq5 38 (by decide)) _).trans ((congrFun (sW1 38 (by decide)) _).trans z38))) ?_
  refine mw_cV (ci := 7) (k := 33) C0 (m_Mo_putTwo l D9 cB cI cJ cG a O _ _ (X ++ (B1 ++ b2 (eT e9))) (nI (eK e9)) ym5 (yl5.trans (congrArg nI xl8)) (by rw [← xl8]; omega)) g_935 g_8 g_932 g_934 gs_Mo_putTwo ⟨by decide +kernel, by decide +kernel, show Option.map (fun d => d.parameters.length) (parseMethodDescriptor y_Mo_putTwo.desc) = some 1 by decide +kernel⟩ ⟨by decide, by decide⟩ rfl rfl hP hD hS hA rfl ww_33 hl.1 (Nat.le_of_ble_eq_true rfl) rfl d_Mo_putEntry_29 ⟨by decide, by decide⟩ (fun v9 w9 H locs hq hP hD hS => ?_)
  obtain ⟨I9, F10, hw9, q11⟩ := hq
  subst hw9
  obtain ⟨rfl, sp9, yl9, sq9, ym9⟩ := q11
  rw [un_nI (by omega)] at ym9
  rw [List.append_assoc] at ym9
  have hq9 : (B1 ++ b2 (eT e9) ++ b2 (eK e9)).length = (B1 ++ b2 (eT e9)).length + 2 := by rw [List.length_append]; rfl
  have yl9 : I9 28 = nI (12 + (B1 ++ b2 (eT e9) ++ b2 (eK e9)).length) := yl9.trans (congrArg nI (by rw [← xl8, hq9]; omega))
  have xl12 : 12 + (B1 ++ b2 (eT e9) ++ b2 (eK e9)).length = (X ++ (B1 ++ b2 (eT e9) ++ b2 (eK e9))).length := xl_of hX
  refine lv_aload_n hx hb d_Mo_putEntry_32 rfl (lv_at hl 0 rfl) ?_
  refine va_get (D := D9) (ci := 7) (C := R_Mo) (T := F_Mo) (N := 30) hx hb hts i_Mo hown hK hP 33 ww_33 rfl 8 (by decide) (hts _ g_730) (fun _ h9 => h9) rfl d_Mo_putEntry_33 ?_
  refine lv_iload_n hx hb d_Mo_putEntry_36 rfl (lv_at hl 1 rfl) ?_
  refine va_iald (D := D9) hx hb hK hP 36 1 ww_36 rfl (vp_in_nI (by omega) (by decide)) d_Mo_putEntry_37 ?_
  refine lv_topq (y := nI (eS e9)) (by rw [nI_clamp (by omega)]; exact ((congrFun (sq9 36 (by decide)) _).trans ((congrFun (sq5 36 (by decide)) _).trans ((congrFun (sW1 36 (by decide)) _).trans z36)))) ?_
  refine lv_if_ne (tgt := 42) hx hb d_Mo_putEntry_38 (by decide) (fun c13 => ?_) (fun c13 => ?_)
  · have c13 : ¬ (eS e9 = 0) := fun z9 => c13 ((nI_eq (a := eS e9) (b := 0) (by omega) (by omega)).mpr z9)
    have hs0 := c13
    have hdk := hek.2.2.1 hs0
    refine lv_aload_n hx hb d_Mo_putEntry_42 rfl (lv_at hl 0 rfl) ?_
    refine lv_aload_n hx hb d_Mo_putEntry_43 rfl (lv_at hl 0 rfl) ?_
    refine va_get (D := D9) (ci := 7) (C := R_Mo) (T := F_Mo) (N := 30) hx hb hts i_Mo hown hK hP 33 ww_33 rfl 11 (by decide) (hts _ g_733) (fun _ h9 => h9) rfl d_Mo_putEntry_44 ?_
    refine lv_iload_n hx hb d_Mo_putEntry_47 rfl (lv_at hl 1 rfl) ?_
    refine va_iald (D := D9) hx hb hK hP 39 1 ww_39 rfl (vp_in_nI (by omega) (by decide)) d_Mo_putEntry_48 ?_
    refine lv_topq (y := eL e9) (by rw [nI_clamp (by omega)]; exact ((congrFun (sq9 39 (by decide)) _).trans ((congrFun (sq5 39 (by decide)) _).trans ((congrFun (sW1 39 (by decide)) _).trans z39)))) ?_
    refine lv_bipush (v := 16) hx hb d_Mo_putEntry_49 (by decide) ?_
    refine lv_topq (y := nI 16) (rfl) ?_
    refine lv_iushr hx hb d_Mo_putEntry_51 rfl ?_
    refine lv_topq (y := ((eL e9).toUInt32 >>> ((nI 16).toUInt32 &&& Int32.toUInt32 31)).toInt32) (rfl) ?_
    refine mw_cV (ci := 7) (k := 33) C0 (m_Mo_putTwo l D9 cB cI cJ cG a O _ _ (X ++ (B1 ++ b2 (eT e9) ++ b2 (eK e9))) (((eL e9).toUInt32 >>> ((nI 16).toUInt32 &&& Int32.toUInt32 31)).toInt32) ym9 (yl9.trans (congrArg nI xl12)) (by rw [← xl12]; omega)) g_935 g_8 g_932 g_934 gs_Mo_putTwo ⟨by decide +kernel, by decide +kernel, show Option.map (fun d => d.parameters.length) (parseMethodDescriptor y_Mo_putTwo.desc) = some 1 by decide +kernel⟩ ⟨by decide, by decide⟩ rfl rfl hP hD hS hA rfl ww_33 hl.1 (Nat.le_of_ble_eq_true rfl) rfl d_Mo_putEntry_52 ⟨by decide, by decide⟩ (fun v9 w9 H locs hq hP hD hS => ?_)
    obtain ⟨I14, F15, hw9, q16⟩ := hq
    subst hw9
    obtain ⟨rfl, sp14, yl14, sq14, ym14⟩ := q16
    rw [un_ushr16] at ym14
    rw [List.append_assoc] at ym14
    have hq14 : (B1 ++ b2 (eT e9) ++ b2 (eK e9) ++ b2 (un (eL e9) / 65536)).length = (B1 ++ b2 (eT e9) ++ b2 (eK e9)).length + 2 := by rw [List.length_append]; rfl
    have yl14 : I14 28 = nI (12 + (B1 ++ b2 (eT e9) ++ b2 (eK e9) ++ b2 (un (eL e9) / 65536)).length) := yl14.trans (congrArg nI (by rw [← xl12, hq14]; omega))
    have xl17 : 12 + (B1 ++ b2 (eT e9) ++ b2 (eK e9) ++ b2 (un (eL e9) / 65536)).length = (X ++ (B1 ++ b2 (eT e9) ++ b2 (eK e9) ++ b2 (un (eL e9) / 65536))).length := xl_of hX
    refine lv_aload_n hx hb d_Mo_putEntry_55 rfl (lv_at hl 0 rfl) ?_
    refine lv_aload_n hx hb d_Mo_putEntry_56 rfl (lv_at hl 0 rfl) ?_
    refine va_get (D := D9) (ci := 7) (C := R_Mo) (T := F_Mo) (N := 30) hx hb hts i_Mo hown hK hP 33 ww_33 rfl 11 (by decide) (hts _ g_733) (fun _ h9 => h9) rfl d_Mo_putEntry_57 ?_
    refine lv_iload_n hx hb d_Mo_putEntry_60 rfl (lv_at hl 1 rfl) ?_
    refine va_iald (D := D9) hx hb hK hP 39 1 ww_39 rfl (vp_in_nI (by omega) (by decide)) d_Mo_putEntry_61 ?_
    refine lv_topq (y := eL e9) (by rw [nI_clamp (by omega)]; exact ((congrFun (sq14 39 (by decide)) _).trans ((congrFun (sq9 39 (by decide)) _).trans ((congrFun (sq5 39 (by decide)) _).trans ((congrFun (sW1 39 (by decide)) _).trans z39))))) ?_
    refine mw_cV (ci := 7) (k := 33) C0 (m_Mo_putTwo l D9 cB cI cJ cG a O _ _ (X ++ (B1 ++ b2 (eT e9) ++ b2 (eK e9) ++ b2 (un (eL e9) / 65536))) (eL e9) ym14 (yl14.trans (congrArg nI xl17)) (by rw [← xl17]; omega)) g_935 g_8 g_932 g_934 gs_Mo_putTwo ⟨by decide +kernel, by decide +kernel, show Option.map (fun d => d.parameters.length) (parseMethodDescriptor y_Mo_putTwo.desc) = some 1 by decide +kernel⟩ ⟨by decide, by decide⟩ rfl rfl hP hD hS hA rfl ww_33 hl.1 (Nat.le_of_ble_eq_true rfl) rfl d_Mo_putEntry_62 ⟨by decide, by decide⟩ (fun v9 w9 H locs hq hP hD hS => ?_)
    obtain ⟨I18, F19, hw9, q20⟩ := hq
    subst hw9
    obtain ⟨rfl, sp18, yl18, sq18, ym18⟩ := q20
    rw [List.append_assoc] at ym18
    have hq18 : (B1 ++ b2 (eT e9) ++ b2 (eK e9) ++ b2 (un (eL e9) / 65536) ++ b2 (un (eL e9))).length = (B1 ++ b2 (eT e9) ++ b2 (eK e9) ++ b2 (un (eL e9) / 65536)).length + 2 := by rw [List.length_append]; rfl
    have yl18 : I18 28 = nI (12 + (B1 ++ b2 (eT e9) ++ b2 (eK e9) ++ b2 (un (eL e9) / 65536) ++ b2 (un (eL e9))).length) := yl18.trans (congrArg nI (by rw [← xl17, hq18]; omega))
    have xl21 : 12 + (B1 ++ b2 (eT e9) ++ b2 (eK e9) ++ b2 (un (eL e9) / 65536) ++ b2 (un (eL e9))).length = (X ++ (B1 ++ b2 (eT e9) ++ b2 (eK e9) ++ b2 (un (eL e9) / 65536) ++ b2 (un (eL e9)))).length := xl_of hX
    refine lv_aload_n hx hb d_Mo_putEntry_65 rfl (lv_at hl 0 rfl) ?_
    refine va_get (D := D9) (ci := 7) (C := R_Mo) (T := F_Mo) (N := 30) hx hb hts i_Mo hown hK hP 33 ww_33 rfl 24 (by decide) (hts _ g_746) (fun _ h9 => h9) rfl d_Mo_putEntry_66 ?_
    refine lv_topq (y := nI (12 + (B1 ++ b2 (eT e9) ++ b2 (eK e9) ++ b2 (un (eL e9) / 65536) ++ b2 (un (eL e9))).length)) (yl18) ?_
    refine lv_istore_n (lv' := [(2, _), (0, _), (1, _)]) hx hb d_Mo_putEntry_69 rfl hl (by decide) rfl (fun ls hl => ?_)
    refine lv_aload_n hx hb d_Mo_putEntry_70 rfl (lv_at hl 1 rfl) ?_
    refine lv_iconst (v := 0) hx hb d_Mo_putEntry_71 (by decide) ?_
    refine lv_topq (y := nI 0) (rfl) ?_
    refine mw_cV (ci := 7) (k := 33) C0 (m_Mo_putTwo l D9 cB cI cJ cG a O _ _ (X ++ (B1 ++ b2 (eT e9) ++ b2 (eK e9) ++ b2 (un (eL e9) / 65536) ++ b2 (un (eL e9)))) (nI 0) ym18 (yl18.trans (congrArg nI xl21)) (by rw [← xl21]; omega)) g_935 g_8 g_932 g_934 gs_Mo_putTwo ⟨by decide +kernel, by decide +kernel, show Option.map (fun d => d.parameters.length) (parseMethodDescriptor y_Mo_putTwo.desc) = some 1 by decide +kernel⟩ ⟨by decide, by decide⟩ rfl rfl hP hD hS hA rfl ww_33 hl.1 (Nat.le_of_ble_eq_true rfl) rfl d_Mo_putEntry_72 ⟨by decide, by decide⟩ (fun v9 w9 H locs hq hP hD hS => ?_)
    obtain ⟨I22, F23, hw9, q24⟩ := hq
    subst hw9
    obtain ⟨rfl, sp22, yl22, sq22, ym22⟩ := q24
    rw [un_nI (by omega)] at ym22
    rw [List.append_assoc] at ym22
    have hq22 : (B1 ++ b2 (eT e9) ++ b2 (eK e9) ++ b2 (un (eL e9) / 65536) ++ b2 (un (eL e9)) ++ b2 0).length = (B1 ++ b2 (eT e9) ++ b2 (eK e9) ++ b2 (un (eL e9) / 65536) ++ b2 (un (eL e9))).length + 2 := by rw [List.length_append]; rfl
    have yl22 : I22 28 = nI (12 + (B1 ++ b2 (eT e9) ++ b2 (eK e9) ++ b2 (un (eL e9) / 65536) ++ b2 (un (eL e9)) ++ b2 0).length) := yl22.trans (congrArg nI (by rw [← xl21, hq22]; omega))
    have xl25 : 12 + (B1 ++ b2 (eT e9) ++ b2 (eK e9) ++ b2 (un (eL e9) / 65536) ++ b2 (un (eL e9)) ++ b2 0).length = (X ++ (B1 ++ b2 (eT e9) ++ b2 (eK e9) ++ b2 (un (eL e9) / 65536) ++ b2 (un (eL e9)) ++ b2 0)).length := xl_of hX
    refine lv_aload_n hx hb d_Mo_putEntry_75 rfl (lv_at hl 1 rfl) ?_
    refine lv_iload_n hx hb d_Mo_putEntry_76 rfl (lv_at hl 2 rfl) ?_
    have hRd : MoR F23 es := MoR_sm hR ((sq22 35 (by decide)).trans ((sq18 35 (by decide)).trans ((sq14 35 (by decide)).trans ((sq9 35 (by decide)).trans ((sq5 35 (by decide)).trans (sW1 35 (by decide))))))) ((sq22 36 (by decide)).trans ((sq18 36 (by decide)).trans ((sq14 36 (by decide)).trans ((sq9 36 (by decide)).trans ((sq5 36 (by decide)).trans (sW1 36 (by decide))))))) ((sq22 37 (by decide)).trans ((sq18 37 (by decide)).trans ((sq14 37 (by decide)).trans ((sq9 37 (by decide)).trans ((sq5 37 (by decide)).trans (sW1 37 (by decide))))))) ((sq22 38 (by decide)).trans ((sq18 38 (by decide)).trans ((sq14 38 (by decide)).trans ((sq9 38 (by decide)).trans ((sq5 38 (by decide)).trans (sW1 38 (by decide))))))) ((sq22 39 (by decide)).trans ((sq18 39 (by decide)).trans ((sq14 39 (by decide)).trans ((sq9 39 (by decide)).trans ((sq5 39 (by decide)).trans (sW1 39 (by decide))))))) ((sq22 40 (by decide)).trans ((sq18 40 (by decide)).trans ((sq14 40 (by decide)).trans ((sq9 40 (by decide)).trans ((sq5 40 (by decide)).trans (sW1 40 (by decide))))))) ((sq22 41 (by decide)).trans ((sq18 41 (by decide)).trans ((sq14 41 (by decide)).trans ((sq9 41 (by decide)).trans ((sq5 41 (by decide)).trans (sW1 41 (by decide))))))) ((sq22 42 (by decide)).trans ((sq18 42 (by decide)).trans ((sq14 42 (by decide)).trans ((sq9 42 (by decide)).trans ((sq5 42 (by decide)).trans (sW1 42 (by decide))))))) ((sq22 43 (by decide)).trans ((sq18 43 (by decide)).trans ((sq14 43 (by decide)).trans ((sq9 43 (by decide)).trans ((sq5 43 (by decide)).trans (sW1 43 (by decide)))))))
    refine mw_cV (ci := 7) (k := 33) C0 (m_Mo_putData l D9 cB cI cJ cG a O _ _ es r e9 hre hRd hO X (B1 ++ b2 (eT e9) ++ b2 (eK e9) ++ b2 (un (eL e9) / 65536) ++ b2 (un (eL e9)) ++ b2 0) E1 p1 hX ym22 yl22 (MeR_sm xE1 ((sq22 45 (by decide)).trans ((sq18 45 (by decide)).trans ((sq14 45 (by decide)).trans ((sq9 45 (by decide)).trans (sq5 45 (by decide)))))) ((sq22 46 (by decide)).trans ((sq18 46 (by decide)).trans ((sq14 46 (by decide)).trans ((sq9 46 (by decide)).trans (sq5 46 (by decide))))))) ((sp22 30 (by decide)).trans ((sp18 30 (by decide)).trans ((sp14 30 (by decide)).trans ((sp9 30 (by decide)).trans ((sp5 30 (by decide)).trans x301))))) (wW_more (wW_more (wW_more (wW_more (wW_more W1))))) ((sp22 29 (by decide)).trans ((sp18 29 (by decide)).trans ((sp14 29 (by decide)).trans ((sp9 29 (by decide)).trans ((sp5 29 (by decide)).trans x291))))) (by omega) hdk) g_939 g_8 g_936 g_938 gs_Mo_putData ⟨by decide +kernel, by decide +kernel, show Option.map (fun d => d.parameters.length) (parseMethodDescriptor y_Mo_putData.desc) = some 1 by decide +kernel⟩ ⟨by decide, by decide⟩ rfl rfl hP hD hS hA rfl ww_33 hl.1 (Nat.le_of_ble_eq_true rfl) rfl d_Mo_putEntry_77 ⟨by decide, by decide⟩ (fun v9 w9 H locs hq hP hD hS => ?_)
    obtain ⟨I26, F27, hw9, q28⟩ := hq
    subst hw9
    obtain ⟨rfl, swd, x28d, x30d, x29d, sWd, xMd, xEd⟩ := q28
    have okd := wD_ok (B := B1 ++ b2 (eT e9) ++ b2 (eK e9) ++ b2 (un (eL e9) / 65536) ++ b2 (un (eL e9)) ++ b2 0) (E := E1) (pt := p1) hdk (wW_more (wW_more (wW_more (wW_more (wW_more W1)))))
    obtain ⟨Bd, Ed, pd, hwd⟩ : ∃ B9 E9 p9, wD (fl es) (eT e9) (of9 es r + (eN e9).length) (eD e9).length (B1 ++ b2 (eT e9) ++ b2 (eK e9) ++ b2 (un (eL e9) / 65536) ++ b2 (un (eL e9)) ++ b2 0) E1 p1 = (B9, E9, p9) := ⟨_, _, _, rfl⟩
    rw [hwd] at x28d x30d x29d xMd xEd okd
    obtain ⟨Wd, ⟨Zd, hzd, hyd⟩, -, -⟩ := okd
    have hvd : Bd.length = (B1 ++ b2 (eT e9) ++ b2 (eK e9) ++ b2 (un (eL e9) / 65536) ++ b2 (un (eL e9)) ++ b2 0).length + Zd.length := (congrArg List.length hzd).trans List.length_append
    have xl29 : 12 + Bd.length = (X ++ Bd).length := xl_of hX
    refine lv_aload_n hx hb d_Mo_putEntry_80 rfl (lv_at hl 1 rfl) ?_
    refine va_get (D := D9) (ci := 7) (C := R_Mo) (T := F_Mo) (N := 30) hx hb hts i_Mo hown hK hP 33 ww_33 rfl 24 (by decide) (hts _ g_746) (fun _ h9 => h9) rfl d_Mo_putEntry_81 ?_
    refine lv_topq (y := nI (12 + Bd.length)) (x28d) ?_
    refine lv_iload_n hx hb d_Mo_putEntry_84 rfl (lv_at hl 0 rfl) ?_
    refine lv_isub hx hb d_Mo_putEntry_85 ?_
    refine lv_topq (y := nI (Bd.length - (B1 ++ b2 (eT e9) ++ b2 (eK e9) ++ b2 (un (eL e9) / 65536) ++ b2 (un (eL e9))).length)) ((pk_sub (by omega)).trans (congrArg nI (by omega))) ?_
    refine lv_iconst (v := 2) hx hb d_Mo_putEntry_86 (by decide) ?_
    refine lv_topq (y := nI 2) (rfl) ?_
    refine lv_isub hx hb d_Mo_putEntry_87 ?_
    refine lv_topq (y := nI (Bd.length - (B1 ++ b2 (eT e9) ++ b2 (eK e9) ++ b2 (un (eL e9) / 65536) ++ b2 (un (eL e9))).length - 2)) ((pk_sub (by omega)).trans (congrArg nI (by omega))) ?_
    refine lv_istore_n (lv' := [(3, _), (2, _), (0, _), (1, _)]) hx hb d_Mo_putEntry_88 rfl hl (by decide) rfl (fun ls hl => ?_)
    refine lv_aload_n hx hb d_Mo_putEntry_89 rfl (lv_at hl 2 rfl) ?_
    refine va_get (D := D9) (ci := 7) (C := R_Mo) (T := F_Mo) (N := 30) hx hb hts i_Mo hown hK hP 33 ww_33 rfl 23 (by decide) (hts _ g_745) (fun _ h9 => h9) rfl d_Mo_putEntry_90 ?_
    refine lv_iload_n hx hb d_Mo_putEntry_93 rfl (lv_at hl 1 rfl) ?_
    refine lv_iload_n hx hb d_Mo_putEntry_94 rfl (lv_at hl 0 rfl) ?_
    refine lv_bipush (v := 8) hx hb d_Mo_putEntry_95 (by decide) ?_
    refine lv_topq (y := nI 8) (rfl) ?_
    refine lv_ishr hx hb d_Mo_putEntry_97 ?_
    refine lv_topq (y := nI (Bd.length - (B1 ++ b2 (eT e9) ++ b2 (eK e9) ++ b2 (un (eL e9) / 65536) ++ b2 (un (eL e9))).length - 2) >>> (nI 8 &&& 31)) (rfl) ?_
    refine lv_i2b hx hb d_Mo_putEntry_98 rfl ?_
    refine va_bast (D := D9) hx hb hK hP hD hS 44 0 ww_44 rfl (vp_in_nI (by omega) (by decide)) d_Mo_putEntry_99 (fun H locs hP hD hS => ?_)
    obtain ⟨F30, aF30, sF30, hP, hD⟩ := fx (P := fun z => va_P D9 cls9 (WW a cB cI cJ cG _ z O) H ∧ va_D A0 (WW a cB cI cJ cG _ z O)) ⟨wpa_44 hP, wda_44 hD⟩
    rw [nI_clamp (by omega)] at aF30
    have hs1 := BR_set (p := 12 + (B1 ++ b2 (eT e9) ++ b2 (eK e9) ++ b2 (un (eL e9) / 65536) ++ b2 (un (eL e9))).length) (v := nI (Bd.length - (B1 ++ b2 (eT e9) ++ b2 (eK e9) ++ b2 (un (eL e9) / 65536) ++ b2 (un (eL e9))).length - 2) >>> (nI 8 &&& 31)) xMd
    rw [← pk_vb] at hs1
    have hs1 := BR_eq hs1 (aF30)
    refine lv_aload_n hx hb d_Mo_putEntry_100 rfl (lv_at hl 2 rfl) ?_
    refine va_get (D := D9) (ci := 7) (C := R_Mo) (T := F_Mo) (N := 30) hx hb hts i_Mo hown hK hP 33 ww_33 rfl 23 (by decide) (hts _ g_745) (fun _ h9 => h9) rfl d_Mo_putEntry_101 ?_
    refine lv_iload_n hx hb d_Mo_putEntry_104 rfl (lv_at hl 1 rfl) ?_
    refine lv_iconst (v := 1) hx hb d_Mo_putEntry_105 (by decide) ?_
    refine lv_topq (y := nI 1) (rfl) ?_
    refine lv_iadd hx hb d_Mo_putEntry_106 ?_
    refine lv_topq (y := nI (12 + (B1 ++ b2 (eT e9) ++ b2 (eK e9) ++ b2 (un (eL e9) / 65536) ++ b2 (un (eL e9))).length + 1)) (nI_add _ _) ?_
    refine lv_iload_n hx hb d_Mo_putEntry_107 rfl (lv_at hl 0 rfl) ?_
    refine lv_i2b hx hb d_Mo_putEntry_108 rfl ?_
    refine va_bast (D := D9) hx hb hK hP hD hS 44 0 ww_44 rfl (vp_in_nI (by omega) (by decide)) d_Mo_putEntry_109 (fun H locs hP hD hS => ?_)
    obtain ⟨F31, aF31, sF31, hP, hD⟩ := fx (P := fun z => va_P D9 cls9 (WW a cB cI cJ cG _ z O) H ∧ va_D A0 (WW a cB cI cJ cG _ z O)) ⟨wpa_44 hP, wda_44 hD⟩
    rw [nI_clamp (by omega)] at aF31
    have hs2 := BR_set (p := 12 + (B1 ++ b2 (eT e9) ++ b2 (eK e9) ++ b2 (un (eL e9) / 65536) ++ b2 (un (eL e9))).length + 1) (v := nI (Bd.length - (B1 ++ b2 (eT e9) ++ b2 (eK e9) ++ b2 (un (eL e9) / 65536) ++ b2 (un (eL e9))).length - 2)) hs1
    rw [← pk_vb] at hs2
    have hs2 := BR_eq hs2 (aF31)
    rw [ub_s8, ub_un, un_nI (by omega), ln2_X hX] at hs2
    exact hret _ _ _ _ _ _ hS hP hD d_Mo_putEntry_110 (by rw [wE_1 hs0 nN nk7 hw1, ← b4_b2, ← List.append_assoc, wDL_eq hwd]; exact ⟨rfl, (sm_tr (sm_tr (sm_tr (sm_tr (sm_tr (sm_tr (sm_mo sw1 (by decide)) (sm_mo sp5 (by decide))) (sm_mo sp9 (by decide))) (sm_mo sp14 (by decide))) (sm_mo sp18 (by decide))) (sm_mo sp22 (by decide))) (sm_mo swd (by decide))), by rw [ln2_len]; exact x28d, x30d, x29d, (sm_tr (sm_tr (sm_tr (sm_tr (sm_tr (sm_tr (sm_tr (sm_tr (sm_mo sW1 (by decide)) (sm_mo sq5 (by decide))) (sm_mo sq9 (by decide))) (sm_mo sq14 (by decide))) (sm_mo sq18 (by decide))) (sm_mo sq22 (by decide))) (sm_mo sWd (by decide))) (sm_mo sF30 (by decide))) (sm_mo sF31 (by decide))), hs2, (MeR_sm xEd ((sF31 45 (by decide)).trans (sF30 45 (by decide))) ((sF31 46 (by decide)).trans (sF30 46 (by decide))))⟩)
  · have c13 : eS e9 = 0 := (nI_eq (a := eS e9) (b := 0) (by omega) (by omega)).mp c13
    have hs0 := c13
    exact hret _ _ _ _ _ _ hS hP hD d_Mo_putEntry_41 (by rw [wE_0 hs0 nN nk7 hw1]; exact ⟨rfl, (sm_tr (sm_tr (sm_mo sw1 (by decide)) (sm_mo sp5 (by decide))) (sm_mo sp9 (by decide))), yl9, ((sp9 30 (by decide)).trans ((sp5 30 (by decide)).trans x301)), ((sp9 29 (by decide)).trans ((sp5 29 (by decide)).trans x291)), (sm_tr (sm_tr (sm_mo sW1 (by decide)) (sm_mo sq5 (by decide))) (sm_mo sq9 (by decide))), ym9, (MeR_sm xE1 ((sq9 45 (by decide)).trans (sq5 45 (by decide))) ((sq9 46 (by decide)).trans (sq5 46 (by decide))))⟩)
