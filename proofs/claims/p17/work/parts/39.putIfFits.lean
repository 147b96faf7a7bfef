theorem wE_0 {G : List Nat} {p : Nat} {e : En9} {B B1 : List Nat} {E E1 : List (Nat × Nat)} {pt p1 k r : Nat} (hs : eS e = 0) (hN : isN G k p r) (hk : k ≤ 127) (hw : wN G k p B E pt = (B1, E1, p1)) : wE G p e B E pt = (B1 ++ b2 (eT e) ++ b2 (eK e), E1, p1) := by
  unfold wE; rw [isN_nk hN (by omega), hw]; simp only; rw [if_pos hs]
theorem wE_1 {G : List Nat} {p : Nat} {e : En9} {B B1 : List Nat} {E E1 : List (Nat × Nat)} {pt p1 k r : Nat} (hs : ¬ eS e = 0) (hN : isN G k p r) (hk : k ≤ 127) (hw : wN G k p B E pt = (B1, E1, p1)) : wE G p e B E pt = wDL G (eT e) (p + (eN e).length) (eD e).length (B1 ++ b2 (eT e) ++ b2 (eK e) ++ b4 (eL e)) E1 p1 := by
  unfold wE; rw [isN_nk hN (by omega), hw]; simp only; rw [if_neg hs]
theorem g_74 : (Cond.fieldLinkNest "WireMessages$Writer" (102 : Nat) "WireMessages$Gathered" "kinds" "[I" "WireMessages") ∈ GT := gt_mem 74 (by decide +kernel) rfl
theorem g_77 : (Cond.fieldLinkNest "WireMessages$Writer" (105 : Nat) "WireMessages$Gathered" "times" "[I" "WireMessages") ∈ GT := gt_mem 77 (by decide +kernel) rfl
theorem g_169 : (Cond.fieldLinkNest "WireMessages$Writer" (87 : Nat) "WireMessages$Ends" "size" "I" "WireMessages") ∈ GT := gt_mem 169 (by decide +kernel) rfl
theorem g_451 : (Cond.instanceMethod ({ cls := "WireMessages$Bytes", name := "putFour", desc := "(I)V" } : MethodName)) ∈ GT := gt_mem 451 (by decide +kernel) rfl
theorem g_452 : (Cond.code ({ cls := "WireMessages$Bytes", name := "putFour", desc := "(I)V" } : MethodName) prog_2_method_9_code (2 : Nat) (Option.none : Option FieldType)) ∈ GT := gt_mem 452 (by decide +kernel) rfl
theorem g_564 : (Cond.methodLinkNest "WireMessages$Writer" (54 : Nat) ({ cls := "WireMessages$Ends", name := "shrinkTo", desc := "(I)V" } : MethodName) "WireMessages") ∈ GT := gt_mem 564 (by decide +kernel) rfl
theorem g_566 : (Cond.instanceMethod ({ cls := "WireMessages$Ends", name := "shrinkTo", desc := "(I)V" } : MethodName)) ∈ GT := gt_mem 566 (by decide +kernel) rfl
theorem g_567 : (Cond.code ({ cls := "WireMessages$Ends", name := "shrinkTo", desc := "(I)V" } : MethodName) prog_3_method_4_code (3 : Nat) (Option.none : Option FieldType)) ∈ GT := gt_mem 567 (by decide +kernel) rfl
theorem g_608 : (Cond.methodLinkNest "WireMessages$Writer" (108 : Nat) ({ cls := "WireMessages$Bytes", name := "putFour", desc := "(I)V" } : MethodName) "WireMessages") ∈ GT := gt_mem 608 (by decide +kernel) rfl
theorem g_609 : (Cond.methodLink "WireMessages$Writer" (111 : Nat) ({ cls := "WireMessages$Writer", name := "putData", desc := "(I)V" } : MethodName)) ∈ GT := gt_mem 609 (by decide +kernel) rfl
theorem g_611 : (Cond.instanceMethod ({ cls := "WireMessages$Writer", name := "putData", desc := "(I)V" } : MethodName)) ∈ GT := gt_mem 611 (by decide +kernel) rfl
theorem g_612 : (Cond.code ({ cls := "WireMessages$Writer", name := "putData", desc := "(I)V" } : MethodName) prog_8_method_4_code (10 : Nat) (Option.none : Option FieldType)) ∈ GT := gt_mem 612 (by decide +kernel) rfl
theorem gs_En_shrinkTo : Cond.selects R_En y_En_shrinkTo y_En_shrinkTo ∈ GT := gt_sel (q := (⟨"WireMessages$Ends", "shrinkTo", "(I)V"⟩, 7)) (by decide +kernel)
theorem gs_By_putFour : Cond.selects R_By y_By_putFour y_By_putFour ∈ GT := gt_sel (q := (⟨"WireMessages$Bytes", "putFour", "(I)V"⟩, 2)) (by decide +kernel)
theorem gs_Wr_putData : Cond.selects R_Wr y_Wr_putData y_Wr_putData ∈ GT := gt_sel (q := (⟨"WireMessages$Writer", "putData", "(I)V"⟩, 6)) (by decide +kernel)
theorem d_Wr_putIfFits_0 : decode b_Wr_putIfFits 0 = .ok (.aload_n 0, 1) := by decide +kernel
theorem d_Wr_putIfFits_1 : decode b_Wr_putIfFits 1 = .ok (.getfield 12, 3) := by decide +kernel
theorem d_Wr_putIfFits_4 : decode b_Wr_putIfFits 4 = .ok (.getfield 47, 3) := by decide +kernel
theorem d_Wr_putIfFits_7 : decode b_Wr_putIfFits 7 = .ok (.istore 4, 2) := by decide +kernel
theorem d_Wr_putIfFits_9 : decode b_Wr_putIfFits 9 = .ok (.aload_n 0, 1) := by decide +kernel
theorem d_Wr_putIfFits_10 : decode b_Wr_putIfFits 10 = .ok (.getfield 51, 3) := by decide +kernel
theorem d_Wr_putIfFits_13 : decode b_Wr_putIfFits 13 = .ok (.istore 5, 2) := by decide +kernel
theorem d_Wr_putIfFits_15 : decode b_Wr_putIfFits 15 = .ok (.aload_n 0, 1) := by decide +kernel
theorem d_Wr_putIfFits_16 : decode b_Wr_putIfFits 16 = .ok (.getfield 39, 3) := by decide +kernel
theorem d_Wr_putIfFits_19 : decode b_Wr_putIfFits 19 = .ok (.getfield 87, 3) := by decide +kernel
theorem d_Wr_putIfFits_22 : decode b_Wr_putIfFits 22 = .ok (.istore 6, 2) := by decide +kernel
theorem d_Wr_putIfFits_24 : decode b_Wr_putIfFits 24 = .ok (.aload_n 0, 1) := by decide +kernel
theorem d_Wr_putIfFits_25 : decode b_Wr_putIfFits 25 = .ok (.aload_n 0, 1) := by decide +kernel
theorem d_Wr_putIfFits_26 : decode b_Wr_putIfFits 26 = .ok (.getfield 25, 3) := by decide +kernel
theorem d_Wr_putIfFits_29 : decode b_Wr_putIfFits 29 = .ok (.getfield 90, 3) := by decide +kernel
theorem d_Wr_putIfFits_32 : decode b_Wr_putIfFits 32 = .ok (.iload_n 2, 1) := by decide +kernel
theorem d_Wr_putIfFits_33 : decode b_Wr_putIfFits 33 = .ok (.iaload, 1) := by decide +kernel
theorem d_Wr_putIfFits_34 : decode b_Wr_putIfFits 34 = .ok (.invokevirtual 93, 3) := by decide +kernel
theorem d_Wr_putIfFits_37 : decode b_Wr_putIfFits 37 = .ok (.pop, 1) := by decide +kernel
theorem d_Wr_putIfFits_38 : decode b_Wr_putIfFits 38 = .ok (.aload_n 0, 1) := by decide +kernel
theorem d_Wr_putIfFits_39 : decode b_Wr_putIfFits 39 = .ok (.getfield 12, 3) := by decide +kernel
theorem d_Wr_putIfFits_42 : decode b_Wr_putIfFits 42 = .ok (.aload_n 0, 1) := by decide +kernel
theorem d_Wr_putIfFits_43 : decode b_Wr_putIfFits 43 = .ok (.getfield 25, 3) := by decide +kernel
theorem d_Wr_putIfFits_46 : decode b_Wr_putIfFits 46 = .ok (.getfield 96, 3) := by decide +kernel
theorem d_Wr_putIfFits_49 : decode b_Wr_putIfFits 49 = .ok (.iload_n 2, 1) := by decide +kernel
theorem d_Wr_putIfFits_50 : decode b_Wr_putIfFits 50 = .ok (.iaload, 1) := by decide +kernel
theorem d_Wr_putIfFits_51 : decode b_Wr_putIfFits 51 = .ok (.invokevirtual 99, 3) := by decide +kernel
theorem d_Wr_putIfFits_54 : decode b_Wr_putIfFits 54 = .ok (.aload_n 0, 1) := by decide +kernel
theorem d_Wr_putIfFits_55 : decode b_Wr_putIfFits 55 = .ok (.getfield 12, 3) := by decide +kernel
theorem d_Wr_putIfFits_58 : decode b_Wr_putIfFits 58 = .ok (.aload_n 0, 1) := by decide +kernel
theorem d_Wr_putIfFits_59 : decode b_Wr_putIfFits 59 = .ok (.getfield 25, 3) := by decide +kernel
theorem d_Wr_putIfFits_62 : decode b_Wr_putIfFits 62 = .ok (.getfield 102, 3) := by decide +kernel
theorem d_Wr_putIfFits_65 : decode b_Wr_putIfFits 65 = .ok (.iload_n 2, 1) := by decide +kernel
theorem d_Wr_putIfFits_66 : decode b_Wr_putIfFits 66 = .ok (.iaload, 1) := by decide +kernel
theorem d_Wr_putIfFits_67 : decode b_Wr_putIfFits 67 = .ok (.invokevirtual 99, 3) := by decide +kernel
theorem d_Wr_putIfFits_70 : decode b_Wr_putIfFits 70 = .ok (.iload_n 1, 1) := by decide +kernel
theorem d_Wr_putIfFits_71 : decode b_Wr_putIfFits 71 = .ok (.ifCond .eq 24, 3) := by decide +kernel
theorem d_Wr_putIfFits_74 : decode b_Wr_putIfFits 74 = .ok (.aload_n 0, 1) := by decide +kernel
theorem d_Wr_putIfFits_75 : decode b_Wr_putIfFits 75 = .ok (.getfield 12, 3) := by decide +kernel
theorem d_Wr_putIfFits_78 : decode b_Wr_putIfFits 78 = .ok (.aload_n 0, 1) := by decide +kernel
theorem d_Wr_putIfFits_79 : decode b_Wr_putIfFits 79 = .ok (.getfield 25, 3) := by decide +kernel
theorem d_Wr_putIfFits_82 : decode b_Wr_putIfFits 82 = .ok (.getfield 105, 3) := by decide +kernel
theorem d_Wr_putIfFits_85 : decode b_Wr_putIfFits 85 = .ok (.iload_n 2, 1) := by decide +kernel
theorem d_Wr_putIfFits_86 : decode b_Wr_putIfFits 86 = .ok (.iaload, 1) := by decide +kernel
theorem d_Wr_putIfFits_87 : decode b_Wr_putIfFits 87 = .ok (.invokevirtual 108, 3) := by decide +kernel
theorem d_Wr_putIfFits_90 : decode b_Wr_putIfFits 90 = .ok (.aload_n 0, 1) := by decide +kernel
theorem d_Wr_putIfFits_91 : decode b_Wr_putIfFits 91 = .ok (.iload_n 2, 1) := by decide +kernel
theorem d_Wr_putIfFits_92 : decode b_Wr_putIfFits 92 = .ok (.invokevirtual 111, 3) := by decide +kernel
theorem d_Wr_putIfFits_95 : decode b_Wr_putIfFits 95 = .ok (.aload_n 0, 1) := by decide +kernel
theorem d_Wr_putIfFits_96 : decode b_Wr_putIfFits 96 = .ok (.getfield 12, 3) := by decide +kernel
theorem d_Wr_putIfFits_99 : decode b_Wr_putIfFits 99 = .ok (.getfield 47, 3) := by decide +kernel
theorem d_Wr_putIfFits_102 : decode b_Wr_putIfFits 102 = .ok (.iload_n 3, 1) := by decide +kernel
theorem d_Wr_putIfFits_103 : decode b_Wr_putIfFits 103 = .ok (.if_icmp .gt 5, 3) := by decide +kernel
theorem d_Wr_putIfFits_106 : decode b_Wr_putIfFits 106 = .ok (.iconst 1, 1) := by decide +kernel
theorem d_Wr_putIfFits_107 : decode b_Wr_putIfFits 107 = .ok (.ireturn, 1) := by decide +kernel
theorem d_Wr_putIfFits_108 : decode b_Wr_putIfFits 108 = .ok (.aload_n 0, 1) := by decide +kernel
theorem d_Wr_putIfFits_109 : decode b_Wr_putIfFits 109 = .ok (.getfield 12, 3) := by decide +kernel
theorem d_Wr_putIfFits_112 : decode b_Wr_putIfFits 112 = .ok (.iload 4, 2) := by decide +kernel
theorem d_Wr_putIfFits_114 : decode b_Wr_putIfFits 114 = .ok (.putfield 47, 3) := by decide +kernel
theorem d_Wr_putIfFits_117 : decode b_Wr_putIfFits 117 = .ok (.aload_n 0, 1) := by decide +kernel
theorem d_Wr_putIfFits_118 : decode b_Wr_putIfFits 118 = .ok (.iload 5, 2) := by decide +kernel
theorem d_Wr_putIfFits_120 : decode b_Wr_putIfFits 120 = .ok (.putfield 51, 3) := by decide +kernel
theorem d_Wr_putIfFits_123 : decode b_Wr_putIfFits 123 = .ok (.aload_n 0, 1) := by decide +kernel
theorem d_Wr_putIfFits_124 : decode b_Wr_putIfFits 124 = .ok (.getfield 39, 3) := by decide +kernel
theorem d_Wr_putIfFits_127 : decode b_Wr_putIfFits 127 = .ok (.iload 6, 2) := by decide +kernel
theorem d_Wr_putIfFits_129 : decode b_Wr_putIfFits 129 = .ok (.invokevirtual 54, 3) := by decide +kernel
theorem d_Wr_putIfFits_132 : decode b_Wr_putIfFits 132 = .ok (.iconst 0, 1) := by decide +kernel
theorem d_Wr_putIfFits_133 : decode b_Wr_putIfFits 133 = .ok (.ireturn, 1) := by decide +kernel
set_option maxHeartbeats 4000000 in
set_option maxRecDepth 100000 in
/-- Writer.putIfFits -/
theorem m_Wr_putIfFits (l : Launch) (D9 : va_G) (cB cI cJ cG : ClassId) (a : Nat → Nat) (O : Nat → Int64) (I : Nat → Int32) (F : Nat → Nat → Int32) (es : List En9) (r : Nat) (e9 : En9) (hre : es[r]? = some e9) (hG : GaR F es) (hO : okE es) (X B : List Nat) (E : List (Nat × Nat)) (pt : Nat) (hX : X.length = 12) (hM : BR 0 65536 (F 21) (X ++ B)) (h13 : I 13 = nI (12 + B.length)) (hBb : B.length < 130000) (hS9 : EnS F E.length) (hB9 : EnB F (fl es) E) (h14 : I 14 = nI E.length) (hW : wW (fl es) B E) (h10 : I 10 = nI pt) (t9 lm : Nat) (ht9 : eS e9 = t9) (hlm : lm < 1000000) (hek : eOk (fl es) (of9 es r) e9) : MC l D9 cB cI cJ cG a O y_Wr_putIfFits b_Wr_putIfFits 7 (some .boolean) 5 [.ref (a 18), .int (nI t9), .int (nI r), .int (nI lm)] I F (fun v I' F' => (12 + (wE (fl es) (of9 es r) e9 B E pt).1.length ≤ lm ∧ v = some (.int (nI 1)) ∧ sm [10, 13, 14] I I' ∧ I' 13 = nI (12 + (wE (fl es) (of9 es r) e9 B E pt).1.length) ∧ I' 14 = nI (wE (fl es) (of9 es r) e9 B E pt).2.1.length ∧ I' 10 = nI (wE (fl es) (of9 es r) e9 B E pt).2.2 ∧ sm [21, 22, 23, 25, 26, 27, 28, 29] F F' ∧ BR 0 65536 (F' 21) (X ++ (wE (fl es) (of9 es r) e9 B E pt).1) ∧ EnS F' (wE (fl es) (of9 es r) e9 B E pt).2.1.length ∧ EnB F' (fl es) (wE (fl es) (of9 es r) e9 B E pt).2.1) ∨ (¬ 12 + (wE (fl es) (of9 es r) e9 B E pt).1.length ≤ lm ∧ v = some (.int (nI 0)) ∧ sm [10, 13, 14] I I' ∧ I' 13 = nI (12 + B.length) ∧ I' 14 = nI E.length ∧ I' 10 = nI pt ∧ sm [21, 22, 23, 25, 26, 27, 28, 29] F F' ∧ BR 0 65536 (F' 21) (X ++ B) ∧ EnS F' E.length ∧ EnB F' (fl es) E)) := by
  refine mc_of (by decide) (Nat.le_of_ble_eq_true rfl) ?_
  intro p e s m below meth c ls A0 Q C0 hP hD hA hS hl hret
  obtain ⟨hx, hb, hml, hr, hlocks, hown, hts, hK⟩ := id C0
  have hl : lv_has ls 7 [(0, .ref (a 18)), (1, .int (nI t9)), (2, .int (nI r)), (3, .int (nI lm))] := hl
  have hln := okE_len hO
  have hrl := (List.getElem?_eq_some_iff.mp hre).1
  obtain ⟨z1, z2, z3, z4, z5, z6, z7⟩ := hG.1 r e9 hre
  obtain ⟨y1, y2, y3⟩ := hO.2.2.2 e9 (List.mem_of_getElem? hre)
  have hGl := hO.2.2.1
  have hGB := hG.2.2
  have hnx := of9_next hre
  have hnl := of9_le es (r + 1)
  have xl0 : 12 + B.length = (X ++ B).length := by rw [List.length_append, hX]
  obtain ⟨⟨kN, nN, nk7⟩, hn1, -, -⟩ := id hek
  have hwl := wE_ok (pt := pt) hek hW
  obtain ⟨-, ⟨Xw, hXw, hXw2⟩, -, -⟩ := hwl
  have hXw3 : (wE (fl es) (of9 es r) e9 B E pt).1.length = B.length + Xw.length := (congrArg List.length hXw).trans List.length_append
  have hE8 := hW.1.2.2
  refine lv_aload_n hx hb d_Wr_putIfFits_0 rfl (lv_at hl 0 rfl) ?_
  refine va_get (D := D9) (ci := 5) (C := R_Wr) (T := F_Wr) (N := 6) hx hb hts i_Wr hown hK hP 18 ww_18 rfl 1 (by decide) (hts _ g_186) (fun _ h9 => h9) rfl d_Wr_putIfFits_1 ?_
  refine va_getN (D := D9) (ci := 0) (C := R_By) (T := F_By) (N := 2) hx hb hts i_By hown hK hP 20 ww_20 rfl 1 (by decide) (hts _ g_38) (fun _ h9 => h9) rfl d_Wr_putIfFits_4 ?_
  refine lv_topq (y := nI (12 + B.length)) (h13) ?_
  refine lv_istore (lv' := [(4, _), (0, _), (1, _), (2, _), (3, _)]) hx hb d_Wr_putIfFits_7 hl (by decide) rfl (fun ls hl => ?_)
  refine lv_aload_n hx hb d_Wr_putIfFits_9 rfl (lv_at hl 1 rfl) ?_
  refine va_get (D := D9) (ci := 5) (C := R_Wr) (T := F_Wr) (N := 6) hx hb hts i_Wr hown hK hP 18 ww_18 rfl 5 (by decide) (hts _ g_191) (fun _ h9 => h9) rfl d_Wr_putIfFits_10 ?_
  refine lv_topq (y := nI pt) (h10) ?_
  refine lv_istore (lv' := [(5, _), (4, _), (0, _), (1, _), (2, _), (3, _)]) hx hb d_Wr_putIfFits_13 hl (by decide) rfl (fun ls hl => ?_)
  refine lv_aload_n hx hb d_Wr_putIfFits_15 rfl (lv_at hl 2 rfl) ?_
  refine va_get (D := D9) (ci := 5) (C := R_Wr) (T := F_Wr) (N := 6) hx hb hts i_Wr hown hK hP 18 ww_18 rfl 2 (by decide) (hts _ g_188) (fun _ h9 => h9) rfl d_Wr_putIfFits_16 ?_
  refine va_getN (D := D9) (ci := 1) (C := R_En) (T := F_En) (N := 7) hx hb hts i_En hown hK hP 24 ww_24 rfl 6 (by decide) (hts _ g_169) (fun _ h9 => h9) rfl d_Wr_putIfFits_19 ?_
  refine lv_topq (y := nI E.length) (h14) ?_
  refine lv_istore (lv' := [(6, _), (5, _), (4, _), (0, _), (1, _), (2, _), (3, _)]) hx hb d_Wr_putIfFits_22 hl (by decide) rfl (fun ls hl => ?_)
  refine lv_aload_n hx hb d_Wr_putIfFits_24 rfl (lv_at hl 3 rfl) ?_
  refine lv_aload_n hx hb d_Wr_putIfFits_25 rfl (lv_at hl 3 rfl) ?_
  refine va_get (D := D9) (ci := 5) (C := R_Wr) (T := F_Wr) (N := 6) hx hb hts i_Wr hown hK hP 18 ww_18 rfl 0 (by decide) (hts _ g_185) (fun _ h9 => h9) rfl d_Wr_putIfFits_26 ?_
  refine va_getN (D := D9) (ci := 2) (C := R_Ga) (T := F_Ga) (N := 11) hx hb hts i_Ga hown hK hP 19 ww_19 rfl 1 (by decide) (hts _ g_62) (fun _ h9 => h9) rfl d_Wr_putIfFits_29 ?_
  refine lv_iload_n hx hb d_Wr_putIfFits_32 rfl (lv_at hl 5 rfl) ?_
  refine va_iald (D := D9) hx hb hK hP 5 1 ww_5 rfl (vp_in_nI (by omega) (by decide)) d_Wr_putIfFits_33 ?_
  refine lv_topq (y := nI (of9 es r)) (by rw [nI_clamp (by omega)]; exact z1) ?_
  refine mw_cV (ci := 5) (k := 18) C0 (m_Wr_putSharedName l D9 cB cI cJ cG a O _ _ (fl es) hGl hGB X B E pt kN (of9 es r) ((of9 es r + (eN e9).length - 1)) hX hM h13 (by omega) hS9 hB9 h14 hW h10 nN nk7) g_581 g_5 g_578 g_580 gs_Wr_putSharedName ⟨by decide +kernel, by decide +kernel, show Option.map (fun d => d.parameters.length) (parseMethodDescriptor y_Wr_putSharedName.desc) = some 1 by decide +kernel⟩ ⟨by decide, by decide⟩ rfl rfl hP hD hS hA rfl ww_18 hl.1 (Nat.le_of_ble_eq_true rfl) rfl d_Wr_putIfFits_34 ⟨by decide, by decide⟩ (fun v9 w9 H locs hq hP hD hS => ?_)
  obtain ⟨I1, F2, hw9, q3⟩ := hq
  subst hw9
  obtain ⟨rfl, sw1, x131, x141, x101, sW1, xM1, xS1, xB1⟩ := q3
  have ok1 := wN_ok (B := B) (pt := pt) nN nk7 hW
  obtain ⟨B1, E1, p1, hw1⟩ : ∃ B9 E9 p9, wN (fl es) kN (of9 es r) B E pt = (B9, E9, p9) := ⟨_, _, _, rfl⟩
  rw [hw1] at x131 x141 x101 xM1 xS1 xB1 ok1
  obtain ⟨W1, ⟨Z1, hz1, hy1, hx1⟩, -⟩ := ok1
  have W1 : wW (fl es) B1 E1 := W1
  have hv1 : B1.length = B.length + Z1.length := (congrArg List.length hz1).trans List.length_append
  have xl4 : 12 + B1.length = (X ++ B1).length := xl_of hX
  refine lv_pop hx hb d_Wr_putIfFits_37 rfl ?_
  refine lv_aload_n hx hb d_Wr_putIfFits_38 rfl (lv_at hl 3 rfl) ?_
  refine va_get (D := D9) (ci := 5) (C := R_Wr) (T := F_Wr) (N := 6) hx hb hts i_Wr hown hK hP 18 ww_18 rfl 1 (by decide) (hts _ g_186) (fun _ h9 => h9) rfl d_Wr_putIfFits_39 ?_
  refine lv_aload_n hx hb d_Wr_putIfFits_42 rfl (lv_at hl 3 rfl) ?_
  refine va_get (D := D9) (ci := 5) (C := R_Wr) (T := F_Wr) (N := 6) hx hb hts i_Wr hown hK hP 18 ww_18 rfl 0 (by decide) (hts _ g_185) (fun _ h9 => h9) rfl d_Wr_putIfFits_43 ?_
  refine va_getN (D := D9) (ci := 2) (C := R_Ga) (T := F_Ga) (N := 11) hx hb hts i_Ga hown hK hP 19 ww_19 rfl 4 (by decide) (hts _ g_71) (fun _ h9 => h9) rfl d_Wr_putIfFits_46 ?_
  refine lv_iload_n hx hb d_Wr_putIfFits_49 rfl (lv_at hl 5 rfl) ?_
  refine va_iald (D := D9) hx hb hK hP 8 1 ww_8 rfl (vp_in_nI (by omega) (by decide)) d_Wr_putIfFits_50 ?_
  refine lv_topq (y := nI (eT e9)) (by rw [nI_clamp (by omega)]; exact ((congrFun (sW1 8 (by decide)) _).trans z4)) ?_
  refine mw_cVN (ci := 0) (k := 20) C0 (m_By_putTwoL_ms l D9 cB cI cJ cG a O _ _ (X ++ B1) 0 (nI (eT e9)) xM1 (x131.trans (congrArg nI xl4)) (by omega)) g_456 g_2 g_607 g_455 gs_By_putTwo ⟨by decide +kernel, by decide +kernel, show Option.map (fun d => d.parameters.length) (parseMethodDescriptor y_By_putTwo.desc) = some 1 by decide +kernel⟩ ⟨by decide, by decide⟩ rfl rfl hP hD hS hA rfl ww_20 hl.1 (Nat.le_of_ble_eq_true rfl) rfl d_Wr_putIfFits_51 ⟨by decide, by decide⟩ (fun v9 w9 H locs hq hP hD hS => ?_)
  obtain ⟨I5, F6, hw9, q7⟩ := hq
  subst hw9
  obtain ⟨rfl, sp5, yl5, sq5, ym5⟩ := q7
  rw [un_nI (by omega)] at ym5
  rw [List.append_assoc] at ym5
  have hq5 : (B1 ++ b2 (eT e9)).length = B1.length + 2 := by rw [List.length_append]; rfl
  have yl5 : I5 13 = nI (12 + (B1 ++ b2 (eT e9)).length) := yl5.trans (congrArg nI (by rw [← xl4, hq5]; omega))
  have xl8 : 12 + (B1 ++ b2 (eT e9)).length = (X ++ (B1 ++ b2 (eT e9))).length := xl_of hX
  refine lv_aload_n hx hb d_Wr_putIfFits_54 rfl (lv_at hl 3 rfl) ?_
  refine va_get (D := D9) (ci := 5) (C := R_Wr) (T := F_Wr) (N := 6) hx hb hts i_Wr hown hK hP 18 ww_18 rfl 1 (by decide) (hts _ g_186) (fun _ h9 => h9) rfl d_Wr_putIfFits_55 ?_
  refine lv_aload_n hx hb d_Wr_putIfFits_58 rfl (lv_at hl 3 rfl) ?_
  refine va_get (D := D9) (ci := 5) (C := R_Wr) (T := F_Wr) (N := 6) hx hb hts i_Wr hown hK hP 18 ww_18 rfl 0 (by decide) (hts _ g_185) (fun _ h9 => h9) rfl d_Wr_putIfFits_59 ?_
  refine va_getN (D := D9) (ci := 2) (C := R_Ga) (T := F_Ga) (N := 11) hx hb hts i_Ga hown hK hP 19 ww_19 rfl 5 (by decide) (hts _ g_74) (fun _ h9 => h9) rfl d_Wr_putIfFits_62 ?_
  refine lv_iload_n hx hb d_Wr_putIfFits_65 rfl (lv_at hl 5 rfl) ?_
  refine va_iald (D := D9) hx hb hK hP 9 1 ww_9 rfl (vp_in_nI (by omega) (by decide)) d_Wr_putIfFits_66 ?_
  refine lv_topq (y := nI (eK e9)) (by rw [nI_clamp (by omega)]; exact ((congrFun (sq5 9 (by decide)) _).trans ((congrFun (sW1 9 (by decide)) _).trans z5))) ?_
  refine mw_cVN (ci := 0) (k := 20) C0 (m_By_putTwoL_ms l D9 cB cI cJ cG a O _ _ (X ++ (B1 ++ b2 (eT e9))) 0 (nI (eK e9)) ym5 (yl5.trans (congrArg nI xl8)) (by omega)) g_456 g_2 g_607 g_455 gs_By_putTwo ⟨by decide +kernel, by decide +kernel, show Option.map (fun d => d.parameters.length) (parseMethodDescriptor y_By_putTwo.desc) = some 1 by decide +kernel⟩ ⟨by decide, by decide⟩ rfl rfl hP hD hS hA rfl ww_20 hl.1 (Nat.le_of_ble_eq_true rfl) rfl d_Wr_putIfFits_67 ⟨by decide, by decide⟩ (fun v9 w9 H locs hq hP hD hS => ?_)
  obtain ⟨I9, F10, hw9, q11⟩ := hq
  subst hw9
  obtain ⟨rfl, sp9, yl9, sq9, ym9⟩ := q11
  rw [un_nI (by omega)] at ym9
  rw [List.append_assoc] at ym9
  have hq9 : (B1 ++ b2 (eT e9) ++ b2 (eK e9)).length = (B1 ++ b2 (eT e9)).length + 2 := by rw [List.length_append]; rfl
  have yl9 : I9 13 = nI (12 + (B1 ++ b2 (eT e9) ++ b2 (eK e9)).length) := yl9.trans (congrArg nI (by rw [← xl8, hq9]; omega))
  have xl12 : 12 + (B1 ++ b2 (eT e9) ++ b2 (eK e9)).length = (X ++ (B1 ++ b2 (eT e9) ++ b2 (eK e9))).length := xl_of hX
  refine lv_iload_n hx hb d_Wr_putIfFits_70 rfl (lv_at hl 4 rfl) ?_
  refine lv_if_eq (tgt := 95) hx hb d_Wr_putIfFits_71 (by decide) (fun c13 => ?_) (fun c13 => ?_)
  · have c13 : t9 = 0 := (nI_eq (a := t9) (b := 0) (by omega) (by omega)).mp c13
    have hs0 : eS e9 = 0 := by omega
    have hwe := wE_0 hs0 nN nk7 hw1
    refine lv_aload_n hx hb d_Wr_putIfFits_95 rfl (lv_at hl 3 rfl) ?_
    refine va_get (D := D9) (ci := 5) (C := R_Wr) (T := F_Wr) (N := 6) hx hb hts i_Wr hown hK hP 18 ww_18 rfl 1 (by decide) (hts _ g_186) (fun _ h9 => h9) rfl d_Wr_putIfFits_96 ?_
    refine va_getN (D := D9) (ci := 0) (C := R_By) (T := F_By) (N := 2) hx hb hts i_By hown hK hP 20 ww_20 rfl 1 (by decide) (hts _ g_38) (fun _ h9 => h9) rfl d_Wr_putIfFits_99 ?_
    refine lv_topq (y := nI (12 + (B1 ++ b2 (eT e9) ++ b2 (eK e9)).length)) (yl9) ?_
    refine lv_iload_n hx hb d_Wr_putIfFits_102 rfl (lv_at hl 6 rfl) ?_
    refine lv_icmp_gt (tgt := 108) hx hb d_Wr_putIfFits_103 (by decide) (fun c14 => ?_) (fun c14 => ?_)
    · have c14 : lm < 12 + (B1 ++ b2 (eT e9) ++ b2 (eK e9)).length := (nI_ltI (a := lm) (b := 12 + (B1 ++ b2 (eT e9) ++ b2 (eK e9)).length) (by omega) (by omega)).mp c14
      refine lv_aload_n hx hb d_Wr_putIfFits_108 rfl (lv_at hl 3 rfl) ?_
      refine va_get (D := D9) (ci := 5) (C := R_Wr) (T := F_Wr) (N := 6) hx hb hts i_Wr hown hK hP 18 ww_18 rfl 1 (by decide) (hts _ g_186) (fun _ h9 => h9) rfl d_Wr_putIfFits_109 ?_
      refine lv_iload hx hb d_Wr_putIfFits_112 (lv_at hl 2 rfl) ?_
      refine va_putN (D := D9) (ty := .int) (ci := 0) (C := R_By) (T := F_By) (N := 2) hx hb hts i_By t_By t_By_ok n_By hown hK hP hD hS 20 ww_20 rfl 1 (by decide) (hts _ g_38) (fun _ h9 => h9) rfl (by decide +kernel) rfl rfl (Nat.le_of_ble_eq_true rfl) d_Wr_putIfFits_114 (fun H locs hP hD hS => ?_)
      obtain ⟨I15, aI15, sI15, hP, hD⟩ := fx (P := fun z => va_P D9 cls9 (WW a cB cI cJ cG z _ O) H ∧ va_D A0 (WW a cB cI cJ cG z _ O)) ⟨wp_13 hP, wd_13 hD⟩
      refine lv_aload_n hx hb d_Wr_putIfFits_117 rfl (lv_at hl 3 rfl) ?_
      refine lv_iload hx hb d_Wr_putIfFits_118 (lv_at hl 1 rfl) ?_
      refine va_put (D := D9) (ty := .int) (ci := 5) (C := R_Wr) (T := F_Wr) (N := 6) hx hb hts i_Wr t_Wr t_Wr_ok n_Wr hown hK hP hD hS 18 ww_18 rfl 5 (by decide) (hts _ g_191) (fun _ h9 => h9) rfl (by decide +kernel) rfl rfl (Nat.le_of_ble_eq_true rfl) d_Wr_putIfFits_120 (fun H locs hP hD hS => ?_)
      obtain ⟨I16, aI16, sI16, hP, hD⟩ := fx (P := fun z => va_P D9 cls9 (WW a cB cI cJ cG z _ O) H ∧ va_D A0 (WW a cB cI cJ cG z _ O)) ⟨wp_10 hP, wd_10 hD⟩
      refine lv_aload_n hx hb d_Wr_putIfFits_123 rfl (lv_at hl 3 rfl) ?_
      refine va_get (D := D9) (ci := 5) (C := R_Wr) (T := F_Wr) (N := 6) hx hb hts i_Wr hown hK hP 18 ww_18 rfl 2 (by decide) (hts _ g_188) (fun _ h9 => h9) rfl d_Wr_putIfFits_124 ?_
      refine lv_iload hx hb d_Wr_putIfFits_127 (lv_at hl 0 rfl) ?_
      have hE9 := wE_ok (pt := pt) hek hW
      rw [hwe] at hE9
      obtain ⟨w1, ⟨Xa, w2, w3⟩, ⟨Za, w4⟩, w5⟩ := hE9
      have hle : E.length ≤ E1.length := by have := congrArg List.length w4; rw [List.length_append] at this; (try simp only at this); omega
      have hl8 : E1.length ≤ 8192 := w1.1.2.2
      refine mw_cVN (ci := 1) (k := 24) C0 (m_En_shrinkTo l D9 cB cI cJ cG a O _ _ E1.length E.length (EnS_sm xS1 ((sq9 25 (by decide)).trans (sq5 25 (by decide))) ((sq9 26 (by decide)).trans (sq5 26 (by decide))) ((sq9 27 (by decide)).trans (sq5 27 (by decide)))) ((sI16 14 (by decide)).trans ((sI15 14 (by decide)).trans ((sp9 14 (by decide)).trans ((sp5 14 (by decide)).trans x141)))) hl8 (by omega)) g_567 g_6 g_564 g_566 gs_En_shrinkTo ⟨by decide +kernel, by decide +kernel, show Option.map (fun d => d.parameters.length) (parseMethodDescriptor y_En_shrinkTo.desc) = some 1 by decide +kernel⟩ ⟨by decide, by decide⟩ rfl rfl hP hD hS hA rfl ww_24 hl.1 (Nat.le_of_ble_eq_true rfl) rfl d_Wr_putIfFits_129 ⟨by decide, by decide⟩ (fun v9 w9 H locs hq hP hD hS => ?_)
      obtain ⟨I17, F18, hw9, q19⟩ := hq
      subst hw9
      obtain ⟨rfl, ssh, y14, ssF, yS⟩ := q19
      refine lv_iconst (v := 0) hx hb d_Wr_putIfFits_132 (by decide) ?_
      refine lv_topq (y := nI 0) (rfl) ?_
      exact hret _ _ _ _ _ _ _ hS hP hD d_Wr_putIfFits_133 (nr_z (Or.inl rfl)) (Or.inr ⟨(by rw [hwe]; simp only; omega), rfl, (sm_tr (sm_tr (sm_tr (sm_tr (sm_tr (sm_mo sw1 (by decide)) (sm_mo sp5 (by decide))) (sm_mo sp9 (by decide))) (sm_mo sI15 (by decide))) (sm_mo sI16 (by decide))) (sm_mo ssh (by decide))), (((ssh 13 (by decide)).trans (sI16 13 (by decide))).trans aI15), (by rw [y14, Nat.min_eq_right hle]), ((ssh 10 (by decide)).trans aI16), (sm_tr (sm_tr (sm_tr (sm_mo sW1 (by decide)) (sm_mo sq5 (by decide))) (sm_mo sq9 (by decide))) (sm_mo ssF (by decide))), BR_pre (by (try simp only at w2); have z9 := (BR_eq ym9 (ssF 21 (by decide))); rw [w2, ← List.append_assoc] at z9; exact z9), by have z9 := yS; rw [Nat.min_eq_right hle] at z9; exact z9, by have z9 := EnB_take (n := E.length) (EnB_sm xB1 ((ssF 27 (by decide)).trans ((sq9 27 (by decide)).trans (sq5 27 (by decide)))) ((ssF 28 (by decide)).trans ((sq9 28 (by decide)).trans (sq5 28 (by decide)))) ((ssF 29 (by decide)).trans ((sq9 29 (by decide)).trans (sq5 29 (by decide))))); (try simp only at w4); rw [w4, List.take_left] at z9; exact z9⟩)
    · have c14 : ¬ (lm < 12 + (B1 ++ b2 (eT e9) ++ b2 (eK e9)).length) := fun z9 => c14 ((nI_ltI (a := lm) (b := 12 + (B1 ++ b2 (eT e9) ++ b2 (eK e9)).length) (by omega) (by omega)).mpr z9)
      refine lv_iconst (v := 1) hx hb d_Wr_putIfFits_106 (by decide) ?_
      refine lv_topq (y := nI 1) (rfl) ?_
      exact hret _ _ _ _ _ _ _ hS hP hD d_Wr_putIfFits_107 (nr_z (Or.inr rfl)) (by rw [hwe]; exact Or.inl ⟨by simp only; omega, rfl, (sm_tr (sm_tr (sm_mo sw1 (by decide)) (sm_mo sp5 (by decide))) (sm_mo sp9 (by decide))), yl9, ((sp9 14 (by decide)).trans ((sp5 14 (by decide)).trans x141)), ((sp9 10 (by decide)).trans ((sp5 10 (by decide)).trans x101)), (sm_tr (sm_tr (sm_mo sW1 (by decide)) (sm_mo sq5 (by decide))) (sm_mo sq9 (by decide))), ym9, (EnS_sm xS1 ((sq9 25 (by decide)).trans (sq5 25 (by decide))) ((sq9 26 (by decide)).trans (sq5 26 (by decide))) ((sq9 27 (by decide)).trans (sq5 27 (by decide)))), (EnB_sm xB1 ((sq9 27 (by decide)).trans (sq5 27 (by decide))) ((sq9 28 (by decide)).trans (sq5 28 (by decide))) ((sq9 29 (by decide)).trans (sq5 29 (by decide))))⟩)
  · have c13 : ¬ (t9 = 0) := fun z9 => c13 ((nI_eq (a := t9) (b := 0) (by omega) (by omega)).mpr z9)
    have hs0 : ¬ eS e9 = 0 := by omega
    refine lv_aload_n hx hb d_Wr_putIfFits_74 rfl (lv_at hl 3 rfl) ?_
    refine va_get (D := D9) (ci := 5) (C := R_Wr) (T := F_Wr) (N := 6) hx hb hts i_Wr hown hK hP 18 ww_18 rfl 1 (by decide) (hts _ g_186) (fun _ h9 => h9) rfl d_Wr_putIfFits_75 ?_
    refine lv_aload_n hx hb d_Wr_putIfFits_78 rfl (lv_at hl 3 rfl) ?_
    refine va_get (D := D9) (ci := 5) (C := R_Wr) (T := F_Wr) (N := 6) hx hb hts i_Wr hown hK hP 18 ww_18 rfl 0 (by decide) (hts _ g_185) (fun _ h9 => h9) rfl d_Wr_putIfFits_79 ?_
    refine va_getN (D := D9) (ci := 2) (C := R_Ga) (T := F_Ga) (N := 11) hx hb hts i_Ga hown hK hP 19 ww_19 rfl 6 (by decide) (hts _ g_77) (fun _ h9 => h9) rfl d_Wr_putIfFits_82 ?_
    refine lv_iload_n hx hb d_Wr_putIfFits_85 rfl (lv_at hl 5 rfl) ?_
    refine va_iald (D := D9) hx hb hK hP 10 1 ww_10 rfl (vp_in_nI (by omega) (by decide)) d_Wr_putIfFits_86 ?_
    refine lv_topq (y := eL e9) (by rw [nI_clamp (by omega)]; exact ((congrFun (sq9 10 (by decide)) _).trans ((congrFun (sq5 10 (by decide)) _).trans ((congrFun (sW1 10 (by decide)) _).trans z6)))) ?_
    refine mw_cVN (ci := 0) (k := 20) C0 (m_By_putFourL_ms l D9 cB cI cJ cG a O _ _ (X ++ (B1 ++ b2 (eT e9) ++ b2 (eK e9))) 0 (eL e9) ym9 (yl9.trans (congrArg nI xl12)) (by omega)) g_452 g_2 g_608 g_451 gs_By_putFour ⟨by decide +kernel, by decide +kernel, show Option.map (fun d => d.parameters.length) (parseMethodDescriptor y_By_putFour.desc) = some 1 by decide +kernel⟩ ⟨by decide, by decide⟩ rfl rfl hP hD hS hA rfl ww_20 hl.1 (Nat.le_of_ble_eq_true rfl) rfl d_Wr_putIfFits_87 ⟨by decide, by decide⟩ (fun v9 w9 H locs hq hP hD hS => ?_)
    obtain ⟨I20, F21, hw9, q22⟩ := hq
    subst hw9
    obtain ⟨rfl, sp20, yl20, sq20, ym20⟩ := q22
    rw [List.append_assoc] at ym20
    have hq20 : (B1 ++ b2 (eT e9) ++ b2 (eK e9) ++ b4 (eL e9)).length = (B1 ++ b2 (eT e9) ++ b2 (eK e9)).length + 4 := by rw [List.length_append]; rfl
    have yl20 : I20 13 = nI (12 + (B1 ++ b2 (eT e9) ++ b2 (eK e9) ++ b4 (eL e9)).length) := yl20.trans (congrArg nI (by rw [← xl12, hq20]; omega))
    have xl23 : 12 + (B1 ++ b2 (eT e9) ++ b2 (eK e9) ++ b4 (eL e9)).length = (X ++ (B1 ++ b2 (eT e9) ++ b2 (eK e9) ++ b4 (eL e9))).length := xl_of hX
    refine lv_aload_n hx hb d_Wr_putIfFits_90 rfl (lv_at hl 3 rfl) ?_
    refine lv_iload_n hx hb d_Wr_putIfFits_91 rfl (lv_at hl 5 rfl) ?_
    have hGd : GaR F21 es := GaR_sm (M := [21, 22, 23, 25, 26, 27, 28, 29]) hG (sm_tr (sm_tr (sm_tr (sm_mo sW1 (by decide)) (sm_mo sq5 (by decide))) (sm_mo sq9 (by decide))) (sm_mo sq20 (by decide))) (by decide) (BR_eq hGB ((sq20 4 (by decide)).trans ((sq9 4 (by decide)).trans ((sq5 4 (by decide)).trans (sW1 4 (by decide)))))) hO
    refine mw_cV (ci := 5) (k := 18) C0 (m_Wr_putData l D9 cB cI cJ cG a O _ _ es r e9 hre hGd hO X (B1 ++ b2 (eT e9) ++ b2 (eK e9) ++ b4 (eL e9)) E1 p1 hX ym20 yl20 (by omega) (EnS_sm xS1 ((sq20 25 (by decide)).trans ((sq9 25 (by decide)).trans (sq5 25 (by decide)))) ((sq20 26 (by decide)).trans ((sq9 26 (by decide)).trans (sq5 26 (by decide)))) ((sq20 27 (by decide)).trans ((sq9 27 (by decide)).trans (sq5 27 (by decide))))) (EnB_sm xB1 ((sq20 27 (by decide)).trans ((sq9 27 (by decide)).trans (sq5 27 (by decide)))) ((sq20 28 (by decide)).trans ((sq9 28 (by decide)).trans (sq5 28 (by decide)))) ((sq20 29 (by decide)).trans ((sq9 29 (by decide)).trans (sq5 29 (by decide))))) ((sp20 14 (by decide)).trans ((sp9 14 (by decide)).trans ((sp5 14 (by decide)).trans x141))) (wW_more (wW_more (wW_more W1))) ((sp20 10 (by decide)).trans ((sp9 10 (by decide)).trans ((sp5 10 (by decide)).trans x101))) (hek.2.2.1 hs0)) g_612 g_5 g_609 g_611 gs_Wr_putData ⟨by decide +kernel, by decide +kernel, show Option.map (fun d => d.parameters.length) (parseMethodDescriptor y_Wr_putData.desc) = some 1 by decide +kernel⟩ ⟨by decide, by decide⟩ rfl rfl hP hD hS hA rfl ww_18 hl.1 (Nat.le_of_ble_eq_true rfl) rfl d_Wr_putIfFits_92 ⟨by decide, by decide⟩ (fun v9 w9 H locs hq hP hD hS => ?_)
    obtain ⟨I24, F25, hw9, q26⟩ := hq
    subst hw9
    obtain ⟨rfl, swd, x13d, x14d, x10d, sWd, xMd, xSd, xBd⟩ := q26
    have hwe := wE_1 hs0 nN nk7 hw1
    rw [← hwe] at x13d x14d x10d xMd xSd xBd
    refine lv_aload_n hx hb d_Wr_putIfFits_95 rfl (lv_at hl 3 rfl) ?_
    refine va_get (D := D9) (ci := 5) (C := R_Wr) (T := F_Wr) (N := 6) hx hb hts i_Wr hown hK hP 18 ww_18 rfl 1 (by decide) (hts _ g_186) (fun _ h9 => h9) rfl d_Wr_putIfFits_96 ?_
    refine va_getN (D := D9) (ci := 0) (C := R_By) (T := F_By) (N := 2) hx hb hts i_By hown hK hP 20 ww_20 rfl 1 (by decide) (hts _ g_38) (fun _ h9 => h9) rfl d_Wr_putIfFits_99 ?_
    refine lv_topq (y := nI (12 + (wE (fl es) (of9 es r) e9 B E pt).1.length)) (x13d) ?_
    refine lv_iload_n hx hb d_Wr_putIfFits_102 rfl (lv_at hl 6 rfl) ?_
    refine lv_icmp_gt (tgt := 108) hx hb d_Wr_putIfFits_103 (by decide) (fun c27 => ?_) (fun c27 => ?_)
    · have c27 : lm < 12 + (wE (fl es) (of9 es r) e9 B E pt).1.length := (nI_ltI (a := lm) (b := 12 + (wE (fl es) (of9 es r) e9 B E pt).1.length) (by omega) (by omega)).mp c27
      refine lv_aload_n hx hb d_Wr_putIfFits_108 rfl (lv_at hl 3 rfl) ?_
      refine va_get (D := D9) (ci := 5) (C := R_Wr) (T := F_Wr) (N := 6) hx hb hts i_Wr hown hK hP 18 ww_18 rfl 1 (by decide) (hts _ g_186) (fun _ h9 => h9) rfl d_Wr_putIfFits_109 ?_
      refine lv_iload hx hb d_Wr_putIfFits_112 (lv_at hl 2 rfl) ?_
      refine va_putN (D := D9) (ty := .int) (ci := 0) (C := R_By) (T := F_By) (N := 2) hx hb hts i_By t_By t_By_ok n_By hown hK hP hD hS 20 ww_20 rfl 1 (by decide) (hts _ g_38) (fun _ h9 => h9) rfl (by decide +kernel) rfl rfl (Nat.le_of_ble_eq_true rfl) d_Wr_putIfFits_114 (fun H locs hP hD hS => ?_)
      obtain ⟨I28, aI28, sI28, hP, hD⟩ := fx (P := fun z => va_P D9 cls9 (WW a cB cI cJ cG z _ O) H ∧ va_D A0 (WW a cB cI cJ cG z _ O)) ⟨wp_13 hP, wd_13 hD⟩
      refine lv_aload_n hx hb d_Wr_putIfFits_117 rfl (lv_at hl 3 rfl) ?_
      refine lv_iload hx hb d_Wr_putIfFits_118 (lv_at hl 1 rfl) ?_
      refine va_put (D := D9) (ty := .int) (ci := 5) (C := R_Wr) (T := F_Wr) (N := 6) hx hb hts i_Wr t_Wr t_Wr_ok n_Wr hown hK hP hD hS 18 ww_18 rfl 5 (by decide) (hts _ g_191) (fun _ h9 => h9) rfl (by decide +kernel) rfl rfl (Nat.le_of_ble_eq_true rfl) d_Wr_putIfFits_120 (fun H locs hP hD hS => ?_)
      obtain ⟨I29, aI29, sI29, hP, hD⟩ := fx (P := fun z => va_P D9 cls9 (WW a cB cI cJ cG z _ O) H ∧ va_D A0 (WW a cB cI cJ cG z _ O)) ⟨wp_10 hP, wd_10 hD⟩
      refine lv_aload_n hx hb d_Wr_putIfFits_123 rfl (lv_at hl 3 rfl) ?_
      refine va_get (D := D9) (ci := 5) (C := R_Wr) (T := F_Wr) (N := 6) hx hb hts i_Wr hown hK hP 18 ww_18 rfl 2 (by decide) (hts _ g_188) (fun _ h9 => h9) rfl d_Wr_putIfFits_124 ?_
      refine lv_iload hx hb d_Wr_putIfFits_127 (lv_at hl 0 rfl) ?_
      have hE9 := wE_ok (pt := pt) hek hW
      obtain ⟨w1, ⟨Xa, w2, w3⟩, ⟨Za, w4⟩, w5⟩ := hE9
      have hle : E.length ≤ (wE (fl es) (of9 es r) e9 B E pt).2.1.length := by have := congrArg List.length w4; rw [List.length_append] at this; (try simp only at this); omega
      have hl8 : (wE (fl es) (of9 es r) e9 B E pt).2.1.length ≤ 8192 := w1.1.2.2
      refine mw_cVN (ci := 1) (k := 24) C0 (m_En_shrinkTo l D9 cB cI cJ cG a O _ _ ((wE (fl es) (of9 es r) e9 B E pt).2.1.length) E.length xSd ((sI29 14 (by decide)).trans ((sI28 14 (by decide)).trans x14d)) hl8 (by omega)) g_567 g_6 g_564 g_566 gs_En_shrinkTo ⟨by decide +kernel, by decide +kernel, show Option.map (fun d => d.parameters.length) (parseMethodDescriptor y_En_shrinkTo.desc) = some 1 by decide +kernel⟩ ⟨by decide, by decide⟩ rfl rfl hP hD hS hA rfl ww_24 hl.1 (Nat.le_of_ble_eq_true rfl) rfl d_Wr_putIfFits_129 ⟨by decide, by decide⟩ (fun v9 w9 H locs hq hP hD hS => ?_)
      obtain ⟨I30, F31, hw9, q32⟩ := hq
      subst hw9
      obtain ⟨rfl, ssh, y14, ssF, yS⟩ := q32
      refine lv_iconst (v := 0) hx hb d_Wr_putIfFits_132 (by decide) ?_
      refine lv_topq (y := nI 0) (rfl) ?_
      exact hret _ _ _ _ _ _ _ hS hP hD d_Wr_putIfFits_133 (nr_z (Or.inl rfl)) (Or.inr ⟨(by omega), rfl, (sm_tr (sm_tr (sm_tr (sm_tr (sm_tr (sm_tr (sm_tr (sm_mo sw1 (by decide)) (sm_mo sp5 (by decide))) (sm_mo sp9 (by decide))) (sm_mo sp20 (by decide))) (sm_mo swd (by decide))) (sm_mo sI28 (by decide))) (sm_mo sI29 (by decide))) (sm_mo ssh (by decide))), (((ssh 13 (by decide)).trans (sI29 13 (by decide))).trans aI28), (by rw [y14, Nat.min_eq_right hle]), ((ssh 10 (by decide)).trans aI29), (sm_tr (sm_tr (sm_tr (sm_tr (sm_tr (sm_mo sW1 (by decide)) (sm_mo sq5 (by decide))) (sm_mo sq9 (by decide))) (sm_mo sq20 (by decide))) (sm_mo sWd (by decide))) (sm_mo ssF (by decide))), BR_pre (by (try simp only at w2); have z9 := (BR_eq xMd (ssF 21 (by decide))); rw [w2, ← List.append_assoc] at z9; exact z9), by have z9 := yS; rw [Nat.min_eq_right hle] at z9; exact z9, by have z9 := EnB_take (n := E.length) (EnB_sm xBd (ssF 27 (by decide)) (ssF 28 (by decide)) (ssF 29 (by decide))); (try simp only at w4); rw [w4, List.take_left] at z9; exact z9⟩)
    · have c27 : ¬ (lm < 12 + (wE (fl es) (of9 es r) e9 B E pt).1.length) := fun z9 => c27 ((nI_ltI (a := lm) (b := 12 + (wE (fl es) (of9 es r) e9 B E pt).1.length) (by omega) (by omega)).mpr z9)
      refine lv_iconst (v := 1) hx hb d_Wr_putIfFits_106 (by decide) ?_
      refine lv_topq (y := nI 1) (rfl) ?_
      exact hret _ _ _ _ _ _ _ hS hP hD d_Wr_putIfFits_107 (nr_z (Or.inr rfl)) (Or.inl ⟨by omega, rfl, (sm_tr (sm_tr (sm_tr (sm_tr (sm_mo sw1 (by decide)) (sm_mo sp5 (by decide))) (sm_mo sp9 (by decide))) (sm_mo sp20 (by decide))) (sm_mo swd (by decide))), x13d, x14d, x10d, (sm_tr (sm_tr (sm_tr (sm_tr (sm_mo sW1 (by decide)) (sm_mo sq5 (by decide))) (sm_mo sq9 (by decide))) (sm_mo sq20 (by decide))) (sm_mo sWd (by decide))), xMd, xSd, xBd⟩)
