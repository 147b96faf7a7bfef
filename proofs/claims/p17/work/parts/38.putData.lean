theorem xl_of {X B : List Nat} (hX : X.length = 12) : 12 + B.length = (X ++ B).length := by rw [List.length_append, hX]
theorem ln2_X {X B w : List Nat} {n : Nat} (hX : X.length = 12) : (((X ++ w).set (12 + B.length) (n / 256 % 256)).set (12 + B.length + 1) (n % 256)) = X ++ ln2 B n w := by
  unfold ln2
  rw [List.set_append_right _ _ (by omega), List.set_append_right _ _ (by omega), hX, show 12 + B.length - 12 = B.length by omega, show 12 + B.length + 1 - 12 = B.length + 1 by omega]
theorem wD_0 {G : List Nat} {ty q D : Nat} {B : List Nat} {E : List (Nat × Nat)} {pt : Nat} (h : k_sh ty = false) : wD G ty q D B E pt = (B ++ sl9 G q D, E, pt) := by unfold wD; rw [if_neg (by rw [h]; decide)]
theorem wD_1 {G : List Nat} {ty q D k1 r1 : Nat} {B B1 : List Nat} {E E1 : List (Nat × Nat)} {pt p1 : Nat} (h : k_sh ty = true) (hN : isN G k1 (q + k_bf ty) r1) (hk : k1 ≤ 127) (hn : k_nm ty = 1) (hw : wN G k1 (q + k_bf ty) (B ++ sl9 G q (k_bf ty)) E pt = (B1, E1, p1)) : wD G ty q D B E pt = (B1 ++ sl9 G (r1 + 1) (q + D - (r1 + 1)), E1, p1) := by
  unfold wD; rw [if_pos h, isN_nk hN (by omega), rt_of hN hk, hw]; simp only; rw [if_pos hn]
theorem wD_2 {G : List Nat} {ty q D k1 r1 k2 r2 : Nat} {B B1 B2 : List Nat} {E E1 E2 : List (Nat × Nat)} {pt p1 p2 : Nat} (h : k_sh ty = true) (hN : isN G k1 (q + k_bf ty) r1) (hk : k1 ≤ 127) (hn : k_nm ty = 2) (hw : wN G k1 (q + k_bf ty) (B ++ sl9 G q (k_bf ty)) E pt = (B1, E1, p1)) (hN2 : isN G k2 (r1 + 1) r2) (hk2 : k2 ≤ 127) (hw2 : wN G k2 (r1 + 1) B1 E1 p1 = (B2, E2, p2)) : wD G ty q D B E pt = (B2 ++ sl9 G (r2 + 1) (q + D - (r2 + 1)), E2, p2) := by
  unfold wD; rw [if_pos h, isN_nk hN (by omega), rt_of hN hk, hw]; simp only; rw [if_neg (by omega), isN_nk hN2 (by omega), rt_of hN2 hk2, hw2]
theorem wDL_of {G : List Nat} {ty q D : Nat} {B : List Nat} {E : List (Nat × Nat)} {pt : Nat} {w : List Nat × List (Nat × Nat) × Nat} (h : wD G ty q D (B ++ b2 0) E pt = w) : wDL G ty q D B E pt = (ln2 B (w.1.length - B.length - 2) w.1, w.2.1, w.2.2) := by unfold wDL; rw [h]
theorem g_62 : (Cond.fieldLinkNest "WireMessages$Writer" (90 : Nat) "WireMessages$Gathered" "starts" "[I" "WireMessages") ∈ GT := gt_mem 62 (by decide +kernel) rfl
theorem g_65 : (Cond.fieldLinkNest "WireMessages$Writer" (114 : Nat) "WireMessages$Gathered" "nameLengths" "[I" "WireMessages") ∈ GT := gt_mem 65 (by decide +kernel) rfl
theorem g_68 : (Cond.fieldLinkNest "WireMessages$Writer" (117 : Nat) "WireMessages$Gathered" "dataLengths" "[I" "WireMessages") ∈ GT := gt_mem 68 (by decide +kernel) rfl
theorem g_71 : (Cond.fieldLinkNest "WireMessages$Writer" (96 : Nat) "WireMessages$Gathered" "types" "[I" "WireMessages") ∈ GT := gt_mem 71 (by decide +kernel) rfl
theorem g_578 : (Cond.methodLink "WireMessages$Writer" (93 : Nat) ({ cls := "WireMessages$Writer", name := "putSharedName", desc := "(I)I" } : MethodName)) ∈ GT := gt_mem 578 (by decide +kernel) rfl
theorem g_580 : (Cond.instanceMethod ({ cls := "WireMessages$Writer", name := "putSharedName", desc := "(I)I" } : MethodName)) ∈ GT := gt_mem 580 (by decide +kernel) rfl
theorem g_581 : (Cond.code ({ cls := "WireMessages$Writer", name := "putSharedName", desc := "(I)I" } : MethodName) prog_8_method_5_code (8 : Nat) (Option.some FieldType.int)) ∈ GT := gt_mem 581 (by decide +kernel) rfl
theorem g_613 : (Cond.methodLinkNest "WireMessages$Writer" (120 : Nat) ({ cls := "WireMessages$Kinds", name := "sharesNames", desc := "(I)Z" } : MethodName) "WireMessages") ∈ GT := gt_mem 613 (by decide +kernel) rfl
theorem g_614 : (Cond.methodLinkNest "WireMessages$Writer" (126 : Nat) ({ cls := "WireMessages$Kinds", name := "bytesBeforeNames", desc := "(I)I" } : MethodName) "WireMessages") ∈ GT := gt_mem 614 (by decide +kernel) rfl
theorem g_615 : (Cond.methodLinkNest "WireMessages$Writer" (129 : Nat) ({ cls := "WireMessages$Kinds", name := "namesIn", desc := "(I)I" } : MethodName) "WireMessages") ∈ GT := gt_mem 615 (by decide +kernel) rfl
theorem g_616 : (Cond.methodLinkNest "WireMessages$Writer" (77 : Nat) ({ cls := "WireMessages$Bytes", name := "setTwo", desc := "(II)V" } : MethodName) "WireMessages") ∈ GT := gt_mem 616 (by decide +kernel) rfl
theorem g_618 : (Cond.instanceMethod ({ cls := "WireMessages$Bytes", name := "setTwo", desc := "(II)V" } : MethodName)) ∈ GT := gt_mem 618 (by decide +kernel) rfl
theorem g_619 : (Cond.code ({ cls := "WireMessages$Bytes", name := "setTwo", desc := "(II)V" } : MethodName) prog_2_method_6_code (3 : Nat) (Option.none : Option FieldType)) ∈ GT := gt_mem 619 (by decide +kernel) rfl
theorem gs_By_setTwo : Cond.selects R_By y_By_setTwo y_By_setTwo ∈ GT := gt_sel (q := (⟨"WireMessages$Bytes", "setTwo", "(II)V"⟩, 2)) (by decide +kernel)
theorem gs_Wr_putSharedName : Cond.selects R_Wr y_Wr_putSharedName y_Wr_putSharedName ∈ GT := gt_sel (q := (⟨"WireMessages$Writer", "putSharedName", "(I)I"⟩, 6)) (by decide +kernel)
theorem d_Wr_putData_0 : decode b_Wr_putData 0 = .ok (.aload_n 0, 1) := by decide +kernel
theorem d_Wr_putData_1 : decode b_Wr_putData 1 = .ok (.getfield 25, 3) := by decide +kernel
theorem d_Wr_putData_4 : decode b_Wr_putData 4 = .ok (.getfield 96, 3) := by decide +kernel
theorem d_Wr_putData_7 : decode b_Wr_putData 7 = .ok (.iload_n 1, 1) := by decide +kernel
theorem d_Wr_putData_8 : decode b_Wr_putData 8 = .ok (.iaload, 1) := by decide +kernel
theorem d_Wr_putData_9 : decode b_Wr_putData 9 = .ok (.istore_n 2, 1) := by decide +kernel
theorem d_Wr_putData_10 : decode b_Wr_putData 10 = .ok (.aload_n 0, 1) := by decide +kernel
theorem d_Wr_putData_11 : decode b_Wr_putData 11 = .ok (.getfield 25, 3) := by decide +kernel
theorem d_Wr_putData_14 : decode b_Wr_putData 14 = .ok (.getfield 90, 3) := by decide +kernel
theorem d_Wr_putData_17 : decode b_Wr_putData 17 = .ok (.iload_n 1, 1) := by decide +kernel
theorem d_Wr_putData_18 : decode b_Wr_putData 18 = .ok (.iaload, 1) := by decide +kernel
theorem d_Wr_putData_19 : decode b_Wr_putData 19 = .ok (.aload_n 0, 1) := by decide +kernel
theorem d_Wr_putData_20 : decode b_Wr_putData 20 = .ok (.getfield 25, 3) := by decide +kernel
theorem d_Wr_putData_23 : decode b_Wr_putData 23 = .ok (.getfield 114, 3) := by decide +kernel
theorem d_Wr_putData_26 : decode b_Wr_putData 26 = .ok (.iload_n 1, 1) := by decide +kernel
theorem d_Wr_putData_27 : decode b_Wr_putData 27 = .ok (.iaload, 1) := by decide +kernel
theorem d_Wr_putData_28 : decode b_Wr_putData 28 = .ok (.iadd, 1) := by decide +kernel
theorem d_Wr_putData_29 : decode b_Wr_putData 29 = .ok (.istore_n 3, 1) := by decide +kernel
theorem d_Wr_putData_30 : decode b_Wr_putData 30 = .ok (.iload_n 3, 1) := by decide +kernel
theorem d_Wr_putData_31 : decode b_Wr_putData 31 = .ok (.aload_n 0, 1) := by decide +kernel
theorem d_Wr_putData_32 : decode b_Wr_putData 32 = .ok (.getfield 25, 3) := by decide +kernel
theorem d_Wr_putData_35 : decode b_Wr_putData 35 = .ok (.getfield 117, 3) := by decide +kernel
theorem d_Wr_putData_38 : decode b_Wr_putData 38 = .ok (.iload_n 1, 1) := by decide +kernel
theorem d_Wr_putData_39 : decode b_Wr_putData 39 = .ok (.iaload, 1) := by decide +kernel
theorem d_Wr_putData_40 : decode b_Wr_putData 40 = .ok (.iadd, 1) := by decide +kernel
theorem d_Wr_putData_41 : decode b_Wr_putData 41 = .ok (.istore 4, 2) := by decide +kernel
theorem d_Wr_putData_43 : decode b_Wr_putData 43 = .ok (.aload_n 0, 1) := by decide +kernel
theorem d_Wr_putData_44 : decode b_Wr_putData 44 = .ok (.getfield 12, 3) := by decide +kernel
theorem d_Wr_putData_47 : decode b_Wr_putData 47 = .ok (.getfield 47, 3) := by decide +kernel
theorem d_Wr_putData_50 : decode b_Wr_putData 50 = .ok (.istore 5, 2) := by decide +kernel
theorem d_Wr_putData_52 : decode b_Wr_putData 52 = .ok (.aload_n 0, 1) := by decide +kernel
theorem d_Wr_putData_53 : decode b_Wr_putData 53 = .ok (.getfield 12, 3) := by decide +kernel
theorem d_Wr_putData_56 : decode b_Wr_putData 56 = .ok (.iconst 0, 1) := by decide +kernel
theorem d_Wr_putData_57 : decode b_Wr_putData 57 = .ok (.invokevirtual 99, 3) := by decide +kernel
theorem d_Wr_putData_60 : decode b_Wr_putData 60 = .ok (.iload_n 3, 1) := by decide +kernel
theorem d_Wr_putData_61 : decode b_Wr_putData 61 = .ok (.istore 6, 2) := by decide +kernel
theorem d_Wr_putData_63 : decode b_Wr_putData 63 = .ok (.iload_n 2, 1) := by decide +kernel
theorem d_Wr_putData_64 : decode b_Wr_putData 64 = .ok (.invokestatic 120, 3) := by decide +kernel
theorem d_Wr_putData_67 : decode b_Wr_putData 67 = .ok (.ifCond .eq 64, 3) := by decide +kernel
theorem d_Wr_putData_70 : decode b_Wr_putData 70 = .ok (.iload_n 2, 1) := by decide +kernel
theorem d_Wr_putData_71 : decode b_Wr_putData 71 = .ok (.invokestatic 126, 3) := by decide +kernel
theorem d_Wr_putData_74 : decode b_Wr_putData 74 = .ok (.istore 7, 2) := by decide +kernel
theorem d_Wr_putData_76 : decode b_Wr_putData 76 = .ok (.iload_n 2, 1) := by decide +kernel
theorem d_Wr_putData_77 : decode b_Wr_putData 77 = .ok (.invokestatic 129, 3) := by decide +kernel
theorem d_Wr_putData_80 : decode b_Wr_putData 80 = .ok (.istore 8, 2) := by decide +kernel
theorem d_Wr_putData_82 : decode b_Wr_putData 82 = .ok (.aload_n 0, 1) := by decide +kernel
theorem d_Wr_putData_83 : decode b_Wr_putData 83 = .ok (.getfield 12, 3) := by decide +kernel
theorem d_Wr_putData_86 : decode b_Wr_putData 86 = .ok (.aload_n 0, 1) := by decide +kernel
theorem d_Wr_putData_87 : decode b_Wr_putData 87 = .ok (.getfield 25, 3) := by decide +kernel
theorem d_Wr_putData_90 : decode b_Wr_putData 90 = .ok (.getfield 31, 3) := by decide +kernel
theorem d_Wr_putData_93 : decode b_Wr_putData 93 = .ok (.iload 6, 2) := by decide +kernel
theorem d_Wr_putData_95 : decode b_Wr_putData 95 = .ok (.iload 7, 2) := by decide +kernel
theorem d_Wr_putData_97 : decode b_Wr_putData 97 = .ok (.invokevirtual 132, 3) := by decide +kernel
theorem d_Wr_putData_100 : decode b_Wr_putData 100 = .ok (.iload 6, 2) := by decide +kernel
theorem d_Wr_putData_102 : decode b_Wr_putData 102 = .ok (.iload 7, 2) := by decide +kernel
theorem d_Wr_putData_104 : decode b_Wr_putData 104 = .ok (.iadd, 1) := by decide +kernel
theorem d_Wr_putData_105 : decode b_Wr_putData 105 = .ok (.istore 6, 2) := by decide +kernel
theorem d_Wr_putData_107 : decode b_Wr_putData 107 = .ok (.iconst 0, 1) := by decide +kernel
theorem d_Wr_putData_108 : decode b_Wr_putData 108 = .ok (.istore 9, 2) := by decide +kernel
theorem d_Wr_putData_110 : decode b_Wr_putData 110 = .ok (.iload 9, 2) := by decide +kernel
theorem d_Wr_putData_112 : decode b_Wr_putData 112 = .ok (.iload 8, 2) := by decide +kernel
theorem d_Wr_putData_114 : decode b_Wr_putData 114 = .ok (.if_icmp .ge 17, 3) := by decide +kernel
theorem d_Wr_putData_117 : decode b_Wr_putData 117 = .ok (.aload_n 0, 1) := by decide +kernel
theorem d_Wr_putData_118 : decode b_Wr_putData 118 = .ok (.iload 6, 2) := by decide +kernel
theorem d_Wr_putData_120 : decode b_Wr_putData 120 = .ok (.invokevirtual 93, 3) := by decide +kernel
theorem d_Wr_putData_123 : decode b_Wr_putData 123 = .ok (.istore 6, 2) := by decide +kernel
theorem d_Wr_putData_125 : decode b_Wr_putData 125 = .ok (.iinc 9 1, 3) := by decide +kernel
theorem d_Wr_putData_128 : decode b_Wr_putData 128 = .ok (.goto (-18), 3) := by decide +kernel
theorem d_Wr_putData_131 : decode b_Wr_putData 131 = .ok (.aload_n 0, 1) := by decide +kernel
theorem d_Wr_putData_132 : decode b_Wr_putData 132 = .ok (.getfield 12, 3) := by decide +kernel
theorem d_Wr_putData_135 : decode b_Wr_putData 135 = .ok (.aload_n 0, 1) := by decide +kernel
theorem d_Wr_putData_136 : decode b_Wr_putData 136 = .ok (.getfield 25, 3) := by decide +kernel
theorem d_Wr_putData_139 : decode b_Wr_putData 139 = .ok (.getfield 31, 3) := by decide +kernel
theorem d_Wr_putData_142 : decode b_Wr_putData 142 = .ok (.iload 6, 2) := by decide +kernel
theorem d_Wr_putData_144 : decode b_Wr_putData 144 = .ok (.iload 4, 2) := by decide +kernel
theorem d_Wr_putData_146 : decode b_Wr_putData 146 = .ok (.iload 6, 2) := by decide +kernel
theorem d_Wr_putData_148 : decode b_Wr_putData 148 = .ok (.isub, 1) := by decide +kernel
theorem d_Wr_putData_149 : decode b_Wr_putData 149 = .ok (.invokevirtual 132, 3) := by decide +kernel
theorem d_Wr_putData_152 : decode b_Wr_putData 152 = .ok (.aload_n 0, 1) := by decide +kernel
theorem d_Wr_putData_153 : decode b_Wr_putData 153 = .ok (.getfield 12, 3) := by decide +kernel
theorem d_Wr_putData_156 : decode b_Wr_putData 156 = .ok (.iload 5, 2) := by decide +kernel
theorem d_Wr_putData_158 : decode b_Wr_putData 158 = .ok (.aload_n 0, 1) := by decide +kernel
theorem d_Wr_putData_159 : decode b_Wr_putData 159 = .ok (.getfield 12, 3) := by decide +kernel
theorem d_Wr_putData_162 : decode b_Wr_putData 162 = .ok (.getfield 47, 3) := by decide +kernel
theorem d_Wr_putData_165 : decode b_Wr_putData 165 = .ok (.iload 5, 2) := by decide +kernel
theorem d_Wr_putData_167 : decode b_Wr_putData 167 = .ok (.isub, 1) := by decide +kernel
theorem d_Wr_putData_168 : decode b_Wr_putData 168 = .ok (.iconst 2, 1) := by decide +kernel
theorem d_Wr_putData_169 : decode b_Wr_putData 169 = .ok (.isub, 1) := by decide +kernel
theorem d_Wr_putData_170 : decode b_Wr_putData 170 = .ok (.invokevirtual 77, 3) := by decide +kernel
theorem d_Wr_putData_173 : decode b_Wr_putData 173 = .ok (.return_, 1) := by decide +kernel
set_option maxHeartbeats 4000000 in
set_option maxRecDepth 100000 in
/-- Writer.putData -/
theorem m_Wr_putData (l : Launch) (D9 : va_G) (cB cI cJ cG : ClassId) (a : Nat → Nat) (O : Nat → Int64) (I : Nat → Int32) (F : Nat → Nat → Int32) (es : List En9) (r : Nat) (e9 : En9) (hre : es[r]? = some e9) (hG : GaR F es) (hO : okE es) (X B : List Nat) (E : List (Nat × Nat)) (pt : Nat) (hX : X.length = 12) (hM : BR 0 65536 (F 21) (X ++ B)) (h13 : I 13 = nI (12 + B.length)) (hBb : B.length < 200000) (hS9 : EnS F E.length) (hB9 : EnB F (fl es) E) (h14 : I 14 = nI E.length) (hW : wW (fl es) B E) (h10 : I 10 = nI pt) (hdk : dOk (fl es) (eT e9) (of9 es r + (eN e9).length) (eD e9).length) : MC l D9 cB cI cJ cG a O y_Wr_putData b_Wr_putData 10 (none) 4 [.ref (a 18), .int (nI r)] I F (fun v I' F' => v = none ∧ sm [10, 13, 14] I I' ∧ I' 13 = nI (12 + (wDL (fl es) (eT e9) (of9 es r + (eN e9).length) (eD e9).length B E pt).1.length) ∧ I' 14 = nI (wDL (fl es) (eT e9) (of9 es r + (eN e9).length) (eD e9).length B E pt).2.1.length ∧ I' 10 = nI (wDL (fl es) (eT e9) (of9 es r + (eN e9).length) (eD e9).length B E pt).2.2 ∧ sm [21, 22, 23, 25, 26, 27, 28, 29] F F' ∧ BR 0 65536 (F' 21) (X ++ (wDL (fl es) (eT e9) (of9 es r + (eN e9).length) (eD e9).length B E pt).1) ∧ EnS F' (wDL (fl es) (eT e9) (of9 es r + (eN e9).length) (eD e9).length B E pt).2.1.length ∧ EnB F' (fl es) (wDL (fl es) (eT e9) (of9 es r + (eN e9).length) (eD e9).length B E pt).2.1) := by
  refine mc_ofv (by decide) (Nat.le_of_ble_eq_true rfl) ?_
  intro p e s m below meth c ls A0 Q C0 hP hD hA hS hl hret
  obtain ⟨hx, hb, hml, hr, hlocks, hown, hts, hK⟩ := id C0
  have hl : lv_has ls 10 [(0, .ref (a 18)), (1, .int (nI r))] := hl
  have hln := okE_len hO
  have hrl := (List.getElem?_eq_some_iff.mp hre).1
  obtain ⟨z1, z2, z3, z4, z5, z6, z7⟩ := hG.1 r e9 hre
  obtain ⟨y1, y2, y3⟩ := hO.2.2.2 e9 (List.mem_of_getElem? hre)
  have hGl := hO.2.2.1
  have hGB := hG.2.2
  have hnx := of9_next hre
  have hnl := of9_le es (r + 1)
  have xl0 : 12 + B.length = (X ++ B).length := by rw [List.length_append, hX]
  refine lv_aload_n hx hb d_Wr_putData_0 rfl (lv_at hl 0 rfl) ?_
  refine va_get (D := D9) (ci := 5) (C := R_Wr) (T := F_Wr) (N := 6) hx hb hts i_Wr hown hK hP 18 ww_18 rfl 0 (by decide) (hts _ g_185) (fun _ h9 => h9) rfl d_Wr_putData_1 ?_
  refine va_getN (D := D9) (ci := 2) (C := R_Ga) (T := F_Ga) (N := 11) hx hb hts i_Ga hown hK hP 19 ww_19 rfl 4 (by decide) (hts _ g_71) (fun _ h9 => h9) rfl d_Wr_putData_4 ?_
  refine lv_iload_n hx hb d_Wr_putData_7 rfl (lv_at hl 1 rfl) ?_
  refine va_iald (D := D9) hx hb hK hP 8 1 ww_8 rfl (vp_in_nI (by omega) (by decide)) d_Wr_putData_8 ?_
  refine lv_topq (y := nI (eT e9)) (by rw [nI_clamp (by omega)]; exact z4) ?_
  refine lv_istore_n (lv' := [(2, _), (0, _), (1, _)]) hx hb d_Wr_putData_9 rfl hl (by decide) rfl (fun ls hl => ?_)
  refine lv_aload_n hx hb d_Wr_putData_10 rfl (lv_at hl 1 rfl) ?_
  refine va_get (D := D9) (ci := 5) (C := R_Wr) (T := F_Wr) (N := 6) hx hb hts i_Wr hown hK hP 18 ww_18 rfl 0 (by decide) (hts _ g_185) (fun _ h9 => h9) rfl d_Wr_putData_11 ?_
  refine va_getN (D := D9) (ci := 2) (C := R_Ga) (T := F_Ga) (N := 11) hx hb hts i_Ga hown hK hP 19 ww_19 rfl 1 (by decide) (hts _ g_62) (fun _ h9 => h9) rfl d_Wr_putData_14 ?_
  refine lv_iload_n hx hb d_Wr_putData_17 rfl (lv_at hl 2 rfl) ?_
  refine va_iald (D := D9) hx hb hK hP 5 1 ww_5 rfl (vp_in_nI (by omega) (by decide)) d_Wr_putData_18 ?_
  refine lv_topq (y := nI (of9 es r)) (by rw [nI_clamp (by omega)]; exact z1) ?_
  refine lv_aload_n hx hb d_Wr_putData_19 rfl (lv_at hl 1 rfl) ?_
  refine va_get (D := D9) (ci := 5) (C := R_Wr) (T := F_Wr) (N := 6) hx hb hts i_Wr hown hK hP 18 ww_18 rfl 0 (by decide) (hts _ g_185) (fun _ h9 => h9) rfl d_Wr_putData_20 ?_
  refine va_getN (D := D9) (ci := 2) (C := R_Ga) (T := F_Ga) (N := 11) hx hb hts i_Ga hown hK hP 19 ww_19 rfl 2 (by decide) (hts _ g_65) (fun _ h9 => h9) rfl d_Wr_putData_23 ?_
  refine lv_iload_n hx hb d_Wr_putData_26 rfl (lv_at hl 2 rfl) ?_
  refine va_iald (D := D9) hx hb hK hP 6 1 ww_6 rfl (vp_in_nI (by omega) (by decide)) d_Wr_putData_27 ?_
  refine lv_topq (y := nI ((eN e9).length)) (by rw [nI_clamp (by omega)]; exact z2) ?_
  refine lv_iadd hx hb d_Wr_putData_28 ?_
  refine lv_topq (y := nI (of9 es r + ((eN e9).length))) (nI_add _ _) ?_
  refine lv_istore_n (lv' := [(3, _), (2, _), (0, _), (1, _)]) hx hb d_Wr_putData_29 rfl hl (by decide) rfl (fun ls hl => ?_)
  refine lv_iload_n hx hb d_Wr_putData_30 rfl (lv_at hl 0 rfl) ?_
  refine lv_aload_n hx hb d_Wr_putData_31 rfl (lv_at hl 2 rfl) ?_
  refine va_get (D := D9) (ci := 5) (C := R_Wr) (T := F_Wr) (N := 6) hx hb hts i_Wr hown hK hP 18 ww_18 rfl 0 (by decide) (hts _ g_185) (fun _ h9 => h9) rfl d_Wr_putData_32 ?_
  refine va_getN (D := D9) (ci := 2) (C := R_Ga) (T := F_Ga) (N := 11) hx hb hts i_Ga hown hK hP 19 ww_19 rfl 3 (by decide) (hts _ g_68) (fun _ h9 => h9) rfl d_Wr_putData_35 ?_
  refine lv_iload_n hx hb d_Wr_putData_38 rfl (lv_at hl 3 rfl) ?_
  refine va_iald (D := D9) hx hb hK hP 7 1 ww_7 rfl (vp_in_nI (by omega) (by decide)) d_Wr_putData_39 ?_
  refine lv_topq (y := nI ((eD e9).length)) (by rw [nI_clamp (by omega)]; exact z3) ?_
  refine lv_iadd hx hb d_Wr_putData_40 ?_
  refine lv_topq (y := nI (of9 es r + ((eN e9).length) + ((eD e9).length))) (nI_add _ _) ?_
  refine lv_istore (lv' := [(4, _), (3, _), (2, _), (0, _), (1, _)]) hx hb d_Wr_putData_41 hl (by decide) rfl (fun ls hl => ?_)
  refine lv_aload_n hx hb d_Wr_putData_43 rfl (lv_at hl 3 rfl) ?_
  refine va_get (D := D9) (ci := 5) (C := R_Wr) (T := F_Wr) (N := 6) hx hb hts i_Wr hown hK hP 18 ww_18 rfl 1 (by decide) (hts _ g_186) (fun _ h9 => h9) rfl d_Wr_putData_44 ?_
  refine va_getN (D := D9) (ci := 0) (C := R_By) (T := F_By) (N := 2) hx hb hts i_By hown hK hP 20 ww_20 rfl 1 (by decide) (hts _ g_38) (fun _ h9 => h9) rfl d_Wr_putData_47 ?_
  refine lv_topq (y := nI (12 + B.length)) (h13) ?_
  refine lv_istore (lv' := [(5, _), (4, _), (3, _), (2, _), (0, _), (1, _)]) hx hb d_Wr_putData_50 hl (by decide) rfl (fun ls hl => ?_)
  refine lv_aload_n hx hb d_Wr_putData_52 rfl (lv_at hl 4 rfl) ?_
  refine va_get (D := D9) (ci := 5) (C := R_Wr) (T := F_Wr) (N := 6) hx hb hts i_Wr hown hK hP 18 ww_18 rfl 1 (by decide) (hts _ g_186) (fun _ h9 => h9) rfl d_Wr_putData_53 ?_
  refine lv_iconst (v := 0) hx hb d_Wr_putData_56 (by decide) ?_
  refine lv_topq (y := nI 0) (rfl) ?_
  refine mw_cVN (ci := 0) (k := 20) C0 (m_By_putTwoL_ms l D9 cB cI cJ cG a O _ _ (X ++ B) 0 (nI 0) hM (h13.trans (congrArg nI xl0)) (by omega)) g_456 g_2 g_607 g_455 gs_By_putTwo ⟨by decide +kernel, by decide +kernel, show Option.map (fun d => d.parameters.length) (parseMethodDescriptor y_By_putTwo.desc) = some 1 by decide +kernel⟩ ⟨by decide, by decide⟩ rfl rfl hP hD hS hA rfl ww_20 hl.1 (Nat.le_of_ble_eq_true rfl) rfl d_Wr_putData_57 ⟨by decide, by decide⟩ (fun v9 w9 H locs hq hP hD hS => ?_)
  obtain ⟨I1, F2, hw9, q3⟩ := hq
  subst hw9
  obtain ⟨rfl, sp1, yl1, sq1, ym1⟩ := q3
  rw [un_nI (by omega)] at ym1
  rw [List.append_assoc] at ym1
  have hq1 : (B ++ b2 0).length = B.length + 2 := by rw [List.length_append]; rfl
  have yl1 : I1 13 = nI (12 + (B ++ b2 0).length) := yl1.trans (congrArg nI (by rw [← xl0, hq1]; omega))
  have xl4 : 12 + (B ++ b2 0).length = (X ++ (B ++ b2 0)).length := xl_of hX
  refine lv_iload_n hx hb d_Wr_putData_60 rfl (lv_at hl 2 rfl) ?_
  refine lv_istore (lv' := [(6, _), (5, _), (4, _), (3, _), (2, _), (0, _), (1, _)]) hx hb d_Wr_putData_61 hl (by decide) rfl (fun ls hl => ?_)
  refine lv_iload_n hx hb d_Wr_putData_63 rfl (lv_at hl 4 rfl) ?_
  refine mw_cSN C0 (m_Ki_sharesNames l D9 cB cI cJ cG a O _ _ (eT e9) y2) g_343 g_16 g_613 g_342 ⟨by decide +kernel, by decide +kernel, show Option.map (fun d => d.parameters.length) (parseMethodDescriptor y_Ki_sharesNames.desc) = some 1 by decide +kernel⟩ ⟨by decide, by decide⟩ rfl rfl hP hD hS hA hl.1 (Nat.le_of_ble_eq_true rfl) rfl d_Wr_putData_64 ⟨by decide, by decide⟩ (fun v9 w9 H locs hq hP hD hS => ?_)
  obtain ⟨I5, F6, hw9, q7⟩ := hq
  subst hw9
  obtain ⟨rfl, rfl, rfl⟩ := q7
  refine lv_topq (y := bI (k_sh (eT e9))) (rfl) ?_
  refine lv_if_eq (tgt := 131) hx hb d_Wr_putData_67 (by decide) (fun c8 => ?_) (fun c8 => ?_)
  · have c8 : k_sh (eT e9) = false := bI_f c8
    refine lv_aload_n hx hb d_Wr_putData_131 rfl (lv_at hl 5 rfl) ?_
    refine va_get (D := D9) (ci := 5) (C := R_Wr) (T := F_Wr) (N := 6) hx hb hts i_Wr hown hK hP 18 ww_18 rfl 1 (by decide) (hts _ g_186) (fun _ h9 => h9) rfl d_Wr_putData_132 ?_
    refine lv_aload_n hx hb d_Wr_putData_135 rfl (lv_at hl 5 rfl) ?_
    refine va_get (D := D9) (ci := 5) (C := R_Wr) (T := F_Wr) (N := 6) hx hb hts i_Wr hown hK hP 18 ww_18 rfl 0 (by decide) (hts _ g_185) (fun _ h9 => h9) rfl d_Wr_putData_136 ?_
    refine va_getN (D := D9) (ci := 2) (C := R_Ga) (T := F_Ga) (N := 11) hx hb hts i_Ga hown hK hP 19 ww_19 rfl 0 (by decide) (hts _ g_58) (fun _ h9 => h9) rfl d_Wr_putData_139 ?_
    refine lv_iload hx hb d_Wr_putData_142 (lv_at hl 0 rfl) ?_
    refine lv_iload hx hb d_Wr_putData_144 (lv_at hl 2 rfl) ?_
    refine lv_iload hx hb d_Wr_putData_146 (lv_at hl 0 rfl) ?_
    refine lv_isub hx hb d_Wr_putData_148 ?_
    refine lv_topq (y := nI ((eD e9).length)) ((pk_sub (by omega)).trans (congrArg nI (by omega))) ?_
    refine mw_cVN (ci := 0) (k := 20) C0 (m_By_putFrom_ms_gb l D9 cB cI cJ cG a O _ _ (X ++ (B ++ b2 0)) (fl es) 0 (of9 es r + (eN e9).length) ((eD e9).length) ym1 (BR_eq hGB (sq1 4 (by decide))) (yl1.trans (congrArg nI xl4)) hGl (by omega) (by omega)) g_300 g_2 g_604 g_299 gs_By_putFrom ⟨by decide +kernel, by decide +kernel, show Option.map (fun d => d.parameters.length) (parseMethodDescriptor y_By_putFrom.desc) = some 3 by decide +kernel⟩ ⟨by decide, by decide⟩ rfl rfl hP hD hS hA rfl ww_20 hl.1 (Nat.le_of_ble_eq_true rfl) rfl d_Wr_putData_149 ⟨by decide, by decide⟩ (fun v9 w9 H locs hq hP hD hS => ?_)
    obtain ⟨I9, F10, hw9, q11⟩ := hq
    subst hw9
    obtain ⟨rfl, sp9, yl9, sq9, ym9⟩ := q11
    rw [List.append_assoc] at ym9
    have hq9 : (B ++ b2 0 ++ sl9 (fl es) (of9 es r + (eN e9).length) ((eD e9).length)).length = (B ++ b2 0).length + ((eD e9).length) := by rw [List.length_append, sl9_len (by omega)]
    have yl9 : I9 13 = nI (12 + (B ++ b2 0 ++ sl9 (fl es) (of9 es r + (eN e9).length) ((eD e9).length)).length) := yl9.trans (congrArg nI (by rw [← xl4, hq9]; omega))
    have xl12 : 12 + (B ++ b2 0 ++ sl9 (fl es) (of9 es r + (eN e9).length) ((eD e9).length)).length = (X ++ (B ++ b2 0 ++ sl9 (fl es) (of9 es r + (eN e9).length) ((eD e9).length))).length := xl_of hX
    refine lv_aload_n hx hb d_Wr_putData_152 rfl (lv_at hl 5 rfl) ?_
    refine va_get (D := D9) (ci := 5) (C := R_Wr) (T := F_Wr) (N := 6) hx hb hts i_Wr hown hK hP 18 ww_18 rfl 1 (by decide) (hts _ g_186) (fun _ h9 => h9) rfl d_Wr_putData_153 ?_
    refine lv_iload hx hb d_Wr_putData_156 (lv_at hl 1 rfl) ?_
    refine lv_aload_n hx hb d_Wr_putData_158 rfl (lv_at hl 5 rfl) ?_
    refine va_get (D := D9) (ci := 5) (C := R_Wr) (T := F_Wr) (N := 6) hx hb hts i_Wr hown hK hP 18 ww_18 rfl 1 (by decide) (hts _ g_186) (fun _ h9 => h9) rfl d_Wr_putData_159 ?_
    refine va_getN (D := D9) (ci := 0) (C := R_By) (T := F_By) (N := 2) hx hb hts i_By hown hK hP 20 ww_20 rfl 1 (by decide) (hts _ g_38) (fun _ h9 => h9) rfl d_Wr_putData_162 ?_
    refine lv_topq (y := nI (12 + (B ++ b2 0 ++ sl9 (fl es) (of9 es r + (eN e9).length) ((eD e9).length)).length)) (yl9) ?_
    refine lv_iload hx hb d_Wr_putData_165 (lv_at hl 1 rfl) ?_
    refine lv_isub hx hb d_Wr_putData_167 ?_
    refine lv_topq (y := nI ((B ++ b2 0 ++ sl9 (fl es) (of9 es r + (eN e9).length) ((eD e9).length)).length - B.length)) ((pk_sub (by omega)).trans (congrArg nI (by omega))) ?_
    refine lv_iconst (v := 2) hx hb d_Wr_putData_168 (by decide) ?_
    refine lv_topq (y := nI 2) (rfl) ?_
    refine lv_isub hx hb d_Wr_putData_169 ?_
    refine lv_topq (y := nI ((B ++ b2 0 ++ sl9 (fl es) (of9 es r + (eN e9).length) ((eD e9).length)).length - B.length - 2)) ((pk_sub (by omega)).trans (congrArg nI (by omega))) ?_
    refine mw_cVN (ci := 0) (k := 20) C0 (m_By_setTwoL_ms l D9 cB cI cJ cG a O _ _ (X ++ (B ++ b2 0 ++ sl9 (fl es) (of9 es r + (eN e9).length) ((eD e9).length))) 0 (12 + B.length) (nI ((B ++ b2 0 ++ sl9 (fl es) (of9 es r + (eN e9).length) ((eD e9).length)).length - B.length - 2)) ym9 (by omega)) g_619 g_2 g_616 g_618 gs_By_setTwo ⟨by decide +kernel, by decide +kernel, show Option.map (fun d => d.parameters.length) (parseMethodDescriptor y_By_setTwo.desc) = some 2 by decide +kernel⟩ ⟨by decide, by decide⟩ rfl rfl hP hD hS hA rfl ww_20 hl.1 (Nat.le_of_ble_eq_true rfl) rfl d_Wr_putData_170 ⟨by decide, by decide⟩ (fun v9 w9 H locs hq hP hD hS => ?_)
    obtain ⟨I13, F14, hw9, q15⟩ := hq
    subst hw9
    obtain ⟨rfl, rfl, sst, yst⟩ := q15
    rw [un_nI (by omega), ln2_X hX] at yst
    have yln : I9 13 = nI (12 + (ln2 B ((B ++ b2 0 ++ sl9 (fl es) (of9 es r + (eN e9).length) ((eD e9).length)).length - B.length - 2) (B ++ b2 0 ++ sl9 (fl es) (of9 es r + (eN e9).length) ((eD e9).length))).length) := by rw [ln2_len]; exact yl9
    have xl16 : 12 + (ln2 B ((B ++ b2 0 ++ sl9 (fl es) (of9 es r + (eN e9).length) ((eD e9).length)).length - B.length - 2) (B ++ b2 0 ++ sl9 (fl es) (of9 es r + (eN e9).length) ((eD e9).length))).length = (X ++ (ln2 B ((B ++ b2 0 ++ sl9 (fl es) (of9 es r + (eN e9).length) ((eD e9).length)).length - B.length - 2) (B ++ b2 0 ++ sl9 (fl es) (of9 es r + (eN e9).length) ((eD e9).length)))).length := xl_of hX
    exact hret _ _ _ _ _ _ hS hP hD d_Wr_putData_173 (by rw [wDL_of (wD_0 c8)]; exact ⟨rfl, (sm_tr (sm_mo sp1 (by decide)) (sm_mo sp9 (by decide))), yln, ((sp9 14 (by decide)).trans ((sp1 14 (by decide)).trans h14)), ((sp9 10 (by decide)).trans ((sp1 10 (by decide)).trans h10)), (sm_tr (sm_tr (sm_mo sq1 (by decide)) (sm_mo sq9 (by decide))) (sm_mo sst (by decide))), yst, (EnS_sm hS9 ((sst 25 (by decide)).trans ((sq9 25 (by decide)).trans (sq1 25 (by decide)))) ((sst 26 (by decide)).trans ((sq9 26 (by decide)).trans (sq1 26 (by decide)))) ((sst 27 (by decide)).trans ((sq9 27 (by decide)).trans (sq1 27 (by decide))))), (EnB_sm hB9 ((sst 27 (by decide)).trans ((sq9 27 (by decide)).trans (sq1 27 (by decide)))) ((sst 28 (by decide)).trans ((sq9 28 (by decide)).trans (sq1 28 (by decide)))) ((sst 29 (by decide)).trans ((sq9 29 (by decide)).trans (sq1 29 (by decide)))))⟩)
  · have c8 : k_sh (eT e9) = true := bI_t c8
    obtain ⟨k1, r1, n1, n2, n3, n4⟩ := hdk.2 c8
    have nr1 := isN_r n1
    have kbf := k_bf_le (eT e9)
    refine lv_iload_n hx hb d_Wr_putData_70 rfl (lv_at hl 4 rfl) ?_
    refine mw_cSN C0 (m_Ki_bytesBeforeNames l D9 cB cI cJ cG a O _ _ (eT e9) y2) g_337 g_16 g_614 g_336 ⟨by decide +kernel, by decide +kernel, show Option.map (fun d => d.parameters.length) (parseMethodDescriptor y_Ki_bytesBeforeNames.desc) = some 1 by decide +kernel⟩ ⟨by decide, by decide⟩ rfl rfl hP hD hS hA hl.1 (Nat.le_of_ble_eq_true rfl) rfl d_Wr_putData_71 ⟨by decide, by decide⟩ (fun v9 w9 H locs hq hP hD hS => ?_)
    obtain ⟨I17, F18, hw9, q19⟩ := hq
    subst hw9
    obtain ⟨rfl, rfl, rfl⟩ := q19
    refine lv_istore (lv' := [(7, _), (6, _), (5, _), (4, _), (3, _), (2, _), (0, _), (1, _)]) hx hb d_Wr_putData_74 hl (by decide) rfl (fun ls hl => ?_)
    refine lv_iload_n hx hb d_Wr_putData_76 rfl (lv_at hl 5 rfl) ?_
    refine mw_cSN C0 (m_Ki_namesIn l D9 cB cI cJ cG a O _ _ (eT e9) y2) g_330 g_16 g_615 g_329 ⟨by decide +kernel, by decide +kernel, show Option.map (fun d => d.parameters.length) (parseMethodDescriptor y_Ki_namesIn.desc) = some 1 by decide +kernel⟩ ⟨by decide, by decide⟩ rfl rfl hP hD hS hA hl.1 (Nat.le_of_ble_eq_true rfl) rfl d_Wr_putData_77 ⟨by decide, by decide⟩ (fun v9 w9 H locs hq hP hD hS => ?_)
    obtain ⟨I20, F21, hw9, q22⟩ := hq
    subst hw9
    obtain ⟨rfl, rfl, rfl⟩ := q22
    rcases k_sh_nm c8 with hkn | hkn
    · refine lv_topq (y := nI 1) (congrArg nI hkn) ?_
      refine lv_istore (lv' := [(8, _), (7, _), (6, _), (5, _), (4, _), (3, _), (2, _), (0, _), (1, _)]) hx hb d_Wr_putData_80 hl (by decide) rfl (fun ls hl => ?_)
      refine lv_aload_n hx hb d_Wr_putData_82 rfl (lv_at hl 7 rfl) ?_
      refine va_get (D := D9) (ci := 5) (C := R_Wr) (T := F_Wr) (N := 6) hx hb hts i_Wr hown hK hP 18 ww_18 rfl 1 (by decide) (hts _ g_186) (fun _ h9 => h9) rfl d_Wr_putData_83 ?_
      refine lv_aload_n hx hb d_Wr_putData_86 rfl (lv_at hl 7 rfl) ?_
      refine va_get (D := D9) (ci := 5) (C := R_Wr) (T := F_Wr) (N := 6) hx hb hts i_Wr hown hK hP 18 ww_18 rfl 0 (by decide) (hts _ g_185) (fun _ h9 => h9) rfl d_Wr_putData_87 ?_
      refine va_getN (D := D9) (ci := 2) (C := R_Ga) (T := F_Ga) (N := 11) hx hb hts i_Ga hown hK hP 19 ww_19 rfl 0 (by decide) (hts _ g_58) (fun _ h9 => h9) rfl d_Wr_putData_90 ?_
      refine lv_iload hx hb d_Wr_putData_93 (lv_at hl 2 rfl) ?_
      refine lv_iload hx hb d_Wr_putData_95 (lv_at hl 1 rfl) ?_
      refine mw_cVN (ci := 0) (k := 20) C0 (m_By_putFrom_ms_gb l D9 cB cI cJ cG a O _ _ (X ++ (B ++ b2 0)) (fl es) 0 (of9 es r + (eN e9).length) (k_bf (eT e9)) ym1 (BR_eq hGB (sq1 4 (by decide))) (yl1.trans (congrArg nI xl4)) hGl (by omega) (by omega)) g_300 g_2 g_604 g_299 gs_By_putFrom ⟨by decide +kernel, by decide +kernel, show Option.map (fun d => d.parameters.length) (parseMethodDescriptor y_By_putFrom.desc) = some 3 by decide +kernel⟩ ⟨by decide, by decide⟩ rfl rfl hP hD hS hA rfl ww_20 hl.1 (Nat.le_of_ble_eq_true rfl) rfl d_Wr_putData_97 ⟨by decide, by decide⟩ (fun v9 w9 H locs hq hP hD hS => ?_)
      obtain ⟨I23, F24, hw9, q25⟩ := hq
      subst hw9
      obtain ⟨rfl, sp23, yl23, sq23, ym23⟩ := q25
      rw [List.append_assoc] at ym23
      have hq23 : (B ++ b2 0 ++ sl9 (fl es) (of9 es r + (eN e9).length) (k_bf (eT e9))).length = (B ++ b2 0).length + (k_bf (eT e9)) := by rw [List.length_append, sl9_len (by omega)]
      have yl23 : I23 13 = nI (12 + (B ++ b2 0 ++ sl9 (fl es) (of9 es r + (eN e9).length) (k_bf (eT e9))).length) := yl23.trans (congrArg nI (by rw [← xl4, hq23]; omega))
      have xl26 : 12 + (B ++ b2 0 ++ sl9 (fl es) (of9 es r + (eN e9).length) (k_bf (eT e9))).length = (X ++ (B ++ b2 0 ++ sl9 (fl es) (of9 es r + (eN e9).length) (k_bf (eT e9)))).length := xl_of hX
      refine lv_iload hx hb d_Wr_putData_100 (lv_at hl 2 rfl) ?_
      refine lv_iload hx hb d_Wr_putData_102 (lv_at hl 1 rfl) ?_
      refine lv_iadd hx hb d_Wr_putData_104 ?_
      refine lv_topq (y := nI (of9 es r + ((eN e9).length) + (k_bf (eT e9)))) (nI_add _ _) ?_
      refine lv_istore (lv' := [(6, _), (8, _), (7, _), (5, _), (4, _), (3, _), (2, _), (0, _), (1, _)]) hx hb d_Wr_putData_105 hl (by decide) rfl (fun ls hl => ?_)
      refine lv_iconst (v := 0) hx hb d_Wr_putData_107 (by decide) ?_
      refine lv_topq (y := nI 0) (rfl) ?_
      refine lv_istore (lv' := [(9, _), (6, _), (8, _), (7, _), (5, _), (4, _), (3, _), (2, _), (0, _), (1, _)]) hx hb d_Wr_putData_108 hl (by decide) rfl (fun ls hl => ?_)
      refine lv_iload hx hb d_Wr_putData_110 (lv_at hl 0 rfl) ?_
      refine lv_iload hx hb d_Wr_putData_112 (lv_at hl 2 rfl) ?_
      refine lv_icmp_ge (tgt := 131) hx hb d_Wr_putData_114 (by decide) (fun c27 => ?_) (fun c27 => ?_)
      · exact absurd c27 (by decide)
      · refine lv_aload_n hx hb d_Wr_putData_117 rfl (lv_at hl 8 rfl) ?_
        refine lv_iload hx hb d_Wr_putData_118 (lv_at hl 1 rfl) ?_
        refine mw_cV (ci := 5) (k := 18) C0 (m_Wr_putSharedName l D9 cB cI cJ cG a O _ _ (fl es) hGl (BR_eq hGB ((sq23 4 (by decide)).trans (sq1 4 (by decide)))) X (B ++ b2 0 ++ sl9 (fl es) (of9 es r + (eN e9).length) (k_bf (eT e9))) E pt k1 (of9 es r + (eN e9).length + k_bf (eT e9)) r1 hX ym23 yl23 (by omega) (EnS_sm hS9 ((sq23 25 (by decide)).trans (sq1 25 (by decide))) ((sq23 26 (by decide)).trans (sq1 26 (by decide))) ((sq23 27 (by decide)).trans (sq1 27 (by decide)))) (EnB_sm hB9 ((sq23 27 (by decide)).trans (sq1 27 (by decide))) ((sq23 28 (by decide)).trans (sq1 28 (by decide))) ((sq23 29 (by decide)).trans (sq1 29 (by decide)))) ((sp23 14 (by decide)).trans ((sp1 14 (by decide)).trans h14)) (wW_more (wW_more hW)) ((sp23 10 (by decide)).trans ((sp1 10 (by decide)).trans h10)) n1 n2) g_581 g_5 g_578 g_580 gs_Wr_putSharedName ⟨by decide +kernel, by decide +kernel, show Option.map (fun d => d.parameters.length) (parseMethodDescriptor y_Wr_putSharedName.desc) = some 1 by decide +kernel⟩ ⟨by decide, by decide⟩ rfl rfl hP hD hS hA rfl ww_18 hl.1 (Nat.le_of_ble_eq_true rfl) rfl d_Wr_putData_120 ⟨by decide, by decide⟩ (fun v9 w9 H locs hq hP hD hS => ?_)
        obtain ⟨I28, F29, hw9, q30⟩ := hq
        subst hw9
        obtain ⟨rfl, sw1, x131, x141, x101, sW1, xM1, xS1, xB1⟩ := q30
        have ok1 := wN_ok (B := B ++ b2 0 ++ sl9 (fl es) (of9 es r + (eN e9).length) (k_bf (eT e9))) (pt := pt) n1 n2 (wW_more (wW_more hW))
        obtain ⟨B1, E1, p1, hw1⟩ : ∃ B9 E9 p9, wN (fl es) k1 (of9 es r + (eN e9).length + k_bf (eT e9)) (B ++ b2 0 ++ sl9 (fl es) (of9 es r + (eN e9).length) (k_bf (eT e9))) E pt = (B9, E9, p9) := ⟨_, _, _, rfl⟩
        rw [hw1] at x131 x141 x101 xM1 xS1 xB1 ok1
        obtain ⟨W1, ⟨Z1, hz1, hy1, hx1⟩, -⟩ := ok1
        have W1 : wW (fl es) B1 E1 := W1
        have hv1 : B1.length = (B ++ b2 0 ++ sl9 (fl es) (of9 es r + (eN e9).length) (k_bf (eT e9))).length + Z1.length := (congrArg List.length hz1).trans List.length_append
        have xl31 : 12 + B1.length = (X ++ B1).length := xl_of hX
        refine lv_istore (lv' := [(6, _), (9, _), (8, _), (7, _), (5, _), (4, _), (3, _), (2, _), (0, _), (1, _)]) hx hb d_Wr_putData_123 hl (by decide) rfl (fun ls hl => ?_)
        refine lv_iinc (lv' := [(9, .int (nI 1)), (6, _), (8, _), (7, _), (5, _), (4, _), (3, _), (2, _), (0, _), (1, _)]) hx hb d_Wr_putData_125 hl (k := 1) rfl rfl (by decide) rfl (fun ls hl => ?_)
        refine lv_goto (tgt := 110) hx hb d_Wr_putData_128 (by decide) ?_
        refine lv_iload hx hb d_Wr_putData_110 (lv_at hl 0 rfl) ?_
        refine lv_iload hx hb d_Wr_putData_112 (lv_at hl 2 rfl) ?_
        refine lv_icmp_ge (tgt := 131) hx hb d_Wr_putData_114 (by decide) (fun c32 => ?_) (fun c32 => ?_)
        · refine lv_aload_n hx hb d_Wr_putData_131 rfl (lv_at hl 8 rfl) ?_
          refine va_get (D := D9) (ci := 5) (C := R_Wr) (T := F_Wr) (N := 6) hx hb hts i_Wr hown hK hP 18 ww_18 rfl 1 (by decide) (hts _ g_186) (fun _ h9 => h9) rfl d_Wr_putData_132 ?_
          refine lv_aload_n hx hb d_Wr_putData_135 rfl (lv_at hl 8 rfl) ?_
          refine va_get (D := D9) (ci := 5) (C := R_Wr) (T := F_Wr) (N := 6) hx hb hts i_Wr hown hK hP 18 ww_18 rfl 0 (by decide) (hts _ g_185) (fun _ h9 => h9) rfl d_Wr_putData_136 ?_
          refine va_getN (D := D9) (ci := 2) (C := R_Ga) (T := F_Ga) (N := 11) hx hb hts i_Ga hown hK hP 19 ww_19 rfl 0 (by decide) (hts _ g_58) (fun _ h9 => h9) rfl d_Wr_putData_139 ?_
          refine lv_iload hx hb d_Wr_putData_142 (lv_at hl 1 rfl) ?_
          refine lv_iload hx hb d_Wr_putData_144 (lv_at hl 5 rfl) ?_
          refine lv_iload hx hb d_Wr_putData_146 (lv_at hl 1 rfl) ?_
          refine lv_isub hx hb d_Wr_putData_148 ?_
          refine lv_topq (y := nI ((of9 es r + ((eN e9).length) + ((eD e9).length)) - (r1 + 1))) (pk_sub (by omega)) ?_
          refine mw_cVN (ci := 0) (k := 20) C0 (m_By_putFrom_ms_gb l D9 cB cI cJ cG a O _ _ (X ++ B1) (fl es) 0 (r1 + 1) (of9 es r + (eN e9).length + (eD e9).length - (r1 + 1)) xM1 (BR_eq hGB ((sW1 4 (by decide)).trans ((sq23 4 (by decide)).trans (sq1 4 (by decide))))) (x131.trans (congrArg nI xl31)) hGl (by omega) (by omega)) g_300 g_2 g_604 g_299 gs_By_putFrom ⟨by decide +kernel, by decide +kernel, show Option.map (fun d => d.parameters.length) (parseMethodDescriptor y_By_putFrom.desc) = some 3 by decide +kernel⟩ ⟨by decide, by decide⟩ rfl rfl hP hD hS hA rfl ww_20 hl.1 (Nat.le_of_ble_eq_true rfl) rfl d_Wr_putData_149 ⟨by decide, by decide⟩ (fun v9 w9 H locs hq hP hD hS => ?_)
          obtain ⟨I33, F34, hw9, q35⟩ := hq
          subst hw9
          obtain ⟨rfl, sp33, yl33, sq33, ym33⟩ := q35
          rw [List.append_assoc] at ym33
          have hq33 : (B1 ++ sl9 (fl es) (r1 + 1) (of9 es r + (eN e9).length + (eD e9).length - (r1 + 1))).length = B1.length + (of9 es r + (eN e9).length + (eD e9).length - (r1 + 1)) := by rw [List.length_append, sl9_len (by omega)]
          have yl33 : I33 13 = nI (12 + (B1 ++ sl9 (fl es) (r1 + 1) (of9 es r + (eN e9).length + (eD e9).length - (r1 + 1))).length) := yl33.trans (congrArg nI (by rw [← xl31, hq33]; omega))
          have xl36 : 12 + (B1 ++ sl9 (fl es) (r1 + 1) (of9 es r + (eN e9).length + (eD e9).length - (r1 + 1))).length = (X ++ (B1 ++ sl9 (fl es) (r1 + 1) (of9 es r + (eN e9).length + (eD e9).length - (r1 + 1)))).length := xl_of hX
          refine lv_aload_n hx hb d_Wr_putData_152 rfl (lv_at hl 8 rfl) ?_
          refine va_get (D := D9) (ci := 5) (C := R_Wr) (T := F_Wr) (N := 6) hx hb hts i_Wr hown hK hP 18 ww_18 rfl 1 (by decide) (hts _ g_186) (fun _ h9 => h9) rfl d_Wr_putData_153 ?_
          refine lv_iload hx hb d_Wr_putData_156 (lv_at hl 4 rfl) ?_
          refine lv_aload_n hx hb d_Wr_putData_158 rfl (lv_at hl 8 rfl) ?_
          refine va_get (D := D9) (ci := 5) (C := R_Wr) (T := F_Wr) (N := 6) hx hb hts i_Wr hown hK hP 18 ww_18 rfl 1 (by decide) (hts _ g_186) (fun _ h9 => h9) rfl d_Wr_putData_159 ?_
          refine va_getN (D := D9) (ci := 0) (C := R_By) (T := F_By) (N := 2) hx hb hts i_By hown hK hP 20 ww_20 rfl 1 (by decide) (hts _ g_38) (fun _ h9 => h9) rfl d_Wr_putData_162 ?_
          refine lv_topq (y := nI (12 + (B1 ++ sl9 (fl es) (r1 + 1) (of9 es r + (eN e9).length + (eD e9).length - (r1 + 1))).length)) (yl33) ?_
          refine lv_iload hx hb d_Wr_putData_165 (lv_at hl 4 rfl) ?_
          refine lv_isub hx hb d_Wr_putData_167 ?_
          refine lv_topq (y := nI ((B1 ++ sl9 (fl es) (r1 + 1) (of9 es r + (eN e9).length + (eD e9).length - (r1 + 1))).length - B.length)) ((pk_sub (by omega)).trans (congrArg nI (by omega))) ?_
          refine lv_iconst (v := 2) hx hb d_Wr_putData_168 (by decide) ?_
          refine lv_topq (y := nI 2) (rfl) ?_
          refine lv_isub hx hb d_Wr_putData_169 ?_
          refine lv_topq (y := nI ((B1 ++ sl9 (fl es) (r1 + 1) (of9 es r + (eN e9).length + (eD e9).length - (r1 + 1))).length - B.length - 2)) ((pk_sub (by omega)).trans (congrArg nI (by omega))) ?_
          refine mw_cVN (ci := 0) (k := 20) C0 (m_By_setTwoL_ms l D9 cB cI cJ cG a O _ _ (X ++ (B1 ++ sl9 (fl es) (r1 + 1) (of9 es r + (eN e9).length + (eD e9).length - (r1 + 1)))) 0 (12 + B.length) (nI ((B1 ++ sl9 (fl es) (r1 + 1) (of9 es r + (eN e9).length + (eD e9).length - (r1 + 1))).length - B.length - 2)) ym33 (by omega)) g_619 g_2 g_616 g_618 gs_By_setTwo ⟨by decide +kernel, by decide +kernel, show Option.map (fun d => d.parameters.length) (parseMethodDescriptor y_By_setTwo.desc) = some 2 by decide +kernel⟩ ⟨by decide, by decide⟩ rfl rfl hP hD hS hA rfl ww_20 hl.1 (Nat.le_of_ble_eq_true rfl) rfl d_Wr_putData_170 ⟨by decide, by decide⟩ (fun v9 w9 H locs hq hP hD hS => ?_)
          obtain ⟨I37, F38, hw9, q39⟩ := hq
          subst hw9
          obtain ⟨rfl, rfl, sst, yst⟩ := q39
          rw [un_nI (by omega), ln2_X hX] at yst
          have yln : I33 13 = nI (12 + (ln2 B ((B1 ++ sl9 (fl es) (r1 + 1) (of9 es r + (eN e9).length + (eD e9).length - (r1 + 1))).length - B.length - 2) (B1 ++ sl9 (fl es) (r1 + 1) (of9 es r + (eN e9).length + (eD e9).length - (r1 + 1)))).length) := by rw [ln2_len]; exact yl33
          have xl40 : 12 + (ln2 B ((B1 ++ sl9 (fl es) (r1 + 1) (of9 es r + (eN e9).length + (eD e9).length - (r1 + 1))).length - B.length - 2) (B1 ++ sl9 (fl es) (r1 + 1) (of9 es r + (eN e9).length + (eD e9).length - (r1 + 1)))).length = (X ++ (ln2 B ((B1 ++ sl9 (fl es) (r1 + 1) (of9 es r + (eN e9).length + (eD e9).length - (r1 + 1))).length - B.length - 2) (B1 ++ sl9 (fl es) (r1 + 1) (of9 es r + (eN e9).length + (eD e9).length - (r1 + 1))))).length := xl_of hX
          exact hret _ _ _ _ _ _ hS hP hD d_Wr_putData_173 (by rw [wDL_of (wD_1 c8 n1 n2 hkn hw1)]; exact ⟨rfl, (sm_tr (sm_tr (sm_tr (sm_mo sp1 (by decide)) (sm_mo sp23 (by decide))) (sm_mo sw1 (by decide))) (sm_mo sp33 (by decide))), yln, ((sp33 14 (by decide)).trans x141), ((sp33 10 (by decide)).trans x101), (sm_tr (sm_tr (sm_tr (sm_tr (sm_mo sq1 (by decide)) (sm_mo sq23 (by decide))) (sm_mo sW1 (by decide))) (sm_mo sq33 (by decide))) (sm_mo sst (by decide))), yst, (EnS_sm xS1 ((sst 25 (by decide)).trans (sq33 25 (by decide))) ((sst 26 (by decide)).trans (sq33 26 (by decide))) ((sst 27 (by decide)).trans (sq33 27 (by decide)))), (EnB_sm xB1 ((sst 27 (by decide)).trans (sq33 27 (by decide))) ((sst 28 (by decide)).trans (sq33 28 (by decide))) ((sst 29 (by decide)).trans (sq33 29 (by decide))))⟩)
        · exact absurd c32 (by decide)
    · refine lv_topq (y := nI 2) (congrArg nI hkn) ?_
      obtain ⟨k2, r2, m1, m2, m3⟩ := n4 hkn
      have nr2 := isN_r m1
      refine lv_istore (lv' := [(8, _), (7, _), (6, _), (5, _), (4, _), (3, _), (2, _), (0, _), (1, _)]) hx hb d_Wr_putData_80 hl (by decide) rfl (fun ls hl => ?_)
      refine lv_aload_n hx hb d_Wr_putData_82 rfl (lv_at hl 7 rfl) ?_
      refine va_get (D := D9) (ci := 5) (C := R_Wr) (T := F_Wr) (N := 6) hx hb hts i_Wr hown hK hP 18 ww_18 rfl 1 (by decide) (hts _ g_186) (fun _ h9 => h9) rfl d_Wr_putData_83 ?_
      refine lv_aload_n hx hb d_Wr_putData_86 rfl (lv_at hl 7 rfl) ?_
      refine va_get (D := D9) (ci := 5) (C := R_Wr) (T := F_Wr) (N := 6) hx hb hts i_Wr hown hK hP 18 ww_18 rfl 0 (by decide) (hts _ g_185) (fun _ h9 => h9) rfl d_Wr_putData_87 ?_
      refine va_getN (D := D9) (ci := 2) (C := R_Ga) (T := F_Ga) (N := 11) hx hb hts i_Ga hown hK hP 19 ww_19 rfl 0 (by decide) (hts _ g_58) (fun _ h9 => h9) rfl d_Wr_putData_90 ?_
      refine lv_iload hx hb d_Wr_putData_93 (lv_at hl 2 rfl) ?_
      refine lv_iload hx hb d_Wr_putData_95 (lv_at hl 1 rfl) ?_
      refine mw_cVN (ci := 0) (k := 20) C0 (m_By_putFrom_ms_gb l D9 cB cI cJ cG a O _ _ (X ++ (B ++ b2 0)) (fl es) 0 (of9 es r + (eN e9).length) (k_bf (eT e9)) ym1 (BR_eq hGB (sq1 4 (by decide))) (yl1.trans (congrArg nI xl4)) hGl (by omega) (by omega)) g_300 g_2 g_604 g_299 gs_By_putFrom ⟨by decide +kernel, by decide +kernel, show Option.map (fun d => d.parameters.length) (parseMethodDescriptor y_By_putFrom.desc) = some 3 by decide +kernel⟩ ⟨by decide, by decide⟩ rfl rfl hP hD hS hA rfl ww_20 hl.1 (Nat.le_of_ble_eq_true rfl) rfl d_Wr_putData_97 ⟨by decide, by decide⟩ (fun v9 w9 H locs hq hP hD hS => ?_)
      obtain ⟨I41, F42, hw9, q43⟩ := hq
      subst hw9
      obtain ⟨rfl, sp41, yl41, sq41, ym41⟩ := q43
      rw [List.append_assoc] at ym41
      have hq41 : (B ++ b2 0 ++ sl9 (fl es) (of9 es r + (eN e9).length) (k_bf (eT e9))).length = (B ++ b2 0).length + (k_bf (eT e9)) := by rw [List.length_append, sl9_len (by omega)]
      have yl41 : I41 13 = nI (12 + (B ++ b2 0 ++ sl9 (fl es) (of9 es r + (eN e9).length) (k_bf (eT e9))).length) := yl41.trans (congrArg nI (by rw [← xl4, hq41]; omega))
      have xl44 : 12 + (B ++ b2 0 ++ sl9 (fl es) (of9 es r + (eN e9).length) (k_bf (eT e9))).length = (X ++ (B ++ b2 0 ++ sl9 (fl es) (of9 es r + (eN e9).length) (k_bf (eT e9)))).length := xl_of hX
      refine lv_iload hx hb d_Wr_putData_100 (lv_at hl 2 rfl) ?_
      refine lv_iload hx hb d_Wr_putData_102 (lv_at hl 1 rfl) ?_
      refine lv_iadd hx hb d_Wr_putData_104 ?_
      refine lv_topq (y := nI (of9 es r + ((eN e9).length) + (k_bf (eT e9)))) (nI_add _ _) ?_
      refine lv_istore (lv' := [(6, _), (8, _), (7, _), (5, _), (4, _), (3, _), (2, _), (0, _), (1, _)]) hx hb d_Wr_putData_105 hl (by decide) rfl (fun ls hl => ?_)
      refine lv_iconst (v := 0) hx hb d_Wr_putData_107 (by decide) ?_
      refine lv_topq (y := nI 0) (rfl) ?_
      refine lv_istore (lv' := [(9, _), (6, _), (8, _), (7, _), (5, _), (4, _), (3, _), (2, _), (0, _), (1, _)]) hx hb d_Wr_putData_108 hl (by decide) rfl (fun ls hl => ?_)
      refine lv_iload hx hb d_Wr_putData_110 (lv_at hl 0 rfl) ?_
      refine lv_iload hx hb d_Wr_putData_112 (lv_at hl 2 rfl) ?_
      refine lv_icmp_ge (tgt := 131) hx hb d_Wr_putData_114 (by decide) (fun c45 => ?_) (fun c45 => ?_)
      · exact absurd c45 (by decide)
      · refine lv_aload_n hx hb d_Wr_putData_117 rfl (lv_at hl 8 rfl) ?_
        refine lv_iload hx hb d_Wr_putData_118 (lv_at hl 1 rfl) ?_
        refine mw_cV (ci := 5) (k := 18) C0 (m_Wr_putSharedName l D9 cB cI cJ cG a O _ _ (fl es) hGl (BR_eq hGB ((sq41 4 (by decide)).trans (sq1 4 (by decide)))) X (B ++ b2 0 ++ sl9 (fl es) (of9 es r + (eN e9).length) (k_bf (eT e9))) E pt k1 (of9 es r + (eN e9).length + k_bf (eT e9)) r1 hX ym41 yl41 (by omega) (EnS_sm hS9 ((sq41 25 (by decide)).trans (sq1 25 (by decide))) ((sq41 26 (by decide)).trans (sq1 26 (by decide))) ((sq41 27 (by decide)).trans (sq1 27 (by decide)))) (EnB_sm hB9 ((sq41 27 (by decide)).trans (sq1 27 (by decide))) ((sq41 28 (by decide)).trans (sq1 28 (by decide))) ((sq41 29 (by decide)).trans (sq1 29 (by decide)))) ((sp41 14 (by decide)).trans ((sp1 14 (by decide)).trans h14)) (wW_more (wW_more hW)) ((sp41 10 (by decide)).trans ((sp1 10 (by decide)).trans h10)) n1 n2) g_581 g_5 g_578 g_580 gs_Wr_putSharedName ⟨by decide +kernel, by decide +kernel, show Option.map (fun d => d.parameters.length) (parseMethodDescriptor y_Wr_putSharedName.desc) = some 1 by decide +kernel⟩ ⟨by decide, by decide⟩ rfl rfl hP hD hS hA rfl ww_18 hl.1 (Nat.le_of_ble_eq_true rfl) rfl d_Wr_putData_120 ⟨by decide, by decide⟩ (fun v9 w9 H locs hq hP hD hS => ?_)
        obtain ⟨I46, F47, hw9, q48⟩ := hq
        subst hw9
        obtain ⟨rfl, sw1, x131, x141, x101, sW1, xM1, xS1, xB1⟩ := q48
        have ok1 := wN_ok (B := B ++ b2 0 ++ sl9 (fl es) (of9 es r + (eN e9).length) (k_bf (eT e9))) (pt := pt) n1 n2 (wW_more (wW_more hW))
        obtain ⟨B1, E1, p1, hw1⟩ : ∃ B9 E9 p9, wN (fl es) k1 (of9 es r + (eN e9).length + k_bf (eT e9)) (B ++ b2 0 ++ sl9 (fl es) (of9 es r + (eN e9).length) (k_bf (eT e9))) E pt = (B9, E9, p9) := ⟨_, _, _, rfl⟩
        rw [hw1] at x131 x141 x101 xM1 xS1 xB1 ok1
        obtain ⟨W1, ⟨Z1, hz1, hy1, hx1⟩, -⟩ := ok1
        have W1 : wW (fl es) B1 E1 := W1
        have hv1 : B1.length = (B ++ b2 0 ++ sl9 (fl es) (of9 es r + (eN e9).length) (k_bf (eT e9))).length + Z1.length := (congrArg List.length hz1).trans List.length_append
        have xl49 : 12 + B1.length = (X ++ B1).length := xl_of hX
        refine lv_istore (lv' := [(6, _), (9, _), (8, _), (7, _), (5, _), (4, _), (3, _), (2, _), (0, _), (1, _)]) hx hb d_Wr_putData_123 hl (by decide) rfl (fun ls hl => ?_)
        refine lv_iinc (lv' := [(9, .int (nI 1)), (6, _), (8, _), (7, _), (5, _), (4, _), (3, _), (2, _), (0, _), (1, _)]) hx hb d_Wr_putData_125 hl (k := 1) rfl rfl (by decide) rfl (fun ls hl => ?_)
        refine lv_goto (tgt := 110) hx hb d_Wr_putData_128 (by decide) ?_
        refine lv_iload hx hb d_Wr_putData_110 (lv_at hl 0 rfl) ?_
        refine lv_iload hx hb d_Wr_putData_112 (lv_at hl 2 rfl) ?_
        refine lv_icmp_ge (tgt := 131) hx hb d_Wr_putData_114 (by decide) (fun c50 => ?_) (fun c50 => ?_)
        · exact absurd c50 (by decide)
        · refine lv_aload_n hx hb d_Wr_putData_117 rfl (lv_at hl 8 rfl) ?_
          refine lv_iload hx hb d_Wr_putData_118 (lv_at hl 1 rfl) ?_
          refine mw_cV (ci := 5) (k := 18) C0 (m_Wr_putSharedName l D9 cB cI cJ cG a O _ _ (fl es) hGl (BR_eq hGB ((sW1 4 (by decide)).trans ((sq41 4 (by decide)).trans (sq1 4 (by decide))))) X B1 E1 p1 k2 (r1 + 1) r2 hX xM1 x131 (by omega) xS1 xB1 x141 W1 x101 m1 m2) g_581 g_5 g_578 g_580 gs_Wr_putSharedName ⟨by decide +kernel, by decide +kernel, show Option.map (fun d => d.parameters.length) (parseMethodDescriptor y_Wr_putSharedName.desc) = some 1 by decide +kernel⟩ ⟨by decide, by decide⟩ rfl rfl hP hD hS hA rfl ww_18 hl.1 (Nat.le_of_ble_eq_true rfl) rfl d_Wr_putData_120 ⟨by decide, by decide⟩ (fun v9 w9 H locs hq hP hD hS => ?_)
          obtain ⟨I51, F52, hw9, q53⟩ := hq
          subst hw9
          obtain ⟨rfl, sw2, x132, x142, x102, sW2, xM2, xS2, xB2⟩ := q53
          have ok2 := wN_ok (B := B1) (pt := p1) m1 m2 W1
          obtain ⟨B2, E2, p2, hw2⟩ : ∃ B9 E9 p9, wN (fl es) k2 (r1 + 1) B1 E1 p1 = (B9, E9, p9) := ⟨_, _, _, rfl⟩
          rw [hw2] at x132 x142 x102 xM2 xS2 xB2 ok2
          obtain ⟨W2, ⟨Z2, hz2, hy2, hx2⟩, -⟩ := ok2
          have W2 : wW (fl es) B2 E2 := W2
          have hv2 : B2.length = B1.length + Z2.length := (congrArg List.length hz2).trans List.length_append
          have xl54 : 12 + B2.length = (X ++ B2).length := xl_of hX
          refine lv_istore (lv' := [(6, _), (9, _), (8, _), (7, _), (5, _), (4, _), (3, _), (2, _), (0, _), (1, _)]) hx hb d_Wr_putData_123 hl (by decide) rfl (fun ls hl => ?_)
          refine lv_iinc (lv' := [(9, .int (nI 2)), (6, _), (8, _), (7, _), (5, _), (4, _), (3, _), (2, _), (0, _), (1, _)]) hx hb d_Wr_putData_125 hl (k := 1) rfl rfl (by decide) rfl (fun ls hl => ?_)
          refine lv_goto (tgt := 110) hx hb d_Wr_putData_128 (by decide) ?_
          refine lv_iload hx hb d_Wr_putData_110 (lv_at hl 0 rfl) ?_
          refine lv_iload hx hb d_Wr_putData_112 (lv_at hl 2 rfl) ?_
          refine lv_icmp_ge (tgt := 131) hx hb d_Wr_putData_114 (by decide) (fun c55 => ?_) (fun c55 => ?_)
          · refine lv_aload_n hx hb d_Wr_putData_131 rfl (lv_at hl 8 rfl) ?_
            refine va_get (D := D9) (ci := 5) (C := R_Wr) (T := F_Wr) (N := 6) hx hb hts i_Wr hown hK hP 18 ww_18 rfl 1 (by decide) (hts _ g_186) (fun _ h9 => h9) rfl d_Wr_putData_132 ?_
            refine lv_aload_n hx hb d_Wr_putData_135 rfl (lv_at hl 8 rfl) ?_
            refine va_get (D := D9) (ci := 5) (C := R_Wr) (T := F_Wr) (N := 6) hx hb hts i_Wr hown hK hP 18 ww_18 rfl 0 (by decide) (hts _ g_185) (fun _ h9 => h9) rfl d_Wr_putData_136 ?_
            refine va_getN (D := D9) (ci := 2) (C := R_Ga) (T := F_Ga) (N := 11) hx hb hts i_Ga hown hK hP 19 ww_19 rfl 0 (by decide) (hts _ g_58) (fun _ h9 => h9) rfl d_Wr_putData_139 ?_
            refine lv_iload hx hb d_Wr_putData_142 (lv_at hl 1 rfl) ?_
            refine lv_iload hx hb d_Wr_putData_144 (lv_at hl 5 rfl) ?_
            refine lv_iload hx hb d_Wr_putData_146 (lv_at hl 1 rfl) ?_
            refine lv_isub hx hb d_Wr_putData_148 ?_
            refine lv_topq (y := nI ((of9 es r + ((eN e9).length) + ((eD e9).length)) - (r2 + 1))) (pk_sub (by omega)) ?_
            refine mw_cVN (ci := 0) (k := 20) C0 (m_By_putFrom_ms_gb l D9 cB cI cJ cG a O _ _ (X ++ B2) (fl es) 0 (r2 + 1) (of9 es r + (eN e9).length + (eD e9).length - (r2 + 1)) xM2 (BR_eq hGB ((sW2 4 (by decide)).trans ((sW1 4 (by decide)).trans ((sq41 4 (by decide)).trans (sq1 4 (by decide)))))) (x132.trans (congrArg nI xl54)) hGl (by omega) (by omega)) g_300 g_2 g_604 g_299 gs_By_putFrom ⟨by decide +kernel, by decide +kernel, show Option.map (fun d => d.parameters.length) (parseMethodDescriptor y_By_putFrom.desc) = some 3 by decide +kernel⟩ ⟨by decide, by decide⟩ rfl rfl hP hD hS hA rfl ww_20 hl.1 (Nat.le_of_ble_eq_true rfl) rfl d_Wr_putData_149 ⟨by decide, by decide⟩ (fun v9 w9 H locs hq hP hD hS => ?_)
            obtain ⟨I56, F57, hw9, q58⟩ := hq
            subst hw9
            obtain ⟨rfl, sp56, yl56, sq56, ym56⟩ := q58
            rw [List.append_assoc] at ym56
            have hq56 : (B2 ++ sl9 (fl es) (r2 + 1) (of9 es r + (eN e9).length + (eD e9).length - (r2 + 1))).length = B2.length + (of9 es r + (eN e9).length + (eD e9).length - (r2 + 1)) := by rw [List.length_append, sl9_len (by omega)]
            have yl56 : I56 13 = nI (12 + (B2 ++ sl9 (fl es) (r2 + 1) (of9 es r + (eN e9).length + (eD e9).length - (r2 + 1))).length) := yl56.trans (congrArg nI (by rw [← xl54, hq56]; omega))
            have xl59 : 12 + (B2 ++ sl9 (fl es) (r2 + 1) (of9 es r + (eN e9).length + (eD e9).length - (r2 + 1))).length = (X ++ (B2 ++ sl9 (fl es) (r2 + 1) (of9 es r + (eN e9).length + (eD e9).length - (r2 + 1)))).length := xl_of hX
            refine lv_aload_n hx hb d_Wr_putData_152 rfl (lv_at hl 8 rfl) ?_
            refine va_get (D := D9) (ci := 5) (C := R_Wr) (T := F_Wr) (N := 6) hx hb hts i_Wr hown hK hP 18 ww_18 rfl 1 (by decide) (hts _ g_186) (fun _ h9 => h9) rfl d_Wr_putData_153 ?_
            refine lv_iload hx hb d_Wr_putData_156 (lv_at hl 4 rfl) ?_
            refine lv_aload_n hx hb d_Wr_putData_158 rfl (lv_at hl 8 rfl) ?_
            refine va_get (D := D9) (ci := 5) (C := R_Wr) (T := F_Wr) (N := 6) hx hb hts i_Wr hown hK hP 18 ww_18 rfl 1 (by decide) (hts _ g_186) (fun _ h9 => h9) rfl d_Wr_putData_159 ?_
            refine va_getN (D := D9) (ci := 0) (C := R_By) (T := F_By) (N := 2) hx hb hts i_By hown hK hP 20 ww_20 rfl 1 (by decide) (hts _ g_38) (fun _ h9 => h9) rfl d_Wr_putData_162 ?_
            refine lv_topq (y := nI (12 + (B2 ++ sl9 (fl es) (r2 + 1) (of9 es r + (eN e9).length + (eD e9).length - (r2 + 1))).length)) (yl56) ?_
            refine lv_iload hx hb d_Wr_putData_165 (lv_at hl 4 rfl) ?_
            refine lv_isub hx hb d_Wr_putData_167 ?_
            refine lv_topq (y := nI ((B2 ++ sl9 (fl es) (r2 + 1) (of9 es r + (eN e9).length + (eD e9).length - (r2 + 1))).length - B.length)) ((pk_sub (by omega)).trans (congrArg nI (by omega))) ?_
            refine lv_iconst (v := 2) hx hb d_Wr_putData_168 (by decide) ?_
            refine lv_topq (y := nI 2) (rfl) ?_
            refine lv_isub hx hb d_Wr_putData_169 ?_
            refine lv_topq (y := nI ((B2 ++ sl9 (fl es) (r2 + 1) (of9 es r + (eN e9).length + (eD e9).length - (r2 + 1))).length - B.length - 2)) ((pk_sub (by omega)).trans (congrArg nI (by omega))) ?_
            refine mw_cVN (ci := 0) (k := 20) C0 (m_By_setTwoL_ms l D9 cB cI cJ cG a O _ _ (X ++ (B2 ++ sl9 (fl es) (r2 + 1) (of9 es r + (eN e9).length + (eD e9).length - (r2 + 1)))) 0 (12 + B.length) (nI ((B2 ++ sl9 (fl es) (r2 + 1) (of9 es r + (eN e9).length + (eD e9).length - (r2 + 1))).length - B.length - 2)) ym56 (by omega)) g_619 g_2 g_616 g_618 gs_By_setTwo ⟨by decide +kernel, by decide +kernel, show Option.map (fun d => d.parameters.length) (parseMethodDescriptor y_By_setTwo.desc) = some 2 by decide +kernel⟩ ⟨by decide, by decide⟩ rfl rfl hP hD hS hA rfl ww_20 hl.1 (Nat.le_of_ble_eq_true rfl) rfl d_Wr_putData_170 ⟨by decide, by decide⟩ (fun v9 w9 H locs hq hP hD hS => ?_)
            obtain ⟨I60, F61, hw9, q62⟩ := hq
            subst hw9
            obtain ⟨rfl, rfl, sst, yst⟩ := q62
            rw [un_nI (by omega), ln2_X hX] at yst
            have yln : I56 13 = nI (12 + (ln2 B ((B2 ++ sl9 (fl es) (r2 + 1) (of9 es r + (eN e9).length + (eD e9).length - (r2 + 1))).length - B.length - 2) (B2 ++ sl9 (fl es) (r2 + 1) (of9 es r + (eN e9).length + (eD e9).length - (r2 + 1)))).length) := by rw [ln2_len]; exact yl56
            have xl63 : 12 + (ln2 B ((B2 ++ sl9 (fl es) (r2 + 1) (of9 es r + (eN e9).length + (eD e9).length - (r2 + 1))).length - B.length - 2) (B2 ++ sl9 (fl es) (r2 + 1) (of9 es r + (eN e9).length + (eD e9).length - (r2 + 1)))).length = (X ++ (ln2 B ((B2 ++ sl9 (fl es) (r2 + 1) (of9 es r + (eN e9).length + (eD e9).length - (r2 + 1))).length - B.length - 2) (B2 ++ sl9 (fl es) (r2 + 1) (of9 es r + (eN e9).length + (eD e9).length - (r2 + 1))))).length := xl_of hX
            exact hret _ _ _ _ _ _ hS hP hD d_Wr_putData_173 (by rw [wDL_of (wD_2 c8 n1 n2 hkn hw1 m1 m2 hw2)]; exact ⟨rfl, (sm_tr (sm_tr (sm_tr (sm_tr (sm_mo sp1 (by decide)) (sm_mo sp41 (by decide))) (sm_mo sw1 (by decide))) (sm_mo sw2 (by decide))) (sm_mo sp56 (by decide))), yln, ((sp56 14 (by decide)).trans x142), ((sp56 10 (by decide)).trans x102), (sm_tr (sm_tr (sm_tr (sm_tr (sm_tr (sm_mo sq1 (by decide)) (sm_mo sq41 (by decide))) (sm_mo sW1 (by decide))) (sm_mo sW2 (by decide))) (sm_mo sq56 (by decide))) (sm_mo sst (by decide))), yst, (EnS_sm xS2 ((sst 25 (by decide)).trans (sq56 25 (by decide))) ((sst 26 (by decide)).trans (sq56 26 (by decide))) ((sst 27 (by decide)).trans (sq56 27 (by decide)))), (EnB_sm xB2 ((sst 27 (by decide)).trans (sq56 27 (by decide))) ((sst 28 (by decide)).trans (sq56 28 (by decide))) ((sst 29 (by decide)).trans (sq56 29 (by decide))))⟩)
          · exact absurd c55 (by decide)
