/-! THE REFERENCE: entries in the message -/
theorem k_cases {ty : Nat} (h : k_sh ty = true) : ty = 2 ∨ ty = 5 ∨ ty = 12 ∨ ty = 15 ∨ ty = 6 := by
  unfold k_sh at h; simp only [Bool.or_eq_true, beq_iff_eq] at h; omega
theorem k_sh_n {ty : Nat} (h1 : ty ≠ 2) (h2 : ty ≠ 5) (h3 : ty ≠ 12) (h4 : ty ≠ 15) (h5 : ty ≠ 6) : k_sh ty = false := by
  unfold k_sh; simp [h1, h2, h3, h4, h5]
theorem un_ushr16 (x : Int32) : un ((x.toUInt32 >>> ((nI 16).toUInt32 &&& Int32.toUInt32 31)).toInt32) = un x / 65536 := by
  unfold un; exact pk_ushr x (nI 16) 16 (by decide)
theorem b4_b2 (x : Int32) : b2 (un x / 65536) ++ b2 (un x) = b4 x := by
  show [un x / 65536 / 256 % 256, un x / 65536 % 256, un x / 256 % 256, un x % 256] = _
  unfold b4
  rw [show un x / 65536 / 256 = un x / 16777216 by omega]
theorem sl9_2 {t : List Nat} {p : Nat} {x y : Int32} (h : p + 1 < t.length) (hx : ub x = tb t p) (hy : ub y = tb t (p + 1)) : sl9 t p 2 = [ub x] ++ [ub y] := by
  rw [show 2 = 0 + 1 + 1 by decide, sl9_s (by omega), sl9_s (by omega), sl9_0, hx, hy]; rfl
theorem g_915 : (Cond.methodLink "WireMessagesModel" (176 : Nat) ({ cls := "WireMessagesModel", name := "putName", desc := "(IZ)I" } : MethodName)) ∈ GT := gt_mem 915 (by decide +kernel) rfl
theorem g_917 : (Cond.instanceMethod ({ cls := "WireMessagesModel", name := "putName", desc := "(IZ)I" } : MethodName)) ∈ GT := gt_mem 917 (by decide +kernel) rfl
theorem g_918 : (Cond.code ({ cls := "WireMessagesModel", name := "putName", desc := "(IZ)I" } : MethodName) prog_10_method_30_code (7 : Nat) (Option.some FieldType.int)) ∈ GT := gt_mem 918 (by decide +kernel) rfl
theorem gs_Mo_putName : Cond.selects R_Mo y_Mo_putName y_Mo_putName ∈ GT := gt_sel (q := (⟨"WireMessagesModel", "putName", "(IZ)I"⟩, 30)) (by decide +kernel)
theorem d_Mo_putData_0 : decode b_Mo_putData 0 = .ok (.aload_n 0, 1) := by decide +kernel
theorem d_Mo_putData_1 : decode b_Mo_putData 1 = .ok (.getfield 22, 3) := by decide +kernel
theorem d_Mo_putData_4 : decode b_Mo_putData 4 = .ok (.iload_n 1, 1) := by decide +kernel
theorem d_Mo_putData_5 : decode b_Mo_putData 5 = .ok (.iaload, 1) := by decide +kernel
theorem d_Mo_putData_6 : decode b_Mo_putData 6 = .ok (.istore_n 2, 1) := by decide +kernel
theorem d_Mo_putData_7 : decode b_Mo_putData 7 = .ok (.aload_n 0, 1) := by decide +kernel
theorem d_Mo_putData_8 : decode b_Mo_putData 8 = .ok (.getfield 37, 3) := by decide +kernel
theorem d_Mo_putData_11 : decode b_Mo_putData 11 = .ok (.iload_n 1, 1) := by decide +kernel
theorem d_Mo_putData_12 : decode b_Mo_putData 12 = .ok (.iaload, 1) := by decide +kernel
theorem d_Mo_putData_13 : decode b_Mo_putData 13 = .ok (.istore_n 3, 1) := by decide +kernel
theorem d_Mo_putData_14 : decode b_Mo_putData 14 = .ok (.iload_n 3, 1) := by decide +kernel
theorem d_Mo_putData_15 : decode b_Mo_putData 15 = .ok (.aload_n 0, 1) := by decide +kernel
theorem d_Mo_putData_16 : decode b_Mo_putData 16 = .ok (.getfield 40, 3) := by decide +kernel
theorem d_Mo_putData_19 : decode b_Mo_putData 19 = .ok (.iload_n 1, 1) := by decide +kernel
theorem d_Mo_putData_20 : decode b_Mo_putData 20 = .ok (.iaload, 1) := by decide +kernel
theorem d_Mo_putData_21 : decode b_Mo_putData 21 = .ok (.iadd, 1) := by decide +kernel
theorem d_Mo_putData_22 : decode b_Mo_putData 22 = .ok (.istore 4, 2) := by decide +kernel
theorem d_Mo_putData_24 : decode b_Mo_putData 24 = .ok (.iload_n 2, 1) := by decide +kernel
theorem d_Mo_putData_25 : decode b_Mo_putData 25 = .ok (.bipush 15, 2) := by decide +kernel
theorem d_Mo_putData_27 : decode b_Mo_putData 27 = .ok (.if_icmp .ne 28, 3) := by decide +kernel
theorem d_Mo_putData_30 : decode b_Mo_putData 30 = .ok (.aload_n 0, 1) := by decide +kernel
theorem d_Mo_putData_31 : decode b_Mo_putData 31 = .ok (.aload_n 0, 1) := by decide +kernel
theorem d_Mo_putData_32 : decode b_Mo_putData 32 = .ok (.getfield 15, 3) := by decide +kernel
theorem d_Mo_putData_35 : decode b_Mo_putData 35 = .ok (.iload_n 3, 1) := by decide +kernel
theorem d_Mo_putData_36 : decode b_Mo_putData 36 = .ok (.baload, 1) := by decide +kernel
theorem d_Mo_putData_37 : decode b_Mo_putData 37 = .ok (.invokevirtual 156, 3) := by decide +kernel
theorem d_Mo_putData_40 : decode b_Mo_putData 40 = .ok (.aload_n 0, 1) := by decide +kernel
theorem d_Mo_putData_41 : decode b_Mo_putData 41 = .ok (.aload_n 0, 1) := by decide +kernel
theorem d_Mo_putData_42 : decode b_Mo_putData 42 = .ok (.getfield 15, 3) := by decide +kernel
theorem d_Mo_putData_45 : decode b_Mo_putData 45 = .ok (.iload_n 3, 1) := by decide +kernel
theorem d_Mo_putData_46 : decode b_Mo_putData 46 = .ok (.iconst 1, 1) := by decide +kernel
theorem d_Mo_putData_47 : decode b_Mo_putData 47 = .ok (.iadd, 1) := by decide +kernel
theorem d_Mo_putData_48 : decode b_Mo_putData 48 = .ok (.baload, 1) := by decide +kernel
theorem d_Mo_putData_49 : decode b_Mo_putData 49 = .ok (.invokevirtual 156, 3) := by decide +kernel
theorem d_Mo_putData_52 : decode b_Mo_putData 52 = .ok (.iinc 3 2, 3) := by decide +kernel
theorem d_Mo_putData_55 : decode b_Mo_putData 55 = .ok (.iload_n 2, 1) := by decide +kernel
theorem d_Mo_putData_56 : decode b_Mo_putData 56 = .ok (.iconst 2, 1) := by decide +kernel
theorem d_Mo_putData_57 : decode b_Mo_putData 57 = .ok (.if_icmp .eq 26, 3) := by decide +kernel
theorem d_Mo_putData_60 : decode b_Mo_putData 60 = .ok (.iload_n 2, 1) := by decide +kernel
theorem d_Mo_putData_61 : decode b_Mo_putData 61 = .ok (.iconst 5, 1) := by decide +kernel
theorem d_Mo_putData_62 : decode b_Mo_putData 62 = .ok (.if_icmp .eq 21, 3) := by decide +kernel
theorem d_Mo_putData_65 : decode b_Mo_putData 65 = .ok (.iload_n 2, 1) := by decide +kernel
theorem d_Mo_putData_66 : decode b_Mo_putData 66 = .ok (.bipush 12, 2) := by decide +kernel
theorem d_Mo_putData_68 : decode b_Mo_putData 68 = .ok (.if_icmp .eq 15, 3) := by decide +kernel
theorem d_Mo_putData_71 : decode b_Mo_putData 71 = .ok (.iload_n 2, 1) := by decide +kernel
theorem d_Mo_putData_72 : decode b_Mo_putData 72 = .ok (.bipush 15, 2) := by decide +kernel
theorem d_Mo_putData_74 : decode b_Mo_putData 74 = .ok (.if_icmp .eq 9, 3) := by decide +kernel
theorem d_Mo_putData_77 : decode b_Mo_putData 77 = .ok (.iload_n 2, 1) := by decide +kernel
theorem d_Mo_putData_78 : decode b_Mo_putData 78 = .ok (.bipush 6, 2) := by decide +kernel
theorem d_Mo_putData_80 : decode b_Mo_putData 80 = .ok (.if_icmp .ne 10, 3) := by decide +kernel
theorem d_Mo_putData_83 : decode b_Mo_putData 83 = .ok (.aload_n 0, 1) := by decide +kernel
theorem d_Mo_putData_84 : decode b_Mo_putData 84 = .ok (.iload_n 3, 1) := by decide +kernel
theorem d_Mo_putData_85 : decode b_Mo_putData 85 = .ok (.iconst 1, 1) := by decide +kernel
theorem d_Mo_putData_86 : decode b_Mo_putData 86 = .ok (.invokevirtual 176, 3) := by decide +kernel
theorem d_Mo_putData_89 : decode b_Mo_putData 89 = .ok (.istore_n 3, 1) := by decide +kernel
theorem d_Mo_putData_90 : decode b_Mo_putData 90 = .ok (.iload_n 2, 1) := by decide +kernel
theorem d_Mo_putData_91 : decode b_Mo_putData 91 = .ok (.bipush 6, 2) := by decide +kernel
theorem d_Mo_putData_93 : decode b_Mo_putData 93 = .ok (.if_icmp .ne 10, 3) := by decide +kernel
theorem d_Mo_putData_96 : decode b_Mo_putData 96 = .ok (.aload_n 0, 1) := by decide +kernel
theorem d_Mo_putData_97 : decode b_Mo_putData 97 = .ok (.iload_n 3, 1) := by decide +kernel
theorem d_Mo_putData_98 : decode b_Mo_putData 98 = .ok (.iconst 1, 1) := by decide +kernel
theorem d_Mo_putData_99 : decode b_Mo_putData 99 = .ok (.invokevirtual 176, 3) := by decide +kernel
theorem d_Mo_putData_102 : decode b_Mo_putData 102 = .ok (.istore_n 3, 1) := by decide +kernel
theorem d_Mo_putData_103 : decode b_Mo_putData 103 = .ok (.iload_n 3, 1) := by decide +kernel
theorem d_Mo_putData_104 : decode b_Mo_putData 104 = .ok (.istore 5, 2) := by decide +kernel
theorem d_Mo_putData_106 : decode b_Mo_putData 106 = .ok (.iload 5, 2) := by decide +kernel
theorem d_Mo_putData_108 : decode b_Mo_putData 108 = .ok (.iload 4, 2) := by decide +kernel
theorem d_Mo_putData_110 : decode b_Mo_putData 110 = .ok (.if_icmp .ge 20, 3) := by decide +kernel
theorem d_Mo_putData_113 : decode b_Mo_putData 113 = .ok (.aload_n 0, 1) := by decide +kernel
theorem d_Mo_putData_114 : decode b_Mo_putData 114 = .ok (.aload_n 0, 1) := by decide +kernel
theorem d_Mo_putData_115 : decode b_Mo_putData 115 = .ok (.getfield 15, 3) := by decide +kernel
theorem d_Mo_putData_118 : decode b_Mo_putData 118 = .ok (.iload 5, 2) := by decide +kernel
theorem d_Mo_putData_120 : decode b_Mo_putData 120 = .ok (.baload, 1) := by decide +kernel
theorem d_Mo_putData_121 : decode b_Mo_putData 121 = .ok (.invokevirtual 156, 3) := by decide +kernel
theorem d_Mo_putData_124 : decode b_Mo_putData 124 = .ok (.iinc 5 1, 3) := by decide +kernel
theorem d_Mo_putData_127 : decode b_Mo_putData 127 = .ok (.goto (-21), 3) := by decide +kernel
theorem d_Mo_putData_130 : decode b_Mo_putData 130 = .ok (.return_, 1) := by decide +kernel
set_option maxHeartbeats 4000000 in
set_option maxRecDepth 100000 in
/-- the reference: putData -/
theorem m_Mo_putData (l : Launch) (D9 : va_G) (cB cI cJ cG : ClassId) (a : Nat → Nat) (O : Nat → Int64) (I : Nat → Int32) (F : Nat → Nat → Int32) (es : List En9) (r : Nat) (e9 : En9) (hre : es[r]? = some e9) (hR : MoR F es) (hO : okE es) (X B : List Nat) (E : List (Nat × Nat)) (pt : Nat) (hX : X.length = 12) (hM : BR 0 131200 (F 44) (X ++ B)) (h28 : I 28 = nI (12 + B.length)) (hE9 : MeR F E) (h30 : I 30 = nI E.length) (hW : wW (fl es) B E) (h29 : I 29 = nI pt) (hBb : B.length + (eD e9).length ≤ 131180) (hdk : dOk (fl es) (eT e9) (of9 es r + (eN e9).length) (eD e9).length) : MC l D9 cB cI cJ cG a O y_Mo_putData b_Mo_putData 6 (none) 3 [.ref (a 33), .int (nI r)] I F (fun v I' F' => v = none ∧ sm [28, 29, 30] I I' ∧ I' 28 = nI (12 + (wD (fl es) (eT e9) (of9 es r + (eN e9).length) (eD e9).length B E pt).1.length) ∧ I' 30 = nI (wD (fl es) (eT e9) (of9 es r + (eN e9).length) (eD e9).length B E pt).2.1.length ∧ I' 29 = nI (wD (fl es) (eT e9) (of9 es r + (eN e9).length) (eD e9).length B E pt).2.2 ∧ sm [44, 45, 46] F F' ∧ BR 0 131200 (F' 44) (X ++ (wD (fl es) (eT e9) (of9 es r + (eN e9).length) (eD e9).length B E pt).1) ∧ MeR F' (wD (fl es) (eT e9) (of9 es r + (eN e9).length) (eD e9).length B E pt).2.1) := by
  refine mc_ofv (by decide) (Nat.le_of_ble_eq_true rfl) ?_
  intro p e s m below meth c ls A0 Q C0 hP hD hA hS hl hret
  obtain ⟨hx, hb, hml, hr, hlocks, hown, hts, hK⟩ := id C0
  have hl : lv_has ls 6 [(0, .ref (a 33)), (1, .int (nI r))] := hl
  have hln := okE_len hO
  have hrl := (List.getElem?_eq_some_iff.mp hre).1
  obtain ⟨z36, z37, z38, z39, z40, z41, z42, z43⟩ := hR.1 r e9 hre
  obtain ⟨y1, y2, y3⟩ := hO.2.2.2 e9 (List.mem_of_getElem? hre)
  have hGl := hO.2.2.1
  have hGB := hR.2
  have hnx := of9_next hre
  have hnl := of9_le es (r + 1)
  have xl0 : 12 + B.length = (X ++ B).length := xl_of hX
  refine lv_aload_n hx hb d_Mo_putData_0 rfl (lv_at hl 0 rfl) ?_
  refine va_get (D := D9) (ci := 7) (C := R_Mo) (T := F_Mo) (N := 30) hx hb hts i_Mo hown hK hP 33 ww_33 rfl 9 (by decide) (hts _ g_731) (fun _ h9 => h9) rfl d_Mo_putData_1 ?_
  refine lv_iload_n hx hb d_Mo_putData_4 rfl (lv_at hl 1 rfl) ?_
  refine va_iald (D := D9) hx hb hK hP 37 1 ww_37 rfl (vp_in_nI (by omega) (by decide)) d_Mo_putData_5 ?_
  refine lv_topq (y := nI (eT e9)) (by rw [nI_clamp (by omega)]; exact z37) ?_
  refine lv_istore_n (lv' := [(2, _), (0, _), (1, _)]) hx hb d_Mo_putData_6 rfl hl (by decide) rfl (fun ls hl => ?_)
  refine lv_aload_n hx hb d_Mo_putData_7 rfl (lv_at hl 1 rfl) ?_
  refine va_get (D := D9) (ci := 7) (C := R_Mo) (T := F_Mo) (N := 30) hx hb hts i_Mo hown hK hP 33 ww_33 rfl 14 (by decide) (hts _ g_736) (fun _ h9 => h9) rfl d_Mo_putData_8 ?_
  refine lv_iload_n hx hb d_Mo_putData_11 rfl (lv_at hl 2 rfl) ?_
  refine va_iald (D := D9) hx hb hK hP 42 1 ww_42 rfl (vp_in_nI (by omega) (by decide)) d_Mo_putData_12 ?_
  refine lv_topq (y := nI (of9 es r + (eN e9).length)) (by rw [nI_clamp (by omega)]; exact z42) ?_
  refine lv_istore_n (lv' := [(3, _), (2, _), (0, _), (1, _)]) hx hb d_Mo_putData_13 rfl hl (by decide) rfl (fun ls hl => ?_)
  refine lv_iload_n hx hb d_Mo_putData_14 rfl (lv_at hl 0 rfl) ?_
  refine lv_aload_n hx hb d_Mo_putData_15 rfl (lv_at hl 2 rfl) ?_
  refine va_get (D := D9) (ci := 7) (C := R_Mo) (T := F_Mo) (N := 30) hx hb hts i_Mo hown hK hP 33 ww_33 rfl 15 (by decide) (hts _ g_737) (fun _ h9 => h9) rfl d_Mo_putData_16 ?_
  refine lv_iload_n hx hb d_Mo_putData_19 rfl (lv_at hl 3 rfl) ?_
  refine va_iald (D := D9) hx hb hK hP 43 1 ww_43 rfl (vp_in_nI (by omega) (by decide)) d_Mo_putData_20 ?_
  refine lv_topq (y := nI ((eD e9).length)) (by rw [nI_clamp (by omega)]; exact z43) ?_
  refine lv_iadd hx hb d_Mo_putData_21 ?_
  refine lv_topq (y := nI (of9 es r + (eN e9).length + ((eD e9).length))) (nI_add _ _) ?_
  refine lv_istore (lv' := [(4, _), (3, _), (2, _), (0, _), (1, _)]) hx hb d_Mo_putData_22 hl (by decide) rfl (fun ls hl => ?_)
  by_cases hsh : k_sh (eT e9) = true
  · obtain ⟨k1, r1, n1, n2, n3, n4⟩ := hdk.2 hsh
    have nr1 := isN_r n1
    have hdq := hdk.1
    rcases k_cases hsh with hty | hty | hty | hty | hty
    · have ht9 : nI (eT e9) = nI 2 := by rw [hty]
      rw [ht9] at hl
      have hbf : k_bf (eT e9) = 0 := by rw [hty]; decide
      rw [hbf, Nat.add_zero] at n1
      have hbd1 : of9 es r + (eN e9).length + 0 + 1 ≤ r1 + 1 := by omega
      refine lv_iload_n hx hb d_Mo_putData_24 rfl (lv_at hl 2 rfl) ?_
      refine lv_bipush (v := 15) hx hb d_Mo_putData_25 (by decide) ?_
      refine lv_topq (y := nI 15) (rfl) ?_
      refine lv_icmp_ne (tgt := 55) hx hb d_Mo_putData_27 (by decide) (fun c1 => ?_) (fun c1 => ?_)
      · refine lv_iload_n hx hb d_Mo_putData_55 rfl (lv_at hl 2 rfl) ?_
        refine lv_iconst (v := 2) hx hb d_Mo_putData_56 (by decide) ?_
        refine lv_topq (y := nI 2) (rfl) ?_
        refine lv_icmp_eq (tgt := 83) hx hb d_Mo_putData_57 (by decide) (fun c2 => ?_) (fun c2 => ?_)
        · refine lv_aload_n hx hb d_Mo_putData_83 rfl (lv_at hl 3 rfl) ?_
          refine lv_iload_n hx hb d_Mo_putData_84 rfl (lv_at hl 1 rfl) ?_
          refine lv_iconst (v := 1) hx hb d_Mo_putData_85 (by decide) ?_
          refine lv_topq (y := nI 1) (rfl) ?_
          refine mw_cV (ci := 7) (k := 33) C0 (m_Mo_putName l D9 cB cI cJ cG a O _ _ (fl es) hGl hGB X B E pt k1 (of9 es r + (eN e9).length) r1 hX hM h28 (by omega) hE9 h30 hW h29 n1 n2) g_918 g_8 g_915 g_917 gs_Mo_putName ⟨by decide +kernel, by decide +kernel, show Option.map (fun d => d.parameters.length) (parseMethodDescriptor y_Mo_putName.desc) = some 2 by decide +kernel⟩ ⟨by decide, by decide⟩ rfl rfl hP hD hS hA rfl ww_33 hl.1 (Nat.le_of_ble_eq_true rfl) rfl d_Mo_putData_86 ⟨by decide, by decide⟩ (fun v9 w9 H locs hq hP hD hS => ?_)
          obtain ⟨I3, F4, hw9, q5⟩ := hq
          subst hw9
          obtain ⟨rfl, sw1, x281, x301, x291, sW1, xM1, xE1⟩ := q5
          have ok1 := wN_ok (B := B) (pt := pt) n1 n2 hW
          obtain ⟨B1, E1, p1, hw1⟩ : ∃ B9 E9 p9, wN (fl es) k1 (of9 es r + (eN e9).length) B E pt = (B9, E9, p9) := ⟨_, _, _, rfl⟩
          rw [hw1] at x281 x301 x291 xM1 xE1 ok1
          obtain ⟨W1, ⟨Z1, hz1, hy1, hx1⟩, -⟩ := ok1
          have W1 : wW (fl es) B1 E1 := W1
          have hv1 : B1.length = B.length + Z1.length := (congrArg List.length hz1).trans List.length_append
          have xl6 : 12 + B1.length = (X ++ B1).length := xl_of hX
          refine lv_istore_n (lv' := [(3, _), (4, _), (2, _), (0, _), (1, _)]) hx hb d_Mo_putData_89 rfl hl (by decide) rfl (fun ls hl => ?_)
          refine lv_iload_n hx hb d_Mo_putData_90 rfl (lv_at hl 2 rfl) ?_
          refine lv_bipush (v := 6) hx hb d_Mo_putData_91 (by decide) ?_
          refine lv_topq (y := nI 6) (rfl) ?_
          refine lv_icmp_ne (tgt := 103) hx hb d_Mo_putData_93 (by decide) (fun c7 => ?_) (fun c7 => ?_)
          · refine lv_iload_n hx hb d_Mo_putData_103 rfl (lv_at hl 0 rfl) ?_
            refine lv_istore (lv' := [(5, _), (3, _), (4, _), (2, _), (0, _), (1, _)]) hx hb d_Mo_putData_104 hl (by decide) rfl (fun ls hl => ?_)
            have loopP : ∀ (nc : Nat) (j : Nat) (Ic : Nat → Int32) (Fc : Nat → Nat → Int32) (H : Heap) (locs : List Loc) (ls : Array Slot), (sm [28] I3 Ic) → (sm [44] F4 Fc) → (of9 es r + (eN e9).length + (eD e9).length - (r1 + 1) - j = nc) → (j ≤ of9 es r + (eN e9).length + (eD e9).length - (r1 + 1)) → (Ic 28 = nI (12 + (B1.length + j))) → (BR 0 131200 (Fc 44) (X ++ (B1 ++ sl9 (fl es) (r1 + 1) j))) → va_P D9 cls9 (WW a cB cI cJ cG Ic Fc O) H → va_D A0 (WW a cB cI cJ cG Ic Fc O) → va_S A0 s.heap H locs → lv_has ls 6 [(0, .ref (a 33)), (4, .int (nI (of9 es r + (eN e9).length + (eD e9).length))), (5, .int (nI (r1 + 1 + j)))] → W p l e (rm9 3 0 0) s m ([.ref (a 33), .int (nI r)] : List Value).toArray below meth c H locs 0 0 Q (F0 m 106 ls []) := by
              intro nc
              induction nc using Nat.strongRecOn with
              | ind nc ihc =>
                intro j Ic Fc H locs ls hsIc hsFc hnc hj kc hBc hP hD hS hl
                have hXc : (X ++ (B1 ++ sl9 (fl es) (r1 + 1) j)).length = 12 + (B1.length + j) := by rw [List.length_append, List.length_append, hX, sl9_len (by omega)]
                refine lv_iload hx hb d_Mo_putData_106 (lv_at hl 2 rfl) ?_
                refine lv_iload hx hb d_Mo_putData_108 (lv_at hl 1 rfl) ?_
                refine lv_icmp_ge (tgt := 130) hx hb d_Mo_putData_110 (by decide) (fun c8 => ?_) (fun c8 => ?_)
                · have c8 : of9 es r + (eN e9).length + (eD e9).length ≤ r1 + 1 + j := (nI_leI (a := of9 es r + (eN e9).length + (eD e9).length) (b := r1 + 1 + j) (by omega) (by omega)).mp c8
                  have hjj : j = of9 es r + (eN e9).length + (eD e9).length - (r1 + 1) := by omega
                  rw [hjj] at kc hBc hXc
                  have hwx : wN (fl es) k1 (of9 es r + (eN e9).length + k_bf (eT e9)) (B ++ sl9 (fl es) (of9 es r + (eN e9).length) (k_bf (eT e9))) E pt = (B1, E1, p1) := by rw [hbf, sl9_0, List.append_nil]; exact hw1
                  have hnx9 : isN (fl es) k1 (of9 es r + (eN e9).length + k_bf (eT e9)) r1 := by rw [hbf]; exact n1
                  have hkx : k_nm (eT e9) = 1 := by rw [hty]; decide
                  exact hret _ _ _ _ _ _ hS hP hD d_Mo_putData_130 (by rw [wD_1 hsh hnx9 n2 hkx hwx]; exact ⟨rfl, (sm_tr (sm_mo sw1 (by decide)) (sm_mo hsIc (by decide))), (by rw [List.length_append, sl9_len (by omega)]; exact kc), ((hsIc 30 (by decide)).trans x301), ((hsIc 29 (by decide)).trans x291), (sm_tr (sm_mo sW1 (by decide)) (sm_mo hsFc (by decide))), hBc, (MeR_sm xE1 (hsFc 45 (by decide)) (hsFc 46 (by decide)))⟩)
                · have c8 : ¬ (of9 es r + (eN e9).length + (eD e9).length ≤ r1 + 1 + j) := fun z9 => c8 ((nI_leI (a := of9 es r + (eN e9).length + (eD e9).length) (b := r1 + 1 + j) (by omega) (by omega)).mpr z9)
                  refine lv_aload_n hx hb d_Mo_putData_113 rfl (lv_at hl 0 rfl) ?_
                  refine lv_aload_n hx hb d_Mo_putData_114 rfl (lv_at hl 0 rfl) ?_
                  refine va_get (D := D9) (ci := 7) (C := R_Mo) (T := F_Mo) (N := 30) hx hb hts i_Mo hown hK hP 33 ww_33 rfl 3 (by decide) (hts _ g_725) (fun _ h9 => h9) rfl d_Mo_putData_115 ?_
                  refine lv_iload hx hb d_Mo_putData_118 (lv_at hl 2 rfl) ?_
                  refine va_bald (D := D9) hx hb hK hP 35 0 ww_35 rfl (vp_in_nI (by omega) (by decide)) d_Mo_putData_120 ?_
                  refine lv_topq (y := F 35 (r1 + 1 + j)) (by rw [nI_clamp (by omega)]; exact ((congrFun (hsFc 35 (by decide)) _).trans ((congrFun (sW1 35 (by decide)) _).trans rfl))) ?_
                  refine mw_cV (ci := 7) (k := 33) C0 (m_Mo_put l D9 cB cI cJ cG a O _ _ (X ++ (B1 ++ sl9 (fl es) (r1 + 1) j)) (F 35 (r1 + 1 + j)) hBc (kc.trans (congrArg nI hXc.symm)) (by omega)) g_930 g_8 g_927 g_929 gs_Mo_put ⟨by decide +kernel, by decide +kernel, show Option.map (fun d => d.parameters.length) (parseMethodDescriptor y_Mo_put.desc) = some 1 by decide +kernel⟩ ⟨by decide, by decide⟩ rfl rfl hP hD hS hA rfl ww_33 hl.1 (Nat.le_of_ble_eq_true rfl) rfl d_Mo_putData_121 ⟨by decide, by decide⟩ (fun v9 w9 H locs hq hP hD hS => ?_)
                  obtain ⟨I9, F10, hw9, q11⟩ := hq
                  subst hw9
                  obtain ⟨rfl, sp9, z9, sq9, w9⟩ := q11
                  refine lv_iinc (lv' := [(5, .int (nI (r1 + 1 + j + 1))), (0, _), (4, _)]) hx hb d_Mo_putData_124 hl (k := 2) rfl (nI_add _ 1) (by decide) rfl (fun ls hl => ?_)
                  refine lv_goto (tgt := 106) hx hb d_Mo_putData_127 (by decide) ?_
                  have hsb := sl9_b (t := fl es) (p := r1 + 1) (k := j) (x := F 35 (r1 + 1 + j)) (v := 0) (by omega) (BR_tb hGB (by omega) (by omega) (by omega))
                  rw [show r1 + 1 + j + 1 = r1 + 1 + (j + 1) by omega] at hl
                  exact ihc _ (by omega) (j + 1) _ _ _ _ _ (sm_tr (sm_mo hsIc (by decide)) (sm_mo sp9 (by decide))) (sm_tr (sm_mo hsFc (by decide)) (sm_mo sq9 (by decide))) rfl (by omega) (by rw [z9, hXc]; exact congrArg nI (by omega)) (by rw [← hsb, ← List.append_assoc, ← List.append_assoc]; rw [← List.append_assoc] at w9; exact w9) hP hD hS (lv_pk hl [1, 2, 0] rfl)
            exact loopP _ 0 _ _ _ _ _ sm_rf sm_rf rfl (Nat.zero_le _) x281 (by rw [sl9_0, List.append_nil]; exact xM1) hP hD hS (lv_pk hl [4, 2, 0] rfl)
          · exact absurd c7 (by decide)
        · exact absurd c2 (by decide)
      · exact absurd c1 (by decide)
    · have ht9 : nI (eT e9) = nI 5 := by rw [hty]
      rw [ht9] at hl
      have hbf : k_bf (eT e9) = 0 := by rw [hty]; decide
      rw [hbf, Nat.add_zero] at n1
      have hbd1 : of9 es r + (eN e9).length + 0 + 1 ≤ r1 + 1 := by omega
      refine lv_iload_n hx hb d_Mo_putData_24 rfl (lv_at hl 2 rfl) ?_
      refine lv_bipush (v := 15) hx hb d_Mo_putData_25 (by decide) ?_
      refine lv_topq (y := nI 15) (rfl) ?_
      refine lv_icmp_ne (tgt := 55) hx hb d_Mo_putData_27 (by decide) (fun c12 => ?_) (fun c12 => ?_)
      · refine lv_iload_n hx hb d_Mo_putData_55 rfl (lv_at hl 2 rfl) ?_
        refine lv_iconst (v := 2) hx hb d_Mo_putData_56 (by decide) ?_
        refine lv_topq (y := nI 2) (rfl) ?_
        refine lv_icmp_eq (tgt := 83) hx hb d_Mo_putData_57 (by decide) (fun c13 => ?_) (fun c13 => ?_)
        · exact absurd c13 (by decide)
        · refine lv_iload_n hx hb d_Mo_putData_60 rfl (lv_at hl 2 rfl) ?_
          refine lv_iconst (v := 5) hx hb d_Mo_putData_61 (by decide) ?_
          refine lv_topq (y := nI 5) (rfl) ?_
          refine lv_icmp_eq (tgt := 83) hx hb d_Mo_putData_62 (by decide) (fun c14 => ?_) (fun c14 => ?_)
          · refine lv_aload_n hx hb d_Mo_putData_83 rfl (lv_at hl 3 rfl) ?_
            refine lv_iload_n hx hb d_Mo_putData_84 rfl (lv_at hl 1 rfl) ?_
            refine lv_iconst (v := 1) hx hb d_Mo_putData_85 (by decide) ?_
            refine lv_topq (y := nI 1) (rfl) ?_
            refine mw_cV (ci := 7) (k := 33) C0 (m_Mo_putName l D9 cB cI cJ cG a O _ _ (fl es) hGl hGB X B E pt k1 (of9 es r + (eN e9).length) r1 hX hM h28 (by omega) hE9 h30 hW h29 n1 n2) g_918 g_8 g_915 g_917 gs_Mo_putName ⟨by decide +kernel, by decide +kernel, show Option.map (fun d => d.parameters.length) (parseMethodDescriptor y_Mo_putName.desc) = some 2 by decide +kernel⟩ ⟨by decide, by decide⟩ rfl rfl hP hD hS hA rfl ww_33 hl.1 (Nat.le_of_ble_eq_true rfl) rfl d_Mo_putData_86 ⟨by decide, by decide⟩ (fun v9 w9 H locs hq hP hD hS => ?_)
            obtain ⟨I15, F16, hw9, q17⟩ := hq
            subst hw9
            obtain ⟨rfl, sw1, x281, x301, x291, sW1, xM1, xE1⟩ := q17
            have ok1 := wN_ok (B := B) (pt := pt) n1 n2 hW
            obtain ⟨B1, E1, p1, hw1⟩ : ∃ B9 E9 p9, wN (fl es) k1 (of9 es r + (eN e9).length) B E pt = (B9, E9, p9) := ⟨_, _, _, rfl⟩
            rw [hw1] at x281 x301 x291 xM1 xE1 ok1
            obtain ⟨W1, ⟨Z1, hz1, hy1, hx1⟩, -⟩ := ok1
            have W1 : wW (fl es) B1 E1 := W1
            have hv1 : B1.length = B.length + Z1.length := (congrArg List.length hz1).trans List.length_append
            have xl18 : 12 + B1.length = (X ++ B1).length := xl_of hX
            refine lv_istore_n (lv' := [(3, _), (4, _), (2, _), (0, _), (1, _)]) hx hb d_Mo_putData_89 rfl hl (by decide) rfl (fun ls hl => ?_)
            refine lv_iload_n hx hb d_Mo_putData_90 rfl (lv_at hl 2 rfl) ?_
            refine lv_bipush (v := 6) hx hb d_Mo_putData_91 (by decide) ?_
            refine lv_topq (y := nI 6) (rfl) ?_
            refine lv_icmp_ne (tgt := 103) hx hb d_Mo_putData_93 (by decide) (fun c19 => ?_) (fun c19 => ?_)
            · refine lv_iload_n hx hb d_Mo_putData_103 rfl (lv_at hl 0 rfl) ?_
              refine lv_istore (lv' := [(5, _), (3, _), (4, _), (2, _), (0, _), (1, _)]) hx hb d_Mo_putData_104 hl (by decide) rfl (fun ls hl => ?_)
              have loopP : ∀ (nc : Nat) (j : Nat) (Ic : Nat → Int32) (Fc : Nat → Nat → Int32) (H : Heap) (locs : List Loc) (ls : Array Slot), (sm [28] I15 Ic) → (sm [44] F16 Fc) → (of9 es r + (eN e9).length + (eD e9).length - (r1 + 1) - j = nc) → (j ≤ of9 es r + (eN e9).length + (eD e9).length - (r1 + 1)) → (Ic 28 = nI (12 + (B1.length + j))) → (BR 0 131200 (Fc 44) (X ++ (B1 ++ sl9 (fl es) (r1 + 1) j))) → va_P D9 cls9 (WW a cB cI cJ cG Ic Fc O) H → va_D A0 (WW a cB cI cJ cG Ic Fc O) → va_S A0 s.heap H locs → lv_has ls 6 [(0, .ref (a 33)), (4, .int (nI (of9 es r + (eN e9).length + (eD e9).length))), (5, .int (nI (r1 + 1 + j)))] → W p l e (rm9 3 0 0) s m ([.ref (a 33), .int (nI r)] : List Value).toArray below meth c H locs 0 0 Q (F0 m 106 ls []) := by
                intro nc
                induction nc using Nat.strongRecOn with
                | ind nc ihc =>
                  intro j Ic Fc H locs ls hsIc hsFc hnc hj kc hBc hP hD hS hl
                  have hXc : (X ++ (B1 ++ sl9 (fl es) (r1 + 1) j)).length = 12 + (B1.length + j) := by rw [List.length_append, List.length_append, hX, sl9_len (by omega)]
                  refine lv_iload hx hb d_Mo_putData_106 (lv_at hl 2 rfl) ?_
                  refine lv_iload hx hb d_Mo_putData_108 (lv_at hl 1 rfl) ?_
                  refine lv_icmp_ge (tgt := 130) hx hb d_Mo_putData_110 (by decide) (fun c20 => ?_) (fun c20 => ?_)
                  · have c20 : of9 es r + (eN e9).length + (eD e9).length ≤ r1 + 1 + j := (nI_leI (a := of9 es r + (eN e9).length + (eD e9).length) (b := r1 + 1 + j) (by omega) (by omega)).mp c20
                    have hjj : j = of9 es r + (eN e9).length + (eD e9).length - (r1 + 1) := by omega
                    rw [hjj] at kc hBc hXc
                    have hwx : wN (fl es) k1 (of9 es r + (eN e9).length + k_bf (eT e9)) (B ++ sl9 (fl es) (of9 es r + (eN e9).length) (k_bf (eT e9))) E pt = (B1, E1, p1) := by rw [hbf, sl9_0, List.append_nil]; exact hw1
                    have hnx9 : isN (fl es) k1 (of9 es r + (eN e9).length + k_bf (eT e9)) r1 := by rw [hbf]; exact n1
                    have hkx : k_nm (eT e9) = 1 := by rw [hty]; decide
                    exact hret _ _ _ _ _ _ hS hP hD d_Mo_putData_130 (by rw [wD_1 hsh hnx9 n2 hkx hwx]; exact ⟨rfl, (sm_tr (sm_mo sw1 (by decide)) (sm_mo hsIc (by decide))), (by rw [List.length_append, sl9_len (by omega)]; exact kc), ((hsIc 30 (by decide)).trans x301), ((hsIc 29 (by decide)).trans x291), (sm_tr (sm_mo sW1 (by decide)) (sm_mo hsFc (by decide))), hBc, (MeR_sm xE1 (hsFc 45 (by decide)) (hsFc 46 (by decide)))⟩)
                  · have c20 : ¬ (of9 es r + (eN e9).length + (eD e9).length ≤ r1 + 1 + j) := fun z9 => c20 ((nI_leI (a := of9 es r + (eN e9).length + (eD e9).length) (b := r1 + 1 + j) (by omega) (by omega)).mpr z9)
                    refine lv_aload_n hx hb d_Mo_putData_113 rfl (lv_at hl 0 rfl) ?_
                    refine lv_aload_n hx hb d_Mo_putData_114 rfl (lv_at hl 0 rfl) ?_
                    refine va_get (D := D9) (ci := 7) (C := R_Mo) (T := F_Mo) (N := 30) hx hb hts i_Mo hown hK hP 33 ww_33 rfl 3 (by decide) (hts _ g_725) (fun _ h9 => h9) rfl d_Mo_putData_115 ?_
                    refine lv_iload hx hb d_Mo_putData_118 (lv_at hl 2 rfl) ?_
                    refine va_bald (D := D9) hx hb hK hP 35 0 ww_35 rfl (vp_in_nI (by omega) (by decide)) d_Mo_putData_120 ?_
                    refine lv_topq (y := F 35 (r1 + 1 + j)) (by rw [nI_clamp (by omega)]; exact ((congrFun (hsFc 35 (by decide)) _).trans ((congrFun (sW1 35 (by decide)) _).trans rfl))) ?_
                    refine mw_cV (ci := 7) (k := 33) C0 (m_Mo_put l D9 cB cI cJ cG a O _ _ (X ++ (B1 ++ sl9 (fl es) (r1 + 1) j)) (F 35 (r1 + 1 + j)) hBc (kc.trans (congrArg nI hXc.symm)) (by omega)) g_930 g_8 g_927 g_929 gs_Mo_put ⟨by decide +kernel, by decide +kernel, show Option.map (fun d => d.parameters.length) (parseMethodDescriptor y_Mo_put.desc) = some 1 by decide +kernel⟩ ⟨by decide, by decide⟩ rfl rfl hP hD hS hA rfl ww_33 hl.1 (Nat.le_of_ble_eq_true rfl) rfl d_Mo_putData_121 ⟨by decide, by decide⟩ (fun v9 w9 H locs hq hP hD hS => ?_)
                    obtain ⟨I21, F22, hw9, q23⟩ := hq
                    subst hw9
                    obtain ⟨rfl, sp9, z9, sq9, w9⟩ := q23
                    refine lv_iinc (lv' := [(5, .int (nI (r1 + 1 + j + 1))), (0, _), (4, _)]) hx hb d_Mo_putData_124 hl (k := 2) rfl (nI_add _ 1) (by decide) rfl (fun ls hl => ?_)
                    refine lv_goto (tgt := 106) hx hb d_Mo_putData_127 (by decide) ?_
                    have hsb := sl9_b (t := fl es) (p := r1 + 1) (k := j) (x := F 35 (r1 + 1 + j)) (v := 0) (by omega) (BR_tb hGB (by omega) (by omega) (by omega))
                    rw [show r1 + 1 + j + 1 = r1 + 1 + (j + 1) by omega] at hl
                    exact ihc _ (by omega) (j + 1) _ _ _ _ _ (sm_tr (sm_mo hsIc (by decide)) (sm_mo sp9 (by decide))) (sm_tr (sm_mo hsFc (by decide)) (sm_mo sq9 (by decide))) rfl (by omega) (by rw [z9, hXc]; exact congrArg nI (by omega)) (by rw [← hsb, ← List.append_assoc, ← List.append_assoc]; rw [← List.append_assoc] at w9; exact w9) hP hD hS (lv_pk hl [1, 2, 0] rfl)
              exact loopP _ 0 _ _ _ _ _ sm_rf sm_rf rfl (Nat.zero_le _) x281 (by rw [sl9_0, List.append_nil]; exact xM1) hP hD hS (lv_pk hl [4, 2, 0] rfl)
            · exact absurd c19 (by decide)
          · exact absurd c14 (by decide)
      · exact absurd c12 (by decide)
    · have ht9 : nI (eT e9) = nI 12 := by rw [hty]
      rw [ht9] at hl
      have hbf : k_bf (eT e9) = 0 := by rw [hty]; decide
      rw [hbf, Nat.add_zero] at n1
      have hbd1 : of9 es r + (eN e9).length + 0 + 1 ≤ r1 + 1 := by omega
      refine lv_iload_n hx hb d_Mo_putData_24 rfl (lv_at hl 2 rfl) ?_
      refine lv_bipush (v := 15) hx hb d_Mo_putData_25 (by decide) ?_
      refine lv_topq (y := nI 15) (rfl) ?_
      refine lv_icmp_ne (tgt := 55) hx hb d_Mo_putData_27 (by decide) (fun c24 => ?_) (fun c24 => ?_)
      · refine lv_iload_n hx hb d_Mo_putData_55 rfl (lv_at hl 2 rfl) ?_
        refine lv_iconst (v := 2) hx hb d_Mo_putData_56 (by decide) ?_
        refine lv_topq (y := nI 2) (rfl) ?_
        refine lv_icmp_eq (tgt := 83) hx hb d_Mo_putData_57 (by decide) (fun c25 => ?_) (fun c25 => ?_)
        · exact absurd c25 (by decide)
        · refine lv_iload_n hx hb d_Mo_putData_60 rfl (lv_at hl 2 rfl) ?_
          refine lv_iconst (v := 5) hx hb d_Mo_putData_61 (by decide) ?_
          refine lv_topq (y := nI 5) (rfl) ?_
          refine lv_icmp_eq (tgt := 83) hx hb d_Mo_putData_62 (by decide) (fun c26 => ?_) (fun c26 => ?_)
          · exact absurd c26 (by decide)
          · refine lv_iload_n hx hb d_Mo_putData_65 rfl (lv_at hl 2 rfl) ?_
            refine lv_bipush (v := 12) hx hb d_Mo_putData_66 (by decide) ?_
            refine lv_topq (y := nI 12) (rfl) ?_
            refine lv_icmp_eq (tgt := 83) hx hb d_Mo_putData_68 (by decide) (fun c27 => ?_) (fun c27 => ?_)
            · refine lv_aload_n hx hb d_Mo_putData_83 rfl (lv_at hl 3 rfl) ?_
              refine lv_iload_n hx hb d_Mo_putData_84 rfl (lv_at hl 1 rfl) ?_
              refine lv_iconst (v := 1) hx hb d_Mo_putData_85 (by decide) ?_
              refine lv_topq (y := nI 1) (rfl) ?_
              refine mw_cV (ci := 7) (k := 33) C0 (m_Mo_putName l D9 cB cI cJ cG a O _ _ (fl es) hGl hGB X B E pt k1 (of9 es r + (eN e9).length) r1 hX hM h28 (by omega) hE9 h30 hW h29 n1 n2) g_918 g_8 g_915 g_917 gs_Mo_putName ⟨by decide +kernel, by decide +kernel, show Option.map (fun d => d.parameters.length) (parseMethodDescriptor y_Mo_putName.desc) = some 2 by decide +kernel⟩ ⟨by decide, by decide⟩ rfl rfl hP hD hS hA rfl ww_33 hl.1 (Nat.le_of_ble_eq_true rfl) rfl d_Mo_putData_86 ⟨by decide, by decide⟩ (fun v9 w9 H locs hq hP hD hS => ?_)
              obtain ⟨I28, F29, hw9, q30⟩ := hq
              subst hw9
              obtain ⟨rfl, sw1, x281, x301, x291, sW1, xM1, xE1⟩ := q30
              have ok1 := wN_ok (B := B) (pt := pt) n1 n2 hW
              obtain ⟨B1, E1, p1, hw1⟩ : ∃ B9 E9 p9, wN (fl es) k1 (of9 es r + (eN e9).length) B E pt = (B9, E9, p9) := ⟨_, _, _, rfl⟩
              rw [hw1] at x281 x301 x291 xM1 xE1 ok1
              obtain ⟨W1, ⟨Z1, hz1, hy1, hx1⟩, -⟩ := ok1
              have W1 : wW (fl es) B1 E1 := W1
              have hv1 : B1.length = B.length + Z1.length := (congrArg List.length hz1).trans List.length_append
              have xl31 : 12 + B1.length = (X ++ B1).length := xl_of hX
              refine lv_istore_n (lv' := [(3, _), (4, _), (2, _), (0, _), (1, _)]) hx hb d_Mo_putData_89 rfl hl (by decide) rfl (fun ls hl => ?_)
              refine lv_iload_n hx hb d_Mo_putData_90 rfl (lv_at hl 2 rfl) ?_
              refine lv_bipush (v := 6) hx hb d_Mo_putData_91 (by decide) ?_
              refine lv_topq (y := nI 6) (rfl) ?_
              refine lv_icmp_ne (tgt := 103) hx hb d_Mo_putData_93 (by decide) (fun c32 => ?_) (fun c32 => ?_)
              · refine lv_iload_n hx hb d_Mo_putData_103 rfl (lv_at hl 0 rfl) ?_
                refine lv_istore (lv' := [(5, _), (3, _), (4, _), (2, _), (0, _), (1, _)]) hx hb d_Mo_putData_104 hl (by decide) rfl (fun ls hl => ?_)
                have loopP : ∀ (nc : Nat) (j : Nat) (Ic : Nat → Int32) (Fc : Nat → Nat → Int32) (H : Heap) (locs : List Loc) (ls : Array Slot), (sm [28] I28 Ic) → (sm [44] F29 Fc) → (of9 es r + (eN e9).length + (eD e9).length - (r1 + 1) - j = nc) → (j ≤ of9 es r + (eN e9).length + (eD e9).length - (r1 + 1)) → (Ic 28 = nI (12 + (B1.length + j))) → (BR 0 131200 (Fc 44) (X ++ (B1 ++ sl9 (fl es) (r1 + 1) j))) → va_P D9 cls9 (WW a cB cI cJ cG Ic Fc O) H → va_D A0 (WW a cB cI cJ cG Ic Fc O) → va_S A0 s.heap H locs → lv_has ls 6 [(0, .ref (a 33)), (4, .int (nI (of9 es r + (eN e9).length + (eD e9).length))), (5, .int (nI (r1 + 1 + j)))] → W p l e (rm9 3 0 0) s m ([.ref (a 33), .int (nI r)] : List Value).toArray below meth c H locs 0 0 Q (F0 m 106 ls []) := by
                  intro nc
                  induction nc using Nat.strongRecOn with
                  | ind nc ihc =>
                    intro j Ic Fc H locs ls hsIc hsFc hnc hj kc hBc hP hD hS hl
                    have hXc : (X ++ (B1 ++ sl9 (fl es) (r1 + 1) j)).length = 12 + (B1.length + j) := by rw [List.length_append, List.length_append, hX, sl9_len (by omega)]
                    refine lv_iload hx hb d_Mo_putData_106 (lv_at hl 2 rfl) ?_
                    refine lv_iload hx hb d_Mo_putData_108 (lv_at hl 1 rfl) ?_
                    refine lv_icmp_ge (tgt := 130) hx hb d_Mo_putData_110 (by decide) (fun c33 => ?_) (fun c33 => ?_)
                    · have c33 : of9 es r + (eN e9).length + (eD e9).length ≤ r1 + 1 + j := (nI_leI (a := of9 es r + (eN e9).length + (eD e9).length) (b := r1 + 1 + j) (by omega) (by omega)).mp c33
                      have hjj : j = of9 es r + (eN e9).length + (eD e9).length - (r1 + 1) := by omega
                      rw [hjj] at kc hBc hXc
                      have hwx : wN (fl es) k1 (of9 es r + (eN e9).length + k_bf (eT e9)) (B ++ sl9 (fl es) (of9 es r + (eN e9).length) (k_bf (eT e9))) E pt = (B1, E1, p1) := by rw [hbf, sl9_0, List.append_nil]; exact hw1
                      have hnx9 : isN (fl es) k1 (of9 es r + (eN e9).length + k_bf (eT e9)) r1 := by rw [hbf]; exact n1
                      have hkx : k_nm (eT e9) = 1 := by rw [hty]; decide
                      exact hret _ _ _ _ _ _ hS hP hD d_Mo_putData_130 (by rw [wD_1 hsh hnx9 n2 hkx hwx]; exact ⟨rfl, (sm_tr (sm_mo sw1 (by decide)) (sm_mo hsIc (by decide))), (by rw [List.length_append, sl9_len (by omega)]; exact kc), ((hsIc 30 (by decide)).trans x301), ((hsIc 29 (by decide)).trans x291), (sm_tr (sm_mo sW1 (by decide)) (sm_mo hsFc (by decide))), hBc, (MeR_sm xE1 (hsFc 45 (by decide)) (hsFc 46 (by decide)))⟩)
                    · have c33 : ¬ (of9 es r + (eN e9).length + (eD e9).length ≤ r1 + 1 + j) := fun z9 => c33 ((nI_leI (a := of9 es r + (eN e9).length + (eD e9).length) (b := r1 + 1 + j) (by omega) (by omega)).mpr z9)
                      refine lv_aload_n hx hb d_Mo_putData_113 rfl (lv_at hl 0 rfl) ?_
                      refine lv_aload_n hx hb d_Mo_putData_114 rfl (lv_at hl 0 rfl) ?_
                      refine va_get (D := D9) (ci := 7) (C := R_Mo) (T := F_Mo) (N := 30) hx hb hts i_Mo hown hK hP 33 ww_33 rfl 3 (by decide) (hts _ g_725) (fun _ h9 => h9) rfl d_Mo_putData_115 ?_
                      refine lv_iload hx hb d_Mo_putData_118 (lv_at hl 2 rfl) ?_
                      refine va_bald (D := D9) hx hb hK hP 35 0 ww_35 rfl (vp_in_nI (by omega) (by decide)) d_Mo_putData_120 ?_
                      refine lv_topq (y := F 35 (r1 + 1 + j)) (by rw [nI_clamp (by omega)]; exact ((congrFun (hsFc 35 (by decide)) _).trans ((congrFun (sW1 35 (by decide)) _).trans rfl))) ?_
                      refine mw_cV (ci := 7) (k := 33) C0 (m_Mo_put l D9 cB cI cJ cG a O _ _ (X ++ (B1 ++ sl9 (fl es) (r1 + 1) j)) (F 35 (r1 + 1 + j)) hBc (kc.trans (congrArg nI hXc.symm)) (by omega)) g_930 g_8 g_927 g_929 gs_Mo_put ⟨by decide +kernel, by decide +kernel, show Option.map (fun d => d.parameters.length) (parseMethodDescriptor y_Mo_put.desc) = some 1 by decide +kernel⟩ ⟨by decide, by decide⟩ rfl rfl hP hD hS hA rfl ww_33 hl.1 (Nat.le_of_ble_eq_true rfl) rfl d_Mo_putData_121 ⟨by decide, by decide⟩ (fun v9 w9 H locs hq hP hD hS => ?_)
                      obtain ⟨I34, F35, hw9, q36⟩ := hq
                      subst hw9
                      obtain ⟨rfl, sp9, z9, sq9, w9⟩ := q36
                      refine lv_iinc (lv' := [(5, .int (nI (r1 + 1 + j + 1))), (0, _), (4, _)]) hx hb d_Mo_putData_124 hl (k := 2) rfl (nI_add _ 1) (by decide) rfl (fun ls hl => ?_)
                      refine lv_goto (tgt := 106) hx hb d_Mo_putData_127 (by decide) ?_
                      have hsb := sl9_b (t := fl es) (p := r1 + 1) (k := j) (x := F 35 (r1 + 1 + j)) (v := 0) (by omega) (BR_tb hGB (by omega) (by omega) (by omega))
                      rw [show r1 + 1 + j + 1 = r1 + 1 + (j + 1) by omega] at hl
                      exact ihc _ (by omega) (j + 1) _ _ _ _ _ (sm_tr (sm_mo hsIc (by decide)) (sm_mo sp9 (by decide))) (sm_tr (sm_mo hsFc (by decide)) (sm_mo sq9 (by decide))) rfl (by omega) (by rw [z9, hXc]; exact congrArg nI (by omega)) (by rw [← hsb, ← List.append_assoc, ← List.append_assoc]; rw [← List.append_assoc] at w9; exact w9) hP hD hS (lv_pk hl [1, 2, 0] rfl)
                exact loopP _ 0 _ _ _ _ _ sm_rf sm_rf rfl (Nat.zero_le _) x281 (by rw [sl9_0, List.append_nil]; exact xM1) hP hD hS (lv_pk hl [4, 2, 0] rfl)
              · exact absurd c32 (by decide)
            · exact absurd c27 (by decide)
      · exact absurd c24 (by decide)
    · have ht9 : nI (eT e9) = nI 15 := by rw [hty]
      rw [ht9] at hl
      have hbf : k_bf (eT e9) = 2 := by rw [hty]; decide
      rw [hbf] at n1
      have hbd1 : of9 es r + (eN e9).length + 2 + 1 ≤ r1 + 1 := by omega
      refine lv_iload_n hx hb d_Mo_putData_24 rfl (lv_at hl 2 rfl) ?_
      refine lv_bipush (v := 15) hx hb d_Mo_putData_25 (by decide) ?_
      refine lv_topq (y := nI 15) (rfl) ?_
      refine lv_icmp_ne (tgt := 55) hx hb d_Mo_putData_27 (by decide) (fun c37 => ?_) (fun c37 => ?_)
      · exact absurd c37 (by decide)
      · refine lv_aload_n hx hb d_Mo_putData_30 rfl (lv_at hl 3 rfl) ?_
        refine lv_aload_n hx hb d_Mo_putData_31 rfl (lv_at hl 3 rfl) ?_
        refine va_get (D := D9) (ci := 7) (C := R_Mo) (T := F_Mo) (N := 30) hx hb hts i_Mo hown hK hP 33 ww_33 rfl 3 (by decide) (hts _ g_725) (fun _ h9 => h9) rfl d_Mo_putData_32 ?_
        refine lv_iload_n hx hb d_Mo_putData_35 rfl (lv_at hl 1 rfl) ?_
        refine va_bald (D := D9) hx hb hK hP 35 0 ww_35 rfl (vp_in_nI (by omega) (by decide)) d_Mo_putData_36 ?_
        refine lv_topq (y := F 35 (of9 es r + (eN e9).length)) ((by rw [nI_clamp (by omega)])) ?_
        refine mw_cV (ci := 7) (k := 33) C0 (m_Mo_put l D9 cB cI cJ cG a O _ _ (X ++ B) (F 35 (of9 es r + (eN e9).length)) hM (h28.trans (congrArg nI xl0)) (by rw [← xl0]; omega)) g_930 g_8 g_927 g_929 gs_Mo_put ⟨by decide +kernel, by decide +kernel, show Option.map (fun d => d.parameters.length) (parseMethodDescriptor y_Mo_put.desc) = some 1 by decide +kernel⟩ ⟨by decide, by decide⟩ rfl rfl hP hD hS hA rfl ww_33 hl.1 (Nat.le_of_ble_eq_true rfl) rfl d_Mo_putData_37 ⟨by decide, by decide⟩ (fun v9 w9 H locs hq hP hD hS => ?_)
        obtain ⟨I38, F39, hw9, q40⟩ := hq
        subst hw9
        obtain ⟨rfl, sp38, yl38, sq38, ym38⟩ := q40
        rw [List.append_assoc] at ym38
        have hq38 : (B ++ [ub (F 35 (of9 es r + (eN e9).length))]).length = B.length + 1 := by rw [List.length_append]; rfl
        have yl38 : I38 28 = nI (12 + (B ++ [ub (F 35 (of9 es r + (eN e9).length))]).length) := yl38.trans (congrArg nI (by rw [← xl0, hq38]; omega))
        have xl41 : 12 + (B ++ [ub (F 35 (of9 es r + (eN e9).length))]).length = (X ++ (B ++ [ub (F 35 (of9 es r + (eN e9).length))])).length := xl_of hX
        refine lv_aload_n hx hb d_Mo_putData_40 rfl (lv_at hl 3 rfl) ?_
        refine lv_aload_n hx hb d_Mo_putData_41 rfl (lv_at hl 3 rfl) ?_
        refine va_get (D := D9) (ci := 7) (C := R_Mo) (T := F_Mo) (N := 30) hx hb hts i_Mo hown hK hP 33 ww_33 rfl 3 (by decide) (hts _ g_725) (fun _ h9 => h9) rfl d_Mo_putData_42 ?_
        refine lv_iload_n hx hb d_Mo_putData_45 rfl (lv_at hl 1 rfl) ?_
        refine lv_iconst (v := 1) hx hb d_Mo_putData_46 (by decide) ?_
        refine lv_topq (y := nI 1) (rfl) ?_
        refine lv_iadd hx hb d_Mo_putData_47 ?_
        refine lv_topq (y := nI (of9 es r + (eN e9).length + 1)) (nI_add _ _) ?_
        refine va_bald (D := D9) hx hb hK hP 35 0 ww_35 rfl (vp_in_nI (by omega) (by decide)) d_Mo_putData_48 ?_
        refine lv_topq (y := F 35 (of9 es r + (eN e9).length + 1)) (by rw [nI_clamp (by omega)]; exact ((congrFun (sq38 35 (by decide)) _).trans rfl)) ?_
        refine mw_cV (ci := 7) (k := 33) C0 (m_Mo_put l D9 cB cI cJ cG a O _ _ (X ++ (B ++ [ub (F 35 (of9 es r + (eN e9).length))])) (F 35 (of9 es r + (eN e9).length + 1)) ym38 (yl38.trans (congrArg nI xl41)) (by rw [← xl41]; omega)) g_930 g_8 g_927 g_929 gs_Mo_put ⟨by decide +kernel, by decide +kernel, show Option.map (fun d => d.parameters.length) (parseMethodDescriptor y_Mo_put.desc) = some 1 by decide +kernel⟩ ⟨by decide, by decide⟩ rfl rfl hP hD hS hA rfl ww_33 hl.1 (Nat.le_of_ble_eq_true rfl) rfl d_Mo_putData_49 ⟨by decide, by decide⟩ (fun v9 w9 H locs hq hP hD hS => ?_)
        obtain ⟨I42, F43, hw9, q44⟩ := hq
        subst hw9
        obtain ⟨rfl, sp42, yl42, sq42, ym42⟩ := q44
        rw [List.append_assoc] at ym42
        have hq42 : (B ++ [ub (F 35 (of9 es r + (eN e9).length))] ++ [ub (F 35 (of9 es r + (eN e9).length + 1))]).length = (B ++ [ub (F 35 (of9 es r + (eN e9).length))]).length + 1 := by rw [List.length_append]; rfl
        have yl42 : I42 28 = nI (12 + (B ++ [ub (F 35 (of9 es r + (eN e9).length))] ++ [ub (F 35 (of9 es r + (eN e9).length + 1))]).length) := yl42.trans (congrArg nI (by rw [← xl41, hq42]; omega))
        have xl45 : 12 + (B ++ [ub (F 35 (of9 es r + (eN e9).length))] ++ [ub (F 35 (of9 es r + (eN e9).length + 1))]).length = (X ++ (B ++ [ub (F 35 (of9 es r + (eN e9).length))] ++ [ub (F 35 (of9 es r + (eN e9).length + 1))])).length := xl_of hX
        refine lv_iinc (lv' := [(3, .int (nI (of9 es r + (eN e9).length + 2))), (4, _), (2, _), (0, _), (1, _)]) hx hb d_Mo_putData_52 hl (k := 1) rfl (nI_add _ 2) (by decide) rfl (fun ls hl => ?_)
        refine lv_iload_n hx hb d_Mo_putData_55 rfl (lv_at hl 2 rfl) ?_
        refine lv_iconst (v := 2) hx hb d_Mo_putData_56 (by decide) ?_
        refine lv_topq (y := nI 2) (rfl) ?_
        refine lv_icmp_eq (tgt := 83) hx hb d_Mo_putData_57 (by decide) (fun c46 => ?_) (fun c46 => ?_)
        · exact absurd c46 (by decide)
        · refine lv_iload_n hx hb d_Mo_putData_60 rfl (lv_at hl 2 rfl) ?_
          refine lv_iconst (v := 5) hx hb d_Mo_putData_61 (by decide) ?_
          refine lv_topq (y := nI 5) (rfl) ?_
          refine lv_icmp_eq (tgt := 83) hx hb d_Mo_putData_62 (by decide) (fun c47 => ?_) (fun c47 => ?_)
          · exact absurd c47 (by decide)
          · refine lv_iload_n hx hb d_Mo_putData_65 rfl (lv_at hl 2 rfl) ?_
            refine lv_bipush (v := 12) hx hb d_Mo_putData_66 (by decide) ?_
            refine lv_topq (y := nI 12) (rfl) ?_
            refine lv_icmp_eq (tgt := 83) hx hb d_Mo_putData_68 (by decide) (fun c48 => ?_) (fun c48 => ?_)
            · exact absurd c48 (by decide)
            · refine lv_iload_n hx hb d_Mo_putData_71 rfl (lv_at hl 2 rfl) ?_
              refine lv_bipush (v := 15) hx hb d_Mo_putData_72 (by decide) ?_
              refine lv_topq (y := nI 15) (rfl) ?_
              refine lv_icmp_eq (tgt := 83) hx hb d_Mo_putData_74 (by decide) (fun c49 => ?_) (fun c49 => ?_)
              · refine lv_aload_n hx hb d_Mo_putData_83 rfl (lv_at hl 3 rfl) ?_
                refine lv_iload_n hx hb d_Mo_putData_84 rfl (lv_at hl 0 rfl) ?_
                refine lv_iconst (v := 1) hx hb d_Mo_putData_85 (by decide) ?_
                refine lv_topq (y := nI 1) (rfl) ?_
                have hB15 : B ++ [ub (F 35 (of9 es r + (eN e9).length))] ++ [ub (F 35 (of9 es r + (eN e9).length + 1))] = B ++ sl9 (fl es) (of9 es r + (eN e9).length) 2 := by rw [sl9_2 (by omega) (BR_tb hGB (by omega) (by omega) (by omega)) (BR_tb hGB (by omega) (by omega) (by omega)), List.append_assoc]
                refine mw_cV (ci := 7) (k := 33) C0 (m_Mo_putName l D9 cB cI cJ cG a O _ _ (fl es) hGl (BR_eq hGB ((sq42 35 (by decide)).trans (sq38 35 (by decide)))) X (B ++ [ub (F 35 (of9 es r + (eN e9).length))] ++ [ub (F 35 (of9 es r + (eN e9).length + 1))]) E pt k1 (of9 es r + (eN e9).length + 2) r1 hX ym42 yl42 (by omega) (MeR_sm hE9 ((sq42 45 (by decide)).trans (sq38 45 (by decide))) ((sq42 46 (by decide)).trans (sq38 46 (by decide)))) ((sp42 30 (by decide)).trans ((sp38 30 (by decide)).trans h30)) (wW_more (wW_more hW)) ((sp42 29 (by decide)).trans ((sp38 29 (by decide)).trans h29)) n1 n2) g_918 g_8 g_915 g_917 gs_Mo_putName ⟨by decide +kernel, by decide +kernel, show Option.map (fun d => d.parameters.length) (parseMethodDescriptor y_Mo_putName.desc) = some 2 by decide +kernel⟩ ⟨by decide, by decide⟩ rfl rfl hP hD hS hA rfl ww_33 hl.1 (Nat.le_of_ble_eq_true rfl) rfl d_Mo_putData_86 ⟨by decide, by decide⟩ (fun v9 w9 H locs hq hP hD hS => ?_)
                obtain ⟨I50, F51, hw9, q52⟩ := hq
                subst hw9
                obtain ⟨rfl, sw1, x281, x301, x291, sW1, xM1, xE1⟩ := q52
                have ok1 := wN_ok (B := B ++ [ub (F 35 (of9 es r + (eN e9).length))] ++ [ub (F 35 (of9 es r + (eN e9).length + 1))]) (pt := pt) n1 n2 (wW_more (wW_more hW))
                obtain ⟨B1, E1, p1, hw1⟩ : ∃ B9 E9 p9, wN (fl es) k1 (of9 es r + (eN e9).length + 2) (B ++ [ub (F 35 (of9 es r + (eN e9).length))] ++ [ub (F 35 (of9 es r + (eN e9).length + 1))]) E pt = (B9, E9, p9) := ⟨_, _, _, rfl⟩
                rw [hw1] at x281 x301 x291 xM1 xE1 ok1
                obtain ⟨W1, ⟨Z1, hz1, hy1, hx1⟩, -⟩ := ok1
                have W1 : wW (fl es) B1 E1 := W1
                have hv1 : B1.length = (B ++ [ub (F 35 (of9 es r + (eN e9).length))] ++ [ub (F 35 (of9 es r + (eN e9).length + 1))]).length + Z1.length := (congrArg List.length hz1).trans List.length_append
                have xl53 : 12 + B1.length = (X ++ B1).length := xl_of hX
                refine lv_istore_n (lv' := [(3, _), (4, _), (2, _), (0, _), (1, _)]) hx hb d_Mo_putData_89 rfl hl (by decide) rfl (fun ls hl => ?_)
                refine lv_iload_n hx hb d_Mo_putData_90 rfl (lv_at hl 2 rfl) ?_
                refine lv_bipush (v := 6) hx hb d_Mo_putData_91 (by decide) ?_
                refine lv_topq (y := nI 6) (rfl) ?_
                refine lv_icmp_ne (tgt := 103) hx hb d_Mo_putData_93 (by decide) (fun c54 => ?_) (fun c54 => ?_)
                · refine lv_iload_n hx hb d_Mo_putData_103 rfl (lv_at hl 0 rfl) ?_
                  refine lv_istore (lv' := [(5, _), (3, _), (4, _), (2, _), (0, _), (1, _)]) hx hb d_Mo_putData_104 hl (by decide) rfl (fun ls hl => ?_)
                  have loopP : ∀ (nc : Nat) (j : Nat) (Ic : Nat → Int32) (Fc : Nat → Nat → Int32) (H : Heap) (locs : List Loc) (ls : Array Slot), (sm [28] I50 Ic) → (sm [44] F51 Fc) → (of9 es r + (eN e9).length + (eD e9).length - (r1 + 1) - j = nc) → (j ≤ of9 es r + (eN e9).length + (eD e9).length - (r1 + 1)) → (Ic 28 = nI (12 + (B1.length + j))) → (BR 0 131200 (Fc 44) (X ++ (B1 ++ sl9 (fl es) (r1 + 1) j))) → va_P D9 cls9 (WW a cB cI cJ cG Ic Fc O) H → va_D A0 (WW a cB cI cJ cG Ic Fc O) → va_S A0 s.heap H locs → lv_has ls 6 [(0, .ref (a 33)), (4, .int (nI (of9 es r + (eN e9).length + (eD e9).length))), (5, .int (nI (r1 + 1 + j)))] → W p l e (rm9 3 0 0) s m ([.ref (a 33), .int (nI r)] : List Value).toArray below meth c H locs 0 0 Q (F0 m 106 ls []) := by
                    intro nc
                    induction nc using Nat.strongRecOn with
                    | ind nc ihc =>
                      intro j Ic Fc H locs ls hsIc hsFc hnc hj kc hBc hP hD hS hl
                      have hXc : (X ++ (B1 ++ sl9 (fl es) (r1 + 1) j)).length = 12 + (B1.length + j) := by rw [List.length_append, List.length_append, hX, sl9_len (by omega)]
                      refine lv_iload hx hb d_Mo_putData_106 (lv_at hl 2 rfl) ?_
                      refine lv_iload hx hb d_Mo_putData_108 (lv_at hl 1 rfl) ?_
                      refine lv_icmp_ge (tgt := 130) hx hb d_Mo_putData_110 (by decide) (fun c55 => ?_) (fun c55 => ?_)
                      · have c55 : of9 es r + (eN e9).length + (eD e9).length ≤ r1 + 1 + j := (nI_leI (a := of9 es r + (eN e9).length + (eD e9).length) (b := r1 + 1 + j) (by omega) (by omega)).mp c55
                        have hjj : j = of9 es r + (eN e9).length + (eD e9).length - (r1 + 1) := by omega
                        rw [hjj] at kc hBc hXc
                        have hwx : wN (fl es) k1 (of9 es r + (eN e9).length + k_bf (eT e9)) (B ++ sl9 (fl es) (of9 es r + (eN e9).length) (k_bf (eT e9))) E pt = (B1, E1, p1) := by rw [hbf, ← hB15]; exact hw1
                        have hnx9 : isN (fl es) k1 (of9 es r + (eN e9).length + k_bf (eT e9)) r1 := by rw [hbf]; exact n1
                        have hkx : k_nm (eT e9) = 1 := by rw [hty]; decide
                        exact hret _ _ _ _ _ _ hS hP hD d_Mo_putData_130 (by rw [wD_1 hsh hnx9 n2 hkx hwx]; exact ⟨rfl, (sm_tr (sm_tr (sm_tr (sm_mo sp38 (by decide)) (sm_mo sp42 (by decide))) (sm_mo sw1 (by decide))) (sm_mo hsIc (by decide))), (by rw [List.length_append, sl9_len (by omega)]; exact kc), ((hsIc 30 (by decide)).trans x301), ((hsIc 29 (by decide)).trans x291), (sm_tr (sm_tr (sm_tr (sm_mo sq38 (by decide)) (sm_mo sq42 (by decide))) (sm_mo sW1 (by decide))) (sm_mo hsFc (by decide))), hBc, (MeR_sm xE1 (hsFc 45 (by decide)) (hsFc 46 (by decide)))⟩)
                      · have c55 : ¬ (of9 es r + (eN e9).length + (eD e9).length ≤ r1 + 1 + j) := fun z9 => c55 ((nI_leI (a := of9 es r + (eN e9).length + (eD e9).length) (b := r1 + 1 + j) (by omega) (by omega)).mpr z9)
                        refine lv_aload_n hx hb d_Mo_putData_113 rfl (lv_at hl 0 rfl) ?_
                        refine lv_aload_n hx hb d_Mo_putData_114 rfl (lv_at hl 0 rfl) ?_
                        refine va_get (D := D9) (ci := 7) (C := R_Mo) (T := F_Mo) (N := 30) hx hb hts i_Mo hown hK hP 33 ww_33 rfl 3 (by decide) (hts _ g_725) (fun _ h9 => h9) rfl d_Mo_putData_115 ?_
                        refine lv_iload hx hb d_Mo_putData_118 (lv_at hl 2 rfl) ?_
                        refine va_bald (D := D9) hx hb hK hP 35 0 ww_35 rfl (vp_in_nI (by omega) (by decide)) d_Mo_putData_120 ?_
                        refine lv_topq (y := F 35 (r1 + 1 + j)) (by rw [nI_clamp (by omega)]; exact ((congrFun (hsFc 35 (by decide)) _).trans ((congrFun (sW1 35 (by decide)) _).trans ((congrFun (sq42 35 (by decide)) _).trans ((congrFun (sq38 35 (by decide)) _).trans rfl))))) ?_
                        refine mw_cV (ci := 7) (k := 33) C0 (m_Mo_put l D9 cB cI cJ cG a O _ _ (X ++ (B1 ++ sl9 (fl es) (r1 + 1) j)) (F 35 (r1 + 1 + j)) hBc (kc.trans (congrArg nI hXc.symm)) (by omega)) g_930 g_8 g_927 g_929 gs_Mo_put ⟨by decide +kernel, by decide +kernel, show Option.map (fun d => d.parameters.length) (parseMethodDescriptor y_Mo_put.desc) = some 1 by decide +kernel⟩ ⟨by decide, by decide⟩ rfl rfl hP hD hS hA rfl ww_33 hl.1 (Nat.le_of_ble_eq_true rfl) rfl d_Mo_putData_121 ⟨by decide, by decide⟩ (fun v9 w9 H locs hq hP hD hS => ?_)
                        obtain ⟨I56, F57, hw9, q58⟩ := hq
                        subst hw9
                        obtain ⟨rfl, sp9, z9, sq9, w9⟩ := q58
                        refine lv_iinc (lv' := [(5, .int (nI (r1 + 1 + j + 1))), (0, _), (4, _)]) hx hb d_Mo_putData_124 hl (k := 2) rfl (nI_add _ 1) (by decide) rfl (fun ls hl => ?_)
                        refine lv_goto (tgt := 106) hx hb d_Mo_putData_127 (by decide) ?_
                        have hsb := sl9_b (t := fl es) (p := r1 + 1) (k := j) (x := F 35 (r1 + 1 + j)) (v := 0) (by omega) (BR_tb hGB (by omega) (by omega) (by omega))
                        rw [show r1 + 1 + j + 1 = r1 + 1 + (j + 1) by omega] at hl
                        exact ihc _ (by omega) (j + 1) _ _ _ _ _ (sm_tr (sm_mo hsIc (by decide)) (sm_mo sp9 (by decide))) (sm_tr (sm_mo hsFc (by decide)) (sm_mo sq9 (by decide))) rfl (by omega) (by rw [z9, hXc]; exact congrArg nI (by omega)) (by rw [← hsb, ← List.append_assoc, ← List.append_assoc]; rw [← List.append_assoc] at w9; exact w9) hP hD hS (lv_pk hl [1, 2, 0] rfl)
                  exact loopP _ 0 _ _ _ _ _ sm_rf sm_rf rfl (Nat.zero_le _) x281 (by rw [sl9_0, List.append_nil]; exact xM1) hP hD hS (lv_pk hl [4, 2, 0] rfl)
                · exact absurd c54 (by decide)
              · exact absurd c49 (by decide)
    · have ht9 : nI (eT e9) = nI 6 := by rw [hty]
      rw [ht9] at hl
      have hbf : k_bf (eT e9) = 0 := by rw [hty]; decide
      rw [hbf, Nat.add_zero] at n1
      obtain ⟨k2, r2, m1, m2, m3⟩ := n4 (by rw [hty]; decide)
      have nr2 := isN_r m1
      have hbd1 : of9 es r + (eN e9).length + 0 + 1 ≤ r1 + 1 := by omega
      refine lv_iload_n hx hb d_Mo_putData_24 rfl (lv_at hl 2 rfl) ?_
      refine lv_bipush (v := 15) hx hb d_Mo_putData_25 (by decide) ?_
      refine lv_topq (y := nI 15) (rfl) ?_
      refine lv_icmp_ne (tgt := 55) hx hb d_Mo_putData_27 (by decide) (fun c59 => ?_) (fun c59 => ?_)
      · refine lv_iload_n hx hb d_Mo_putData_55 rfl (lv_at hl 2 rfl) ?_
        refine lv_iconst (v := 2) hx hb d_Mo_putData_56 (by decide) ?_
        refine lv_topq (y := nI 2) (rfl) ?_
        refine lv_icmp_eq (tgt := 83) hx hb d_Mo_putData_57 (by decide) (fun c60 => ?_) (fun c60 => ?_)
        · exact absurd c60 (by decide)
        · refine lv_iload_n hx hb d_Mo_putData_60 rfl (lv_at hl 2 rfl) ?_
          refine lv_iconst (v := 5) hx hb d_Mo_putData_61 (by decide) ?_
          refine lv_topq (y := nI 5) (rfl) ?_
          refine lv_icmp_eq (tgt := 83) hx hb d_Mo_putData_62 (by decide) (fun c61 => ?_) (fun c61 => ?_)
          · exact absurd c61 (by decide)
          · refine lv_iload_n hx hb d_Mo_putData_65 rfl (lv_at hl 2 rfl) ?_
            refine lv_bipush (v := 12) hx hb d_Mo_putData_66 (by decide) ?_
            refine lv_topq (y := nI 12) (rfl) ?_
            refine lv_icmp_eq (tgt := 83) hx hb d_Mo_putData_68 (by decide) (fun c62 => ?_) (fun c62 => ?_)
            · exact absurd c62 (by decide)
            · refine lv_iload_n hx hb d_Mo_putData_71 rfl (lv_at hl 2 rfl) ?_
              refine lv_bipush (v := 15) hx hb d_Mo_putData_72 (by decide) ?_
              refine lv_topq (y := nI 15) (rfl) ?_
              refine lv_icmp_eq (tgt := 83) hx hb d_Mo_putData_74 (by decide) (fun c63 => ?_) (fun c63 => ?_)
              · exact absurd c63 (by decide)
              · refine lv_iload_n hx hb d_Mo_putData_77 rfl (lv_at hl 2 rfl) ?_
                refine lv_bipush (v := 6) hx hb d_Mo_putData_78 (by decide) ?_
                refine lv_topq (y := nI 6) (rfl) ?_
                refine lv_icmp_ne (tgt := 90) hx hb d_Mo_putData_80 (by decide) (fun c64 => ?_) (fun c64 => ?_)
                · exact absurd c64 (by decide)
                · refine lv_aload_n hx hb d_Mo_putData_83 rfl (lv_at hl 3 rfl) ?_
                  refine lv_iload_n hx hb d_Mo_putData_84 rfl (lv_at hl 1 rfl) ?_
                  refine lv_iconst (v := 1) hx hb d_Mo_putData_85 (by decide) ?_
                  refine lv_topq (y := nI 1) (rfl) ?_
                  refine mw_cV (ci := 7) (k := 33) C0 (m_Mo_putName l D9 cB cI cJ cG a O _ _ (fl es) hGl hGB X B E pt k1 (of9 es r + (eN e9).length) r1 hX hM h28 (by omega) hE9 h30 hW h29 n1 n2) g_918 g_8 g_915 g_917 gs_Mo_putName ⟨by decide +kernel, by decide +kernel, show Option.map (fun d => d.parameters.length) (parseMethodDescriptor y_Mo_putName.desc) = some 2 by decide +kernel⟩ ⟨by decide, by decide⟩ rfl rfl hP hD hS hA rfl ww_33 hl.1 (Nat.le_of_ble_eq_true rfl) rfl d_Mo_putData_86 ⟨by decide, by decide⟩ (fun v9 w9 H locs hq hP hD hS => ?_)
                  obtain ⟨I65, F66, hw9, q67⟩ := hq
                  subst hw9
                  obtain ⟨rfl, sw1, x281, x301, x291, sW1, xM1, xE1⟩ := q67
                  have ok1 := wN_ok (B := B) (pt := pt) n1 n2 hW
                  obtain ⟨B1, E1, p1, hw1⟩ : ∃ B9 E9 p9, wN (fl es) k1 (of9 es r + (eN e9).length) B E pt = (B9, E9, p9) := ⟨_, _, _, rfl⟩
                  rw [hw1] at x281 x301 x291 xM1 xE1 ok1
                  obtain ⟨W1, ⟨Z1, hz1, hy1, hx1⟩, -⟩ := ok1
                  have W1 : wW (fl es) B1 E1 := W1
                  have hv1 : B1.length = B.length + Z1.length := (congrArg List.length hz1).trans List.length_append
                  have xl68 : 12 + B1.length = (X ++ B1).length := xl_of hX
                  refine lv_istore_n (lv' := [(3, _), (4, _), (2, _), (0, _), (1, _)]) hx hb d_Mo_putData_89 rfl hl (by decide) rfl (fun ls hl => ?_)
                  refine lv_iload_n hx hb d_Mo_putData_90 rfl (lv_at hl 2 rfl) ?_
                  refine lv_bipush (v := 6) hx hb d_Mo_putData_91 (by decide) ?_
                  refine lv_topq (y := nI 6) (rfl) ?_
                  refine lv_icmp_ne (tgt := 103) hx hb d_Mo_putData_93 (by decide) (fun c69 => ?_) (fun c69 => ?_)
                  · exact absurd c69 (by decide)
                  · refine lv_aload_n hx hb d_Mo_putData_96 rfl (lv_at hl 3 rfl) ?_
                    refine lv_iload_n hx hb d_Mo_putData_97 rfl (lv_at hl 0 rfl) ?_
                    refine lv_iconst (v := 1) hx hb d_Mo_putData_98 (by decide) ?_
                    refine lv_topq (y := nI 1) (rfl) ?_
                    refine mw_cV (ci := 7) (k := 33) C0 (m_Mo_putName l D9 cB cI cJ cG a O _ _ (fl es) hGl (BR_eq hGB (sW1 35 (by decide))) X B1 E1 p1 k2 (r1 + 1) r2 hX xM1 x281 (by omega) xE1 x301 W1 x291 m1 m2) g_918 g_8 g_915 g_917 gs_Mo_putName ⟨by decide +kernel, by decide +kernel, show Option.map (fun d => d.parameters.length) (parseMethodDescriptor y_Mo_putName.desc) = some 2 by decide +kernel⟩ ⟨by decide, by decide⟩ rfl rfl hP hD hS hA rfl ww_33 hl.1 (Nat.le_of_ble_eq_true rfl) rfl d_Mo_putData_99 ⟨by decide, by decide⟩ (fun v9 w9 H locs hq hP hD hS => ?_)
                    obtain ⟨I70, F71, hw9, q72⟩ := hq
                    subst hw9
                    obtain ⟨rfl, sw2, x282, x302, x292, sW2, xM2, xE2⟩ := q72
                    have ok2 := wN_ok (B := B1) (pt := p1) m1 m2 W1
                    obtain ⟨B2, E2, p2, hw2⟩ : ∃ B9 E9 p9, wN (fl es) k2 (r1 + 1) B1 E1 p1 = (B9, E9, p9) := ⟨_, _, _, rfl⟩
                    rw [hw2] at x282 x302 x292 xM2 xE2 ok2
                    obtain ⟨W2, ⟨Z2, hz2, hy2, hx2⟩, -⟩ := ok2
                    have W2 : wW (fl es) B2 E2 := W2
                    have hv2 : B2.length = B1.length + Z2.length := (congrArg List.length hz2).trans List.length_append
                    have xl73 : 12 + B2.length = (X ++ B2).length := xl_of hX
                    refine lv_istore_n (lv' := [(3, _), (4, _), (2, _), (0, _), (1, _)]) hx hb d_Mo_putData_102 rfl hl (by decide) rfl (fun ls hl => ?_)
                    refine lv_iload_n hx hb d_Mo_putData_103 rfl (lv_at hl 0 rfl) ?_
                    refine lv_istore (lv' := [(5, _), (3, _), (4, _), (2, _), (0, _), (1, _)]) hx hb d_Mo_putData_104 hl (by decide) rfl (fun ls hl => ?_)
                    have loopP : ∀ (nc : Nat) (j : Nat) (Ic : Nat → Int32) (Fc : Nat → Nat → Int32) (H : Heap) (locs : List Loc) (ls : Array Slot), (sm [28] I70 Ic) → (sm [44] F71 Fc) → (of9 es r + (eN e9).length + (eD e9).length - (r2 + 1) - j = nc) → (j ≤ of9 es r + (eN e9).length + (eD e9).length - (r2 + 1)) → (Ic 28 = nI (12 + (B2.length + j))) → (BR 0 131200 (Fc 44) (X ++ (B2 ++ sl9 (fl es) (r2 + 1) j))) → va_P D9 cls9 (WW a cB cI cJ cG Ic Fc O) H → va_D A0 (WW a cB cI cJ cG Ic Fc O) → va_S A0 s.heap H locs → lv_has ls 6 [(0, .ref (a 33)), (4, .int (nI (of9 es r + (eN e9).length + (eD e9).length))), (5, .int (nI (r2 + 1 + j)))] → W p l e (rm9 3 0 0) s m ([.ref (a 33), .int (nI r)] : List Value).toArray below meth c H locs 0 0 Q (F0 m 106 ls []) := by
                      intro nc
                      induction nc using Nat.strongRecOn with
                      | ind nc ihc =>
                        intro j Ic Fc H locs ls hsIc hsFc hnc hj kc hBc hP hD hS hl
                        have hXc : (X ++ (B2 ++ sl9 (fl es) (r2 + 1) j)).length = 12 + (B2.length + j) := by rw [List.length_append, List.length_append, hX, sl9_len (by omega)]
                        refine lv_iload hx hb d_Mo_putData_106 (lv_at hl 2 rfl) ?_
                        refine lv_iload hx hb d_Mo_putData_108 (lv_at hl 1 rfl) ?_
                        refine lv_icmp_ge (tgt := 130) hx hb d_Mo_putData_110 (by decide) (fun c74 => ?_) (fun c74 => ?_)
                        · have c74 : of9 es r + (eN e9).length + (eD e9).length ≤ r2 + 1 + j := (nI_leI (a := of9 es r + (eN e9).length + (eD e9).length) (b := r2 + 1 + j) (by omega) (by omega)).mp c74
                          have hjj : j = of9 es r + (eN e9).length + (eD e9).length - (r2 + 1) := by omega
                          rw [hjj] at kc hBc hXc
                          have hwx : wN (fl es) k1 (of9 es r + (eN e9).length + k_bf (eT e9)) (B ++ sl9 (fl es) (of9 es r + (eN e9).length) (k_bf (eT e9))) E pt = (B1, E1, p1) := by rw [hbf, sl9_0, List.append_nil]; exact hw1
                          have hnx9 : isN (fl es) k1 (of9 es r + (eN e9).length + k_bf (eT e9)) r1 := by rw [hbf]; exact n1
                          have hkx : k_nm (eT e9) = 2 := by rw [hty]; decide
                          exact hret _ _ _ _ _ _ hS hP hD d_Mo_putData_130 (by rw [wD_2 hsh hnx9 n2 hkx hwx m1 m2 hw2]; exact ⟨rfl, (sm_tr (sm_tr (sm_mo sw1 (by decide)) (sm_mo sw2 (by decide))) (sm_mo hsIc (by decide))), (by rw [List.length_append, sl9_len (by omega)]; exact kc), ((hsIc 30 (by decide)).trans x302), ((hsIc 29 (by decide)).trans x292), (sm_tr (sm_tr (sm_mo sW1 (by decide)) (sm_mo sW2 (by decide))) (sm_mo hsFc (by decide))), hBc, (MeR_sm xE2 (hsFc 45 (by decide)) (hsFc 46 (by decide)))⟩)
                        · have c74 : ¬ (of9 es r + (eN e9).length + (eD e9).length ≤ r2 + 1 + j) := fun z9 => c74 ((nI_leI (a := of9 es r + (eN e9).length + (eD e9).length) (b := r2 + 1 + j) (by omega) (by omega)).mpr z9)
                          refine lv_aload_n hx hb d_Mo_putData_113 rfl (lv_at hl 0 rfl) ?_
                          refine lv_aload_n hx hb d_Mo_putData_114 rfl (lv_at hl 0 rfl) ?_
                          refine va_get (D := D9) (ci := 7) (C := R_Mo) (T := F_Mo) (N := 30) hx hb hts i_Mo hown hK hP 33 ww_33 rfl 3 (by decide) (hts _ g_725) (fun _ h9 => h9) rfl d_Mo_putData_115 ?_
                          refine lv_iload hx hb d_Mo_putData_118 (lv_at hl 2 rfl) ?_
                          refine va_bald (D := D9) hx hb hK hP 35 0 ww_35 rfl (vp_in_nI (by omega) (by decide)) d_Mo_putData_120 ?_
                          refine lv_topq (y := F 35 (r2 + 1 + j)) (by rw [nI_clamp (by omega)]; exact ((congrFun (hsFc 35 (by decide)) _).trans ((congrFun (sW2 35 (by decide)) _).trans ((congrFun (sW1 35 (by decide)) _).trans rfl)))) ?_
                          refine mw_cV (ci := 7) (k := 33) C0 (m_Mo_put l D9 cB cI cJ cG a O _ _ (X ++ (B2 ++ sl9 (fl es) (r2 + 1) j)) (F 35 (r2 + 1 + j)) hBc (kc.trans (congrArg nI hXc.symm)) (by omega)) g_930 g_8 g_927 g_929 gs_Mo_put ⟨by decide +kernel, by decide +kernel, show Option.map (fun d => d.parameters.length) (parseMethodDescriptor y_Mo_put.desc) = some 1 by decide +kernel⟩ ⟨by decide, by decide⟩ rfl rfl hP hD hS hA rfl ww_33 hl.1 (Nat.le_of_ble_eq_true rfl) rfl d_Mo_putData_121 ⟨by decide, by decide⟩ (fun v9 w9 H locs hq hP hD hS => ?_)
                          obtain ⟨I75, F76, hw9, q77⟩ := hq
                          subst hw9
                          obtain ⟨rfl, sp9, z9, sq9, w9⟩ := q77
                          refine lv_iinc (lv' := [(5, .int (nI (r2 + 1 + j + 1))), (0, _), (4, _)]) hx hb d_Mo_putData_124 hl (k := 2) rfl (nI_add _ 1) (by decide) rfl (fun ls hl => ?_)
                          refine lv_goto (tgt := 106) hx hb d_Mo_putData_127 (by decide) ?_
                          have hsb := sl9_b (t := fl es) (p := r2 + 1) (k := j) (x := F 35 (r2 + 1 + j)) (v := 0) (by omega) (BR_tb hGB (by omega) (by omega) (by omega))
                          rw [show r2 + 1 + j + 1 = r2 + 1 + (j + 1) by omega] at hl
                          exact ihc _ (by omega) (j + 1) _ _ _ _ _ (sm_tr (sm_mo hsIc (by decide)) (sm_mo sp9 (by decide))) (sm_tr (sm_mo hsFc (by decide)) (sm_mo sq9 (by decide))) rfl (by omega) (by rw [z9, hXc]; exact congrArg nI (by omega)) (by rw [← hsb, ← List.append_assoc, ← List.append_assoc]; rw [← List.append_assoc] at w9; exact w9) hP hD hS (lv_pk hl [1, 2, 0] rfl)
                    exact loopP _ 0 _ _ _ _ _ sm_rf sm_rf rfl (Nat.zero_le _) x282 (by rw [sl9_0, List.append_nil]; exact xM2) hP hD hS (lv_pk hl [4, 2, 0] rfl)
      · exact absurd c59 (by decide)
  · have hsf : k_sh (eT e9) = false := by cases hz : k_sh (eT e9) with | false => rfl | true => exact absurd hz hsh
    have hdq := hdk.1
    have ht : eT e9 ≠ 2 ∧ eT e9 ≠ 5 ∧ eT e9 ≠ 12 ∧ eT e9 ≠ 15 ∧ eT e9 ≠ 6 := by refine ⟨?_, ?_, ?_, ?_, ?_⟩ <;> intro z <;> rw [z] at hsf <;> exact absurd hsf (by decide)
    refine lv_iload_n hx hb d_Mo_putData_24 rfl (lv_at hl 2 rfl) ?_
    refine lv_bipush (v := 15) hx hb d_Mo_putData_25 (by decide) ?_
    refine lv_topq (y := nI 15) (rfl) ?_
    refine lv_icmp_ne (tgt := 55) hx hb d_Mo_putData_27 (by decide) (fun c78 => ?_) (fun c78 => ?_)
    · have c78 : ¬ (eT e9 = 15) := fun z9 => c78 ((nI_eq (a := eT e9) (b := 15) (by omega) (by omega)).mpr z9)
      refine lv_iload_n hx hb d_Mo_putData_55 rfl (lv_at hl 2 rfl) ?_
      refine lv_iconst (v := 2) hx hb d_Mo_putData_56 (by decide) ?_
      refine lv_topq (y := nI 2) (rfl) ?_
      refine lv_icmp_eq (tgt := 83) hx hb d_Mo_putData_57 (by decide) (fun c79 => ?_) (fun c79 => ?_)
      · have c79 : eT e9 = 2 := (nI_eq (a := eT e9) (b := 2) (by omega) (by omega)).mp c79
        exfalso; omega
      · have c79 : ¬ (eT e9 = 2) := fun z9 => c79 ((nI_eq (a := eT e9) (b := 2) (by omega) (by omega)).mpr z9)
        refine lv_iload_n hx hb d_Mo_putData_60 rfl (lv_at hl 2 rfl) ?_
        refine lv_iconst (v := 5) hx hb d_Mo_putData_61 (by decide) ?_
        refine lv_topq (y := nI 5) (rfl) ?_
        refine lv_icmp_eq (tgt := 83) hx hb d_Mo_putData_62 (by decide) (fun c80 => ?_) (fun c80 => ?_)
        · have c80 : eT e9 = 5 := (nI_eq (a := eT e9) (b := 5) (by omega) (by omega)).mp c80
          exfalso; omega
        · have c80 : ¬ (eT e9 = 5) := fun z9 => c80 ((nI_eq (a := eT e9) (b := 5) (by omega) (by omega)).mpr z9)
          refine lv_iload_n hx hb d_Mo_putData_65 rfl (lv_at hl 2 rfl) ?_
          refine lv_bipush (v := 12) hx hb d_Mo_putData_66 (by decide) ?_
          refine lv_topq (y := nI 12) (rfl) ?_
          refine lv_icmp_eq (tgt := 83) hx hb d_Mo_putData_68 (by decide) (fun c81 => ?_) (fun c81 => ?_)
          · have c81 : eT e9 = 12 := (nI_eq (a := eT e9) (b := 12) (by omega) (by omega)).mp c81
            exfalso; omega
          · have c81 : ¬ (eT e9 = 12) := fun z9 => c81 ((nI_eq (a := eT e9) (b := 12) (by omega) (by omega)).mpr z9)
            refine lv_iload_n hx hb d_Mo_putData_71 rfl (lv_at hl 2 rfl) ?_
            refine lv_bipush (v := 15) hx hb d_Mo_putData_72 (by decide) ?_
            refine lv_topq (y := nI 15) (rfl) ?_
            refine lv_icmp_eq (tgt := 83) hx hb d_Mo_putData_74 (by decide) (fun c82 => ?_) (fun c82 => ?_)
            · have c82 : eT e9 = 15 := (nI_eq (a := eT e9) (b := 15) (by omega) (by omega)).mp c82
              exfalso; omega
            · have c82 : ¬ (eT e9 = 15) := fun z9 => c82 ((nI_eq (a := eT e9) (b := 15) (by omega) (by omega)).mpr z9)
              refine lv_iload_n hx hb d_Mo_putData_77 rfl (lv_at hl 2 rfl) ?_
              refine lv_bipush (v := 6) hx hb d_Mo_putData_78 (by decide) ?_
              refine lv_topq (y := nI 6) (rfl) ?_
              refine lv_icmp_ne (tgt := 90) hx hb d_Mo_putData_80 (by decide) (fun c83 => ?_) (fun c83 => ?_)
              · have c83 : ¬ (eT e9 = 6) := fun z9 => c83 ((nI_eq (a := eT e9) (b := 6) (by omega) (by omega)).mpr z9)
                refine lv_iload_n hx hb d_Mo_putData_90 rfl (lv_at hl 2 rfl) ?_
                refine lv_bipush (v := 6) hx hb d_Mo_putData_91 (by decide) ?_
                refine lv_topq (y := nI 6) (rfl) ?_
                refine lv_icmp_ne (tgt := 103) hx hb d_Mo_putData_93 (by decide) (fun c84 => ?_) (fun c84 => ?_)
                · have c84 : ¬ (eT e9 = 6) := fun z9 => c84 ((nI_eq (a := eT e9) (b := 6) (by omega) (by omega)).mpr z9)
                  refine lv_iload_n hx hb d_Mo_putData_103 rfl (lv_at hl 1 rfl) ?_
                  refine lv_istore (lv' := [(5, _), (4, _), (3, _), (2, _), (0, _), (1, _)]) hx hb d_Mo_putData_104 hl (by decide) rfl (fun ls hl => ?_)
                  have loopP : ∀ (nc : Nat) (j : Nat) (Ic : Nat → Int32) (Fc : Nat → Nat → Int32) (H : Heap) (locs : List Loc) (ls : Array Slot), (sm [28] I Ic) → (sm [44] F Fc) → (of9 es r + (eN e9).length + (eD e9).length - (of9 es r + (eN e9).length) - j = nc) → (j ≤ of9 es r + (eN e9).length + (eD e9).length - (of9 es r + (eN e9).length)) → (Ic 28 = nI (12 + (B.length + j))) → (BR 0 131200 (Fc 44) (X ++ (B ++ sl9 (fl es) (of9 es r + (eN e9).length) j))) → va_P D9 cls9 (WW a cB cI cJ cG Ic Fc O) H → va_D A0 (WW a cB cI cJ cG Ic Fc O) → va_S A0 s.heap H locs → lv_has ls 6 [(0, .ref (a 33)), (4, .int (nI (of9 es r + (eN e9).length + (eD e9).length))), (5, .int (nI (of9 es r + (eN e9).length + j)))] → W p l e (rm9 3 0 0) s m ([.ref (a 33), .int (nI r)] : List Value).toArray below meth c H locs 0 0 Q (F0 m 106 ls []) := by
                    intro nc
                    induction nc using Nat.strongRecOn with
                    | ind nc ihc =>
                      intro j Ic Fc H locs ls hsIc hsFc hnc hj kc hBc hP hD hS hl
                      have hXc : (X ++ (B ++ sl9 (fl es) (of9 es r + (eN e9).length) j)).length = 12 + (B.length + j) := by rw [List.length_append, List.length_append, hX, sl9_len (by omega)]
                      refine lv_iload hx hb d_Mo_putData_106 (lv_at hl 2 rfl) ?_
                      refine lv_iload hx hb d_Mo_putData_108 (lv_at hl 1 rfl) ?_
                      refine lv_icmp_ge (tgt := 130) hx hb d_Mo_putData_110 (by decide) (fun c85 => ?_) (fun c85 => ?_)
                      · have c85 : of9 es r + (eN e9).length + (eD e9).length ≤ of9 es r + (eN e9).length + j := (nI_leI (a := of9 es r + (eN e9).length + (eD e9).length) (b := of9 es r + (eN e9).length + j) (by omega) (by omega)).mp c85
                        have hjj : j = of9 es r + (eN e9).length + (eD e9).length - (of9 es r + (eN e9).length) := by omega
                        rw [hjj] at kc hBc hXc
                        exact hret _ _ _ _ _ _ hS hP hD d_Mo_putData_130 (by simp only [Nat.add_sub_cancel_left] at hBc hXc kc; rw [wD_0 hsf]; exact ⟨rfl, (sm_mo hsIc (by decide)), (by rw [List.length_append, sl9_len (by omega)]; exact kc), ((hsIc 30 (by decide)).trans h30), ((hsIc 29 (by decide)).trans h29), (sm_mo hsFc (by decide)), hBc, (MeR_sm hE9 (hsFc 45 (by decide)) (hsFc 46 (by decide)))⟩)
                      · have c85 : ¬ (of9 es r + (eN e9).length + (eD e9).length ≤ of9 es r + (eN e9).length + j) := fun z9 => c85 ((nI_leI (a := of9 es r + (eN e9).length + (eD e9).length) (b := of9 es r + (eN e9).length + j) (by omega) (by omega)).mpr z9)
                        refine lv_aload_n hx hb d_Mo_putData_113 rfl (lv_at hl 0 rfl) ?_
                        refine lv_aload_n hx hb d_Mo_putData_114 rfl (lv_at hl 0 rfl) ?_
                        refine va_get (D := D9) (ci := 7) (C := R_Mo) (T := F_Mo) (N := 30) hx hb hts i_Mo hown hK hP 33 ww_33 rfl 3 (by decide) (hts _ g_725) (fun _ h9 => h9) rfl d_Mo_putData_115 ?_
                        refine lv_iload hx hb d_Mo_putData_118 (lv_at hl 2 rfl) ?_
                        refine va_bald (D := D9) hx hb hK hP 35 0 ww_35 rfl (vp_in_nI (by omega) (by decide)) d_Mo_putData_120 ?_
                        refine lv_topq (y := F 35 (of9 es r + (eN e9).length + j)) (by rw [nI_clamp (by omega)]; exact ((congrFun (hsFc 35 (by decide)) _).trans rfl)) ?_
                        refine mw_cV (ci := 7) (k := 33) C0 (m_Mo_put l D9 cB cI cJ cG a O _ _ (X ++ (B ++ sl9 (fl es) (of9 es r + (eN e9).length) j)) (F 35 (of9 es r + (eN e9).length + j)) hBc (kc.trans (congrArg nI hXc.symm)) (by omega)) g_930 g_8 g_927 g_929 gs_Mo_put ⟨by decide +kernel, by decide +kernel, show Option.map (fun d => d.parameters.length) (parseMethodDescriptor y_Mo_put.desc) = some 1 by decide +kernel⟩ ⟨by decide, by decide⟩ rfl rfl hP hD hS hA rfl ww_33 hl.1 (Nat.le_of_ble_eq_true rfl) rfl d_Mo_putData_121 ⟨by decide, by decide⟩ (fun v9 w9 H locs hq hP hD hS => ?_)
                        obtain ⟨I86, F87, hw9, q88⟩ := hq
                        subst hw9
                        obtain ⟨rfl, sp9, z9, sq9, w9⟩ := q88
                        refine lv_iinc (lv' := [(5, .int (nI (of9 es r + (eN e9).length + j + 1))), (0, _), (4, _)]) hx hb d_Mo_putData_124 hl (k := 2) rfl (nI_add _ 1) (by decide) rfl (fun ls hl => ?_)
                        refine lv_goto (tgt := 106) hx hb d_Mo_putData_127 (by decide) ?_
                        have hsb := sl9_b (t := fl es) (p := of9 es r + (eN e9).length) (k := j) (x := F 35 (of9 es r + (eN e9).length + j)) (v := 0) (by omega) (BR_tb hGB (by omega) (by omega) (by omega))
                        rw [show of9 es r + (eN e9).length + j + 1 = of9 es r + (eN e9).length + (j + 1) by omega] at hl
                        exact ihc _ (by omega) (j + 1) _ _ _ _ _ (sm_tr (sm_mo hsIc (by decide)) (sm_mo sp9 (by decide))) (sm_tr (sm_mo hsFc (by decide)) (sm_mo sq9 (by decide))) rfl (by omega) (by rw [z9, hXc]; exact congrArg nI (by omega)) (by rw [← hsb, ← List.append_assoc, ← List.append_assoc]; rw [← List.append_assoc] at w9; exact w9) hP hD hS (lv_pk hl [1, 2, 0] rfl)
                  exact loopP _ 0 _ _ _ _ _ sm_rf sm_rf rfl (Nat.zero_le _) h28 (by rw [sl9_0, List.append_nil]; exact hM) hP hD hS (lv_pk hl [4, 1, 0] rfl)
                · have c84 : eT e9 = 6 := (nI_eq (a := eT e9) (b := 6) (by omega) (by omega)).mp c84
                  exfalso; omega
              · have c83 : eT e9 = 6 := (nI_eq (a := eT e9) (b := 6) (by omega) (by omega)).mp c83
                exfalso; omega
    · have c78 : eT e9 = 15 := (nI_eq (a := eT e9) (b := 15) (by omega) (by omega)).mp c78
      exfalso; omega
