theorem sl9_b {t : List Nat} {p k : Nat} {x : Int32} {v : Nat} (h : p + k < t.length) (hv : ub x = tb t (p + k)) : sl9 t p k ++ [ub x] = sl9 t p (k + 1) := by rw [hv, sl9_s h]
theorem g_919 : (Cond.methodLink "WireMessagesModel" (166 : Nat) ({ cls := "WireMessagesModel", name := "standing", desc := "(I)I" } : MethodName)) ∈ GT := gt_mem 919 (by decide +kernel) rfl
theorem g_921 : (Cond.instanceMethod ({ cls := "WireMessagesModel", name := "standing", desc := "(I)I" } : MethodName)) ∈ GT := gt_mem 921 (by decide +kernel) rfl
theorem g_922 : (Cond.code ({ cls := "WireMessagesModel", name := "standing", desc := "(I)I" } : MethodName) prog_10_method_29_code (3 : Nat) (Option.some FieldType.int)) ∈ GT := gt_mem 922 (by decide +kernel) rfl
theorem g_931 : (Cond.constant "WireMessagesModel" (169 : Nat) (49152 : Int32)) ∈ GT := gt_mem 931 (by decide +kernel) rfl
theorem g_932 : (Cond.methodLink "WireMessagesModel" (170 : Nat) ({ cls := "WireMessagesModel", name := "putTwo", desc := "(I)V" } : MethodName)) ∈ GT := gt_mem 932 (by decide +kernel) rfl
theorem g_934 : (Cond.instanceMethod ({ cls := "WireMessagesModel", name := "putTwo", desc := "(I)V" } : MethodName)) ∈ GT := gt_mem 934 (by decide +kernel) rfl
theorem g_935 : (Cond.code ({ cls := "WireMessagesModel", name := "putTwo", desc := "(I)V" } : MethodName) prog_10_method_27_code (2 : Nat) (Option.none : Option FieldType)) ∈ GT := gt_mem 935 (by decide +kernel) rfl
theorem gs_Mo_standing : Cond.selects R_Mo y_Mo_standing y_Mo_standing ∈ GT := gt_sel (q := (⟨"WireMessagesModel", "standing", "(I)I"⟩, 30)) (by decide +kernel)
theorem gs_Mo_putTwo : Cond.selects R_Mo y_Mo_putTwo y_Mo_putTwo ∈ GT := gt_sel (q := (⟨"WireMessagesModel", "putTwo", "(I)V"⟩, 30)) (by decide +kernel)
theorem d_Mo_putName_0 : decode b_Mo_putName 0 = .ok (.iload_n 1, 1) := by decide +kernel
theorem d_Mo_putName_1 : decode b_Mo_putName 1 = .ok (.istore_n 3, 1) := by decide +kernel
theorem d_Mo_putName_2 : decode b_Mo_putName 2 = .ok (.iconst (-1), 1) := by decide +kernel
theorem d_Mo_putName_3 : decode b_Mo_putName 3 = .ok (.istore 4, 2) := by decide +kernel
theorem d_Mo_putName_5 : decode b_Mo_putName 5 = .ok (.iload 4, 2) := by decide +kernel
theorem d_Mo_putName_7 : decode b_Mo_putName 7 = .ok (.ifCond .ge 125, 3) := by decide +kernel
theorem d_Mo_putName_10 : decode b_Mo_putName 10 = .ok (.aload_n 0, 1) := by decide +kernel
theorem d_Mo_putName_11 : decode b_Mo_putName 11 = .ok (.getfield 15, 3) := by decide +kernel
theorem d_Mo_putName_14 : decode b_Mo_putName 14 = .ok (.iload_n 3, 1) := by decide +kernel
theorem d_Mo_putName_15 : decode b_Mo_putName 15 = .ok (.baload, 1) := by decide +kernel
theorem d_Mo_putName_16 : decode b_Mo_putName 16 = .ok (.ifCond .eq 116, 3) := by decide +kernel
theorem d_Mo_putName_19 : decode b_Mo_putName 19 = .ok (.iload_n 2, 1) := by decide +kernel
theorem d_Mo_putName_20 : decode b_Mo_putName 20 = .ok (.ifCond .eq 10, 3) := by decide +kernel
theorem d_Mo_putName_23 : decode b_Mo_putName 23 = .ok (.aload_n 0, 1) := by decide +kernel
theorem d_Mo_putName_24 : decode b_Mo_putName 24 = .ok (.iload_n 3, 1) := by decide +kernel
theorem d_Mo_putName_25 : decode b_Mo_putName 25 = .ok (.invokevirtual 166, 3) := by decide +kernel
theorem d_Mo_putName_28 : decode b_Mo_putName 28 = .ok (.istore 4, 2) := by decide +kernel
theorem d_Mo_putName_30 : decode b_Mo_putName 30 = .ok (.iload 4, 2) := by decide +kernel
theorem d_Mo_putName_32 : decode b_Mo_putName 32 = .ok (.ifCond .lt 6, 3) := by decide +kernel
theorem d_Mo_putName_35 : decode b_Mo_putName 35 = .ok (.goto 97, 3) := by decide +kernel
theorem d_Mo_putName_38 : decode b_Mo_putName 38 = .ok (.iload_n 2, 1) := by decide +kernel
theorem d_Mo_putName_39 : decode b_Mo_putName 39 = .ok (.ifCond .eq 46, 3) := by decide +kernel
theorem d_Mo_putName_42 : decode b_Mo_putName 42 = .ok (.aload_n 0, 1) := by decide +kernel
theorem d_Mo_putName_43 : decode b_Mo_putName 43 = .ok (.getfield 153, 3) := by decide +kernel
theorem d_Mo_putName_46 : decode b_Mo_putName 46 = .ok (.sipush 16384, 3) := by decide +kernel
theorem d_Mo_putName_49 : decode b_Mo_putName 49 = .ok (.if_icmp .ge 36, 3) := by decide +kernel
theorem d_Mo_putName_52 : decode b_Mo_putName 52 = .ok (.aload_n 0, 1) := by decide +kernel
theorem d_Mo_putName_53 : decode b_Mo_putName 53 = .ok (.getfield 52, 3) := by decide +kernel
theorem d_Mo_putName_56 : decode b_Mo_putName 56 = .ok (.aload_n 0, 1) := by decide +kernel
theorem d_Mo_putName_57 : decode b_Mo_putName 57 = .ok (.getfield 159, 3) := by decide +kernel
theorem d_Mo_putName_60 : decode b_Mo_putName 60 = .ok (.aload_n 0, 1) := by decide +kernel
theorem d_Mo_putName_61 : decode b_Mo_putName 61 = .ok (.getfield 153, 3) := by decide +kernel
theorem d_Mo_putName_64 : decode b_Mo_putName 64 = .ok (.iastore, 1) := by decide +kernel
theorem d_Mo_putName_65 : decode b_Mo_putName 65 = .ok (.aload_n 0, 1) := by decide +kernel
theorem d_Mo_putName_66 : decode b_Mo_putName 66 = .ok (.getfield 55, 3) := by decide +kernel
theorem d_Mo_putName_69 : decode b_Mo_putName 69 = .ok (.aload_n 0, 1) := by decide +kernel
theorem d_Mo_putName_70 : decode b_Mo_putName 70 = .ok (.getfield 159, 3) := by decide +kernel
theorem d_Mo_putName_73 : decode b_Mo_putName 73 = .ok (.iload_n 3, 1) := by decide +kernel
theorem d_Mo_putName_74 : decode b_Mo_putName 74 = .ok (.iastore, 1) := by decide +kernel
theorem d_Mo_putName_75 : decode b_Mo_putName 75 = .ok (.aload_n 0, 1) := by decide +kernel
theorem d_Mo_putName_76 : decode b_Mo_putName 76 = .ok (.dup, 1) := by decide +kernel
theorem d_Mo_putName_77 : decode b_Mo_putName 77 = .ok (.getfield 159, 3) := by decide +kernel
theorem d_Mo_putName_80 : decode b_Mo_putName 80 = .ok (.iconst 1, 1) := by decide +kernel
theorem d_Mo_putName_81 : decode b_Mo_putName 81 = .ok (.iadd, 1) := by decide +kernel
theorem d_Mo_putName_82 : decode b_Mo_putName 82 = .ok (.putfield 159, 3) := by decide +kernel
theorem d_Mo_putName_85 : decode b_Mo_putName 85 = .ok (.aload_n 0, 1) := by decide +kernel
theorem d_Mo_putName_86 : decode b_Mo_putName 86 = .ok (.getfield 15, 3) := by decide +kernel
theorem d_Mo_putName_89 : decode b_Mo_putName 89 = .ok (.iload_n 3, 1) := by decide +kernel
theorem d_Mo_putName_90 : decode b_Mo_putName 90 = .ok (.baload, 1) := by decide +kernel
theorem d_Mo_putName_91 : decode b_Mo_putName 91 = .ok (.istore 5, 2) := by decide +kernel
theorem d_Mo_putName_93 : decode b_Mo_putName 93 = .ok (.iconst 0, 1) := by decide +kernel
theorem d_Mo_putName_94 : decode b_Mo_putName 94 = .ok (.istore 6, 2) := by decide +kernel
theorem d_Mo_putName_96 : decode b_Mo_putName 96 = .ok (.iload 6, 2) := by decide +kernel
theorem d_Mo_putName_98 : decode b_Mo_putName 98 = .ok (.iload 5, 2) := by decide +kernel
theorem d_Mo_putName_100 : decode b_Mo_putName 100 = .ok (.if_icmp .gt 22, 3) := by decide +kernel
theorem d_Mo_putName_103 : decode b_Mo_putName 103 = .ok (.aload_n 0, 1) := by decide +kernel
theorem d_Mo_putName_104 : decode b_Mo_putName 104 = .ok (.aload_n 0, 1) := by decide +kernel
theorem d_Mo_putName_105 : decode b_Mo_putName 105 = .ok (.getfield 15, 3) := by decide +kernel
theorem d_Mo_putName_108 : decode b_Mo_putName 108 = .ok (.iload_n 3, 1) := by decide +kernel
theorem d_Mo_putName_109 : decode b_Mo_putName 109 = .ok (.iload 6, 2) := by decide +kernel
theorem d_Mo_putName_111 : decode b_Mo_putName 111 = .ok (.iadd, 1) := by decide +kernel
theorem d_Mo_putName_112 : decode b_Mo_putName 112 = .ok (.baload, 1) := by decide +kernel
theorem d_Mo_putName_113 : decode b_Mo_putName 113 = .ok (.invokevirtual 156, 3) := by decide +kernel
theorem d_Mo_putName_116 : decode b_Mo_putName 116 = .ok (.iinc 6 1, 3) := by decide +kernel
theorem d_Mo_putName_119 : decode b_Mo_putName 119 = .ok (.goto (-23), 3) := by decide +kernel
theorem d_Mo_putName_122 : decode b_Mo_putName 122 = .ok (.iload_n 3, 1) := by decide +kernel
theorem d_Mo_putName_123 : decode b_Mo_putName 123 = .ok (.iload 5, 2) := by decide +kernel
theorem d_Mo_putName_125 : decode b_Mo_putName 125 = .ok (.iconst 1, 1) := by decide +kernel
theorem d_Mo_putName_126 : decode b_Mo_putName 126 = .ok (.iadd, 1) := by decide +kernel
theorem d_Mo_putName_127 : decode b_Mo_putName 127 = .ok (.iadd, 1) := by decide +kernel
theorem d_Mo_putName_128 : decode b_Mo_putName 128 = .ok (.istore_n 3, 1) := by decide +kernel
theorem d_Mo_putName_129 : decode b_Mo_putName 129 = .ok (.goto (-124), 3) := by decide +kernel
theorem d_Mo_putName_132 : decode b_Mo_putName 132 = .ok (.iload 4, 2) := by decide +kernel
theorem d_Mo_putName_134 : decode b_Mo_putName 134 = .ok (.ifCond .lt 25, 3) := by decide +kernel
theorem d_Mo_putName_137 : decode b_Mo_putName 137 = .ok (.aload_n 0, 1) := by decide +kernel
theorem d_Mo_putName_138 : decode b_Mo_putName 138 = .ok (.ldc 169, 2) := by decide +kernel
theorem d_Mo_putName_140 : decode b_Mo_putName 140 = .ok (.iload 4, 2) := by decide +kernel
theorem d_Mo_putName_142 : decode b_Mo_putName 142 = .ok (.ior, 1) := by decide +kernel
theorem d_Mo_putName_143 : decode b_Mo_putName 143 = .ok (.invokevirtual 170, 3) := by decide +kernel
theorem d_Mo_putName_146 : decode b_Mo_putName 146 = .ok (.aload_n 0, 1) := by decide +kernel
theorem d_Mo_putName_147 : decode b_Mo_putName 147 = .ok (.dup, 1) := by decide +kernel
theorem d_Mo_putName_148 : decode b_Mo_putName 148 = .ok (.getfield 173, 3) := by decide +kernel
theorem d_Mo_putName_151 : decode b_Mo_putName 151 = .ok (.iconst 1, 1) := by decide +kernel
theorem d_Mo_putName_152 : decode b_Mo_putName 152 = .ok (.iadd, 1) := by decide +kernel
theorem d_Mo_putName_153 : decode b_Mo_putName 153 = .ok (.putfield 173, 3) := by decide +kernel
theorem d_Mo_putName_156 : decode b_Mo_putName 156 = .ok (.goto 8, 3) := by decide +kernel
theorem d_Mo_putName_159 : decode b_Mo_putName 159 = .ok (.aload_n 0, 1) := by decide +kernel
theorem d_Mo_putName_160 : decode b_Mo_putName 160 = .ok (.iconst 0, 1) := by decide +kernel
theorem d_Mo_putName_161 : decode b_Mo_putName 161 = .ok (.invokevirtual 156, 3) := by decide +kernel
theorem d_Mo_putName_164 : decode b_Mo_putName 164 = .ok (.aload_n 0, 1) := by decide +kernel
theorem d_Mo_putName_165 : decode b_Mo_putName 165 = .ok (.getfield 15, 3) := by decide +kernel
theorem d_Mo_putName_168 : decode b_Mo_putName 168 = .ok (.iload_n 3, 1) := by decide +kernel
theorem d_Mo_putName_169 : decode b_Mo_putName 169 = .ok (.baload, 1) := by decide +kernel
theorem d_Mo_putName_170 : decode b_Mo_putName 170 = .ok (.ifCond .eq 17, 3) := by decide +kernel
theorem d_Mo_putName_173 : decode b_Mo_putName 173 = .ok (.iload_n 3, 1) := by decide +kernel
theorem d_Mo_putName_174 : decode b_Mo_putName 174 = .ok (.aload_n 0, 1) := by decide +kernel
theorem d_Mo_putName_175 : decode b_Mo_putName 175 = .ok (.getfield 15, 3) := by decide +kernel
theorem d_Mo_putName_178 : decode b_Mo_putName 178 = .ok (.iload_n 3, 1) := by decide +kernel
theorem d_Mo_putName_179 : decode b_Mo_putName 179 = .ok (.baload, 1) := by decide +kernel
theorem d_Mo_putName_180 : decode b_Mo_putName 180 = .ok (.iconst 1, 1) := by decide +kernel
theorem d_Mo_putName_181 : decode b_Mo_putName 181 = .ok (.iadd, 1) := by decide +kernel
theorem d_Mo_putName_182 : decode b_Mo_putName 182 = .ok (.iadd, 1) := by decide +kernel
theorem d_Mo_putName_183 : decode b_Mo_putName 183 = .ok (.istore_n 3, 1) := by decide +kernel
theorem d_Mo_putName_184 : decode b_Mo_putName 184 = .ok (.goto (-20), 3) := by decide +kernel
theorem d_Mo_putName_187 : decode b_Mo_putName 187 = .ok (.iload_n 3, 1) := by decide +kernel
theorem d_Mo_putName_188 : decode b_Mo_putName 188 = .ok (.iconst 1, 1) := by decide +kernel
theorem d_Mo_putName_189 : decode b_Mo_putName 189 = .ok (.iadd, 1) := by decide +kernel
theorem d_Mo_putName_190 : decode b_Mo_putName 190 = .ok (.ireturn, 1) := by decide +kernel
set_option maxHeartbeats 4000000 in
set_option maxRecDepth 100000 in
/-- the reference: putName -/
theorem m_Mo_putName (l : Launch) (D9 : va_G) (cB cI cJ cG : ClassId) (a : Nat → Nat) (O : Nat → Int64) (I : Nat → Int32) (F : Nat → Nat → Int32) (G : List Nat) (hGl : G.length ≤ 65536) (hGB : BR 0 140000 (F 35) G) (X B : List Nat) (E : List (Nat × Nat)) (pt k fr r : Nat) (hX : X.length = 12) (hM : BR 0 131200 (F 44) (X ++ B)) (h28 : I 28 = nI (12 + B.length)) (hBb : B.length + (r + 1 - fr) ≤ 131187) (hE9 : MeR F E) (h30 : I 30 = nI E.length) (hW : wW G B E) (h29 : I 29 = nI pt) (hN : isN G k fr r) (hk : k ≤ 127) : MC l D9 cB cI cJ cG a O y_Mo_putName b_Mo_putName 7 (some .int) 2 [.ref (a 33), .int (nI fr), .int (nI 1)] I F (fun v I' F' => v = some (.int (nI (r + 1))) ∧ sm [28, 29, 30] I I' ∧ I' 28 = nI (12 + (wN G k fr B E pt).1.length) ∧ I' 30 = nI (wN G k fr B E pt).2.1.length ∧ I' 29 = nI (wN G k fr B E pt).2.2 ∧ sm [44, 45, 46] F F' ∧ BR 0 131200 (F' 44) (X ++ (wN G k fr B E pt).1) ∧ MeR F' (wN G k fr B E pt).2.1) := by
  refine mc_of (by decide) (Nat.le_of_ble_eq_true rfl) ?_
  intro p e s m below meth c ls A0 Q C0 hP hD hA hS hl hret
  obtain ⟨hx, hb, hml, hr, hlocks, hown, hts, hK⟩ := id C0
  have hl : lv_has ls 7 [(0, .ref (a 33)), (1, .int (nI fr)), (2, .int (nI 1))] := hl
  refine lv_iload_n hx hb d_Mo_putName_0 rfl (lv_at hl 1 rfl) ?_
  refine lv_istore_n (lv' := [(3, _), (0, _), (1, _), (2, _)]) hx hb d_Mo_putName_1 rfl hl (by decide) rfl (fun ls hl => ?_)
  refine lv_iconst (v := -1) hx hb d_Mo_putName_2 (by decide) ?_
  refine lv_topq (y := (-1 : Int32)) rfl ?_
  refine lv_istore (lv' := [(4, _), (3, _), (0, _), (1, _), (2, _)]) hx hb d_Mo_putName_3 hl (by decide) rfl (fun ls hl => ?_)
  have loop1 : ∀ (n9 : Nat) (i : Nat) (B2 : List Nat) (E2 : List (Nat × Nat)) (I9 : Nat → Int32) (F9 : Nat → Nat → Int32) (H : Heap) (locs : List Loc) (ls : Array Slot), (sm [28, 29, 30] I I9) → (sm [44, 45, 46] F F9) → (k - i = n9) → (i ≤ k) → (wN G k fr B E pt = wN G (k - i) (lb G fr i) B2 E2 pt) → (BR 0 131200 (F9 44) (X ++ B2)) → (I9 28 = nI (12 + B2.length)) → (B2.length + (r + 1 - lb G fr i) ≤ 131187) → (MeR F9 E2) → (I9 30 = nI E2.length) → (wW G B2 E2) → (I9 29 = nI pt) → va_P D9 cls9 (WW a cB cI cJ cG I9 F9 O) H → va_D A0 (WW a cB cI cJ cG I9 F9 O) → va_S A0 s.heap H locs → lv_has ls 7 [(0, .ref (a 33)), (1, .int (nI fr)), (2, .int (nI 1)), (3, .int (nI (lb G fr i))), (4, .int ((-1 : Int32)))] → W p l e (rm9 2 0 0) s m ([.ref (a 33), .int (nI fr), .int (nI 1)] : List Value).toArray below meth c H locs 0 0 Q (F0 m 5 ls []) := by
    intro n9
    induction n9 using Nat.strongRecOn with
    | ind n9 ih =>
      intro i B2 E2 I9 F9 H locs ls hsI hsF hn9 hi hR hM2 k28 hBb2 hE2 k30 hW2 k29 hP hD hS hl
      have hXl : 12 + B2.length = (X ++ B2).length := xl_of hX
      have hNi := isN_lb hN i hi
      have hpi := isN_p hNi
      have hri := isN_r hNi
      have hE8 := hW2.1.2.2
      refine lv_iload hx hb d_Mo_putName_5 (lv_at hl 4 rfl) ?_
      refine lv_if_ge (tgt := 132) hx hb d_Mo_putName_7 (by decide) (fun c1 => ?_) (fun c1 => ?_)
      · exact absurd c1 (by decide)
      · refine lv_aload_n hx hb d_Mo_putName_10 rfl (lv_at hl 0 rfl) ?_
        refine va_get (D := D9) (ci := 7) (C := R_Mo) (T := F_Mo) (N := 30) hx hb hts i_Mo hown hK hP 33 ww_33 rfl 3 (by decide) (hts _ g_725) (fun _ h9 => h9) rfl d_Mo_putName_11 ?_
        refine lv_iload_n hx hb d_Mo_putName_14 rfl (lv_at hl 3 rfl) ?_
        refine va_bald (D := D9) hx hb hK hP 35 0 ww_35 rfl (vp_in_nI (by omega) (by decide)) d_Mo_putName_15 ?_
        refine lv_topq (y := nI (tb G (lb G fr i))) (by rw [nI_clamp (by omega)]; exact ((congrFun (hsF 35 (by decide)) _).trans (BR_raw hGB (by omega) (by omega) (by omega)))) ?_
        refine lv_if_eq (tgt := 132) hx hb d_Mo_putName_16 (by decide) (fun c2 => ?_) (fun c2 => ?_)
        · have c2 : tb G (lb G fr i) = 0 := (nI_eq (a := tb G (lb G fr i)) (b := 0) (by omega) (by omega)).mp c2
          have hik : k - i = 0 := by rcases Nat.eq_zero_or_pos (k - i) with z | z; exact z; have := hpi.2.2.2 z; omega
          rw [hik] at hR
          have hR : wN G k fr B E pt = (B2 ++ [0], E2, pt) := hR
          refine lv_iload hx hb d_Mo_putName_132 (lv_at hl 4 rfl) ?_
          refine lv_if_lt (tgt := 159) hx hb d_Mo_putName_134 (by decide) (fun c3 => ?_) (fun c3 => ?_)
          · refine lv_aload_n hx hb d_Mo_putName_159 rfl (lv_at hl 0 rfl) ?_
            refine lv_iconst (v := 0) hx hb d_Mo_putName_160 (by decide) ?_
            refine lv_topq (y := nI 0) (rfl) ?_
            refine mw_cV (ci := 7) (k := 33) C0 (m_Mo_put l D9 cB cI cJ cG a O _ _ (X ++ B2) (nI 0) hM2 (k28.trans (congrArg nI hXl)) (by rw [← hXl]; omega)) g_930 g_8 g_927 g_929 gs_Mo_put ⟨by decide +kernel, by decide +kernel, show Option.map (fun d => d.parameters.length) (parseMethodDescriptor y_Mo_put.desc) = some 1 by decide +kernel⟩ ⟨by decide, by decide⟩ rfl rfl hP hD hS hA rfl ww_33 hl.1 (Nat.le_of_ble_eq_true rfl) rfl d_Mo_putName_161 ⟨by decide, by decide⟩ (fun v9 w9 H locs hq hP hD hS => ?_)
            obtain ⟨I4, F5, hw9, q6⟩ := hq
            subst hw9
            obtain ⟨rfl, sp4, yl4, sq4, ym4⟩ := q6
            rw [show ub (nI 0) = 0 from rfl] at ym4
            rw [List.append_assoc] at ym4
            have hq4 : (B2 ++ [0]).length = B2.length + 1 := by rw [List.length_append]; rfl
            have yl4 : I4 28 = nI (12 + (B2 ++ [0]).length) := yl4.trans (congrArg nI (by rw [← hXl, hq4]; omega))
            have xl7 : 12 + (B2 ++ [0]).length = (X ++ (B2 ++ [0])).length := xl_of hX
            have loopR : ∀ (nc : Nat) (j : Nat) (H : Heap) (locs : List Loc) (ls : Array Slot), (k - j = nc) → (i ≤ j ∧ j ≤ k) → va_P D9 cls9 (WW a cB cI cJ cG I4 F5 O) H → va_D A0 (WW a cB cI cJ cG I4 F5 O) → va_S A0 s.heap H locs → lv_has ls 7 [(0, .ref (a 33)), (3, .int (nI (lb G fr j)))] → W p l e (rm9 2 0 0) s m ([.ref (a 33), .int (nI fr), .int (nI 1)] : List Value).toArray below meth c H locs 0 0 Q (F0 m 164 ls []) := by
              intro nc
              induction nc using Nat.strongRecOn with
              | ind nc ihc =>
                intro j H locs ls hnc hj hP hD hS hl
                have hNj := isN_lb hN j (by omega)
                have hpj := isN_p hNj
                refine lv_aload_n hx hb d_Mo_putName_164 rfl (lv_at hl 0 rfl) ?_
                refine va_get (D := D9) (ci := 7) (C := R_Mo) (T := F_Mo) (N := 30) hx hb hts i_Mo hown hK hP 33 ww_33 rfl 3 (by decide) (hts _ g_725) (fun _ h9 => h9) rfl d_Mo_putName_165 ?_
                refine lv_iload_n hx hb d_Mo_putName_168 rfl (lv_at hl 1 rfl) ?_
                refine va_bald (D := D9) hx hb hK hP 35 0 ww_35 rfl (vp_in_nI (by omega) (by decide)) d_Mo_putName_169 ?_
                refine lv_topq (y := nI (tb G (lb G fr j))) (by rw [nI_clamp (by omega)]; exact ((congrFun (sq4 35 (by decide)) _).trans ((congrFun (hsF 35 (by decide)) _).trans (BR_raw hGB (by omega) (by omega) (by omega))))) ?_
                refine lv_if_eq (tgt := 187) hx hb d_Mo_putName_170 (by decide) (fun c8 => ?_) (fun c8 => ?_)
                · have c8 : tb G (lb G fr j) = 0 := (nI_eq (a := tb G (lb G fr j)) (b := 0) (by omega) (by omega)).mp c8
                  have hjk : j = k := by rcases Nat.eq_zero_or_pos (k - j) with z | z; omega; have := hpj.2.2.2 z; omega
                  have hrr : lb G fr j = r := by rw [hjk]; exact isN_end hN
                  refine lv_iload_n hx hb d_Mo_putName_187 rfl (lv_at hl 1 rfl) ?_
                  refine lv_iconst (v := 1) hx hb d_Mo_putName_188 (by decide) ?_
                  refine lv_topq (y := nI 1) (rfl) ?_
                  refine lv_iadd hx hb d_Mo_putName_189 ?_
                  refine lv_topq (y := nI (lb G fr j + 1)) (nI_add _ _) ?_
                  exact hret _ _ _ _ _ _ _ hS hP hD d_Mo_putName_190 nr_i (by rw [hR, hrr]; exact ⟨rfl, (sm_tr (sm_mo hsI (by decide)) (sm_mo sp4 (by decide))), yl4, ((sp4 30 (by decide)).trans k30), ((sp4 29 (by decide)).trans k29), (sm_tr (sm_mo hsF (by decide)) (sm_mo sq4 (by decide))), ym4, MeR_sm hE2 (sq4 45 (by decide)) (sq4 46 (by decide))⟩)
                · have c8 : ¬ (tb G (lb G fr j) = 0) := fun z9 => c8 ((nI_eq (a := tb G (lb G fr j)) (b := 0) (by omega) (by omega)).mpr z9)
                  have hjk : j < k := by rcases Nat.eq_zero_or_pos (k - j) with z | z; have := hpj.2.2.1 z; omega; omega
                  refine lv_iload_n hx hb d_Mo_putName_173 rfl (lv_at hl 1 rfl) ?_
                  refine lv_aload_n hx hb d_Mo_putName_174 rfl (lv_at hl 0 rfl) ?_
                  refine va_get (D := D9) (ci := 7) (C := R_Mo) (T := F_Mo) (N := 30) hx hb hts i_Mo hown hK hP 33 ww_33 rfl 3 (by decide) (hts _ g_725) (fun _ h9 => h9) rfl d_Mo_putName_175 ?_
                  refine lv_iload_n hx hb d_Mo_putName_178 rfl (lv_at hl 1 rfl) ?_
                  refine va_bald (D := D9) hx hb hK hP 35 0 ww_35 rfl (vp_in_nI (by omega) (by decide)) d_Mo_putName_179 ?_
                  refine lv_topq (y := nI (tb G (lb G fr j))) (by rw [nI_clamp (by omega)]; exact ((congrFun (sq4 35 (by decide)) _).trans ((congrFun (hsF 35 (by decide)) _).trans (BR_raw hGB (by omega) (by omega) (by omega))))) ?_
                  refine lv_iconst (v := 1) hx hb d_Mo_putName_180 (by decide) ?_
                  refine lv_topq (y := nI 1) (rfl) ?_
                  refine lv_iadd hx hb d_Mo_putName_181 ?_
                  refine lv_topq (y := nI (tb G (lb G fr j) + 1)) (nI_add _ _) ?_
                  refine lv_iadd hx hb d_Mo_putName_182 ?_
                  refine lv_topq (y := nI (lb G fr j + (tb G (lb G fr j) + 1))) (nI_add _ _) ?_
                  refine lv_istore_n (lv' := [(3, _), (0, _)]) hx hb d_Mo_putName_183 rfl hl (by decide) rfl (fun ls hl => ?_)
                  refine lv_goto (tgt := 164) hx hb d_Mo_putName_184 (by decide) ?_
                  exact ihc _ (by omega) (j + 1)  _ _ _ rfl ⟨by omega, by omega⟩ hP hD hS (lv_pk hl [1, 0] rfl)
            exact loopR _ i  _ _ _ rfl ⟨Nat.le_refl _, hi⟩ hP hD hS (lv_pk hl [0, 3] rfl)
          · exact absurd c3 (by decide)
        · have c2 : ¬ (tb G (lb G fr i) = 0) := fun z9 => c2 ((nI_eq (a := tb G (lb G fr i)) (b := 0) (by omega) (by omega)).mpr z9)
          have hik : k - i = (k - (i + 1)) + 1 := by rcases Nat.eq_zero_or_pos (k - i) with z | z; have := hpi.2.2.1 z; omega; omega
          rw [hik] at hR
          have hNs : isN G ((k - (i + 1)) + 1) (lb G fr i) r := by rw [← hik]; exact hNi
          have hin := isN_in hNs (by omega)
          have hNn := hNs.2.2.2
          have hrn := isN_r hNn
          refine lv_iload_n hx hb d_Mo_putName_19 rfl (lv_at hl 2 rfl) ?_
          refine lv_if_eq (tgt := 30) hx hb d_Mo_putName_20 (by decide) (fun c9 => ?_) (fun c9 => ?_)
          · exact absurd c9 (by decide)
          · refine lv_aload_n hx hb d_Mo_putName_23 rfl (lv_at hl 0 rfl) ?_
            refine lv_iload_n hx hb d_Mo_putName_24 rfl (lv_at hl 3 rfl) ?_
            refine mw_cV (ci := 7) (k := 33) C0 (m_Mo_standing l D9 cB cI cJ cG a O _ _ G hGl (BR_eq hGB (hsF 35 (by decide))) E2 (lb G fr i) ((k - (i + 1)) + 1) r hNs (by omega) hE2 hW2.1 k30) g_922 g_8 g_919 g_921 gs_Mo_standing ⟨by decide +kernel, by decide +kernel, show Option.map (fun d => d.parameters.length) (parseMethodDescriptor y_Mo_standing.desc) = some 1 by decide +kernel⟩ ⟨by decide, by decide⟩ rfl rfl hP hD hS hA rfl ww_33 hl.1 (Nat.le_of_ble_eq_true rfl) rfl d_Mo_putName_25 ⟨by decide, by decide⟩ (fun v9 w9 H locs hq hP hD hS => ?_)
            obtain ⟨I10, F11, hw9, q12⟩ := hq
            subst hw9
            rcases q12 with ⟨pl, hf9, hpl, rfl, rfl, rfl⟩ | ⟨hf9, rfl, rfl, rfl⟩
            · rw [wN_hit hf9] at hR
              refine lv_istore (lv' := [(4, _), (0, _), (1, _), (2, _), (3, _)]) hx hb d_Mo_putName_28 hl (by decide) rfl (fun ls hl => ?_)
              refine lv_iload hx hb d_Mo_putName_30 (lv_at hl 0 rfl) ?_
              refine lv_if_lt (tgt := 38) hx hb d_Mo_putName_32 (by decide) (fun c13 => ?_) (fun c13 => ?_)
              · have c13 : pl < 0 := (nI_ltI (a := pl) (b := 0) (by omega) (by omega)).mp c13
                exfalso; omega
              · have c13 : ¬ (pl < 0) := fun z9 => c13 ((nI_ltI (a := pl) (b := 0) (by omega) (by omega)).mpr z9)
                refine lv_goto (tgt := 132) hx hb d_Mo_putName_35 (by decide) ?_
                refine lv_iload hx hb d_Mo_putName_132 (lv_at hl 0 rfl) ?_
                refine lv_if_lt (tgt := 159) hx hb d_Mo_putName_134 (by decide) (fun c14 => ?_) (fun c14 => ?_)
                · have c14 : pl < 0 := (nI_ltI (a := pl) (b := 0) (by omega) (by omega)).mp c14
                  exfalso; omega
                · have c14 : ¬ (pl < 0) := fun z9 => c14 ((nI_ltI (a := pl) (b := 0) (by omega) (by omega)).mpr z9)
                  refine lv_aload_n hx hb d_Mo_putName_137 rfl (lv_at hl 1 rfl) ?_
                  refine lv_ldc hx hb hown (hts _ g_931) d_Mo_putName_138 ?_
                  refine lv_topq (y := nI 49152) (rfl) ?_
                  refine lv_iload hx hb d_Mo_putName_140 (lv_at hl 0 rfl) ?_
                  refine lv_ior hx hb d_Mo_putName_142 ?_
                  refine lv_topq (y := nI (49152 + pl)) (or_ptr hpl) ?_
                  refine mw_cV (ci := 7) (k := 33) C0 (m_Mo_putTwo l D9 cB cI cJ cG a O _ _ (X ++ B2) (nI (49152 + pl)) hM2 (k28.trans (congrArg nI hXl)) (by rw [← hXl]; omega)) g_935 g_8 g_932 g_934 gs_Mo_putTwo ⟨by decide +kernel, by decide +kernel, show Option.map (fun d => d.parameters.length) (parseMethodDescriptor y_Mo_putTwo.desc) = some 1 by decide +kernel⟩ ⟨by decide, by decide⟩ rfl rfl hP hD hS hA rfl ww_33 hl.1 (Nat.le_of_ble_eq_true rfl) rfl d_Mo_putName_143 ⟨by decide, by decide⟩ (fun v9 w9 H locs hq hP hD hS => ?_)
                  obtain ⟨I15, F16, hw9, q17⟩ := hq
                  subst hw9
                  obtain ⟨rfl, sp15, yl15, sq15, ym15⟩ := q17
                  rw [un_nI (by omega)] at ym15
                  rw [List.append_assoc] at ym15
                  have hq15 : (B2 ++ b2 (49152 + pl)).length = B2.length + 2 := by rw [List.length_append]; rfl
                  have yl15 : I15 28 = nI (12 + (B2 ++ b2 (49152 + pl)).length) := yl15.trans (congrArg nI (by rw [← hXl, hq15]; omega))
                  have xl18 : 12 + (B2 ++ b2 (49152 + pl)).length = (X ++ (B2 ++ b2 (49152 + pl))).length := xl_of hX
                  refine lv_aload_n hx hb d_Mo_putName_146 rfl (lv_at hl 1 rfl) ?_
                  refine lv_dup hx hb d_Mo_putName_147 rfl ?_
                  refine va_get (D := D9) (ci := 7) (C := R_Mo) (T := F_Mo) (N := 30) hx hb hts i_Mo hown hK hP 33 ww_33 rfl 25 (by decide) (hts _ g_747) (fun _ h9 => h9) rfl d_Mo_putName_148 ?_
                  refine lv_topq (y := nI pt) (((sp15 29 (by decide)).trans k29)) ?_
                  refine lv_iconst (v := 1) hx hb d_Mo_putName_151 (by decide) ?_
                  refine lv_topq (y := nI 1) (rfl) ?_
                  refine lv_iadd hx hb d_Mo_putName_152 ?_
                  refine lv_topq (y := nI (pt + 1)) (nI_add _ _) ?_
                  refine va_put (D := D9) (ty := .int) (ci := 7) (C := R_Mo) (T := F_Mo) (N := 30) hx hb hts i_Mo t_Mo t_Mo_ok n_Mo hown hK hP hD hS 33 ww_33 rfl 25 (by decide) (hts _ g_747) (fun _ h9 => h9) rfl (by decide +kernel) rfl rfl (Nat.le_of_ble_eq_true rfl) d_Mo_putName_153 (fun H locs hP hD hS => ?_)
                  obtain ⟨I19, aI19, sI19, hP, hD⟩ := fx (P := fun z => va_P D9 cls9 (WW a cB cI cJ cG z _ O) H ∧ va_D A0 (WW a cB cI cJ cG z _ O)) ⟨wp_29 hP, wd_29 hD⟩
                  refine lv_goto (tgt := 164) hx hb d_Mo_putName_156 (by decide) ?_
                  have loopR : ∀ (nc : Nat) (j : Nat) (H : Heap) (locs : List Loc) (ls : Array Slot), (k - j = nc) → (i ≤ j ∧ j ≤ k) → va_P D9 cls9 (WW a cB cI cJ cG I19 F16 O) H → va_D A0 (WW a cB cI cJ cG I19 F16 O) → va_S A0 s.heap H locs → lv_has ls 7 [(0, .ref (a 33)), (3, .int (nI (lb G fr j)))] → W p l e (rm9 2 0 0) s m ([.ref (a 33), .int (nI fr), .int (nI 1)] : List Value).toArray below meth c H locs 0 0 Q (F0 m 164 ls []) := by
                    intro nc
                    induction nc using Nat.strongRecOn with
                    | ind nc ihc =>
                      intro j H locs ls hnc hj hP hD hS hl
                      have hNj := isN_lb hN j (by omega)
                      have hpj := isN_p hNj
                      refine lv_aload_n hx hb d_Mo_putName_164 rfl (lv_at hl 0 rfl) ?_
                      refine va_get (D := D9) (ci := 7) (C := R_Mo) (T := F_Mo) (N := 30) hx hb hts i_Mo hown hK hP 33 ww_33 rfl 3 (by decide) (hts _ g_725) (fun _ h9 => h9) rfl d_Mo_putName_165 ?_
                      refine lv_iload_n hx hb d_Mo_putName_168 rfl (lv_at hl 1 rfl) ?_
                      refine va_bald (D := D9) hx hb hK hP 35 0 ww_35 rfl (vp_in_nI (by omega) (by decide)) d_Mo_putName_169 ?_
                      refine lv_topq (y := nI (tb G (lb G fr j))) (by rw [nI_clamp (by omega)]; exact ((congrFun (sq15 35 (by decide)) _).trans ((congrFun (hsF 35 (by decide)) _).trans (BR_raw hGB (by omega) (by omega) (by omega))))) ?_
                      refine lv_if_eq (tgt := 187) hx hb d_Mo_putName_170 (by decide) (fun c20 => ?_) (fun c20 => ?_)
                      · have c20 : tb G (lb G fr j) = 0 := (nI_eq (a := tb G (lb G fr j)) (b := 0) (by omega) (by omega)).mp c20
                        have hjk : j = k := by rcases Nat.eq_zero_or_pos (k - j) with z | z; omega; have := hpj.2.2.2 z; omega
                        have hrr : lb G fr j = r := by rw [hjk]; exact isN_end hN
                        refine lv_iload_n hx hb d_Mo_putName_187 rfl (lv_at hl 1 rfl) ?_
                        refine lv_iconst (v := 1) hx hb d_Mo_putName_188 (by decide) ?_
                        refine lv_topq (y := nI 1) (rfl) ?_
                        refine lv_iadd hx hb d_Mo_putName_189 ?_
                        refine lv_topq (y := nI (lb G fr j + 1)) (nI_add _ _) ?_
                        exact hret _ _ _ _ _ _ _ hS hP hD d_Mo_putName_190 nr_i (by rw [hR, hrr]; exact ⟨rfl, (sm_tr (sm_tr (sm_mo hsI (by decide)) (sm_mo sp15 (by decide))) (sm_mo sI19 (by decide))), ((sI19 28 (by decide)).trans yl15), (((sI19 30 (by decide)).trans (sp15 30 (by decide))).trans k30), aI19, (sm_tr (sm_mo hsF (by decide)) (sm_mo sq15 (by decide))), ym15, MeR_sm hE2 (sq15 45 (by decide)) (sq15 46 (by decide))⟩)
                      · have c20 : ¬ (tb G (lb G fr j) = 0) := fun z9 => c20 ((nI_eq (a := tb G (lb G fr j)) (b := 0) (by omega) (by omega)).mpr z9)
                        have hjk : j < k := by rcases Nat.eq_zero_or_pos (k - j) with z | z; have := hpj.2.2.1 z; omega; omega
                        refine lv_iload_n hx hb d_Mo_putName_173 rfl (lv_at hl 1 rfl) ?_
                        refine lv_aload_n hx hb d_Mo_putName_174 rfl (lv_at hl 0 rfl) ?_
                        refine va_get (D := D9) (ci := 7) (C := R_Mo) (T := F_Mo) (N := 30) hx hb hts i_Mo hown hK hP 33 ww_33 rfl 3 (by decide) (hts _ g_725) (fun _ h9 => h9) rfl d_Mo_putName_175 ?_
                        refine lv_iload_n hx hb d_Mo_putName_178 rfl (lv_at hl 1 rfl) ?_
                        refine va_bald (D := D9) hx hb hK hP 35 0 ww_35 rfl (vp_in_nI (by omega) (by decide)) d_Mo_putName_179 ?_
                        refine lv_topq (y := nI (tb G (lb G fr j))) (by rw [nI_clamp (by omega)]; exact ((congrFun (sq15 35 (by decide)) _).trans ((congrFun (hsF 35 (by decide)) _).trans (BR_raw hGB (by omega) (by omega) (by omega))))) ?_
                        refine lv_iconst (v := 1) hx hb d_Mo_putName_180 (by decide) ?_
                        refine lv_topq (y := nI 1) (rfl) ?_
                        refine lv_iadd hx hb d_Mo_putName_181 ?_
                        refine lv_topq (y := nI (tb G (lb G fr j) + 1)) (nI_add _ _) ?_
                        refine lv_iadd hx hb d_Mo_putName_182 ?_
                        refine lv_topq (y := nI (lb G fr j + (tb G (lb G fr j) + 1))) (nI_add _ _) ?_
                        refine lv_istore_n (lv' := [(3, _), (0, _)]) hx hb d_Mo_putName_183 rfl hl (by decide) rfl (fun ls hl => ?_)
                        refine lv_goto (tgt := 164) hx hb d_Mo_putName_184 (by decide) ?_
                        exact ihc _ (by omega) (j + 1)  _ _ _ rfl ⟨by omega, by omega⟩ hP hD hS (lv_pk hl [1, 0] rfl)
                  exact loopR _ i  _ _ _ rfl ⟨Nat.le_refl _, hi⟩ hP hD hS (lv_pk hl [1, 4] rfl)
            · rw [wN_miss hf9] at hR
              have hWn := wW_step hW2 hNs (by omega) hf9
              refine lv_istore (lv' := [(4, _), (0, _), (1, _), (2, _), (3, _)]) hx hb d_Mo_putName_28 hl (by decide) rfl (fun ls hl => ?_)
              refine lv_iload hx hb d_Mo_putName_30 (lv_at hl 0 rfl) ?_
              refine lv_if_lt (tgt := 38) hx hb d_Mo_putName_32 (by decide) (fun c21 => ?_) (fun c21 => ?_)
              · refine lv_iload_n hx hb d_Mo_putName_38 rfl (lv_at hl 3 rfl) ?_
                refine lv_if_eq (tgt := 85) hx hb d_Mo_putName_39 (by decide) (fun c22 => ?_) (fun c22 => ?_)
                · exact absurd c22 (by decide)
                · refine lv_aload_n hx hb d_Mo_putName_42 rfl (lv_at hl 1 rfl) ?_
                  refine va_get (D := D9) (ci := 7) (C := R_Mo) (T := F_Mo) (N := 30) hx hb hts i_Mo hown hK hP 33 ww_33 rfl 24 (by decide) (hts _ g_746) (fun _ h9 => h9) rfl d_Mo_putName_43 ?_
                  refine lv_topq (y := nI (12 + B2.length)) (k28) ?_
                  refine lv_sipush (v := 16384) hx hb d_Mo_putName_46 (by decide) ?_
                  refine lv_topq (y := nI 16384) (rfl) ?_
                  refine lv_icmp_ge (tgt := 85) hx hb d_Mo_putName_49 (by decide) (fun c23 => ?_) (fun c23 => ?_)
                  · have c23 : 16384 ≤ 12 + B2.length := (nI_leI (a := 16384) (b := 12 + B2.length) (by omega) (by omega)).mp c23
                    have hc8 := hW2.2
                    rw [if_neg (by omega)] at hR hWn
                    refine lv_aload_n hx hb d_Mo_putName_85 rfl (lv_at hl 1 rfl) ?_
                    refine va_get (D := D9) (ci := 7) (C := R_Mo) (T := F_Mo) (N := 30) hx hb hts i_Mo hown hK hP 33 ww_33 rfl 3 (by decide) (hts _ g_725) (fun _ h9 => h9) rfl d_Mo_putName_86 ?_
                    refine lv_iload_n hx hb d_Mo_putName_89 rfl (lv_at hl 4 rfl) ?_
                    refine va_bald (D := D9) hx hb hK hP 35 0 ww_35 rfl (vp_in_nI (by omega) (by decide)) d_Mo_putName_90 ?_
                    refine lv_topq (y := nI (tb G (lb G fr i))) (by rw [nI_clamp (by omega)]; exact ((congrFun (hsF 35 (by decide)) _).trans (BR_raw hGB (by omega) (by omega) (by omega)))) ?_
                    refine lv_istore (lv' := [(5, _), (4, _), (0, _), (1, _), (2, _), (3, _)]) hx hb d_Mo_putName_91 hl (by decide) rfl (fun ls hl => ?_)
                    refine lv_iconst (v := 0) hx hb d_Mo_putName_93 (by decide) ?_
                    refine lv_topq (y := nI 0) (rfl) ?_
                    refine lv_istore (lv' := [(6, _), (5, _), (4, _), (0, _), (1, _), (2, _), (3, _)]) hx hb d_Mo_putName_94 hl (by decide) rfl (fun ls hl => ?_)
                    have loopP : ∀ (nc : Nat) (j : Nat) (Ic : Nat → Int32) (Fc : Nat → Nat → Int32) (H : Heap) (locs : List Loc) (ls : Array Slot), (sm [28] I9 Ic) → (sm [44] F9 Fc) → (tb G (lb G fr i) + 1 - j = nc) → (j ≤ tb G (lb G fr i) + 1) → (Ic 28 = nI (12 + (B2.length + j))) → (BR 0 131200 (Fc 44) (X ++ (B2 ++ sl9 G (lb G fr i) j))) → va_P D9 cls9 (WW a cB cI cJ cG Ic Fc O) H → va_D A0 (WW a cB cI cJ cG Ic Fc O) → va_S A0 s.heap H locs → lv_has ls 7 [(0, .ref (a 33)), (1, .int (nI fr)), (2, .int (nI 1)), (3, .int (nI (lb G fr i))), (4, .int ((-1 : Int32))), (5, .int (nI (tb G (lb G fr i)))), (6, .int (nI j))] → W p l e (rm9 2 0 0) s m ([.ref (a 33), .int (nI fr), .int (nI 1)] : List Value).toArray below meth c H locs 0 0 Q (F0 m 96 ls []) := by
                      intro nc
                      induction nc using Nat.strongRecOn with
                      | ind nc ihc =>
                        intro j Ic Fc H locs ls hsIc hsFc hnc hj kc hBc hP hD hS hl
                        have hXc : (X ++ (B2 ++ sl9 G (lb G fr i) j)).length = 12 + (B2.length + j) := by rw [List.length_append, List.length_append, hX, sl9_len (by omega)]
                        refine lv_iload hx hb d_Mo_putName_96 (lv_at hl 6 rfl) ?_
                        refine lv_iload hx hb d_Mo_putName_98 (lv_at hl 5 rfl) ?_
                        refine lv_icmp_gt (tgt := 122) hx hb d_Mo_putName_100 (by decide) (fun c24 => ?_) (fun c24 => ?_)
                        · have c24 : tb G (lb G fr i) < j := (nI_ltI (a := tb G (lb G fr i)) (b := j) (by omega) (by omega)).mp c24
                          have hjj : j = tb G (lb G fr i) + 1 := by omega
                          rw [hjj] at kc hBc
                          refine lv_iload_n hx hb d_Mo_putName_122 rfl (lv_at hl 3 rfl) ?_
                          refine lv_iload hx hb d_Mo_putName_123 (lv_at hl 5 rfl) ?_
                          refine lv_iconst (v := 1) hx hb d_Mo_putName_125 (by decide) ?_
                          refine lv_topq (y := nI 1) (rfl) ?_
                          refine lv_iadd hx hb d_Mo_putName_126 ?_
                          refine lv_topq (y := nI (tb G (lb G fr i) + 1)) (nI_add _ _) ?_
                          refine lv_iadd hx hb d_Mo_putName_127 ?_
                          refine lv_topq (y := nI (lb G fr i + (tb G (lb G fr i) + 1))) (nI_add _ _) ?_
                          refine lv_istore_n (lv' := [(3, _), (0, _), (1, _), (2, _), (4, _), (5, _), (6, _)]) hx hb d_Mo_putName_128 rfl hl (by decide) rfl (fun ls hl => ?_)
                          refine lv_goto (tgt := 5) hx hb d_Mo_putName_129 (by decide) ?_
                          have hBn : (B2 ++ sl9 G (lb G fr i) (tb G (lb G fr i) + 1)).length = B2.length + (tb G (lb G fr i) + 1) := by rw [List.length_append, sl9_len (by omega)]
                          have hlbn : lb G fr (i + 1) = lb G fr i + (tb G (lb G fr i) + 1) := rfl
                          exact ih _ (by omega) (i + 1) (B2 ++ sl9 G (lb G fr i) (tb G (lb G fr i) + 1)) E2 _ _ _ _ _ (sm_tr (sm_mo hsI (by decide)) (sm_mo hsIc (by decide))) (sm_tr (sm_mo hsF (by decide)) (sm_mo hsFc (by decide))) rfl (by omega) hR hBc (by rw [hBn]; exact kc) (by omega) (MeR_sm hE2 (hsFc 45 (by decide)) (hsFc 46 (by decide))) ((hsIc 30 (by decide)).trans k30) hWn ((hsIc 29 (by decide)).trans k29) hP hD hS (lv_pk hl [1, 2, 3, 0, 4] rfl)
                        · have c24 : ¬ (tb G (lb G fr i) < j) := fun z9 => c24 ((nI_ltI (a := tb G (lb G fr i)) (b := j) (by omega) (by omega)).mpr z9)
                          refine lv_aload_n hx hb d_Mo_putName_103 rfl (lv_at hl 0 rfl) ?_
                          refine lv_aload_n hx hb d_Mo_putName_104 rfl (lv_at hl 0 rfl) ?_
                          refine va_get (D := D9) (ci := 7) (C := R_Mo) (T := F_Mo) (N := 30) hx hb hts i_Mo hown hK hP 33 ww_33 rfl 3 (by decide) (hts _ g_725) (fun _ h9 => h9) rfl d_Mo_putName_105 ?_
                          refine lv_iload_n hx hb d_Mo_putName_108 rfl (lv_at hl 3 rfl) ?_
                          refine lv_iload hx hb d_Mo_putName_109 (lv_at hl 6 rfl) ?_
                          refine lv_iadd hx hb d_Mo_putName_111 ?_
                          refine lv_topq (y := nI (lb G fr i + j)) (nI_add _ _) ?_
                          refine va_bald (D := D9) hx hb hK hP 35 0 ww_35 rfl (vp_in_nI (by omega) (by decide)) d_Mo_putName_112 ?_
                          refine lv_topq (y := F 35 (lb G fr i + j)) (by rw [nI_clamp (by omega)]; exact ((congrFun (hsFc 35 (by decide)) _).trans ((congrFun (hsF 35 (by decide)) _).trans rfl))) ?_
                          refine mw_cV (ci := 7) (k := 33) C0 (m_Mo_put l D9 cB cI cJ cG a O _ _ (X ++ (B2 ++ sl9 G (lb G fr i) j)) (F 35 (lb G fr i + j)) hBc (kc.trans (congrArg nI hXc.symm)) (by omega)) g_930 g_8 g_927 g_929 gs_Mo_put ⟨by decide +kernel, by decide +kernel, show Option.map (fun d => d.parameters.length) (parseMethodDescriptor y_Mo_put.desc) = some 1 by decide +kernel⟩ ⟨by decide, by decide⟩ rfl rfl hP hD hS hA rfl ww_33 hl.1 (Nat.le_of_ble_eq_true rfl) rfl d_Mo_putName_113 ⟨by decide, by decide⟩ (fun v9 w9 H locs hq hP hD hS => ?_)
                          obtain ⟨I25, F26, hw9, q27⟩ := hq
                          subst hw9
                          obtain ⟨rfl, sp9, z9, sq9, w9⟩ := q27
                          refine lv_iinc (lv' := [(6, .int (nI (j + 1))), (0, _), (1, _), (2, _), (3, _), (4, _), (5, _)]) hx hb d_Mo_putName_116 hl (k := 6) rfl (nI_add _ 1) (by decide) rfl (fun ls hl => ?_)
                          refine lv_goto (tgt := 96) hx hb d_Mo_putName_119 (by decide) ?_
                          have hsb := sl9_b (t := G) (p := lb G fr i) (k := j) (x := F 35 (lb G fr i + j)) (v := 0) (by omega) (BR_tb hGB (by omega) (by omega) (by omega))
                          exact ihc _ (by omega) (j + 1) _ _ _ _ _ (sm_tr (sm_mo hsIc (by decide)) (sm_mo sp9 (by decide))) (sm_tr (sm_mo hsFc (by decide)) (sm_mo sq9 (by decide))) rfl (by omega) (by rw [z9, hXc]; exact congrArg nI (by omega)) (by rw [← hsb, ← List.append_assoc, ← List.append_assoc]; rw [← List.append_assoc] at w9; exact w9) hP hD hS (lv_pk hl [1, 2, 3, 4, 5, 6, 0] rfl)
                    exact loopP _ 0 _ _ _ _ _ sm_rf sm_rf rfl (Nat.zero_le _) (k28) (by rw [sl9_0, List.append_nil]; exact hM2) hP hD hS (lv_pk hl [3, 4, 5, 6, 2, 1, 0] rfl)
                  · have c23 : ¬ (16384 ≤ 12 + B2.length) := fun z9 => c23 ((nI_leI (a := 16384) (b := 12 + B2.length) (by omega) (by omega)).mpr z9)
                    have hc8 := hW2.2
                    rw [if_pos (by omega)] at hR hWn
                    refine lv_aload_n hx hb d_Mo_putName_52 rfl (lv_at hl 1 rfl) ?_
                    refine va_get (D := D9) (ci := 7) (C := R_Mo) (T := F_Mo) (N := 30) hx hb hts i_Mo hown hK hP 33 ww_33 rfl 26 (by decide) (hts _ g_748) (fun _ h9 => h9) rfl d_Mo_putName_53 ?_
                    refine lv_aload_n hx hb d_Mo_putName_56 rfl (lv_at hl 1 rfl) ?_
                    refine va_get (D := D9) (ci := 7) (C := R_Mo) (T := F_Mo) (N := 30) hx hb hts i_Mo hown hK hP 33 ww_33 rfl 28 (by decide) (hts _ g_750) (fun _ h9 => h9) rfl d_Mo_putName_57 ?_
                    refine lv_topq (y := nI E2.length) (k30) ?_
                    refine lv_aload_n hx hb d_Mo_putName_60 rfl (lv_at hl 1 rfl) ?_
                    refine va_get (D := D9) (ci := 7) (C := R_Mo) (T := F_Mo) (N := 30) hx hb hts i_Mo hown hK hP 33 ww_33 rfl 24 (by decide) (hts _ g_746) (fun _ h9 => h9) rfl d_Mo_putName_61 ?_
                    refine lv_topq (y := nI (12 + B2.length)) (k28) ?_
                    refine va_iast (D := D9) hx hb hK hP hD hS 45 1 ww_45 rfl (vp_in_nI (by omega) (by decide)) d_Mo_putName_64 (fun H locs hP hD hS => ?_)
                    obtain ⟨F28, aF28, sF28, hP, hD⟩ := fx (P := fun z => va_P D9 cls9 (WW a cB cI cJ cG _ z O) H ∧ va_D A0 (WW a cB cI cJ cG _ z O)) ⟨wpa_45 hP, wda_45 hD⟩
                    rw [nI_clamp (by omega)] at aF28
                    refine lv_aload_n hx hb d_Mo_putName_65 rfl (lv_at hl 1 rfl) ?_
                    refine va_get (D := D9) (ci := 7) (C := R_Mo) (T := F_Mo) (N := 30) hx hb hts i_Mo hown hK hP 33 ww_33 rfl 27 (by decide) (hts _ g_749) (fun _ h9 => h9) rfl d_Mo_putName_66 ?_
                    refine lv_aload_n hx hb d_Mo_putName_69 rfl (lv_at hl 1 rfl) ?_
                    refine va_get (D := D9) (ci := 7) (C := R_Mo) (T := F_Mo) (N := 30) hx hb hts i_Mo hown hK hP 33 ww_33 rfl 28 (by decide) (hts _ g_750) (fun _ h9 => h9) rfl d_Mo_putName_70 ?_
                    refine lv_topq (y := nI E2.length) (k30) ?_
                    refine lv_iload_n hx hb d_Mo_putName_73 rfl (lv_at hl 4 rfl) ?_
                    refine va_iast (D := D9) hx hb hK hP hD hS 46 1 ww_46 rfl (vp_in_nI (by omega) (by decide)) d_Mo_putName_74 (fun H locs hP hD hS => ?_)
                    obtain ⟨F29, aF29, sF29, hP, hD⟩ := fx (P := fun z => va_P D9 cls9 (WW a cB cI cJ cG _ z O) H ∧ va_D A0 (WW a cB cI cJ cG _ z O)) ⟨wpa_46 hP, wda_46 hD⟩
                    rw [nI_clamp (by omega)] at aF29
                    refine lv_aload_n hx hb d_Mo_putName_75 rfl (lv_at hl 1 rfl) ?_
                    refine lv_dup hx hb d_Mo_putName_76 rfl ?_
                    refine va_get (D := D9) (ci := 7) (C := R_Mo) (T := F_Mo) (N := 30) hx hb hts i_Mo hown hK hP 33 ww_33 rfl 28 (by decide) (hts _ g_750) (fun _ h9 => h9) rfl d_Mo_putName_77 ?_
                    refine lv_topq (y := nI E2.length) (k30) ?_
                    refine lv_iconst (v := 1) hx hb d_Mo_putName_80 (by decide) ?_
                    refine lv_topq (y := nI 1) (rfl) ?_
                    refine lv_iadd hx hb d_Mo_putName_81 ?_
                    refine lv_topq (y := nI (E2.length + 1)) (nI_add _ _) ?_
                    refine va_put (D := D9) (ty := .int) (ci := 7) (C := R_Mo) (T := F_Mo) (N := 30) hx hb hts i_Mo t_Mo t_Mo_ok n_Mo hown hK hP hD hS 33 ww_33 rfl 28 (by decide) (hts _ g_750) (fun _ h9 => h9) rfl (by decide +kernel) rfl rfl (Nat.le_of_ble_eq_true rfl) d_Mo_putName_82 (fun H locs hP hD hS => ?_)
                    obtain ⟨I30, aI30, sI30, hP, hD⟩ := fx (P := fun z => va_P D9 cls9 (WW a cB cI cJ cG z _ O) H ∧ va_D A0 (WW a cB cI cJ cG z _ O)) ⟨wp_30 hP, wd_30 hD⟩
                    refine lv_aload_n hx hb d_Mo_putName_85 rfl (lv_at hl 1 rfl) ?_
                    refine va_get (D := D9) (ci := 7) (C := R_Mo) (T := F_Mo) (N := 30) hx hb hts i_Mo hown hK hP 33 ww_33 rfl 3 (by decide) (hts _ g_725) (fun _ h9 => h9) rfl d_Mo_putName_86 ?_
                    refine lv_iload_n hx hb d_Mo_putName_89 rfl (lv_at hl 4 rfl) ?_
                    refine va_bald (D := D9) hx hb hK hP 35 0 ww_35 rfl (vp_in_nI (by omega) (by decide)) d_Mo_putName_90 ?_
                    refine lv_topq (y := nI (tb G (lb G fr i))) (by rw [nI_clamp (by omega)]; exact ((congrFun (sF29 35 (by decide)) _).trans ((congrFun (sF28 35 (by decide)) _).trans ((congrFun (hsF 35 (by decide)) _).trans (BR_raw hGB (by omega) (by omega) (by omega)))))) ?_
                    refine lv_istore (lv' := [(5, _), (4, _), (0, _), (1, _), (2, _), (3, _)]) hx hb d_Mo_putName_91 hl (by decide) rfl (fun ls hl => ?_)
                    refine lv_iconst (v := 0) hx hb d_Mo_putName_93 (by decide) ?_
                    refine lv_topq (y := nI 0) (rfl) ?_
                    refine lv_istore (lv' := [(6, _), (5, _), (4, _), (0, _), (1, _), (2, _), (3, _)]) hx hb d_Mo_putName_94 hl (by decide) rfl (fun ls hl => ?_)
                    have loopP : ∀ (nc : Nat) (j : Nat) (Ic : Nat → Int32) (Fc : Nat → Nat → Int32) (H : Heap) (locs : List Loc) (ls : Array Slot), (sm [28] I30 Ic) → (sm [44] F29 Fc) → (tb G (lb G fr i) + 1 - j = nc) → (j ≤ tb G (lb G fr i) + 1) → (Ic 28 = nI (12 + (B2.length + j))) → (BR 0 131200 (Fc 44) (X ++ (B2 ++ sl9 G (lb G fr i) j))) → va_P D9 cls9 (WW a cB cI cJ cG Ic Fc O) H → va_D A0 (WW a cB cI cJ cG Ic Fc O) → va_S A0 s.heap H locs → lv_has ls 7 [(0, .ref (a 33)), (1, .int (nI fr)), (2, .int (nI 1)), (3, .int (nI (lb G fr i))), (4, .int ((-1 : Int32))), (5, .int (nI (tb G (lb G fr i)))), (6, .int (nI j))] → W p l e (rm9 2 0 0) s m ([.ref (a 33), .int (nI fr), .int (nI 1)] : List Value).toArray below meth c H locs 0 0 Q (F0 m 96 ls []) := by
                      intro nc
                      induction nc using Nat.strongRecOn with
                      | ind nc ihc =>
                        intro j Ic Fc H locs ls hsIc hsFc hnc hj kc hBc hP hD hS hl
                        have hXc : (X ++ (B2 ++ sl9 G (lb G fr i) j)).length = 12 + (B2.length + j) := by rw [List.length_append, List.length_append, hX, sl9_len (by omega)]
                        refine lv_iload hx hb d_Mo_putName_96 (lv_at hl 6 rfl) ?_
                        refine lv_iload hx hb d_Mo_putName_98 (lv_at hl 5 rfl) ?_
                        refine lv_icmp_gt (tgt := 122) hx hb d_Mo_putName_100 (by decide) (fun c31 => ?_) (fun c31 => ?_)
                        · have c31 : tb G (lb G fr i) < j := (nI_ltI (a := tb G (lb G fr i)) (b := j) (by omega) (by omega)).mp c31
                          have hjj : j = tb G (lb G fr i) + 1 := by omega
                          rw [hjj] at kc hBc
                          refine lv_iload_n hx hb d_Mo_putName_122 rfl (lv_at hl 3 rfl) ?_
                          refine lv_iload hx hb d_Mo_putName_123 (lv_at hl 5 rfl) ?_
                          refine lv_iconst (v := 1) hx hb d_Mo_putName_125 (by decide) ?_
                          refine lv_topq (y := nI 1) (rfl) ?_
                          refine lv_iadd hx hb d_Mo_putName_126 ?_
                          refine lv_topq (y := nI (tb G (lb G fr i) + 1)) (nI_add _ _) ?_
                          refine lv_iadd hx hb d_Mo_putName_127 ?_
                          refine lv_topq (y := nI (lb G fr i + (tb G (lb G fr i) + 1))) (nI_add _ _) ?_
                          refine lv_istore_n (lv' := [(3, _), (0, _), (1, _), (2, _), (4, _), (5, _), (6, _)]) hx hb d_Mo_putName_128 rfl hl (by decide) rfl (fun ls hl => ?_)
                          refine lv_goto (tgt := 5) hx hb d_Mo_putName_129 (by decide) ?_
                          have hBn : (B2 ++ sl9 G (lb G fr i) (tb G (lb G fr i) + 1)).length = B2.length + (tb G (lb G fr i) + 1) := by rw [List.length_append, sl9_len (by omega)]
                          have hlbn : lb G fr (i + 1) = lb G fr i + (tb G (lb G fr i) + 1) := rfl
                          exact ih _ (by omega) (i + 1) (B2 ++ sl9 G (lb G fr i) (tb G (lb G fr i) + 1)) (E2 ++ [(12 + B2.length, lb G fr i)]) _ _ _ _ _ (sm_tr (sm_tr (sm_mo hsI (by decide)) (sm_mo sI30 (by decide))) (sm_mo hsIc (by decide))) (sm_tr (sm_tr (sm_tr (sm_mo hsF (by decide)) (sm_mo sF28 (by decide))) (sm_mo sF29 (by decide))) (sm_mo hsFc (by decide))) rfl (by omega) hR hBc (by rw [hBn]; exact kc) (by omega) (MeR_add hE2 (((hsFc 45 (by decide)).trans (sF29 45 (by decide))).trans aF28) (((hsFc 46 (by decide)).trans aF29).trans (by rw [(sF28 46 (by decide))]))) (by rw [List.length_append]; exact ((hsIc 30 (by decide)).trans aI30)) hWn (((hsIc 29 (by decide)).trans (sI30 29 (by decide))).trans k29) hP hD hS (lv_pk hl [1, 2, 3, 0, 4] rfl)
                        · have c31 : ¬ (tb G (lb G fr i) < j) := fun z9 => c31 ((nI_ltI (a := tb G (lb G fr i)) (b := j) (by omega) (by omega)).mpr z9)
                          refine lv_aload_n hx hb d_Mo_putName_103 rfl (lv_at hl 0 rfl) ?_
                          refine lv_aload_n hx hb d_Mo_putName_104 rfl (lv_at hl 0 rfl) ?_
                          refine va_get (D := D9) (ci := 7) (C := R_Mo) (T := F_Mo) (N := 30) hx hb hts i_Mo hown hK hP 33 ww_33 rfl 3 (by decide) (hts _ g_725) (fun _ h9 => h9) rfl d_Mo_putName_105 ?_
                          refine lv_iload_n hx hb d_Mo_putName_108 rfl (lv_at hl 3 rfl) ?_
                          refine lv_iload hx hb d_Mo_putName_109 (lv_at hl 6 rfl) ?_
                          refine lv_iadd hx hb d_Mo_putName_111 ?_
                          refine lv_topq (y := nI (lb G fr i + j)) (nI_add _ _) ?_
                          refine va_bald (D := D9) hx hb hK hP 35 0 ww_35 rfl (vp_in_nI (by omega) (by decide)) d_Mo_putName_112 ?_
                          refine lv_topq (y := F 35 (lb G fr i + j)) (by rw [nI_clamp (by omega)]; exact ((congrFun (hsFc 35 (by decide)) _).trans ((congrFun (sF29 35 (by decide)) _).trans ((congrFun (sF28 35 (by decide)) _).trans ((congrFun (hsF 35 (by decide)) _).trans rfl))))) ?_
                          refine mw_cV (ci := 7) (k := 33) C0 (m_Mo_put l D9 cB cI cJ cG a O _ _ (X ++ (B2 ++ sl9 G (lb G fr i) j)) (F 35 (lb G fr i + j)) hBc (kc.trans (congrArg nI hXc.symm)) (by omega)) g_930 g_8 g_927 g_929 gs_Mo_put ⟨by decide +kernel, by decide +kernel, show Option.map (fun d => d.parameters.length) (parseMethodDescriptor y_Mo_put.desc) = some 1 by decide +kernel⟩ ⟨by decide, by decide⟩ rfl rfl hP hD hS hA rfl ww_33 hl.1 (Nat.le_of_ble_eq_true rfl) rfl d_Mo_putName_113 ⟨by decide, by decide⟩ (fun v9 w9 H locs hq hP hD hS => ?_)
                          obtain ⟨I32, F33, hw9, q34⟩ := hq
                          subst hw9
                          obtain ⟨rfl, sp9, z9, sq9, w9⟩ := q34
                          refine lv_iinc (lv' := [(6, .int (nI (j + 1))), (0, _), (1, _), (2, _), (3, _), (4, _), (5, _)]) hx hb d_Mo_putName_116 hl (k := 6) rfl (nI_add _ 1) (by decide) rfl (fun ls hl => ?_)
                          refine lv_goto (tgt := 96) hx hb d_Mo_putName_119 (by decide) ?_
                          have hsb := sl9_b (t := G) (p := lb G fr i) (k := j) (x := F 35 (lb G fr i + j)) (v := 0) (by omega) (BR_tb hGB (by omega) (by omega) (by omega))
                          exact ihc _ (by omega) (j + 1) _ _ _ _ _ (sm_tr (sm_mo hsIc (by decide)) (sm_mo sp9 (by decide))) (sm_tr (sm_mo hsFc (by decide)) (sm_mo sq9 (by decide))) rfl (by omega) (by rw [z9, hXc]; exact congrArg nI (by omega)) (by rw [← hsb, ← List.append_assoc, ← List.append_assoc]; rw [← List.append_assoc] at w9; exact w9) hP hD hS (lv_pk hl [1, 2, 3, 4, 5, 6, 0] rfl)
                    exact loopP _ 0 _ _ _ _ _ sm_rf sm_rf rfl (Nat.zero_le _) (((sI30 28 (by decide)).trans k28)) (by rw [sl9_0, List.append_nil]; exact (BR_eq hM2 ((sF29 44 (by decide)).trans (sF28 44 (by decide))))) hP hD hS (lv_pk hl [3, 4, 5, 6, 2, 1, 0] rfl)
              · exact absurd c21 (by decide)
  exact loop1 _ 0 B E _ _ _ _ _ sm_rf sm_rf rfl (Nat.zero_le _) rfl hM h28 hBb hE9 h30 hW h29 hP hD hS (lv_pk hl [2, 3, 4, 1, 0] rfl)
