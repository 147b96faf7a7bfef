def nmK (es : List En9) (r : Nat) : Nat := nk 128 (fl es) (of9 es r)
def od9 (es : List En9) (r1 r2 : Nat) : Int32 := cmpN (fl es) (of9 es r1) (nmK es r1) (of9 es r2) (nmK es r2)
def smP (es : List En9) (r1 r2 : Nat) (e1 e2 : En9) : Prop := (eN e1).length = (eN e2).length ∧ ∀ i, i < (eN e1).length → lw (tb (fl es) (of9 es r1 + i)) = lw (tb (fl es) (of9 es r2 + i))
theorem nmK_of {es : List En9} {r : Nat} {e : En9} (h : eOk (fl es) (of9 es r) e) : isN (fl es) (nmK es r) (of9 es r) (of9 es r + (eN e).length - 1) ∧ nmK es r ≤ 127 := by
  obtain ⟨⟨k, h1, h2⟩, -⟩ := h
  unfold nmK
  rw [isN_nk h1 (by omega)]
  exact ⟨h1, h2⟩
theorem g_979 : (Cond.methodLink "WireMessagesModel" (200 : Nat) ({ cls := "WireMessagesModel", name := "label", desc := "(II)I" } : MethodName)) ∈ GT := gt_mem 979 (by decide +kernel) rfl
theorem g_981 : (Cond.instanceMethod ({ cls := "WireMessagesModel", name := "label", desc := "(II)I" } : MethodName)) ∈ GT := gt_mem 981 (by decide +kernel) rfl
theorem g_982 : (Cond.code ({ cls := "WireMessagesModel", name := "label", desc := "(II)I" } : MethodName) prog_10_method_43_code (5 : Nat) (Option.some FieldType.int)) ∈ GT := gt_mem 982 (by decide +kernel) rfl
theorem g_983 : (Cond.methodLink "WireMessagesModel" (203 : Nat) ({ cls := "WireMessagesModel", name := "compared", desc := "(II)I" } : MethodName)) ∈ GT := gt_mem 983 (by decide +kernel) rfl
theorem g_985 : (Cond.instanceMethod ({ cls := "WireMessagesModel", name := "compared", desc := "(II)I" } : MethodName)) ∈ GT := gt_mem 985 (by decide +kernel) rfl
theorem g_986 : (Cond.code ({ cls := "WireMessagesModel", name := "compared", desc := "(II)I" } : MethodName) prog_10_method_44_code (8 : Nat) (Option.some FieldType.int)) ∈ GT := gt_mem 986 (by decide +kernel) rfl
theorem gs_Mo_label : Cond.selects R_Mo y_Mo_label y_Mo_label ∈ GT := gt_sel (q := (⟨"WireMessagesModel", "label", "(II)I"⟩, 30)) (by decide +kernel)
theorem gs_Mo_compared : Cond.selects R_Mo y_Mo_compared y_Mo_compared ∈ GT := gt_sel (q := (⟨"WireMessagesModel", "compared", "(II)I"⟩, 30)) (by decide +kernel)
theorem d_Mo_order_0 : decode b_Mo_order 0 = .ok (.aload_n 0, 1) := by decide +kernel
theorem d_Mo_order_1 : decode b_Mo_order 1 = .ok (.iconst 0, 1) := by decide +kernel
theorem d_Mo_order_2 : decode b_Mo_order 2 = .ok (.putfield 61, 3) := by decide +kernel
theorem d_Mo_order_5 : decode b_Mo_order 5 = .ok (.aload_n 0, 1) := by decide +kernel
theorem d_Mo_order_6 : decode b_Mo_order 6 = .ok (.iload_n 1, 1) := by decide +kernel
theorem d_Mo_order_7 : decode b_Mo_order 7 = .ok (.iload_n 2, 1) := by decide +kernel
theorem d_Mo_order_8 : decode b_Mo_order 8 = .ok (.invokevirtual 190, 3) := by decide +kernel
theorem d_Mo_order_11 : decode b_Mo_order 11 = .ok (.istore 5, 2) := by decide +kernel
theorem d_Mo_order_13 : decode b_Mo_order 13 = .ok (.aload_n 0, 1) := by decide +kernel
theorem d_Mo_order_14 : decode b_Mo_order 14 = .ok (.iload_n 3, 1) := by decide +kernel
theorem d_Mo_order_15 : decode b_Mo_order 15 = .ok (.iload 4, 2) := by decide +kernel
theorem d_Mo_order_17 : decode b_Mo_order 17 = .ok (.invokevirtual 190, 3) := by decide +kernel
theorem d_Mo_order_20 : decode b_Mo_order 20 = .ok (.istore 6, 2) := by decide +kernel
theorem d_Mo_order_22 : decode b_Mo_order 22 = .ok (.iload 5, 2) := by decide +kernel
theorem d_Mo_order_24 : decode b_Mo_order 24 = .ok (.ifCond .lt 8, 3) := by decide +kernel
theorem d_Mo_order_27 : decode b_Mo_order 27 = .ok (.iload 6, 2) := by decide +kernel
theorem d_Mo_order_29 : decode b_Mo_order 29 = .ok (.ifCond .ge 9, 3) := by decide +kernel
theorem d_Mo_order_32 : decode b_Mo_order 32 = .ok (.aload_n 0, 1) := by decide +kernel
theorem d_Mo_order_33 : decode b_Mo_order 33 = .ok (.iconst 1, 1) := by decide +kernel
theorem d_Mo_order_34 : decode b_Mo_order 34 = .ok (.invokevirtual 138, 3) := by decide +kernel
theorem d_Mo_order_37 : decode b_Mo_order 37 = .ok (.ireturn, 1) := by decide +kernel
theorem d_Mo_order_38 : decode b_Mo_order 38 = .ok (.aload_n 0, 1) := by decide +kernel
theorem d_Mo_order_39 : decode b_Mo_order 39 = .ok (.iload 5, 2) := by decide +kernel
theorem d_Mo_order_41 : decode b_Mo_order 41 = .ok (.invokevirtual 197, 3) := by decide +kernel
theorem d_Mo_order_44 : decode b_Mo_order 44 = .ok (.istore 7, 2) := by decide +kernel
theorem d_Mo_order_46 : decode b_Mo_order 46 = .ok (.aload_n 0, 1) := by decide +kernel
theorem d_Mo_order_47 : decode b_Mo_order 47 = .ok (.iload 6, 2) := by decide +kernel
theorem d_Mo_order_49 : decode b_Mo_order 49 = .ok (.invokevirtual 197, 3) := by decide +kernel
theorem d_Mo_order_52 : decode b_Mo_order 52 = .ok (.istore 8, 2) := by decide +kernel
theorem d_Mo_order_54 : decode b_Mo_order 54 = .ok (.iconst 1, 1) := by decide +kernel
theorem d_Mo_order_55 : decode b_Mo_order 55 = .ok (.istore 9, 2) := by decide +kernel
theorem d_Mo_order_57 : decode b_Mo_order 57 = .ok (.iload 9, 2) := by decide +kernel
theorem d_Mo_order_59 : decode b_Mo_order 59 = .ok (.iload 7, 2) := by decide +kernel
theorem d_Mo_order_61 : decode b_Mo_order 61 = .ok (.if_icmp .gt 46, 3) := by decide +kernel
theorem d_Mo_order_64 : decode b_Mo_order 64 = .ok (.iload 9, 2) := by decide +kernel
theorem d_Mo_order_66 : decode b_Mo_order 66 = .ok (.iload 8, 2) := by decide +kernel
theorem d_Mo_order_68 : decode b_Mo_order 68 = .ok (.if_icmp .gt 39, 3) := by decide +kernel
theorem d_Mo_order_71 : decode b_Mo_order 71 = .ok (.aload_n 0, 1) := by decide +kernel
theorem d_Mo_order_72 : decode b_Mo_order 72 = .ok (.aload_n 0, 1) := by decide +kernel
theorem d_Mo_order_73 : decode b_Mo_order 73 = .ok (.iload 5, 2) := by decide +kernel
theorem d_Mo_order_75 : decode b_Mo_order 75 = .ok (.iload 9, 2) := by decide +kernel
theorem d_Mo_order_77 : decode b_Mo_order 77 = .ok (.invokevirtual 200, 3) := by decide +kernel
theorem d_Mo_order_80 : decode b_Mo_order 80 = .ok (.aload_n 0, 1) := by decide +kernel
theorem d_Mo_order_81 : decode b_Mo_order 81 = .ok (.iload 6, 2) := by decide +kernel
theorem d_Mo_order_83 : decode b_Mo_order 83 = .ok (.iload 9, 2) := by decide +kernel
theorem d_Mo_order_85 : decode b_Mo_order 85 = .ok (.invokevirtual 200, 3) := by decide +kernel
theorem d_Mo_order_88 : decode b_Mo_order 88 = .ok (.invokevirtual 203, 3) := by decide +kernel
theorem d_Mo_order_91 : decode b_Mo_order 91 = .ok (.istore 10, 2) := by decide +kernel
theorem d_Mo_order_93 : decode b_Mo_order 93 = .ok (.iload 10, 2) := by decide +kernel
theorem d_Mo_order_95 : decode b_Mo_order 95 = .ok (.ifCond .eq 6, 3) := by decide +kernel
theorem d_Mo_order_98 : decode b_Mo_order 98 = .ok (.iload 10, 2) := by decide +kernel
theorem d_Mo_order_100 : decode b_Mo_order 100 = .ok (.ireturn, 1) := by decide +kernel
theorem d_Mo_order_101 : decode b_Mo_order 101 = .ok (.iinc 9 1, 3) := by decide +kernel
theorem d_Mo_order_104 : decode b_Mo_order 104 = .ok (.goto (-47), 3) := by decide +kernel
theorem d_Mo_order_107 : decode b_Mo_order 107 = .ok (.iload 7, 2) := by decide +kernel
theorem d_Mo_order_109 : decode b_Mo_order 109 = .ok (.iload 8, 2) := by decide +kernel
theorem d_Mo_order_111 : decode b_Mo_order 111 = .ok (.if_icmp .ne 7, 3) := by decide +kernel
theorem d_Mo_order_114 : decode b_Mo_order 114 = .ok (.iconst 0, 1) := by decide +kernel
theorem d_Mo_order_115 : decode b_Mo_order 115 = .ok (.goto 15, 3) := by decide +kernel
theorem d_Mo_order_118 : decode b_Mo_order 118 = .ok (.iload 7, 2) := by decide +kernel
theorem d_Mo_order_120 : decode b_Mo_order 120 = .ok (.iload 8, 2) := by decide +kernel
theorem d_Mo_order_122 : decode b_Mo_order 122 = .ok (.if_icmp .ge 7, 3) := by decide +kernel
theorem d_Mo_order_125 : decode b_Mo_order 125 = .ok (.iconst (-1), 1) := by decide +kernel
theorem d_Mo_order_126 : decode b_Mo_order 126 = .ok (.goto 4, 3) := by decide +kernel
theorem d_Mo_order_129 : decode b_Mo_order 129 = .ok (.iconst 1, 1) := by decide +kernel
theorem d_Mo_order_130 : decode b_Mo_order 130 = .ok (.ireturn, 1) := by decide +kernel
theorem d_Mo_same_0 : decode b_Mo_same 0 = .ok (.aload_n 0, 1) := by decide +kernel
theorem d_Mo_same_1 : decode b_Mo_same 1 = .ok (.iconst 0, 1) := by decide +kernel
theorem d_Mo_same_2 : decode b_Mo_same 2 = .ok (.putfield 61, 3) := by decide +kernel
theorem d_Mo_same_5 : decode b_Mo_same 5 = .ok (.aload_n 0, 1) := by decide +kernel
theorem d_Mo_same_6 : decode b_Mo_same 6 = .ok (.iload_n 1, 1) := by decide +kernel
theorem d_Mo_same_7 : decode b_Mo_same 7 = .ok (.iload_n 2, 1) := by decide +kernel
theorem d_Mo_same_8 : decode b_Mo_same 8 = .ok (.invokevirtual 190, 3) := by decide +kernel
theorem d_Mo_same_11 : decode b_Mo_same 11 = .ok (.istore 5, 2) := by decide +kernel
theorem d_Mo_same_13 : decode b_Mo_same 13 = .ok (.aload_n 0, 1) := by decide +kernel
theorem d_Mo_same_14 : decode b_Mo_same 14 = .ok (.iload_n 3, 1) := by decide +kernel
theorem d_Mo_same_15 : decode b_Mo_same 15 = .ok (.iload 4, 2) := by decide +kernel
theorem d_Mo_same_17 : decode b_Mo_same 17 = .ok (.invokevirtual 190, 3) := by decide +kernel
theorem d_Mo_same_20 : decode b_Mo_same 20 = .ok (.istore 6, 2) := by decide +kernel
theorem d_Mo_same_22 : decode b_Mo_same 22 = .ok (.iload 5, 2) := by decide +kernel
theorem d_Mo_same_24 : decode b_Mo_same 24 = .ok (.ifCond .lt 8, 3) := by decide +kernel
theorem d_Mo_same_27 : decode b_Mo_same 27 = .ok (.iload 6, 2) := by decide +kernel
theorem d_Mo_same_29 : decode b_Mo_same 29 = .ok (.ifCond .ge 10, 3) := by decide +kernel
theorem d_Mo_same_32 : decode b_Mo_same 32 = .ok (.aload_n 0, 1) := by decide +kernel
theorem d_Mo_same_33 : decode b_Mo_same 33 = .ok (.iconst 1, 1) := by decide +kernel
theorem d_Mo_same_34 : decode b_Mo_same 34 = .ok (.putfield 61, 3) := by decide +kernel
theorem d_Mo_same_37 : decode b_Mo_same 37 = .ok (.iconst 0, 1) := by decide +kernel
theorem d_Mo_same_38 : decode b_Mo_same 38 = .ok (.ireturn, 1) := by decide +kernel
theorem d_Mo_same_39 : decode b_Mo_same 39 = .ok (.aload_n 0, 1) := by decide +kernel
theorem d_Mo_same_40 : decode b_Mo_same 40 = .ok (.getfield 34, 3) := by decide +kernel
theorem d_Mo_same_43 : decode b_Mo_same 43 = .ok (.iload 5, 2) := by decide +kernel
theorem d_Mo_same_45 : decode b_Mo_same 45 = .ok (.iaload, 1) := by decide +kernel
theorem d_Mo_same_46 : decode b_Mo_same 46 = .ok (.aload_n 0, 1) := by decide +kernel
theorem d_Mo_same_47 : decode b_Mo_same 47 = .ok (.getfield 34, 3) := by decide +kernel
theorem d_Mo_same_50 : decode b_Mo_same 50 = .ok (.iload 6, 2) := by decide +kernel
theorem d_Mo_same_52 : decode b_Mo_same 52 = .ok (.iaload, 1) := by decide +kernel
theorem d_Mo_same_53 : decode b_Mo_same 53 = .ok (.if_icmp .eq 5, 3) := by decide +kernel
theorem d_Mo_same_56 : decode b_Mo_same 56 = .ok (.iconst 0, 1) := by decide +kernel
theorem d_Mo_same_57 : decode b_Mo_same 57 = .ok (.ireturn, 1) := by decide +kernel
theorem d_Mo_same_58 : decode b_Mo_same 58 = .ok (.iconst 0, 1) := by decide +kernel
theorem d_Mo_same_59 : decode b_Mo_same 59 = .ok (.istore 7, 2) := by decide +kernel
theorem d_Mo_same_61 : decode b_Mo_same 61 = .ok (.iload 7, 2) := by decide +kernel
theorem d_Mo_same_63 : decode b_Mo_same 63 = .ok (.aload_n 0, 1) := by decide +kernel
theorem d_Mo_same_64 : decode b_Mo_same 64 = .ok (.getfield 34, 3) := by decide +kernel
theorem d_Mo_same_67 : decode b_Mo_same 67 = .ok (.iload 5, 2) := by decide +kernel
theorem d_Mo_same_69 : decode b_Mo_same 69 = .ok (.iaload, 1) := by decide +kernel
theorem d_Mo_same_70 : decode b_Mo_same 70 = .ok (.if_icmp .ge 50, 3) := by decide +kernel
theorem d_Mo_same_73 : decode b_Mo_same 73 = .ok (.aload_n 0, 1) := by decide +kernel
theorem d_Mo_same_74 : decode b_Mo_same 74 = .ok (.getfield 15, 3) := by decide +kernel
theorem d_Mo_same_77 : decode b_Mo_same 77 = .ok (.aload_n 0, 1) := by decide +kernel
theorem d_Mo_same_78 : decode b_Mo_same 78 = .ok (.getfield 31, 3) := by decide +kernel
theorem d_Mo_same_81 : decode b_Mo_same 81 = .ok (.iload 5, 2) := by decide +kernel
theorem d_Mo_same_83 : decode b_Mo_same 83 = .ok (.iaload, 1) := by decide +kernel
theorem d_Mo_same_84 : decode b_Mo_same 84 = .ok (.iload 7, 2) := by decide +kernel
theorem d_Mo_same_86 : decode b_Mo_same 86 = .ok (.iadd, 1) := by decide +kernel
theorem d_Mo_same_87 : decode b_Mo_same 87 = .ok (.baload, 1) := by decide +kernel
theorem d_Mo_same_88 : decode b_Mo_same 88 = .ok (.invokestatic 194, 3) := by decide +kernel
theorem d_Mo_same_91 : decode b_Mo_same 91 = .ok (.aload_n 0, 1) := by decide +kernel
theorem d_Mo_same_92 : decode b_Mo_same 92 = .ok (.getfield 15, 3) := by decide +kernel
theorem d_Mo_same_95 : decode b_Mo_same 95 = .ok (.aload_n 0, 1) := by decide +kernel
theorem d_Mo_same_96 : decode b_Mo_same 96 = .ok (.getfield 31, 3) := by decide +kernel
theorem d_Mo_same_99 : decode b_Mo_same 99 = .ok (.iload 6, 2) := by decide +kernel
theorem d_Mo_same_101 : decode b_Mo_same 101 = .ok (.iaload, 1) := by decide +kernel
theorem d_Mo_same_102 : decode b_Mo_same 102 = .ok (.iload 7, 2) := by decide +kernel
theorem d_Mo_same_104 : decode b_Mo_same 104 = .ok (.iadd, 1) := by decide +kernel
theorem d_Mo_same_105 : decode b_Mo_same 105 = .ok (.baload, 1) := by decide +kernel
theorem d_Mo_same_106 : decode b_Mo_same 106 = .ok (.invokestatic 194, 3) := by decide +kernel
theorem d_Mo_same_109 : decode b_Mo_same 109 = .ok (.if_icmp .eq 5, 3) := by decide +kernel
theorem d_Mo_same_112 : decode b_Mo_same 112 = .ok (.iconst 0, 1) := by decide +kernel
theorem d_Mo_same_113 : decode b_Mo_same 113 = .ok (.ireturn, 1) := by decide +kernel
theorem d_Mo_same_114 : decode b_Mo_same 114 = .ok (.iinc 7 1, 3) := by decide +kernel
theorem d_Mo_same_117 : decode b_Mo_same 117 = .ok (.goto (-56), 3) := by decide +kernel
theorem d_Mo_same_120 : decode b_Mo_same 120 = .ok (.iconst 1, 1) := by decide +kernel
theorem d_Mo_same_121 : decode b_Mo_same 121 = .ok (.ireturn, 1) := by decide +kernel
set_option maxHeartbeats 4000000 in
set_option maxRecDepth 100000 in
/-- the reference: order -/
theorem m_Mo_order (l : Launch) (D9 : va_G) (cB cI cJ cG : ClassId) (a : Nat → Nat) (O : Nat → Int64) (I : Nat → Int32) (F : Nat → Nat → Int32) (es : List En9) (hR : MoR F es) (h18 : I 18 = nI es.length) (hO : okE es) (hEk : ∀ r e, es[r]? = some e → eOk (fl es) (of9 es r) e) (x y w z : Int32) : MC l D9 cB cI cJ cG a O y_Mo_order b_Mo_order 11 (some .int) 2 [.ref (a 33), .int (x), .int (y), .int (w), .int (z)] I F (fun v I' F' => ((rI x y es = none ∨ rI w z es = none) ∧ (∃ u : Int32, v = some (.int u)) ∧ sm [15] I I' ∧ I' 15 = nI 1 ∧ F = F') ∨ (∃ r1 r2 e1 e2, rI x y es = some r1 ∧ rI w z es = some r2 ∧ es[r1]? = some e1 ∧ es[r2]? = some e2 ∧ v = some (.int (od9 es r1 r2)) ∧ sm [15] I I' ∧ I' 15 = nI 0 ∧ F = F')) := by
  refine mc_of (by decide) (Nat.le_of_ble_eq_true rfl) ?_
  intro p e s m below meth c ls A0 Q C0 hP hD hA hS hl hret
  obtain ⟨hx, hb, hml, hr, hlocks, hown, hts, hK⟩ := id C0
  have hl : lv_has ls 11 [(0, .ref (a 33)), (1, .int (x)), (2, .int (y)), (3, .int (w)), (4, .int (z))] := hl
  have hln := okE_len hO
  have hGl := hO.2.2.1
  have hGB := hR.2
  refine lv_aload_n hx hb d_Mo_order_0 rfl (lv_at hl 0 rfl) ?_
  refine lv_iconst (v := 0) hx hb d_Mo_order_1 (by decide) ?_
  refine lv_topq (y := nI 0) (rfl) ?_
  refine va_put (D := D9) (ty := .int) (ci := 7) (C := R_Mo) (T := F_Mo) (N := 30) hx hb hts i_Mo t_Mo t_Mo_ok n_Mo hown hK hP hD hS 33 ww_33 rfl 0 (by decide) (hts _ g_722) (fun _ h9 => h9) rfl (by decide +kernel) rfl rfl (Nat.le_of_ble_eq_true rfl) d_Mo_order_2 (fun H locs hP hD hS => ?_)
  obtain ⟨I1, aI1, sI1, hP, hD⟩ := fx (P := fun z => va_P D9 cls9 (WW a cB cI cJ cG z _ O) H ∧ va_D A0 (WW a cB cI cJ cG z _ O)) ⟨wp_15 hP, wd_15 hD⟩
  refine lv_aload_n hx hb d_Mo_order_5 rfl (lv_at hl 0 rfl) ?_
  refine lv_iload_n hx hb d_Mo_order_6 rfl (lv_at hl 1 rfl) ?_
  refine lv_iload_n hx hb d_Mo_order_7 rfl (lv_at hl 2 rfl) ?_
  refine mw_cV (ci := 7) (k := 33) C0 (m_Mo_place l D9 cB cI cJ cG a O _ _ es hR ((sI1 18 (by decide)).trans h18) hO x y) g_959 g_8 g_956 g_958 gs_Mo_place ⟨by decide +kernel, by decide +kernel, show Option.map (fun d => d.parameters.length) (parseMethodDescriptor y_Mo_place.desc) = some 2 by decide +kernel⟩ ⟨by decide, by decide⟩ rfl rfl hP hD hS hA rfl ww_33 hl.1 (Nat.le_of_ble_eq_true rfl) rfl d_Mo_order_8 ⟨by decide, by decide⟩ (fun v9 w9 H locs hq hP hD hS => ?_)
  obtain ⟨I2, F3, hw9, q4⟩ := hq
  subst hw9
  obtain ⟨rfl, rfl, rfl⟩ := q4
  cases hr1 : rI x y es with
  | none =>
    refine lv_topq (y := (-1 : Int32)) (rfl) ?_
    refine lv_istore (lv' := [(5, _), (0, _), (1, _), (2, _), (3, _), (4, _)]) hx hb d_Mo_order_11 hl (by decide) rfl (fun ls hl => ?_)
    refine lv_aload_n hx hb d_Mo_order_13 rfl (lv_at hl 1 rfl) ?_
    refine lv_iload_n hx hb d_Mo_order_14 rfl (lv_at hl 4 rfl) ?_
    refine lv_iload hx hb d_Mo_order_15 (lv_at hl 5 rfl) ?_
    refine mw_cV (ci := 7) (k := 33) C0 (m_Mo_place l D9 cB cI cJ cG a O _ _ es hR ((sI1 18 (by decide)).trans h18) hO w z) g_959 g_8 g_956 g_958 gs_Mo_place ⟨by decide +kernel, by decide +kernel, show Option.map (fun d => d.parameters.length) (parseMethodDescriptor y_Mo_place.desc) = some 2 by decide +kernel⟩ ⟨by decide, by decide⟩ rfl rfl hP hD hS hA rfl ww_33 hl.1 (Nat.le_of_ble_eq_true rfl) rfl d_Mo_order_17 ⟨by decide, by decide⟩ (fun v9 w9 H locs hq hP hD hS => ?_)
    obtain ⟨I5, F6, hw9, q7⟩ := hq
    subst hw9
    obtain ⟨rfl, rfl, rfl⟩ := q7
    cases hr2 : rI w z es with
    | none =>
      refine lv_topq (y := (-1 : Int32)) (rfl) ?_
      refine lv_istore (lv' := [(6, _), (5, _), (0, _), (1, _), (2, _), (3, _), (4, _)]) hx hb d_Mo_order_20 hl (by decide) rfl (fun ls hl => ?_)
      refine lv_iload hx hb d_Mo_order_22 (lv_at hl 1 rfl) ?_
      refine lv_if_lt (tgt := 32) hx hb d_Mo_order_24 (by decide) (fun c8 => ?_) (fun c8 => ?_)
      · refine lv_aload_n hx hb d_Mo_order_32 rfl (lv_at hl 2 rfl) ?_
        refine lv_iconst (v := 1) hx hb d_Mo_order_33 (by decide) ?_
        refine lv_topq (y := nI 1) (rfl) ?_
        refine mw_cV (ci := 7) (k := 33) C0 (m_Mo_fail l D9 cB cI cJ cG a O _ _ (nI 1)) g_873 g_8 g_870 g_872 gs_Mo_fail ⟨by decide +kernel, by decide +kernel, show Option.map (fun d => d.parameters.length) (parseMethodDescriptor y_Mo_fail.desc) = some 1 by decide +kernel⟩ ⟨by decide, by decide⟩ rfl rfl hP hD hS hA rfl ww_33 hl.1 (Nat.le_of_ble_eq_true rfl) rfl d_Mo_order_34 ⟨by decide, by decide⟩ (fun v9 w9 H locs hq hP hD hS => ?_)
        obtain ⟨I9, F10, hw9, q11⟩ := hq
        subst hw9
        obtain ⟨rfl, sI9, zI9, rfl⟩ := q11
        exact hret _ _ _ _ _ _ _ hS hP hD d_Mo_order_37 nr_i (Or.inl ⟨Or.inl hr1, ⟨_, rfl⟩, (sm_tr (sm_mo sI1 (by decide)) (sm_mo sI9 (by decide))), zI9, rfl⟩)
      · exact absurd c8 (by decide)
    | some r2 =>
      refine lv_topq (y := nI r2) (rfl) ?_
      obtain ⟨er2, hrr2, hlr2⟩ := rI_some hr2
      obtain ⟨zr236, zr237, zr238, zr239, zr240, zr241, zr242, zr243⟩ := hR.1 r2 er2 hrr2
      obtain ⟨nr2, kr2⟩ := nmK_of (hEk r2 er2 hrr2)
      have hofr2 := of9_next hrr2
      have hogr2 := of9_le es (r2 + 1)
      refine lv_istore (lv' := [(6, _), (5, _), (0, _), (1, _), (2, _), (3, _), (4, _)]) hx hb d_Mo_order_20 hl (by decide) rfl (fun ls hl => ?_)
      refine lv_iload hx hb d_Mo_order_22 (lv_at hl 1 rfl) ?_
      refine lv_if_lt (tgt := 32) hx hb d_Mo_order_24 (by decide) (fun c12 => ?_) (fun c12 => ?_)
      · refine lv_aload_n hx hb d_Mo_order_32 rfl (lv_at hl 2 rfl) ?_
        refine lv_iconst (v := 1) hx hb d_Mo_order_33 (by decide) ?_
        refine lv_topq (y := nI 1) (rfl) ?_
        refine mw_cV (ci := 7) (k := 33) C0 (m_Mo_fail l D9 cB cI cJ cG a O _ _ (nI 1)) g_873 g_8 g_870 g_872 gs_Mo_fail ⟨by decide +kernel, by decide +kernel, show Option.map (fun d => d.parameters.length) (parseMethodDescriptor y_Mo_fail.desc) = some 1 by decide +kernel⟩ ⟨by decide, by decide⟩ rfl rfl hP hD hS hA rfl ww_33 hl.1 (Nat.le_of_ble_eq_true rfl) rfl d_Mo_order_34 ⟨by decide, by decide⟩ (fun v9 w9 H locs hq hP hD hS => ?_)
        obtain ⟨I13, F14, hw9, q15⟩ := hq
        subst hw9
        obtain ⟨rfl, sI13, zI13, rfl⟩ := q15
        exact hret _ _ _ _ _ _ _ hS hP hD d_Mo_order_37 nr_i (Or.inl ⟨Or.inl hr1, ⟨_, rfl⟩, (sm_tr (sm_mo sI1 (by decide)) (sm_mo sI13 (by decide))), zI13, rfl⟩)
      · exact absurd c12 (by decide)
  | some r1 =>
    refine lv_topq (y := nI r1) (rfl) ?_
    obtain ⟨er1, hrr1, hlr1⟩ := rI_some hr1
    obtain ⟨zr136, zr137, zr138, zr139, zr140, zr141, zr142, zr143⟩ := hR.1 r1 er1 hrr1
    obtain ⟨nr1, kr1⟩ := nmK_of (hEk r1 er1 hrr1)
    have hofr1 := of9_next hrr1
    have hogr1 := of9_le es (r1 + 1)
    refine lv_istore (lv' := [(5, _), (0, _), (1, _), (2, _), (3, _), (4, _)]) hx hb d_Mo_order_11 hl (by decide) rfl (fun ls hl => ?_)
    refine lv_aload_n hx hb d_Mo_order_13 rfl (lv_at hl 1 rfl) ?_
    refine lv_iload_n hx hb d_Mo_order_14 rfl (lv_at hl 4 rfl) ?_
    refine lv_iload hx hb d_Mo_order_15 (lv_at hl 5 rfl) ?_
    refine mw_cV (ci := 7) (k := 33) C0 (m_Mo_place l D9 cB cI cJ cG a O _ _ es hR ((sI1 18 (by decide)).trans h18) hO w z) g_959 g_8 g_956 g_958 gs_Mo_place ⟨by decide +kernel, by decide +kernel, show Option.map (fun d => d.parameters.length) (parseMethodDescriptor y_Mo_place.desc) = some 2 by decide +kernel⟩ ⟨by decide, by decide⟩ rfl rfl hP hD hS hA rfl ww_33 hl.1 (Nat.le_of_ble_eq_true rfl) rfl d_Mo_order_17 ⟨by decide, by decide⟩ (fun v9 w9 H locs hq hP hD hS => ?_)
    obtain ⟨I16, F17, hw9, q18⟩ := hq
    subst hw9
    obtain ⟨rfl, rfl, rfl⟩ := q18
    cases hr2 : rI w z es with
    | none =>
      refine lv_topq (y := (-1 : Int32)) (rfl) ?_
      refine lv_istore (lv' := [(6, _), (5, _), (0, _), (1, _), (2, _), (3, _), (4, _)]) hx hb d_Mo_order_20 hl (by decide) rfl (fun ls hl => ?_)
      refine lv_iload hx hb d_Mo_order_22 (lv_at hl 1 rfl) ?_
      refine lv_if_lt (tgt := 32) hx hb d_Mo_order_24 (by decide) (fun c19 => ?_) (fun c19 => ?_)
      · have c19 : r1 < 0 := (nI_ltI (a := r1) (b := 0) (by omega) (by omega)).mp c19
        exfalso; omega
      · have c19 : ¬ (r1 < 0) := fun z9 => c19 ((nI_ltI (a := r1) (b := 0) (by omega) (by omega)).mpr z9)
        refine lv_iload hx hb d_Mo_order_27 (lv_at hl 0 rfl) ?_
        refine lv_if_ge (tgt := 38) hx hb d_Mo_order_29 (by decide) (fun c20 => ?_) (fun c20 => ?_)
        · exact absurd c20 (by decide)
        · refine lv_aload_n hx hb d_Mo_order_32 rfl (lv_at hl 2 rfl) ?_
          refine lv_iconst (v := 1) hx hb d_Mo_order_33 (by decide) ?_
          refine lv_topq (y := nI 1) (rfl) ?_
          refine mw_cV (ci := 7) (k := 33) C0 (m_Mo_fail l D9 cB cI cJ cG a O _ _ (nI 1)) g_873 g_8 g_870 g_872 gs_Mo_fail ⟨by decide +kernel, by decide +kernel, show Option.map (fun d => d.parameters.length) (parseMethodDescriptor y_Mo_fail.desc) = some 1 by decide +kernel⟩ ⟨by decide, by decide⟩ rfl rfl hP hD hS hA rfl ww_33 hl.1 (Nat.le_of_ble_eq_true rfl) rfl d_Mo_order_34 ⟨by decide, by decide⟩ (fun v9 w9 H locs hq hP hD hS => ?_)
          obtain ⟨I21, F22, hw9, q23⟩ := hq
          subst hw9
          obtain ⟨rfl, sI21, zI21, rfl⟩ := q23
          exact hret _ _ _ _ _ _ _ hS hP hD d_Mo_order_37 nr_i (Or.inl ⟨Or.inr hr2, ⟨_, rfl⟩, (sm_tr (sm_mo sI1 (by decide)) (sm_mo sI21 (by decide))), zI21, rfl⟩)
    | some r2 =>
      refine lv_topq (y := nI r2) (rfl) ?_
      obtain ⟨er2, hrr2, hlr2⟩ := rI_some hr2
      obtain ⟨zr236, zr237, zr238, zr239, zr240, zr241, zr242, zr243⟩ := hR.1 r2 er2 hrr2
      obtain ⟨nr2, kr2⟩ := nmK_of (hEk r2 er2 hrr2)
      have hofr2 := of9_next hrr2
      have hogr2 := of9_le es (r2 + 1)
      refine lv_istore (lv' := [(6, _), (5, _), (0, _), (1, _), (2, _), (3, _), (4, _)]) hx hb d_Mo_order_20 hl (by decide) rfl (fun ls hl => ?_)
      refine lv_iload hx hb d_Mo_order_22 (lv_at hl 1 rfl) ?_
      refine lv_if_lt (tgt := 32) hx hb d_Mo_order_24 (by decide) (fun c24 => ?_) (fun c24 => ?_)
      · have c24 : r1 < 0 := (nI_ltI (a := r1) (b := 0) (by omega) (by omega)).mp c24
        exfalso; omega
      · have c24 : ¬ (r1 < 0) := fun z9 => c24 ((nI_ltI (a := r1) (b := 0) (by omega) (by omega)).mpr z9)
        refine lv_iload hx hb d_Mo_order_27 (lv_at hl 0 rfl) ?_
        refine lv_if_ge (tgt := 38) hx hb d_Mo_order_29 (by decide) (fun c25 => ?_) (fun c25 => ?_)
        · have c25 : 0 ≤ r2 := (nI_leI (a := 0) (b := r2) (by omega) (by omega)).mp c25
          refine lv_aload_n hx hb d_Mo_order_38 rfl (lv_at hl 2 rfl) ?_
          refine lv_iload hx hb d_Mo_order_39 (lv_at hl 1 rfl) ?_
          refine mw_cV (ci := 7) (k := 33) C0 (m_Mo_labels l D9 cB cI cJ cG a O _ _ es hR ((sI1 18 (by decide)).trans h18) hO hEk r1 er1 hrr1 (nmK es r1) _ nr1 kr1) g_978 g_8 g_975 g_977 gs_Mo_labels ⟨by decide +kernel, by decide +kernel, show Option.map (fun d => d.parameters.length) (parseMethodDescriptor y_Mo_labels.desc) = some 1 by decide +kernel⟩ ⟨by decide, by decide⟩ rfl rfl hP hD hS hA rfl ww_33 hl.1 (Nat.le_of_ble_eq_true rfl) rfl d_Mo_order_41 ⟨by decide, by decide⟩ (fun v9 w9 H locs hq hP hD hS => ?_)
          obtain ⟨I26, F27, hw9, q28⟩ := hq
          subst hw9
          obtain ⟨rfl, rfl, rfl⟩ := q28
          refine lv_istore (lv' := [(7, _), (6, _), (5, _), (0, _), (1, _), (2, _), (3, _), (4, _)]) hx hb d_Mo_order_44 hl (by decide) rfl (fun ls hl => ?_)
          refine lv_aload_n hx hb d_Mo_order_46 rfl (lv_at hl 3 rfl) ?_
          refine lv_iload hx hb d_Mo_order_47 (lv_at hl 1 rfl) ?_
          refine mw_cV (ci := 7) (k := 33) C0 (m_Mo_labels l D9 cB cI cJ cG a O _ _ es hR ((sI1 18 (by decide)).trans h18) hO hEk r2 er2 hrr2 (nmK es r2) _ nr2 kr2) g_978 g_8 g_975 g_977 gs_Mo_labels ⟨by decide +kernel, by decide +kernel, show Option.map (fun d => d.parameters.length) (parseMethodDescriptor y_Mo_labels.desc) = some 1 by decide +kernel⟩ ⟨by decide, by decide⟩ rfl rfl hP hD hS hA rfl ww_33 hl.1 (Nat.le_of_ble_eq_true rfl) rfl d_Mo_order_49 ⟨by decide, by decide⟩ (fun v9 w9 H locs hq hP hD hS => ?_)
          obtain ⟨I29, F30, hw9, q31⟩ := hq
          subst hw9
          obtain ⟨rfl, rfl, rfl⟩ := q31
          refine lv_istore (lv' := [(8, _), (7, _), (6, _), (5, _), (0, _), (1, _), (2, _), (3, _), (4, _)]) hx hb d_Mo_order_52 hl (by decide) rfl (fun ls hl => ?_)
          refine lv_iconst (v := 1) hx hb d_Mo_order_54 (by decide) ?_
          refine lv_topq (y := nI 1) (rfl) ?_
          refine lv_istore (lv' := [(9, _), (8, _), (7, _), (6, _), (5, _), (0, _), (1, _), (2, _), (3, _), (4, _)]) hx hb d_Mo_order_55 hl (by decide) rfl (fun ls hl => ?_)
          have loopO : ∀ (nc : Nat) (i : Nat) (H : Heap) (locs : List Loc) (ls : Array Slot), (min (nmK es r1) (nmK es r2) + 1 - i = nc) → (1 ≤ i ∧ i ≤ min (nmK es r1) (nmK es r2) + 1) → (od9 es r1 r2 = cm (fl es) (of9 es r1) (nmK es r1) (of9 es r2) (nmK es r2) (min (nmK es r1) (nmK es r2) + 1 - i) i) → va_P D9 cls9 (WW a cB cI cJ cG I1 F O) H → va_D A0 (WW a cB cI cJ cG I1 F O) → va_S A0 s.heap H locs → lv_has ls 11 [(0, .ref (a 33)), (5, .int (nI r1)), (6, .int (nI r2)), (7, .int (nI (nmK es r1))), (8, .int (nI (nmK es r2))), (9, .int (nI i))] → W p l e (rm9 2 0 0) s m ([.ref (a 33), .int (x), .int (y), .int (w), .int (z)] : List Value).toArray below meth c H locs 0 0 Q (F0 m 57 ls []) := by
            intro nc
            induction nc using Nat.strongRecOn with
            | ind nc ihc =>
              intro i H locs ls hnc hi hC hP hD hS hl
              refine lv_iload hx hb d_Mo_order_57 (lv_at hl 5 rfl) ?_
              refine lv_iload hx hb d_Mo_order_59 (lv_at hl 3 rfl) ?_
              refine lv_icmp_gt (tgt := 107) hx hb d_Mo_order_61 (by decide) (fun c32 => ?_) (fun c32 => ?_)
              · have c32 : nmK es r1 < i := (nI_ltI (a := nmK es r1) (b := i) (by omega) (by omega)).mp c32
                rw [show min (nmK es r1) (nmK es r2) + 1 - i = 0 from by omega] at hC
                have hC : od9 es r1 r2 = wy (nmK es r1) (nmK es r2) := hC
                refine lv_iload hx hb d_Mo_order_107 (lv_at hl 3 rfl) ?_
                refine lv_iload hx hb d_Mo_order_109 (lv_at hl 4 rfl) ?_
                refine lv_icmp_ne (tgt := 118) hx hb d_Mo_order_111 (by decide) (fun c33 => ?_) (fun c33 => ?_)
                · have c33 : ¬ (nmK es r1 = nmK es r2) := fun z9 => c33 ((nI_eq (a := nmK es r1) (b := nmK es r2) (by omega) (by omega)).mpr z9)
                  refine lv_iload hx hb d_Mo_order_118 (lv_at hl 3 rfl) ?_
                  refine lv_iload hx hb d_Mo_order_120 (lv_at hl 4 rfl) ?_
                  refine lv_icmp_ge (tgt := 129) hx hb d_Mo_order_122 (by decide) (fun c34 => ?_) (fun c34 => ?_)
                  · have c34 : nmK es r2 ≤ nmK es r1 := (nI_leI (a := nmK es r2) (b := nmK es r1) (by omega) (by omega)).mp c34
                    refine lv_iconst (v := 1) hx hb d_Mo_order_129 (by decide) ?_
                    refine lv_topq (y := nI 1) (rfl) ?_
                    exact hret _ _ _ _ _ _ _ hS hP hD d_Mo_order_130 nr_i (Or.inr ⟨r1, r2, er1, er2, hr1, hr2, hrr1, hrr2, by rw [hC]; unfold wy; rw [if_neg (by omega), if_neg (by omega)]; rfl, (sm_mo sI1 (by decide)), aI1, rfl⟩)
                  · have c34 : ¬ (nmK es r2 ≤ nmK es r1) := fun z9 => c34 ((nI_leI (a := nmK es r2) (b := nmK es r1) (by omega) (by omega)).mpr z9)
                    refine lv_iconst (v := -1) hx hb d_Mo_order_125 (by decide) ?_
                    refine lv_topq (y := (-1 : Int32)) rfl ?_
                    refine lv_goto (tgt := 130) hx hb d_Mo_order_126 (by decide) ?_
                    exact hret _ _ _ _ _ _ _ hS hP hD d_Mo_order_130 nr_i (Or.inr ⟨r1, r2, er1, er2, hr1, hr2, hrr1, hrr2, by rw [hC]; unfold wy; rw [if_neg (by omega), if_pos (by omega)], (sm_mo sI1 (by decide)), aI1, rfl⟩)
                · have c33 : nmK es r1 = nmK es r2 := (nI_eq (a := nmK es r1) (b := nmK es r2) (by omega) (by omega)).mp c33
                  refine lv_iconst (v := 0) hx hb d_Mo_order_114 (by decide) ?_
                  refine lv_topq (y := nI 0) (rfl) ?_
                  refine lv_goto (tgt := 130) hx hb d_Mo_order_115 (by decide) ?_
                  exact hret _ _ _ _ _ _ _ hS hP hD d_Mo_order_130 nr_i (Or.inr ⟨r1, r2, er1, er2, hr1, hr2, hrr1, hrr2, by rw [hC]; unfold wy; rw [if_pos (by omega)]; rfl, (sm_mo sI1 (by decide)), aI1, rfl⟩)
              · have c32 : ¬ (nmK es r1 < i) := fun z9 => c32 ((nI_ltI (a := nmK es r1) (b := i) (by omega) (by omega)).mpr z9)
                refine lv_iload hx hb d_Mo_order_64 (lv_at hl 5 rfl) ?_
                refine lv_iload hx hb d_Mo_order_66 (lv_at hl 4 rfl) ?_
                refine lv_icmp_gt (tgt := 107) hx hb d_Mo_order_68 (by decide) (fun c35 => ?_) (fun c35 => ?_)
                · have c35 : nmK es r2 < i := (nI_ltI (a := nmK es r2) (b := i) (by omega) (by omega)).mp c35
                  rw [show min (nmK es r1) (nmK es r2) + 1 - i = 0 from by omega] at hC
                  have hC : od9 es r1 r2 = wy (nmK es r1) (nmK es r2) := hC
                  refine lv_iload hx hb d_Mo_order_107 (lv_at hl 3 rfl) ?_
                  refine lv_iload hx hb d_Mo_order_109 (lv_at hl 4 rfl) ?_
                  refine lv_icmp_ne (tgt := 118) hx hb d_Mo_order_111 (by decide) (fun c36 => ?_) (fun c36 => ?_)
                  · have c36 : ¬ (nmK es r1 = nmK es r2) := fun z9 => c36 ((nI_eq (a := nmK es r1) (b := nmK es r2) (by omega) (by omega)).mpr z9)
                    refine lv_iload hx hb d_Mo_order_118 (lv_at hl 3 rfl) ?_
                    refine lv_iload hx hb d_Mo_order_120 (lv_at hl 4 rfl) ?_
                    refine lv_icmp_ge (tgt := 129) hx hb d_Mo_order_122 (by decide) (fun c37 => ?_) (fun c37 => ?_)
                    · have c37 : nmK es r2 ≤ nmK es r1 := (nI_leI (a := nmK es r2) (b := nmK es r1) (by omega) (by omega)).mp c37
                      refine lv_iconst (v := 1) hx hb d_Mo_order_129 (by decide) ?_
                      refine lv_topq (y := nI 1) (rfl) ?_
                      exact hret _ _ _ _ _ _ _ hS hP hD d_Mo_order_130 nr_i (Or.inr ⟨r1, r2, er1, er2, hr1, hr2, hrr1, hrr2, by rw [hC]; unfold wy; rw [if_neg (by omega), if_neg (by omega)]; rfl, (sm_mo sI1 (by decide)), aI1, rfl⟩)
                    · have c37 : ¬ (nmK es r2 ≤ nmK es r1) := fun z9 => c37 ((nI_leI (a := nmK es r2) (b := nmK es r1) (by omega) (by omega)).mpr z9)
                      refine lv_iconst (v := -1) hx hb d_Mo_order_125 (by decide) ?_
                      refine lv_topq (y := (-1 : Int32)) rfl ?_
                      refine lv_goto (tgt := 130) hx hb d_Mo_order_126 (by decide) ?_
                      exact hret _ _ _ _ _ _ _ hS hP hD d_Mo_order_130 nr_i (Or.inr ⟨r1, r2, er1, er2, hr1, hr2, hrr1, hrr2, by rw [hC]; unfold wy; rw [if_neg (by omega), if_pos (by omega)], (sm_mo sI1 (by decide)), aI1, rfl⟩)
                  · have c36 : nmK es r1 = nmK es r2 := (nI_eq (a := nmK es r1) (b := nmK es r2) (by omega) (by omega)).mp c36
                    refine lv_iconst (v := 0) hx hb d_Mo_order_114 (by decide) ?_
                    refine lv_topq (y := nI 0) (rfl) ?_
                    refine lv_goto (tgt := 130) hx hb d_Mo_order_115 (by decide) ?_
                    exact hret _ _ _ _ _ _ _ hS hP hD d_Mo_order_130 nr_i (Or.inr ⟨r1, r2, er1, er2, hr1, hr2, hrr1, hrr2, by rw [hC]; unfold wy; rw [if_pos (by omega)]; rfl, (sm_mo sI1 (by decide)), aI1, rfl⟩)
                · have c35 : ¬ (nmK es r2 < i) := fun z9 => c35 ((nI_ltI (a := nmK es r2) (b := i) (by omega) (by omega)).mpr z9)
                  rw [show min (nmK es r1) (nmK es r2) + 1 - i = (min (nmK es r1) (nmK es r2) + 1 - (i + 1)) + 1 from by omega] at hC
                  have hv1 := isN_lb nr1 (nmK es r1 - i) (by omega)
                  have hw1 := isN_p hv1
                  have hy1 := isN_in hv1 (by omega)
                  have hv2 := isN_lb nr2 (nmK es r2 - i) (by omega)
                  have hw2 := isN_p hv2
                  have hy2 := isN_in hv2 (by omega)
                  refine lv_aload_n hx hb d_Mo_order_71 rfl (lv_at hl 0 rfl) ?_
                  refine lv_aload_n hx hb d_Mo_order_72 rfl (lv_at hl 0 rfl) ?_
                  refine lv_iload hx hb d_Mo_order_73 (lv_at hl 1 rfl) ?_
                  refine lv_iload hx hb d_Mo_order_75 (lv_at hl 5 rfl) ?_
                  refine mw_cV (ci := 7) (k := 33) C0 (m_Mo_label l D9 cB cI cJ cG a O _ _ es hR ((sI1 18 (by decide)).trans h18) hO hEk r1 er1 hrr1 (nmK es r1) _ nr1 kr1 i (by omega)) g_982 g_8 g_979 g_981 gs_Mo_label ⟨by decide +kernel, by decide +kernel, show Option.map (fun d => d.parameters.length) (parseMethodDescriptor y_Mo_label.desc) = some 2 by decide +kernel⟩ ⟨by decide, by decide⟩ rfl rfl hP hD hS hA rfl ww_33 hl.1 (Nat.le_of_ble_eq_true rfl) rfl d_Mo_order_77 ⟨by decide, by decide⟩ (fun v9 w9 H locs hq hP hD hS => ?_)
                  obtain ⟨I38, F39, hw9, q40⟩ := hq
                  subst hw9
                  obtain ⟨rfl, rfl, rfl⟩ := q40
                  refine lv_aload_n hx hb d_Mo_order_80 rfl (lv_at hl 0 rfl) ?_
                  refine lv_iload hx hb d_Mo_order_81 (lv_at hl 2 rfl) ?_
                  refine lv_iload hx hb d_Mo_order_83 (lv_at hl 5 rfl) ?_
                  refine mw_cV (ci := 7) (k := 33) C0 (m_Mo_label l D9 cB cI cJ cG a O _ _ es hR ((sI1 18 (by decide)).trans h18) hO hEk r2 er2 hrr2 (nmK es r2) _ nr2 kr2 i (by omega)) g_982 g_8 g_979 g_981 gs_Mo_label ⟨by decide +kernel, by decide +kernel, show Option.map (fun d => d.parameters.length) (parseMethodDescriptor y_Mo_label.desc) = some 2 by decide +kernel⟩ ⟨by decide, by decide⟩ rfl rfl hP hD hS hA rfl ww_33 hl.1 (Nat.le_of_ble_eq_true rfl) rfl d_Mo_order_85 ⟨by decide, by decide⟩ (fun v9 w9 H locs hq hP hD hS => ?_)
                  obtain ⟨I41, F42, hw9, q43⟩ := hq
                  subst hw9
                  obtain ⟨rfl, rfl, rfl⟩ := q43
                  refine mw_cV (ci := 7) (k := 33) C0 (m_Mo_compared l D9 cB cI cJ cG a O _ _ (fl es) hGl hGB (lb (fl es) (of9 es r1) (nmK es r1 - i)) (lb (fl es) (of9 es r2) (nmK es r2 - i)) (by omega) (by omega) (by omega) (by omega) (by omega) (by omega)) g_986 g_8 g_983 g_985 gs_Mo_compared ⟨by decide +kernel, by decide +kernel, show Option.map (fun d => d.parameters.length) (parseMethodDescriptor y_Mo_compared.desc) = some 2 by decide +kernel⟩ ⟨by decide, by decide⟩ rfl rfl hP hD hS hA rfl ww_33 hl.1 (Nat.le_of_ble_eq_true rfl) rfl d_Mo_order_88 ⟨by decide, by decide⟩ (fun v9 w9 H locs hq hP hD hS => ?_)
                  obtain ⟨I44, F45, hw9, q46⟩ := hq
                  subst hw9
                  obtain ⟨rfl, rfl, rfl⟩ := q46
                  refine lv_istore (lv' := [(10, _), (0, _), (5, _), (6, _), (7, _), (8, _), (9, _)]) hx hb d_Mo_order_91 hl (by decide) rfl (fun ls hl => ?_)
                  refine lv_iload hx hb d_Mo_order_93 (lv_at hl 0 rfl) ?_
                  refine lv_if_eq (tgt := 101) hx hb d_Mo_order_95 (by decide) (fun c47 => ?_) (fun c47 => ?_)
                  · have hC : od9 es r1 r2 = cm (fl es) (of9 es r1) (nmK es r1) (of9 es r2) (nmK es r2) (min (nmK es r1) (nmK es r2) + 1 - (i + 1)) (i + 1) := by rw [hC]; exact if_pos c47
                    refine lv_iinc (lv' := [(9, .int (nI (i + 1))), (10, _), (0, _), (5, _), (6, _), (7, _), (8, _)]) hx hb d_Mo_order_101 hl (k := 6) rfl (nI_add _ 1) (by decide) rfl (fun ls hl => ?_)
                    refine lv_goto (tgt := 57) hx hb d_Mo_order_104 (by decide) ?_
                    exact ihc _ (by omega) (i + 1)  _ _ _ rfl ⟨by omega, by omega⟩ hC hP hD hS (lv_pk hl [2, 3, 4, 5, 6, 0] rfl)
                  · have hC : od9 es r1 r2 = cmpL (fl es) (lb (fl es) (of9 es r1) (nmK es r1 - i)) (lb (fl es) (of9 es r2) (nmK es r2 - i)) := by rw [hC]; exact if_neg c47
                    refine lv_iload hx hb d_Mo_order_98 (lv_at hl 0 rfl) ?_
                    exact hret _ _ _ _ _ _ _ hS hP hD d_Mo_order_100 nr_i (Or.inr ⟨r1, r2, er1, er2, hr1, hr2, hrr1, hrr2, by rw [hC], (sm_mo sI1 (by decide)), aI1, rfl⟩)
          exact loopO _ 1  _ _ _ rfl ⟨by omega, by omega⟩ (by unfold od9 cmpN; rw [show min (nmK es r1) (nmK es r2) + 1 - 1 = min (nmK es r1) (nmK es r2) from by omega]) hP hD hS (lv_pk hl [5, 4, 3, 2, 1, 0] rfl)
        · have c25 : ¬ (0 ≤ r2) := fun z9 => c25 ((nI_leI (a := 0) (b := r2) (by omega) (by omega)).mpr z9)
          exfalso; omega
set_option maxHeartbeats 4000000 in
set_option maxRecDepth 100000 in
/-- the reference: same -/
theorem m_Mo_same (l : Launch) (D9 : va_G) (cB cI cJ cG : ClassId) (a : Nat → Nat) (O : Nat → Int64) (I : Nat → Int32) (F : Nat → Nat → Int32) (es : List En9) (hR : MoR F es) (h18 : I 18 = nI es.length) (hO : okE es) (hEk : ∀ r e, es[r]? = some e → eOk (fl es) (of9 es r) e) (x y w z : Int32) : MC l D9 cB cI cJ cG a O y_Mo_same b_Mo_same 8 (some .boolean) 1 [.ref (a 33), .int (x), .int (y), .int (w), .int (z)] I F (fun v I' F' => ((rI x y es = none ∨ rI w z es = none) ∧ (∃ u : Int32, v = some (.int u)) ∧ sm [15] I I' ∧ I' 15 = nI 1 ∧ F = F') ∨ (∃ r1 r2 e1 e2, rI x y es = some r1 ∧ rI w z es = some r2 ∧ es[r1]? = some e1 ∧ es[r2]? = some e2 ∧ ((smP es r1 r2 e1 e2 ∧ v = some (.int (nI 1))) ∨ (¬ smP es r1 r2 e1 e2 ∧ v = some (.int (nI 0)))) ∧ sm [15] I I' ∧ I' 15 = nI 0 ∧ F = F')) := by
  refine mc_of (by decide) (Nat.le_of_ble_eq_true rfl) ?_
  intro p e s m below meth c ls A0 Q C0 hP hD hA hS hl hret
  obtain ⟨hx, hb, hml, hr, hlocks, hown, hts, hK⟩ := id C0
  have hl : lv_has ls 8 [(0, .ref (a 33)), (1, .int (x)), (2, .int (y)), (3, .int (w)), (4, .int (z))] := hl
  have hln := okE_len hO
  have hGl := hO.2.2.1
  have hGB := hR.2
  refine lv_aload_n hx hb d_Mo_same_0 rfl (lv_at hl 0 rfl) ?_
  refine lv_iconst (v := 0) hx hb d_Mo_same_1 (by decide) ?_
  refine lv_topq (y := nI 0) (rfl) ?_
  refine va_put (D := D9) (ty := .int) (ci := 7) (C := R_Mo) (T := F_Mo) (N := 30) hx hb hts i_Mo t_Mo t_Mo_ok n_Mo hown hK hP hD hS 33 ww_33 rfl 0 (by decide) (hts _ g_722) (fun _ h9 => h9) rfl (by decide +kernel) rfl rfl (Nat.le_of_ble_eq_true rfl) d_Mo_same_2 (fun H locs hP hD hS => ?_)
  obtain ⟨I1, aI1, sI1, hP, hD⟩ := fx (P := fun z => va_P D9 cls9 (WW a cB cI cJ cG z _ O) H ∧ va_D A0 (WW a cB cI cJ cG z _ O)) ⟨wp_15 hP, wd_15 hD⟩
  refine lv_aload_n hx hb d_Mo_same_5 rfl (lv_at hl 0 rfl) ?_
  refine lv_iload_n hx hb d_Mo_same_6 rfl (lv_at hl 1 rfl) ?_
  refine lv_iload_n hx hb d_Mo_same_7 rfl (lv_at hl 2 rfl) ?_
  refine mw_cV (ci := 7) (k := 33) C0 (m_Mo_place l D9 cB cI cJ cG a O _ _ es hR ((sI1 18 (by decide)).trans h18) hO x y) g_959 g_8 g_956 g_958 gs_Mo_place ⟨by decide +kernel, by decide +kernel, show Option.map (fun d => d.parameters.length) (parseMethodDescriptor y_Mo_place.desc) = some 2 by decide +kernel⟩ ⟨by decide, by decide⟩ rfl rfl hP hD hS hA rfl ww_33 hl.1 (Nat.le_of_ble_eq_true rfl) rfl d_Mo_same_8 ⟨by decide, by decide⟩ (fun v9 w9 H locs hq hP hD hS => ?_)
  obtain ⟨I2, F3, hw9, q4⟩ := hq
  subst hw9
  obtain ⟨rfl, rfl, rfl⟩ := q4
  cases hr1 : rI x y es with
  | none =>
    refine lv_topq (y := (-1 : Int32)) (rfl) ?_
    refine lv_istore (lv' := [(5, _), (0, _), (1, _), (2, _), (3, _), (4, _)]) hx hb d_Mo_same_11 hl (by decide) rfl (fun ls hl => ?_)
    refine lv_aload_n hx hb d_Mo_same_13 rfl (lv_at hl 1 rfl) ?_
    refine lv_iload_n hx hb d_Mo_same_14 rfl (lv_at hl 4 rfl) ?_
    refine lv_iload hx hb d_Mo_same_15 (lv_at hl 5 rfl) ?_
    refine mw_cV (ci := 7) (k := 33) C0 (m_Mo_place l D9 cB cI cJ cG a O _ _ es hR ((sI1 18 (by decide)).trans h18) hO w z) g_959 g_8 g_956 g_958 gs_Mo_place ⟨by decide +kernel, by decide +kernel, show Option.map (fun d => d.parameters.length) (parseMethodDescriptor y_Mo_place.desc) = some 2 by decide +kernel⟩ ⟨by decide, by decide⟩ rfl rfl hP hD hS hA rfl ww_33 hl.1 (Nat.le_of_ble_eq_true rfl) rfl d_Mo_same_17 ⟨by decide, by decide⟩ (fun v9 w9 H locs hq hP hD hS => ?_)
    obtain ⟨I5, F6, hw9, q7⟩ := hq
    subst hw9
    obtain ⟨rfl, rfl, rfl⟩ := q7
    cases hr2 : rI w z es with
    | none =>
      refine lv_topq (y := (-1 : Int32)) (rfl) ?_
      refine lv_istore (lv' := [(6, _), (5, _), (0, _), (1, _), (2, _), (3, _), (4, _)]) hx hb d_Mo_same_20 hl (by decide) rfl (fun ls hl => ?_)
      refine lv_iload hx hb d_Mo_same_22 (lv_at hl 1 rfl) ?_
      refine lv_if_lt (tgt := 32) hx hb d_Mo_same_24 (by decide) (fun c8 => ?_) (fun c8 => ?_)
      · refine lv_aload_n hx hb d_Mo_same_32 rfl (lv_at hl 2 rfl) ?_
        refine lv_iconst (v := 1) hx hb d_Mo_same_33 (by decide) ?_
        refine lv_topq (y := nI 1) (rfl) ?_
        refine va_put (D := D9) (ty := .int) (ci := 7) (C := R_Mo) (T := F_Mo) (N := 30) hx hb hts i_Mo t_Mo t_Mo_ok n_Mo hown hK hP hD hS 33 ww_33 rfl 0 (by decide) (hts _ g_722) (fun _ h9 => h9) rfl (by decide +kernel) rfl rfl (Nat.le_of_ble_eq_true rfl) d_Mo_same_34 (fun H locs hP hD hS => ?_)
        obtain ⟨I9, aI9, sI9, hP, hD⟩ := fx (P := fun z => va_P D9 cls9 (WW a cB cI cJ cG z _ O) H ∧ va_D A0 (WW a cB cI cJ cG z _ O)) ⟨wp_15 hP, wd_15 hD⟩
        refine lv_iconst (v := 0) hx hb d_Mo_same_37 (by decide) ?_
        refine lv_topq (y := nI 0) (rfl) ?_
        exact hret _ _ _ _ _ _ _ hS hP hD d_Mo_same_38 (nr_z (Or.inl rfl)) (Or.inl ⟨Or.inl hr1, ⟨_, rfl⟩, (sm_tr (sm_mo sI1 (by decide)) (sm_mo sI9 (by decide))), aI9, rfl⟩)
      · exact absurd c8 (by decide)
    | some r2 =>
      refine lv_topq (y := nI r2) (rfl) ?_
      obtain ⟨er2, hrr2, hlr2⟩ := rI_some hr2
      obtain ⟨zr236, zr237, zr238, zr239, zr240, zr241, zr242, zr243⟩ := hR.1 r2 er2 hrr2
      obtain ⟨nr2, kr2⟩ := nmK_of (hEk r2 er2 hrr2)
      have hofr2 := of9_next hrr2
      have hogr2 := of9_le es (r2 + 1)
      refine lv_istore (lv' := [(6, _), (5, _), (0, _), (1, _), (2, _), (3, _), (4, _)]) hx hb d_Mo_same_20 hl (by decide) rfl (fun ls hl => ?_)
      refine lv_iload hx hb d_Mo_same_22 (lv_at hl 1 rfl) ?_
      refine lv_if_lt (tgt := 32) hx hb d_Mo_same_24 (by decide) (fun c10 => ?_) (fun c10 => ?_)
      · refine lv_aload_n hx hb d_Mo_same_32 rfl (lv_at hl 2 rfl) ?_
        refine lv_iconst (v := 1) hx hb d_Mo_same_33 (by decide) ?_
        refine lv_topq (y := nI 1) (rfl) ?_
        refine va_put (D := D9) (ty := .int) (ci := 7) (C := R_Mo) (T := F_Mo) (N := 30) hx hb hts i_Mo t_Mo t_Mo_ok n_Mo hown hK hP hD hS 33 ww_33 rfl 0 (by decide) (hts _ g_722) (fun _ h9 => h9) rfl (by decide +kernel) rfl rfl (Nat.le_of_ble_eq_true rfl) d_Mo_same_34 (fun H locs hP hD hS => ?_)
        obtain ⟨I11, aI11, sI11, hP, hD⟩ := fx (P := fun z => va_P D9 cls9 (WW a cB cI cJ cG z _ O) H ∧ va_D A0 (WW a cB cI cJ cG z _ O)) ⟨wp_15 hP, wd_15 hD⟩
        refine lv_iconst (v := 0) hx hb d_Mo_same_37 (by decide) ?_
        refine lv_topq (y := nI 0) (rfl) ?_
        exact hret _ _ _ _ _ _ _ hS hP hD d_Mo_same_38 (nr_z (Or.inl rfl)) (Or.inl ⟨Or.inl hr1, ⟨_, rfl⟩, (sm_tr (sm_mo sI1 (by decide)) (sm_mo sI11 (by decide))), aI11, rfl⟩)
      · exact absurd c10 (by decide)
  | some r1 =>
    refine lv_topq (y := nI r1) (rfl) ?_
    obtain ⟨er1, hrr1, hlr1⟩ := rI_some hr1
    obtain ⟨zr136, zr137, zr138, zr139, zr140, zr141, zr142, zr143⟩ := hR.1 r1 er1 hrr1
    obtain ⟨nr1, kr1⟩ := nmK_of (hEk r1 er1 hrr1)
    have hofr1 := of9_next hrr1
    have hogr1 := of9_le es (r1 + 1)
    refine lv_istore (lv' := [(5, _), (0, _), (1, _), (2, _), (3, _), (4, _)]) hx hb d_Mo_same_11 hl (by decide) rfl (fun ls hl => ?_)
    refine lv_aload_n hx hb d_Mo_same_13 rfl (lv_at hl 1 rfl) ?_
    refine lv_iload_n hx hb d_Mo_same_14 rfl (lv_at hl 4 rfl) ?_
    refine lv_iload hx hb d_Mo_same_15 (lv_at hl 5 rfl) ?_
    refine mw_cV (ci := 7) (k := 33) C0 (m_Mo_place l D9 cB cI cJ cG a O _ _ es hR ((sI1 18 (by decide)).trans h18) hO w z) g_959 g_8 g_956 g_958 gs_Mo_place ⟨by decide +kernel, by decide +kernel, show Option.map (fun d => d.parameters.length) (parseMethodDescriptor y_Mo_place.desc) = some 2 by decide +kernel⟩ ⟨by decide, by decide⟩ rfl rfl hP hD hS hA rfl ww_33 hl.1 (Nat.le_of_ble_eq_true rfl) rfl d_Mo_same_17 ⟨by decide, by decide⟩ (fun v9 w9 H locs hq hP hD hS => ?_)
    obtain ⟨I12, F13, hw9, q14⟩ := hq
    subst hw9
    obtain ⟨rfl, rfl, rfl⟩ := q14
    cases hr2 : rI w z es with
    | none =>
      refine lv_topq (y := (-1 : Int32)) (rfl) ?_
      refine lv_istore (lv' := [(6, _), (5, _), (0, _), (1, _), (2, _), (3, _), (4, _)]) hx hb d_Mo_same_20 hl (by decide) rfl (fun ls hl => ?_)
      refine lv_iload hx hb d_Mo_same_22 (lv_at hl 1 rfl) ?_
      refine lv_if_lt (tgt := 32) hx hb d_Mo_same_24 (by decide) (fun c15 => ?_) (fun c15 => ?_)
      · have c15 : r1 < 0 := (nI_ltI (a := r1) (b := 0) (by omega) (by omega)).mp c15
        exfalso; omega
      · have c15 : ¬ (r1 < 0) := fun z9 => c15 ((nI_ltI (a := r1) (b := 0) (by omega) (by omega)).mpr z9)
        refine lv_iload hx hb d_Mo_same_27 (lv_at hl 0 rfl) ?_
        refine lv_if_ge (tgt := 39) hx hb d_Mo_same_29 (by decide) (fun c16 => ?_) (fun c16 => ?_)
        · exact absurd c16 (by decide)
        · refine lv_aload_n hx hb d_Mo_same_32 rfl (lv_at hl 2 rfl) ?_
          refine lv_iconst (v := 1) hx hb d_Mo_same_33 (by decide) ?_
          refine lv_topq (y := nI 1) (rfl) ?_
          refine va_put (D := D9) (ty := .int) (ci := 7) (C := R_Mo) (T := F_Mo) (N := 30) hx hb hts i_Mo t_Mo t_Mo_ok n_Mo hown hK hP hD hS 33 ww_33 rfl 0 (by decide) (hts _ g_722) (fun _ h9 => h9) rfl (by decide +kernel) rfl rfl (Nat.le_of_ble_eq_true rfl) d_Mo_same_34 (fun H locs hP hD hS => ?_)
          obtain ⟨I17, aI17, sI17, hP, hD⟩ := fx (P := fun z => va_P D9 cls9 (WW a cB cI cJ cG z _ O) H ∧ va_D A0 (WW a cB cI cJ cG z _ O)) ⟨wp_15 hP, wd_15 hD⟩
          refine lv_iconst (v := 0) hx hb d_Mo_same_37 (by decide) ?_
          refine lv_topq (y := nI 0) (rfl) ?_
          exact hret _ _ _ _ _ _ _ hS hP hD d_Mo_same_38 (nr_z (Or.inl rfl)) (Or.inl ⟨Or.inr hr2, ⟨_, rfl⟩, (sm_tr (sm_mo sI1 (by decide)) (sm_mo sI17 (by decide))), aI17, rfl⟩)
    | some r2 =>
      refine lv_topq (y := nI r2) (rfl) ?_
      obtain ⟨er2, hrr2, hlr2⟩ := rI_some hr2
      obtain ⟨zr236, zr237, zr238, zr239, zr240, zr241, zr242, zr243⟩ := hR.1 r2 er2 hrr2
      obtain ⟨nr2, kr2⟩ := nmK_of (hEk r2 er2 hrr2)
      have hofr2 := of9_next hrr2
      have hogr2 := of9_le es (r2 + 1)
      refine lv_istore (lv' := [(6, _), (5, _), (0, _), (1, _), (2, _), (3, _), (4, _)]) hx hb d_Mo_same_20 hl (by decide) rfl (fun ls hl => ?_)
      refine lv_iload hx hb d_Mo_same_22 (lv_at hl 1 rfl) ?_
      refine lv_if_lt (tgt := 32) hx hb d_Mo_same_24 (by decide) (fun c18 => ?_) (fun c18 => ?_)
      · have c18 : r1 < 0 := (nI_ltI (a := r1) (b := 0) (by omega) (by omega)).mp c18
        exfalso; omega
      · have c18 : ¬ (r1 < 0) := fun z9 => c18 ((nI_ltI (a := r1) (b := 0) (by omega) (by omega)).mpr z9)
        refine lv_iload hx hb d_Mo_same_27 (lv_at hl 0 rfl) ?_
        refine lv_if_ge (tgt := 39) hx hb d_Mo_same_29 (by decide) (fun c19 => ?_) (fun c19 => ?_)
        · have c19 : 0 ≤ r2 := (nI_leI (a := 0) (b := r2) (by omega) (by omega)).mp c19
          refine lv_aload_n hx hb d_Mo_same_39 rfl (lv_at hl 2 rfl) ?_
          refine va_get (D := D9) (ci := 7) (C := R_Mo) (T := F_Mo) (N := 30) hx hb hts i_Mo hown hK hP 33 ww_33 rfl 13 (by decide) (hts _ g_735) (fun _ h9 => h9) rfl d_Mo_same_40 ?_
          refine lv_iload hx hb d_Mo_same_43 (lv_at hl 1 rfl) ?_
          refine va_iald (D := D9) hx hb hK hP 41 1 ww_41 rfl (vp_in_nI (by omega) (by decide)) d_Mo_same_45 ?_
          refine lv_topq (y := nI ((eN er1).length)) (by rw [nI_clamp (by omega)]; exact zr141) ?_
          refine lv_aload_n hx hb d_Mo_same_46 rfl (lv_at hl 2 rfl) ?_
          refine va_get (D := D9) (ci := 7) (C := R_Mo) (T := F_Mo) (N := 30) hx hb hts i_Mo hown hK hP 33 ww_33 rfl 13 (by decide) (hts _ g_735) (fun _ h9 => h9) rfl d_Mo_same_47 ?_
          refine lv_iload hx hb d_Mo_same_50 (lv_at hl 0 rfl) ?_
          refine va_iald (D := D9) hx hb hK hP 41 1 ww_41 rfl (vp_in_nI (by omega) (by decide)) d_Mo_same_52 ?_
          refine lv_topq (y := nI ((eN er2).length)) (by rw [nI_clamp (by omega)]; exact zr241) ?_
          refine lv_icmp_eq (tgt := 58) hx hb d_Mo_same_53 (by decide) (fun c20 => ?_) (fun c20 => ?_)
          · have c20 : (eN er1).length = (eN er2).length := (nI_eq (a := (eN er1).length) (b := (eN er2).length) (by omega) (by omega)).mp c20
            have hnl9 : (eN er1).length = (eN er2).length := c20
            refine lv_iconst (v := 0) hx hb d_Mo_same_58 (by decide) ?_
            refine lv_topq (y := nI 0) (rfl) ?_
            refine lv_istore (lv' := [(7, _), (6, _), (5, _), (0, _), (1, _), (2, _), (3, _), (4, _)]) hx hb d_Mo_same_59 hl (by decide) rfl (fun ls hl => ?_)
            have loopE : ∀ (nc : Nat) (i : Nat) (H : Heap) (locs : List Loc) (ls : Array Slot), ((eN er1).length - i = nc) → (i ≤ (eN er1).length) → (∀ j, j < i → lw (tb (fl es) (of9 es r1 + j)) = lw (tb (fl es) (of9 es r2 + j))) → va_P D9 cls9 (WW a cB cI cJ cG I1 F O) H → va_D A0 (WW a cB cI cJ cG I1 F O) → va_S A0 s.heap H locs → lv_has ls 8 [(0, .ref (a 33)), (5, .int (nI r1)), (6, .int (nI r2)), (7, .int (nI i))] → W p l e (rm9 1 0 0) s m ([.ref (a 33), .int (x), .int (y), .int (w), .int (z)] : List Value).toArray below meth c H locs 0 0 Q (F0 m 61 ls []) := by
              intro nc
              induction nc using Nat.strongRecOn with
              | ind nc ihc =>
                intro i H locs ls hnc hi hC hP hD hS hl
                refine lv_iload hx hb d_Mo_same_61 (lv_at hl 3 rfl) ?_
                refine lv_aload_n hx hb d_Mo_same_63 rfl (lv_at hl 0 rfl) ?_
                refine va_get (D := D9) (ci := 7) (C := R_Mo) (T := F_Mo) (N := 30) hx hb hts i_Mo hown hK hP 33 ww_33 rfl 13 (by decide) (hts _ g_735) (fun _ h9 => h9) rfl d_Mo_same_64 ?_
                refine lv_iload hx hb d_Mo_same_67 (lv_at hl 1 rfl) ?_
                refine va_iald (D := D9) hx hb hK hP 41 1 ww_41 rfl (vp_in_nI (by omega) (by decide)) d_Mo_same_69 ?_
                refine lv_topq (y := nI ((eN er1).length)) (by rw [nI_clamp (by omega)]; exact zr141) ?_
                refine lv_icmp_ge (tgt := 120) hx hb d_Mo_same_70 (by decide) (fun c21 => ?_) (fun c21 => ?_)
                · have c21 : (eN er1).length ≤ i := (nI_leI (a := (eN er1).length) (b := i) (by omega) (by omega)).mp c21
                  refine lv_iconst (v := 1) hx hb d_Mo_same_120 (by decide) ?_
                  refine lv_topq (y := nI 1) (rfl) ?_
                  exact hret _ _ _ _ _ _ _ hS hP hD d_Mo_same_121 (nr_z (Or.inr rfl)) (Or.inr ⟨r1, r2, er1, er2, hr1, hr2, hrr1, hrr2, Or.inl ⟨⟨hnl9, fun j hj => hC j (by omega)⟩, rfl⟩, (sm_mo sI1 (by decide)), aI1, rfl⟩)
                · have c21 : ¬ ((eN er1).length ≤ i) := fun z9 => c21 ((nI_leI (a := (eN er1).length) (b := i) (by omega) (by omega)).mpr z9)
                  have hv1 : tb (fl es) (of9 es r1 + i) < 256 := BR_lt hGB (by omega) (by omega) (by omega)
                  have hv2 : tb (fl es) (of9 es r2 + i) < 256 := BR_lt hGB (by omega) (by omega) (by omega)
                  have hw1 := lw_lt hv1
                  have hw2 := lw_lt hv2
                  refine lv_aload_n hx hb d_Mo_same_73 rfl (lv_at hl 0 rfl) ?_
                  refine va_get (D := D9) (ci := 7) (C := R_Mo) (T := F_Mo) (N := 30) hx hb hts i_Mo hown hK hP 33 ww_33 rfl 3 (by decide) (hts _ g_725) (fun _ h9 => h9) rfl d_Mo_same_74 ?_
                  refine lv_aload_n hx hb d_Mo_same_77 rfl (lv_at hl 0 rfl) ?_
                  refine va_get (D := D9) (ci := 7) (C := R_Mo) (T := F_Mo) (N := 30) hx hb hts i_Mo hown hK hP 33 ww_33 rfl 12 (by decide) (hts _ g_734) (fun _ h9 => h9) rfl d_Mo_same_78 ?_
                  refine lv_iload hx hb d_Mo_same_81 (lv_at hl 1 rfl) ?_
                  refine va_iald (D := D9) hx hb hK hP 40 1 ww_40 rfl (vp_in_nI (by omega) (by decide)) d_Mo_same_83 ?_
                  refine lv_topq (y := nI (of9 es r1)) (by rw [nI_clamp (by omega)]; exact zr140) ?_
                  refine lv_iload hx hb d_Mo_same_84 (lv_at hl 3 rfl) ?_
                  refine lv_iadd hx hb d_Mo_same_86 ?_
                  refine lv_topq (y := nI (of9 es r1 + i)) (nI_add _ _) ?_
                  refine va_bald (D := D9) hx hb hK hP 35 0 ww_35 rfl (vp_in_nI (by omega) (by decide)) d_Mo_same_87 ?_
                  refine lv_topq (y := F 35 (of9 es r1 + i)) ((by rw [nI_clamp (by omega)])) ?_
                  refine mw_cS C0 (m_Mo_low l D9 cB cI cJ cG a O _ _ (fl es) (of9 es r1 + i) hGB (by omega) hGl) g_970 g_8 g_968 g_969 ⟨by decide +kernel, by decide +kernel, show Option.map (fun d => d.parameters.length) (parseMethodDescriptor y_Mo_low.desc) = some 1 by decide +kernel⟩ ⟨by decide, by decide⟩ rfl rfl hP hD hS hA hl.1 (Nat.le_of_ble_eq_true rfl) rfl d_Mo_same_88 ⟨by decide, by decide⟩ (fun v9 w9 H locs hq hP hD hS => ?_)
                  obtain ⟨I22, F23, hw9, q24⟩ := hq
                  subst hw9
                  obtain ⟨rfl, rfl, rfl⟩ := q24
                  refine lv_aload_n hx hb d_Mo_same_91 rfl (lv_at hl 0 rfl) ?_
                  refine va_get (D := D9) (ci := 7) (C := R_Mo) (T := F_Mo) (N := 30) hx hb hts i_Mo hown hK hP 33 ww_33 rfl 3 (by decide) (hts _ g_725) (fun _ h9 => h9) rfl d_Mo_same_92 ?_
                  refine lv_aload_n hx hb d_Mo_same_95 rfl (lv_at hl 0 rfl) ?_
                  refine va_get (D := D9) (ci := 7) (C := R_Mo) (T := F_Mo) (N := 30) hx hb hts i_Mo hown hK hP 33 ww_33 rfl 12 (by decide) (hts _ g_734) (fun _ h9 => h9) rfl d_Mo_same_96 ?_
                  refine lv_iload hx hb d_Mo_same_99 (lv_at hl 2 rfl) ?_
                  refine va_iald (D := D9) hx hb hK hP 40 1 ww_40 rfl (vp_in_nI (by omega) (by decide)) d_Mo_same_101 ?_
                  refine lv_topq (y := nI (of9 es r2)) (by rw [nI_clamp (by omega)]; exact zr240) ?_
                  refine lv_iload hx hb d_Mo_same_102 (lv_at hl 3 rfl) ?_
                  refine lv_iadd hx hb d_Mo_same_104 ?_
                  refine lv_topq (y := nI (of9 es r2 + i)) (nI_add _ _) ?_
                  refine va_bald (D := D9) hx hb hK hP 35 0 ww_35 rfl (vp_in_nI (by omega) (by decide)) d_Mo_same_105 ?_
                  refine lv_topq (y := F 35 (of9 es r2 + i)) ((by rw [nI_clamp (by omega)])) ?_
                  refine mw_cS C0 (m_Mo_low l D9 cB cI cJ cG a O _ _ (fl es) (of9 es r2 + i) hGB (by omega) hGl) g_970 g_8 g_968 g_969 ⟨by decide +kernel, by decide +kernel, show Option.map (fun d => d.parameters.length) (parseMethodDescriptor y_Mo_low.desc) = some 1 by decide +kernel⟩ ⟨by decide, by decide⟩ rfl rfl hP hD hS hA hl.1 (Nat.le_of_ble_eq_true rfl) rfl d_Mo_same_106 ⟨by decide, by decide⟩ (fun v9 w9 H locs hq hP hD hS => ?_)
                  obtain ⟨I25, F26, hw9, q27⟩ := hq
                  subst hw9
                  obtain ⟨rfl, rfl, rfl⟩ := q27
                  refine lv_icmp_eq (tgt := 114) hx hb d_Mo_same_109 (by decide) (fun c28 => ?_) (fun c28 => ?_)
                  · have c28 : lw (tb (fl es) (of9 es r1 + i)) = lw (tb (fl es) (of9 es r2 + i)) := (nI_eq (a := lw (tb (fl es) (of9 es r1 + i))) (b := lw (tb (fl es) (of9 es r2 + i))) (by omega) (by omega)).mp c28
                    refine lv_iinc (lv' := [(7, .int (nI (i + 1))), (0, _), (5, _), (6, _)]) hx hb d_Mo_same_114 hl (k := 3) rfl (nI_add _ 1) (by decide) rfl (fun ls hl => ?_)
                    refine lv_goto (tgt := 61) hx hb d_Mo_same_117 (by decide) ?_
                    exact ihc _ (by omega) (i + 1)  _ _ _ rfl (by omega) (fun j hj => by rcases Nat.lt_or_eq_of_le (Nat.le_of_lt_succ hj) with z9 | z9; exact hC j z9; rw [z9]; exact c28) hP hD hS (lv_pk hl [1, 2, 3, 0] rfl)
                  · have c28 : ¬ (lw (tb (fl es) (of9 es r1 + i)) = lw (tb (fl es) (of9 es r2 + i))) := fun z9 => c28 ((nI_eq (a := lw (tb (fl es) (of9 es r1 + i))) (b := lw (tb (fl es) (of9 es r2 + i))) (by omega) (by omega)).mpr z9)
                    refine lv_iconst (v := 0) hx hb d_Mo_same_112 (by decide) ?_
                    refine lv_topq (y := nI 0) (rfl) ?_
                    exact hret _ _ _ _ _ _ _ hS hP hD d_Mo_same_113 (nr_z (Or.inl rfl)) (Or.inr ⟨r1, r2, er1, er2, hr1, hr2, hrr1, hrr2, Or.inr ⟨fun z9 => c28 (z9.2 i (by omega)), rfl⟩, (sm_mo sI1 (by decide)), aI1, rfl⟩)
            exact loopE _ 0  _ _ _ rfl (Nat.zero_le _) (fun j hj => by omega) hP hD hS (lv_pk hl [3, 2, 1, 0] rfl)
          · have c20 : ¬ ((eN er1).length = (eN er2).length) := fun z9 => c20 ((nI_eq (a := (eN er1).length) (b := (eN er2).length) (by omega) (by omega)).mpr z9)
            refine lv_iconst (v := 0) hx hb d_Mo_same_56 (by decide) ?_
            refine lv_topq (y := nI 0) (rfl) ?_
            exact hret _ _ _ _ _ _ _ hS hP hD d_Mo_same_57 (nr_z (Or.inl rfl)) (Or.inr ⟨r1, r2, er1, er2, hr1, hr2, hrr1, hrr2, Or.inr ⟨fun z9 => c20 z9.1, rfl⟩, (sm_mo sI1 (by decide)), aI1, rfl⟩)
        · have c19 : ¬ (0 ≤ r2) := fun z9 => c19 ((nI_leI (a := 0) (b := r2) (by omega) (by omega)).mpr z9)
          exfalso; omega
