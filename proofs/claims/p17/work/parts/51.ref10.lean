/-! THE REFERENCE: names in the message -/
theorem fit_in {x : Int32} (h : fits .byte (.int x) = true) : -128 ≤ x.toInt ∧ x.toInt ≤ 127 := by
  have h1 : ((-128 : Int32) ≤ x && x ≤ (127 : Int32)) = true := h
  rw [Bool.and_eq_true, decide_eq_true_eq, decide_eq_true_eq, Int32.le_iff_toInt_le, Int32.le_iff_toInt_le] at h1
  have e1 : (-128 : Int32).toInt = -128 := by decide
  have e2 : (127 : Int32).toInt = 127 := by decide
  omega
theorem raw_nI {x : Int32} {v : Nat} (h : fits .byte (.int x) = true) (hu : ub x = v) (hv : v < 128) : x = nI v := by
  have h1 := fit_in h
  have h2 := mod_256 x
  have h3 : x.toBitVec.toNat % 256 = v := hu
  apply Int32.toInt_inj.mp
  rw [nI_toInt (by omega)]
  omega
theorem raw_inj {x y : Int32} (hx : fits .byte (.int x) = true) (hy : fits .byte (.int y) = true) : x = y ↔ ub x = ub y := by
  constructor
  · intro h; rw [h]
  · intro h
    have h1 := fit_in hx
    have h2 := fit_in hy
    have h3 := mod_256 x
    have h4 := mod_256 y
    have h5 : x.toBitVec.toNat % 256 = y.toBitVec.toNat % 256 := h
    apply Int32.toInt_inj.mp
    omega
theorem BR_raw {n : Nat} {f : Nat → Int32} {G : List Nat} (h : BR 0 n f G) {i : Nat} (hi : i < G.length) (hn : i < n) (hv : tb G i < 128) : f i = nI (tb G i) := raw_nI (h.1 i) (BR_tb h hi (Nat.zero_le _) hn) hv
theorem BR_req {n : Nat} {f : Nat → Int32} {G : List Nat} (h : BR 0 n f G) {i j : Nat} (hi : i < G.length) (hj : j < G.length) (hn : G.length ≤ n) : f i = f j ↔ tb G i = tb G j := by
  rw [raw_inj (h.1 i) (h.1 j), BR_tb h hi (Nat.zero_le _) (by omega), BR_tb h hj (Nat.zero_le _) (by omega)]
def MeR (F : Nat → Nat → Int32) (E : List (Nat × Nat)) : Prop := ∀ k, k < E.length → F 45 k = nI (eP E k) ∧ F 46 k = nI (eQ E k)
theorem MeR_sm {F F' : Nat → Nat → Int32} {E : List (Nat × Nat)} (h : MeR F E) (e45 : F' 45 = F 45) (e46 : F' 46 = F 46) : MeR F' E := by unfold MeR; rw [e45, e46]; exact h
theorem MeR_add {F F' : Nat → Nat → Int32} {E : List (Nat × Nat)} {pl sr : Nat} (h : MeR F E) (e45 : F' 45 = upd (F 45) E.length (nI pl)) (e46 : F' 46 = upd (F 46) E.length (nI sr)) : MeR F' (E ++ [(pl, sr)]) := by
  intro k hk
  rw [List.length_append, List.length_singleton] at hk
  by_cases hkn : k = E.length
  · subst hkn
    rw [e45, e46, pk_us, pk_us, eQ_n.1, eQ_n.2]
    exact ⟨rfl, rfl⟩
  · rw [e45, e46, pk_un hkn, pk_un hkn, (eQ_l (by omega)).1, (eQ_l (by omega)).2]
    exact h k (by omega)
theorem al_st {f : Nat} {G : List Nat} {p q : Nat} (h : tb G p = tb G q) (h0 : ¬ tb G p = 0) (hp : p + (tb G p + 1) ≤ G.length) (hq : q + (tb G p + 1) ≤ G.length) : al (f + 1) G p q = if ∀ i, i < tb G p + 1 → tb G (p + i) = tb G (q + i) then al f G (p + (tb G p + 1)) (q + (tb G p + 1)) else false := by
  conv => lhs; unfold al
  rw [if_pos h, if_neg h0]
  by_cases hs : sl9 G p (tb G p + 1) = sl9 G q (tb G p + 1)
  · rw [if_pos hs, if_pos ((sl9_ext hp hq).mp hs)]
  · rw [if_neg hs, if_neg (fun z => hs ((sl9_ext hp hq).mpr z))]
theorem g_750 : (Cond.fieldLink "WireMessagesModel" (159 : Nat) "WireMessagesModel" "ends" "I") ∈ GT := gt_mem 750 (by decide +kernel) rfl
theorem g_923 : (Cond.methodLink "WireMessagesModel" (162 : Nat) ({ cls := "WireMessagesModel", name := "alike", desc := "(II)Z" } : MethodName)) ∈ GT := gt_mem 923 (by decide +kernel) rfl
theorem g_925 : (Cond.instanceMethod ({ cls := "WireMessagesModel", name := "alike", desc := "(II)Z" } : MethodName)) ∈ GT := gt_mem 925 (by decide +kernel) rfl
theorem g_926 : (Cond.code ({ cls := "WireMessagesModel", name := "alike", desc := "(II)Z" } : MethodName) prog_10_method_28_code (6 : Nat) (Option.some FieldType.boolean)) ∈ GT := gt_mem 926 (by decide +kernel) rfl
theorem g_927 : (Cond.methodLink "WireMessagesModel" (156 : Nat) ({ cls := "WireMessagesModel", name := "put", desc := "(I)V" } : MethodName)) ∈ GT := gt_mem 927 (by decide +kernel) rfl
theorem g_929 : (Cond.instanceMethod ({ cls := "WireMessagesModel", name := "put", desc := "(I)V" } : MethodName)) ∈ GT := gt_mem 929 (by decide +kernel) rfl
theorem g_930 : (Cond.code ({ cls := "WireMessagesModel", name := "put", desc := "(I)V" } : MethodName) prog_10_method_26_code (2 : Nat) (Option.none : Option FieldType)) ∈ GT := gt_mem 930 (by decide +kernel) rfl
theorem gs_Mo_put : Cond.selects R_Mo y_Mo_put y_Mo_put ∈ GT := gt_sel (q := (⟨"WireMessagesModel", "put", "(I)V"⟩, 30)) (by decide +kernel)
theorem gs_Mo_alike : Cond.selects R_Mo y_Mo_alike y_Mo_alike ∈ GT := gt_sel (q := (⟨"WireMessagesModel", "alike", "(II)Z"⟩, 30)) (by decide +kernel)
theorem d_Mo_alike_0 : decode b_Mo_alike 0 = .ok (.iconst 0, 1) := by decide +kernel
theorem d_Mo_alike_1 : decode b_Mo_alike 1 = .ok (.istore_n 3, 1) := by decide +kernel
theorem d_Mo_alike_2 : decode b_Mo_alike 2 = .ok (.aload_n 0, 1) := by decide +kernel
theorem d_Mo_alike_3 : decode b_Mo_alike 3 = .ok (.getfield 15, 3) := by decide +kernel
theorem d_Mo_alike_6 : decode b_Mo_alike 6 = .ok (.iload_n 1, 1) := by decide +kernel
theorem d_Mo_alike_7 : decode b_Mo_alike 7 = .ok (.iload_n 3, 1) := by decide +kernel
theorem d_Mo_alike_8 : decode b_Mo_alike 8 = .ok (.iadd, 1) := by decide +kernel
theorem d_Mo_alike_9 : decode b_Mo_alike 9 = .ok (.baload, 1) := by decide +kernel
theorem d_Mo_alike_10 : decode b_Mo_alike 10 = .ok (.aload_n 0, 1) := by decide +kernel
theorem d_Mo_alike_11 : decode b_Mo_alike 11 = .ok (.getfield 15, 3) := by decide +kernel
theorem d_Mo_alike_14 : decode b_Mo_alike 14 = .ok (.iload_n 2, 1) := by decide +kernel
theorem d_Mo_alike_15 : decode b_Mo_alike 15 = .ok (.iload_n 3, 1) := by decide +kernel
theorem d_Mo_alike_16 : decode b_Mo_alike 16 = .ok (.iadd, 1) := by decide +kernel
theorem d_Mo_alike_17 : decode b_Mo_alike 17 = .ok (.baload, 1) := by decide +kernel
theorem d_Mo_alike_18 : decode b_Mo_alike 18 = .ok (.if_icmp .ne 73, 3) := by decide +kernel
theorem d_Mo_alike_21 : decode b_Mo_alike 21 = .ok (.aload_n 0, 1) := by decide +kernel
theorem d_Mo_alike_22 : decode b_Mo_alike 22 = .ok (.getfield 15, 3) := by decide +kernel
theorem d_Mo_alike_25 : decode b_Mo_alike 25 = .ok (.iload_n 1, 1) := by decide +kernel
theorem d_Mo_alike_26 : decode b_Mo_alike 26 = .ok (.iload_n 3, 1) := by decide +kernel
theorem d_Mo_alike_27 : decode b_Mo_alike 27 = .ok (.iadd, 1) := by decide +kernel
theorem d_Mo_alike_28 : decode b_Mo_alike 28 = .ok (.baload, 1) := by decide +kernel
theorem d_Mo_alike_29 : decode b_Mo_alike 29 = .ok (.istore 4, 2) := by decide +kernel
theorem d_Mo_alike_31 : decode b_Mo_alike 31 = .ok (.iload 4, 2) := by decide +kernel
theorem d_Mo_alike_33 : decode b_Mo_alike 33 = .ok (.ifCond .ne 5, 3) := by decide +kernel
theorem d_Mo_alike_36 : decode b_Mo_alike 36 = .ok (.iconst 1, 1) := by decide +kernel
theorem d_Mo_alike_37 : decode b_Mo_alike 37 = .ok (.ireturn, 1) := by decide +kernel
theorem d_Mo_alike_38 : decode b_Mo_alike 38 = .ok (.iconst 1, 1) := by decide +kernel
theorem d_Mo_alike_39 : decode b_Mo_alike 39 = .ok (.istore 5, 2) := by decide +kernel
theorem d_Mo_alike_41 : decode b_Mo_alike 41 = .ok (.iload 5, 2) := by decide +kernel
theorem d_Mo_alike_43 : decode b_Mo_alike 43 = .ok (.iload 4, 2) := by decide +kernel
theorem d_Mo_alike_45 : decode b_Mo_alike 45 = .ok (.if_icmp .gt 36, 3) := by decide +kernel
theorem d_Mo_alike_48 : decode b_Mo_alike 48 = .ok (.aload_n 0, 1) := by decide +kernel
theorem d_Mo_alike_49 : decode b_Mo_alike 49 = .ok (.getfield 15, 3) := by decide +kernel
theorem d_Mo_alike_52 : decode b_Mo_alike 52 = .ok (.iload_n 1, 1) := by decide +kernel
theorem d_Mo_alike_53 : decode b_Mo_alike 53 = .ok (.iload_n 3, 1) := by decide +kernel
theorem d_Mo_alike_54 : decode b_Mo_alike 54 = .ok (.iadd, 1) := by decide +kernel
theorem d_Mo_alike_55 : decode b_Mo_alike 55 = .ok (.iload 5, 2) := by decide +kernel
theorem d_Mo_alike_57 : decode b_Mo_alike 57 = .ok (.iadd, 1) := by decide +kernel
theorem d_Mo_alike_58 : decode b_Mo_alike 58 = .ok (.baload, 1) := by decide +kernel
theorem d_Mo_alike_59 : decode b_Mo_alike 59 = .ok (.aload_n 0, 1) := by decide +kernel
theorem d_Mo_alike_60 : decode b_Mo_alike 60 = .ok (.getfield 15, 3) := by decide +kernel
theorem d_Mo_alike_63 : decode b_Mo_alike 63 = .ok (.iload_n 2, 1) := by decide +kernel
theorem d_Mo_alike_64 : decode b_Mo_alike 64 = .ok (.iload_n 3, 1) := by decide +kernel
theorem d_Mo_alike_65 : decode b_Mo_alike 65 = .ok (.iadd, 1) := by decide +kernel
theorem d_Mo_alike_66 : decode b_Mo_alike 66 = .ok (.iload 5, 2) := by decide +kernel
theorem d_Mo_alike_68 : decode b_Mo_alike 68 = .ok (.iadd, 1) := by decide +kernel
theorem d_Mo_alike_69 : decode b_Mo_alike 69 = .ok (.baload, 1) := by decide +kernel
theorem d_Mo_alike_70 : decode b_Mo_alike 70 = .ok (.if_icmp .eq 5, 3) := by decide +kernel
theorem d_Mo_alike_73 : decode b_Mo_alike 73 = .ok (.iconst 0, 1) := by decide +kernel
theorem d_Mo_alike_74 : decode b_Mo_alike 74 = .ok (.ireturn, 1) := by decide +kernel
theorem d_Mo_alike_75 : decode b_Mo_alike 75 = .ok (.iinc 5 1, 3) := by decide +kernel
theorem d_Mo_alike_78 : decode b_Mo_alike 78 = .ok (.goto (-37), 3) := by decide +kernel
theorem d_Mo_alike_81 : decode b_Mo_alike 81 = .ok (.iload_n 3, 1) := by decide +kernel
theorem d_Mo_alike_82 : decode b_Mo_alike 82 = .ok (.iload 4, 2) := by decide +kernel
theorem d_Mo_alike_84 : decode b_Mo_alike 84 = .ok (.iconst 1, 1) := by decide +kernel
theorem d_Mo_alike_85 : decode b_Mo_alike 85 = .ok (.iadd, 1) := by decide +kernel
theorem d_Mo_alike_86 : decode b_Mo_alike 86 = .ok (.iadd, 1) := by decide +kernel
theorem d_Mo_alike_87 : decode b_Mo_alike 87 = .ok (.istore_n 3, 1) := by decide +kernel
theorem d_Mo_alike_88 : decode b_Mo_alike 88 = .ok (.goto (-86), 3) := by decide +kernel
theorem d_Mo_alike_91 : decode b_Mo_alike 91 = .ok (.iconst 0, 1) := by decide +kernel
theorem d_Mo_alike_92 : decode b_Mo_alike 92 = .ok (.ireturn, 1) := by decide +kernel
theorem d_Mo_put_0 : decode b_Mo_put 0 = .ok (.aload_n 0, 1) := by decide +kernel
theorem d_Mo_put_1 : decode b_Mo_put 1 = .ok (.getfield 48, 3) := by decide +kernel
theorem d_Mo_put_4 : decode b_Mo_put 4 = .ok (.aload_n 0, 1) := by decide +kernel
theorem d_Mo_put_5 : decode b_Mo_put 5 = .ok (.getfield 153, 3) := by decide +kernel
theorem d_Mo_put_8 : decode b_Mo_put 8 = .ok (.iload_n 1, 1) := by decide +kernel
theorem d_Mo_put_9 : decode b_Mo_put 9 = .ok (.i2b, 1) := by decide +kernel
theorem d_Mo_put_10 : decode b_Mo_put 10 = .ok (.bastore, 1) := by decide +kernel
theorem d_Mo_put_11 : decode b_Mo_put 11 = .ok (.aload_n 0, 1) := by decide +kernel
theorem d_Mo_put_12 : decode b_Mo_put 12 = .ok (.dup, 1) := by decide +kernel
theorem d_Mo_put_13 : decode b_Mo_put 13 = .ok (.getfield 153, 3) := by decide +kernel
theorem d_Mo_put_16 : decode b_Mo_put 16 = .ok (.iconst 1, 1) := by decide +kernel
theorem d_Mo_put_17 : decode b_Mo_put 17 = .ok (.iadd, 1) := by decide +kernel
theorem d_Mo_put_18 : decode b_Mo_put 18 = .ok (.putfield 153, 3) := by decide +kernel
theorem d_Mo_put_21 : decode b_Mo_put 21 = .ok (.return_, 1) := by decide +kernel
theorem d_Mo_putTwo_0 : decode b_Mo_putTwo 0 = .ok (.aload_n 0, 1) := by decide +kernel
theorem d_Mo_putTwo_1 : decode b_Mo_putTwo 1 = .ok (.iload_n 1, 1) := by decide +kernel
theorem d_Mo_putTwo_2 : decode b_Mo_putTwo 2 = .ok (.bipush 8, 2) := by decide +kernel
theorem d_Mo_putTwo_4 : decode b_Mo_putTwo 4 = .ok (.ishr, 1) := by decide +kernel
theorem d_Mo_putTwo_5 : decode b_Mo_putTwo 5 = .ok (.invokevirtual 156, 3) := by decide +kernel
theorem d_Mo_putTwo_8 : decode b_Mo_putTwo 8 = .ok (.aload_n 0, 1) := by decide +kernel
theorem d_Mo_putTwo_9 : decode b_Mo_putTwo 9 = .ok (.iload_n 1, 1) := by decide +kernel
theorem d_Mo_putTwo_10 : decode b_Mo_putTwo 10 = .ok (.invokevirtual 156, 3) := by decide +kernel
theorem d_Mo_putTwo_13 : decode b_Mo_putTwo 13 = .ok (.return_, 1) := by decide +kernel
theorem d_Mo_standing_0 : decode b_Mo_standing 0 = .ok (.iconst 0, 1) := by decide +kernel
theorem d_Mo_standing_1 : decode b_Mo_standing 1 = .ok (.istore_n 2, 1) := by decide +kernel
theorem d_Mo_standing_2 : decode b_Mo_standing 2 = .ok (.iload_n 2, 1) := by decide +kernel
theorem d_Mo_standing_3 : decode b_Mo_standing 3 = .ok (.aload_n 0, 1) := by decide +kernel
theorem d_Mo_standing_4 : decode b_Mo_standing 4 = .ok (.getfield 159, 3) := by decide +kernel
theorem d_Mo_standing_7 : decode b_Mo_standing 7 = .ok (.if_icmp .ge 30, 3) := by decide +kernel
theorem d_Mo_standing_10 : decode b_Mo_standing 10 = .ok (.aload_n 0, 1) := by decide +kernel
theorem d_Mo_standing_11 : decode b_Mo_standing 11 = .ok (.aload_n 0, 1) := by decide +kernel
theorem d_Mo_standing_12 : decode b_Mo_standing 12 = .ok (.getfield 55, 3) := by decide +kernel
theorem d_Mo_standing_15 : decode b_Mo_standing 15 = .ok (.iload_n 2, 1) := by decide +kernel
theorem d_Mo_standing_16 : decode b_Mo_standing 16 = .ok (.iaload, 1) := by decide +kernel
theorem d_Mo_standing_17 : decode b_Mo_standing 17 = .ok (.iload_n 1, 1) := by decide +kernel
theorem d_Mo_standing_18 : decode b_Mo_standing 18 = .ok (.invokevirtual 162, 3) := by decide +kernel
theorem d_Mo_standing_21 : decode b_Mo_standing 21 = .ok (.ifCond .eq 10, 3) := by decide +kernel
theorem d_Mo_standing_24 : decode b_Mo_standing 24 = .ok (.aload_n 0, 1) := by decide +kernel
theorem d_Mo_standing_25 : decode b_Mo_standing 25 = .ok (.getfield 52, 3) := by decide +kernel
theorem d_Mo_standing_28 : decode b_Mo_standing 28 = .ok (.iload_n 2, 1) := by decide +kernel
theorem d_Mo_standing_29 : decode b_Mo_standing 29 = .ok (.iaload, 1) := by decide +kernel
theorem d_Mo_standing_30 : decode b_Mo_standing 30 = .ok (.ireturn, 1) := by decide +kernel
theorem d_Mo_standing_31 : decode b_Mo_standing 31 = .ok (.iinc 2 1, 3) := by decide +kernel
theorem d_Mo_standing_34 : decode b_Mo_standing 34 = .ok (.goto (-32), 3) := by decide +kernel
theorem d_Mo_standing_37 : decode b_Mo_standing 37 = .ok (.iconst (-1), 1) := by decide +kernel
theorem d_Mo_standing_38 : decode b_Mo_standing 38 = .ok (.ireturn, 1) := by decide +kernel
set_option maxHeartbeats 4000000 in
set_option maxRecDepth 100000 in
/-- the reference: put -/
theorem m_Mo_put (l : Launch) (D9 : va_G) (cB cI cJ cG : ClassId) (a : Nat → Nat) (O : Nat → Int64) (I : Nat → Int32) (F : Nat → Nat → Int32) (L : List Nat) (x : Int32) (hBL : BR 0 131200 (F 44) L) (hLl : I 28 = nI L.length) (hLb : L.length < 131200) : MC l D9 cB cI cJ cG a O y_Mo_put b_Mo_put 2 (none) 0 [.ref (a 33), .int (x)] I F (fun v I' F' => v = none ∧ sm [28] I I' ∧ I' 28 = nI (L.length + 1) ∧ sm [44] F F' ∧ BR 0 131200 (F' 44) (L ++ [ub x])) := by
  refine mc_ofv (by decide) (Nat.le_of_ble_eq_true rfl) ?_
  intro p e s m below meth c ls A0 Q C0 hP hD hA hS hl hret
  obtain ⟨hx, hb, hml, hr, hlocks, hown, hts, hK⟩ := id C0
  have hl : lv_has ls 2 [(0, .ref (a 33)), (1, .int (x))] := hl
  refine lv_aload_n hx hb d_Mo_put_0 rfl (lv_at hl 0 rfl) ?_
  refine va_get (D := D9) (ci := 7) (C := R_Mo) (T := F_Mo) (N := 30) hx hb hts i_Mo hown hK hP 33 ww_33 rfl 23 (by decide) (hts _ g_745) (fun _ h9 => h9) rfl d_Mo_put_1 ?_
  refine lv_aload_n hx hb d_Mo_put_4 rfl (lv_at hl 0 rfl) ?_
  refine va_get (D := D9) (ci := 7) (C := R_Mo) (T := F_Mo) (N := 30) hx hb hts i_Mo hown hK hP 33 ww_33 rfl 24 (by decide) (hts _ g_746) (fun _ h9 => h9) rfl d_Mo_put_5 ?_
  refine lv_topq (y := nI L.length) (hLl) ?_
  refine lv_iload_n hx hb d_Mo_put_8 rfl (lv_at hl 1 rfl) ?_
  refine lv_i2b hx hb d_Mo_put_9 rfl ?_
  refine va_bast (D := D9) hx hb hK hP hD hS 44 0 ww_44 rfl (vp_in_nI (by omega) (by decide)) d_Mo_put_10 (fun H locs hP hD hS => ?_)
  obtain ⟨F1, aF1, sF1, hP, hD⟩ := fx (P := fun z => va_P D9 cls9 (WW a cB cI cJ cG _ z O) H ∧ va_D A0 (WW a cB cI cJ cG _ z O)) ⟨wpa_44 hP, wda_44 hD⟩
  rw [nI_clamp (by omega)] at aF1
  refine lv_aload_n hx hb d_Mo_put_11 rfl (lv_at hl 0 rfl) ?_
  refine lv_dup hx hb d_Mo_put_12 rfl ?_
  refine va_get (D := D9) (ci := 7) (C := R_Mo) (T := F_Mo) (N := 30) hx hb hts i_Mo hown hK hP 33 ww_33 rfl 24 (by decide) (hts _ g_746) (fun _ h9 => h9) rfl d_Mo_put_13 ?_
  refine lv_topq (y := nI L.length) (hLl) ?_
  refine lv_iconst (v := 1) hx hb d_Mo_put_16 (by decide) ?_
  refine lv_topq (y := nI 1) (rfl) ?_
  refine lv_iadd hx hb d_Mo_put_17 ?_
  refine lv_topq (y := nI (L.length + 1)) (nI_add _ _) ?_
  refine va_put (D := D9) (ty := .int) (ci := 7) (C := R_Mo) (T := F_Mo) (N := 30) hx hb hts i_Mo t_Mo t_Mo_ok n_Mo hown hK hP hD hS 33 ww_33 rfl 24 (by decide) (hts _ g_746) (fun _ h9 => h9) rfl (by decide +kernel) rfl rfl (Nat.le_of_ble_eq_true rfl) d_Mo_put_18 (fun H locs hP hD hS => ?_)
  obtain ⟨I2, aI2, sI2, hP, hD⟩ := fx (P := fun z => va_P D9 cls9 (WW a cB cI cJ cG z _ O) H ∧ va_D A0 (WW a cB cI cJ cG z _ O)) ⟨wp_28 hP, wd_28 hD⟩
  exact hret _ _ _ _ _ _ hS hP hD d_Mo_put_21 (⟨rfl, (sm_mo sI2 (by decide)), aI2, (sm_mo sF1 (by decide)), BR_eq (BR_putb hBL rfl rfl) aF1⟩)
set_option maxHeartbeats 4000000 in
set_option maxRecDepth 100000 in
/-- the reference: putTwo -/
theorem m_Mo_putTwo (l : Launch) (D9 : va_G) (cB cI cJ cG : ClassId) (a : Nat → Nat) (O : Nat → Int64) (I : Nat → Int32) (F : Nat → Nat → Int32) (L : List Nat) (x : Int32) (hBL : BR 0 131200 (F 44) L) (hLl : I 28 = nI L.length) (hLb : L.length < 131199) : MC l D9 cB cI cJ cG a O y_Mo_putTwo b_Mo_putTwo 2 (none) 1 [.ref (a 33), .int (x)] I F (fun v I' F' => v = none ∧ sm [28] I I' ∧ I' 28 = nI (L.length + 2) ∧ sm [44] F F' ∧ BR 0 131200 (F' 44) (L ++ b2 (un x))) := by
  refine mc_ofv (by decide) (Nat.le_of_ble_eq_true rfl) ?_
  intro p e s m below meth c ls A0 Q C0 hP hD hA hS hl hret
  obtain ⟨hx, hb, hml, hr, hlocks, hown, hts, hK⟩ := id C0
  have hl : lv_has ls 2 [(0, .ref (a 33)), (1, .int (x))] := hl
  refine lv_aload_n hx hb d_Mo_putTwo_0 rfl (lv_at hl 0 rfl) ?_
  refine lv_iload_n hx hb d_Mo_putTwo_1 rfl (lv_at hl 1 rfl) ?_
  refine lv_bipush (v := 8) hx hb d_Mo_putTwo_2 (by decide) ?_
  refine lv_topq (y := nI 8) (rfl) ?_
  refine lv_ishr hx hb d_Mo_putTwo_4 ?_
  refine lv_topq (y := x >>> (nI 8 &&& 31)) (rfl) ?_
  refine mw_cV (ci := 7) (k := 33) C0 (m_Mo_put l D9 cB cI cJ cG a O _ _ L (x >>> (nI 8 &&& 31)) hBL hLl (by omega)) g_930 g_8 g_927 g_929 gs_Mo_put ⟨by decide +kernel, by decide +kernel, show Option.map (fun d => d.parameters.length) (parseMethodDescriptor y_Mo_put.desc) = some 1 by decide +kernel⟩ ⟨by decide, by decide⟩ rfl rfl hP hD hS hA rfl ww_33 hl.1 (Nat.le_of_ble_eq_true rfl) rfl d_Mo_putTwo_5 ⟨by decide, by decide⟩ (fun v9 w9 H locs hq hP hD hS => ?_)
  obtain ⟨I1, F2, hw9, q3⟩ := hq
  subst hw9
  obtain ⟨rfl, spa, za, sqa, wa⟩ := q3
  refine lv_aload_n hx hb d_Mo_putTwo_8 rfl (lv_at hl 0 rfl) ?_
  refine lv_iload_n hx hb d_Mo_putTwo_9 rfl (lv_at hl 1 rfl) ?_
  refine mw_cV (ci := 7) (k := 33) C0 (m_Mo_put l D9 cB cI cJ cG a O _ _ (L ++ [ub (x >>> (nI 8 &&& 31))]) x wa (za.trans (congrArg nI (by simp))) (by rw [List.length_append, List.length_singleton]; omega)) g_930 g_8 g_927 g_929 gs_Mo_put ⟨by decide +kernel, by decide +kernel, show Option.map (fun d => d.parameters.length) (parseMethodDescriptor y_Mo_put.desc) = some 1 by decide +kernel⟩ ⟨by decide, by decide⟩ rfl rfl hP hD hS hA rfl ww_33 hl.1 (Nat.le_of_ble_eq_true rfl) rfl d_Mo_putTwo_10 ⟨by decide, by decide⟩ (fun v9 w9 H locs hq hP hD hS => ?_)
  obtain ⟨I4, F5, hw9, q6⟩ := hq
  subst hw9
  obtain ⟨rfl, spb, zb, sqb, wb⟩ := q6
  exact hret _ _ _ _ _ _ hS hP hD d_Mo_putTwo_13 (⟨rfl, (sm_tr (sm_mo spa (by decide)) (sm_mo spb (by decide))), (zb.trans (congrArg nI (by simp))), (sm_tr (sm_mo sqa (by decide)) (sm_mo sqb (by decide))), by have z9 := wb; rw [ub_s8, List.append_assoc] at z9; exact z9⟩)
set_option maxHeartbeats 4000000 in
set_option maxRecDepth 100000 in
/-- the reference: alike -/
theorem m_Mo_alike (l : Launch) (D9 : va_G) (cB cI cJ cG : ClassId) (a : Nat → Nat) (O : Nat → Int64) (I : Nat → Int32) (F : Nat → Nat → Int32) (G : List Nat) (hGl : G.length ≤ 65536) (hGB : BR 0 140000 (F 35) G) (p9 q9 ka kb r1 r2 : Nat) (hN1 : isN G ka p9 r1) (hN2 : isN G kb q9 r2) (hkb : kb ≤ 127) : MC l D9 cB cI cJ cG a O y_Mo_alike b_Mo_alike 6 (some .boolean) 0 [.ref (a 33), .int (nI p9), .int (nI q9)] I F (fun v I' F' => v = some (.int (bI (al 128 G p9 q9))) ∧ I = I' ∧ F = F') := by
  refine mc_of (by decide) (Nat.le_of_ble_eq_true rfl) ?_
  intro p e s m below meth c ls A0 Q C0 hP hD hA hS hl hret
  obtain ⟨hx, hb, hml, hr, hlocks, hown, hts, hK⟩ := id C0
  have hl : lv_has ls 6 [(0, .ref (a 33)), (1, .int (nI p9)), (2, .int (nI q9))] := hl
  refine lv_iconst (v := 0) hx hb d_Mo_alike_0 (by decide) ?_
  refine lv_topq (y := nI 0) (rfl) ?_
  refine lv_istore_n (lv' := [(3, _), (0, _), (1, _), (2, _)]) hx hb d_Mo_alike_1 rfl hl (by decide) rfl (fun ls hl => ?_)
  have loop1 : ∀ (n9 : Nat) (i : Nat) (f : Nat) (k1 : Nat) (k2 : Nat) (I9 : Nat → Int32) (F9 : Nat → Nat → Int32) (H : Heap) (locs : List Loc) (ls : Array Slot), (I = I9) → (F = F9) → (f = n9) → (al 128 G p9 q9 = al f G (p9 + i) (q9 + i)) → (isN G k1 (p9 + i) r1) → (isN G k2 (q9 + i) r2) → (k2 < f) → va_P D9 cls9 (WW a cB cI cJ cG I9 F9 O) H → va_D A0 (WW a cB cI cJ cG I9 F9 O) → va_S A0 s.heap H locs → lv_has ls 6 [(0, .ref (a 33)), (1, .int (nI p9)), (2, .int (nI q9)), (3, .int (nI i))] → W p l e (rm9 0 0 0) s m ([.ref (a 33), .int (nI p9), .int (nI q9)] : List Value).toArray below meth c H locs 0 0 Q (F0 m 2 ls []) := by
    intro n9
    induction n9 using Nat.strongRecOn with
    | ind n9 ih =>
      intro i f k1 k2 I9 F9 H locs ls hsI hsF hn9 hE hn1 hn2 hkf hP hD hS hl
      subst hsI
      subst hsF
      obtain ⟨g, rfl⟩ : ∃ g, f = g + 1 := ⟨f - 1, by omega⟩
      have p1 := isN_p hn1
      have p2 := isN_p hn2
      have s1 := isN_r hn1
      have s2 := isN_r hn2
      refine lv_aload_n hx hb d_Mo_alike_2 rfl (lv_at hl 0 rfl) ?_
      refine va_get (D := D9) (ci := 7) (C := R_Mo) (T := F_Mo) (N := 30) hx hb hts i_Mo hown hK hP 33 ww_33 rfl 3 (by decide) (hts _ g_725) (fun _ h9 => h9) rfl d_Mo_alike_3 ?_
      refine lv_iload_n hx hb d_Mo_alike_6 rfl (lv_at hl 1 rfl) ?_
      refine lv_iload_n hx hb d_Mo_alike_7 rfl (lv_at hl 3 rfl) ?_
      refine lv_iadd hx hb d_Mo_alike_8 ?_
      refine lv_topq (y := nI (p9 + i)) (nI_add _ _) ?_
      refine va_bald (D := D9) hx hb hK hP 35 0 ww_35 rfl (vp_in_nI (by omega) (by decide)) d_Mo_alike_9 ?_
      refine lv_topq (y := nI (tb G (p9 + i))) (by rw [nI_clamp (by omega)]; exact (BR_raw hGB (by omega) (by omega) (by omega))) ?_
      refine lv_aload_n hx hb d_Mo_alike_10 rfl (lv_at hl 0 rfl) ?_
      refine va_get (D := D9) (ci := 7) (C := R_Mo) (T := F_Mo) (N := 30) hx hb hts i_Mo hown hK hP 33 ww_33 rfl 3 (by decide) (hts _ g_725) (fun _ h9 => h9) rfl d_Mo_alike_11 ?_
      refine lv_iload_n hx hb d_Mo_alike_14 rfl (lv_at hl 2 rfl) ?_
      refine lv_iload_n hx hb d_Mo_alike_15 rfl (lv_at hl 3 rfl) ?_
      refine lv_iadd hx hb d_Mo_alike_16 ?_
      refine lv_topq (y := nI (q9 + i)) (nI_add _ _) ?_
      refine va_bald (D := D9) hx hb hK hP 35 0 ww_35 rfl (vp_in_nI (by omega) (by decide)) d_Mo_alike_17 ?_
      refine lv_topq (y := nI (tb G (q9 + i))) (by rw [nI_clamp (by omega)]; exact (BR_raw hGB (by omega) (by omega) (by omega))) ?_
      refine lv_icmp_ne (tgt := 91) hx hb d_Mo_alike_18 (by decide) (fun c1 => ?_) (fun c1 => ?_)
      · have c1 : ¬ (tb G (p9 + i) = tb G (q9 + i)) := fun z9 => c1 ((nI_eq (a := tb G (p9 + i)) (b := tb G (q9 + i)) (by omega) (by omega)).mpr z9)
        have hE : al 128 G p9 q9 = false := by rw [hE]; unfold al; rw [if_neg c1]
        refine lv_iconst (v := 0) hx hb d_Mo_alike_91 (by decide) ?_
        refine lv_topq (y := nI 0) (rfl) ?_
        exact hret _ _ _ _ _ _ _ hS hP hD d_Mo_alike_92 (nr_z (Or.inl rfl)) (by rw [hE]; exact ⟨rfl, rfl, rfl⟩)
      · have c1 : tb G (p9 + i) = tb G (q9 + i) := (nI_eq (a := tb G (p9 + i)) (b := tb G (q9 + i)) (by omega) (by omega)).mp c1
        refine lv_aload_n hx hb d_Mo_alike_21 rfl (lv_at hl 0 rfl) ?_
        refine va_get (D := D9) (ci := 7) (C := R_Mo) (T := F_Mo) (N := 30) hx hb hts i_Mo hown hK hP 33 ww_33 rfl 3 (by decide) (hts _ g_725) (fun _ h9 => h9) rfl d_Mo_alike_22 ?_
        refine lv_iload_n hx hb d_Mo_alike_25 rfl (lv_at hl 1 rfl) ?_
        refine lv_iload_n hx hb d_Mo_alike_26 rfl (lv_at hl 3 rfl) ?_
        refine lv_iadd hx hb d_Mo_alike_27 ?_
        refine lv_topq (y := nI (p9 + i)) (nI_add _ _) ?_
        refine va_bald (D := D9) hx hb hK hP 35 0 ww_35 rfl (vp_in_nI (by omega) (by decide)) d_Mo_alike_28 ?_
        refine lv_topq (y := nI (tb G (p9 + i))) (by rw [nI_clamp (by omega)]; exact (BR_raw hGB (by omega) (by omega) (by omega))) ?_
        refine lv_istore (lv' := [(4, _), (0, _), (1, _), (2, _), (3, _)]) hx hb d_Mo_alike_29 hl (by decide) rfl (fun ls hl => ?_)
        refine lv_iload hx hb d_Mo_alike_31 (lv_at hl 0 rfl) ?_
        refine lv_if_ne (tgt := 38) hx hb d_Mo_alike_33 (by decide) (fun c2 => ?_) (fun c2 => ?_)
        · have c2 : ¬ (tb G (p9 + i) = 0) := fun z9 => c2 ((nI_eq (a := tb G (p9 + i)) (b := 0) (by omega) (by omega)).mpr z9)
          have i1 := isN_in hn1 (by rcases Nat.eq_zero_or_pos k1 with z | z; have := p1.2.2.1 z; omega; exact z)
          have i2 := isN_in hn2 (by rcases Nat.eq_zero_or_pos k2 with z | z; have := p2.2.2.1 z; omega; exact z)
          rw [al_st c1 c2 (by omega) (by omega)] at hE
          refine lv_iconst (v := 1) hx hb d_Mo_alike_38 (by decide) ?_
          refine lv_topq (y := nI 1) (rfl) ?_
          refine lv_istore (lv' := [(5, _), (4, _), (0, _), (1, _), (2, _), (3, _)]) hx hb d_Mo_alike_39 hl (by decide) rfl (fun ls hl => ?_)
          have loopJ : ∀ (nc : Nat) (j : Nat) (H : Heap) (locs : List Loc) (ls : Array Slot), (tb G (p9 + i) + 1 - j = nc) → (1 ≤ j ∧ j ≤ tb G (p9 + i) + 1) → (∀ u, u < j → tb G (p9 + i + u) = tb G (q9 + i + u)) → va_P D9 cls9 (WW a cB cI cJ cG I F O) H → va_D A0 (WW a cB cI cJ cG I F O) → va_S A0 s.heap H locs → lv_has ls 6 [(0, .ref (a 33)), (1, .int (nI p9)), (2, .int (nI q9)), (3, .int (nI i)), (4, .int (nI (tb G (p9 + i)))), (5, .int (nI j))] → W p l e (rm9 0 0 0) s m ([.ref (a 33), .int (nI p9), .int (nI q9)] : List Value).toArray below meth c H locs 0 0 Q (F0 m 41 ls []) := by
            intro nc
            induction nc using Nat.strongRecOn with
            | ind nc ihc =>
              intro j H locs ls hnc hj hJ hP hD hS hl
              refine lv_iload hx hb d_Mo_alike_41 (lv_at hl 5 rfl) ?_
              refine lv_iload hx hb d_Mo_alike_43 (lv_at hl 4 rfl) ?_
              refine lv_icmp_gt (tgt := 81) hx hb d_Mo_alike_45 (by decide) (fun c3 => ?_) (fun c3 => ?_)
              · have c3 : tb G (p9 + i) < j := (nI_ltI (a := tb G (p9 + i)) (b := j) (by omega) (by omega)).mp c3
                have hjj : j = tb G (p9 + i) + 1 := by omega
                rw [hjj] at hJ
                rw [if_pos hJ] at hE
                refine lv_iload_n hx hb d_Mo_alike_81 rfl (lv_at hl 3 rfl) ?_
                refine lv_iload hx hb d_Mo_alike_82 (lv_at hl 4 rfl) ?_
                refine lv_iconst (v := 1) hx hb d_Mo_alike_84 (by decide) ?_
                refine lv_topq (y := nI 1) (rfl) ?_
                refine lv_iadd hx hb d_Mo_alike_85 ?_
                refine lv_topq (y := nI (tb G (p9 + i) + 1)) (nI_add _ _) ?_
                refine lv_iadd hx hb d_Mo_alike_86 ?_
                refine lv_topq (y := nI (i + (tb G (p9 + i) + 1))) (nI_add _ _) ?_
                refine lv_istore_n (lv' := [(3, _), (0, _), (1, _), (2, _), (4, _), (5, _)]) hx hb d_Mo_alike_87 rfl hl (by decide) rfl (fun ls hl => ?_)
                refine lv_goto (tgt := 2) hx hb d_Mo_alike_88 (by decide) ?_
                obtain ⟨m1, rfl⟩ : ∃ m1, k1 = m1 + 1 := ⟨k1 - 1, by rcases Nat.eq_zero_or_pos k1 with z | z; have := p1.2.2.1 z; omega; omega⟩
                obtain ⟨m2, rfl⟩ : ∃ m2, k2 = m2 + 1 := ⟨k2 - 1, by rcases Nat.eq_zero_or_pos k2 with z | z; have := p2.2.2.1 z; omega; omega⟩
                exact ih _ (by omega) (i + (tb G (p9 + i) + 1)) g m1 m2 _ _ _ _ _ rfl rfl rfl (by rw [hE, Nat.add_assoc, Nat.add_assoc]) (by have z9 := hn1.2.2.2; rw [Nat.add_assoc] at z9; exact z9) (by have z9 := hn2.2.2.2; rw [← c1, Nat.add_assoc] at z9; exact z9) (by omega) hP hD hS (lv_pk hl [1, 2, 3, 0] rfl)
              · have c3 : ¬ (tb G (p9 + i) < j) := fun z9 => c3 ((nI_ltI (a := tb G (p9 + i)) (b := j) (by omega) (by omega)).mpr z9)
                refine lv_aload_n hx hb d_Mo_alike_48 rfl (lv_at hl 0 rfl) ?_
                refine va_get (D := D9) (ci := 7) (C := R_Mo) (T := F_Mo) (N := 30) hx hb hts i_Mo hown hK hP 33 ww_33 rfl 3 (by decide) (hts _ g_725) (fun _ h9 => h9) rfl d_Mo_alike_49 ?_
                refine lv_iload_n hx hb d_Mo_alike_52 rfl (lv_at hl 1 rfl) ?_
                refine lv_iload_n hx hb d_Mo_alike_53 rfl (lv_at hl 3 rfl) ?_
                refine lv_iadd hx hb d_Mo_alike_54 ?_
                refine lv_topq (y := nI (p9 + i)) (nI_add _ _) ?_
                refine lv_iload hx hb d_Mo_alike_55 (lv_at hl 5 rfl) ?_
                refine lv_iadd hx hb d_Mo_alike_57 ?_
                refine lv_topq (y := nI (p9 + i + j)) (nI_add _ _) ?_
                refine va_bald (D := D9) hx hb hK hP 35 0 ww_35 rfl (vp_in_nI (by omega) (by decide)) d_Mo_alike_58 ?_
                refine lv_topq (y := F 35 (p9 + i + j)) ((by rw [nI_clamp (by omega)])) ?_
                refine lv_aload_n hx hb d_Mo_alike_59 rfl (lv_at hl 0 rfl) ?_
                refine va_get (D := D9) (ci := 7) (C := R_Mo) (T := F_Mo) (N := 30) hx hb hts i_Mo hown hK hP 33 ww_33 rfl 3 (by decide) (hts _ g_725) (fun _ h9 => h9) rfl d_Mo_alike_60 ?_
                refine lv_iload_n hx hb d_Mo_alike_63 rfl (lv_at hl 2 rfl) ?_
                refine lv_iload_n hx hb d_Mo_alike_64 rfl (lv_at hl 3 rfl) ?_
                refine lv_iadd hx hb d_Mo_alike_65 ?_
                refine lv_topq (y := nI (q9 + i)) (nI_add _ _) ?_
                refine lv_iload hx hb d_Mo_alike_66 (lv_at hl 5 rfl) ?_
                refine lv_iadd hx hb d_Mo_alike_68 ?_
                refine lv_topq (y := nI (q9 + i + j)) (nI_add _ _) ?_
                refine va_bald (D := D9) hx hb hK hP 35 0 ww_35 rfl (vp_in_nI (by omega) (by decide)) d_Mo_alike_69 ?_
                refine lv_topq (y := F 35 (q9 + i + j)) ((by rw [nI_clamp (by omega)])) ?_
                refine lv_icmp_eq (tgt := 75) hx hb d_Mo_alike_70 (by decide) (fun c4 => ?_) (fun c4 => ?_)
                · have hrq := BR_req hGB (i := p9 + i + j) (j := q9 + i + j) (by omega) (by omega) (by omega)
                  have hjq := hrq.mp c4
                  refine lv_iinc (lv' := [(5, .int (nI (j + 1))), (0, _), (1, _), (2, _), (3, _), (4, _)]) hx hb d_Mo_alike_75 hl (k := 5) rfl (nI_add _ 1) (by decide) rfl (fun ls hl => ?_)
                  refine lv_goto (tgt := 41) hx hb d_Mo_alike_78 (by decide) ?_
                  exact ihc _ (by omega) (j + 1)  _ _ _ rfl ⟨by omega, by omega⟩ (fun u hu => by rcases Nat.lt_or_eq_of_le (Nat.le_of_lt_succ hu) with z | z; exact hJ u z; rw [z]; exact hjq) hP hD hS (lv_pk hl [1, 2, 3, 4, 5, 0] rfl)
                · have hrq := BR_req hGB (i := p9 + i + j) (j := q9 + i + j) (by omega) (by omega) (by omega)
                  have hE : al 128 G p9 q9 = false := by rw [hE, if_neg (fun z9 => c4 (hrq.mpr (z9 j (by omega))))]
                  refine lv_iconst (v := 0) hx hb d_Mo_alike_73 (by decide) ?_
                  refine lv_topq (y := nI 0) (rfl) ?_
                  exact hret _ _ _ _ _ _ _ hS hP hD d_Mo_alike_74 (nr_z (Or.inl rfl)) (by rw [hE]; exact ⟨rfl, rfl, rfl⟩)
          exact loopJ _ 1  _ _ _ rfl ⟨by omega, by omega⟩ (fun u hu => by rw [show u = 0 from by omega]; exact c1) hP hD hS (lv_pk hl [2, 3, 4, 5, 1, 0] rfl)
        · have c2 : tb G (p9 + i) = 0 := (nI_eq (a := tb G (p9 + i)) (b := 0) (by omega) (by omega)).mp c2
          have hE : al 128 G p9 q9 = true := by rw [hE]; unfold al; rw [if_pos c1, if_pos c2]
          refine lv_iconst (v := 1) hx hb d_Mo_alike_36 (by decide) ?_
          refine lv_topq (y := nI 1) (rfl) ?_
          exact hret _ _ _ _ _ _ _ hS hP hD d_Mo_alike_37 (nr_z (Or.inr rfl)) (by rw [hE]; exact ⟨rfl, rfl, rfl⟩)
  exact loop1 _ 0 128 ka kb _ _ _ _ _ rfl rfl rfl rfl hN1 hN2 (by omega) hP hD hS (lv_pk hl [1, 2, 3, 0] rfl)
set_option maxHeartbeats 4000000 in
set_option maxRecDepth 100000 in
/-- the reference: standing -/
theorem m_Mo_standing (l : Launch) (D9 : va_G) (cB cI cJ cG : ClassId) (a : Nat → Nat) (O : Nat → Int64) (I : Nat → Int32) (F : Nat → Nat → Int32) (G : List Nat) (hGl : G.length ≤ 65536) (hGB : BR 0 140000 (F 35) G) (E : List (Nat × Nat)) (q9 kb r2 : Nat) (hN2 : isN G kb q9 r2) (hkb : kb ≤ 127) (hE9 : MeR F E) (hW : EnW G E) (h30 : I 30 = nI E.length) : MC l D9 cB cI cJ cG a O y_Mo_standing b_Mo_standing 3 (some .int) 1 [.ref (a 33), .int (nI q9)] I F (fun v I' F' => (∃ pl, fnd G E q9 = some pl ∧ pl < 16384 ∧ v = some (.int (nI pl)) ∧ I = I' ∧ F = F') ∨ (fnd G E q9 = none ∧ v = some (.int (-1)) ∧ I = I' ∧ F = F')) := by
  refine mc_of (by decide) (Nat.le_of_ble_eq_true rfl) ?_
  intro p e s m below meth c ls A0 Q C0 hP hD hA hS hl hret
  obtain ⟨hx, hb, hml, hr, hlocks, hown, hts, hK⟩ := id C0
  have hl : lv_has ls 3 [(0, .ref (a 33)), (1, .int (nI q9))] := hl
  have hE8 := hW.2.2
  refine lv_iconst (v := 0) hx hb d_Mo_standing_0 (by decide) ?_
  refine lv_topq (y := nI 0) (rfl) ?_
  refine lv_istore_n (lv' := [(2, _), (0, _), (1, _)]) hx hb d_Mo_standing_1 rfl hl (by decide) rfl (fun ls hl => ?_)
  have loop1 : ∀ (n9 : Nat) (k : Nat) (I9 : Nat → Int32) (F9 : Nat → Nat → Int32) (H : Heap) (locs : List Loc) (ls : Array Slot), (I = I9) → (F = F9) → (E.length - k = n9) → (k ≤ E.length) → (∀ i, i < k → al 128 G (eQ E i) q9 = false) → va_P D9 cls9 (WW a cB cI cJ cG I9 F9 O) H → va_D A0 (WW a cB cI cJ cG I9 F9 O) → va_S A0 s.heap H locs → lv_has ls 3 [(0, .ref (a 33)), (1, .int (nI q9)), (2, .int (nI k))] → W p l e (rm9 1 0 0) s m ([.ref (a 33), .int (nI q9)] : List Value).toArray below meth c H locs 0 0 Q (F0 m 2 ls []) := by
    intro n9
    induction n9 using Nat.strongRecOn with
    | ind n9 ih =>
      intro k I9 F9 H locs ls hsI hsF hn9 hk hno hP hD hS hl
      subst hsI
      subst hsF
      refine lv_iload_n hx hb d_Mo_standing_2 rfl (lv_at hl 2 rfl) ?_
      refine lv_aload_n hx hb d_Mo_standing_3 rfl (lv_at hl 0 rfl) ?_
      refine va_get (D := D9) (ci := 7) (C := R_Mo) (T := F_Mo) (N := 30) hx hb hts i_Mo hown hK hP 33 ww_33 rfl 28 (by decide) (hts _ g_750) (fun _ h9 => h9) rfl d_Mo_standing_4 ?_
      refine lv_topq (y := nI E.length) (h30) ?_
      refine lv_icmp_ge (tgt := 37) hx hb d_Mo_standing_7 (by decide) (fun c1 => ?_) (fun c1 => ?_)
      · have c1 : E.length ≤ k := (nI_leI (a := E.length) (b := k) (by omega) (by omega)).mp c1
        refine lv_iconst (v := -1) hx hb d_Mo_standing_37 (by decide) ?_
        refine lv_topq (y := (-1 : Int32)) rfl ?_
        exact hret _ _ _ _ _ _ _ hS hP hD d_Mo_standing_38 nr_i (Or.inr ⟨fnd_none (fun i hi => hno i (by omega)), rfl, rfl, rfl⟩)
      · have c1 : ¬ (E.length ≤ k) := fun z9 => c1 ((nI_leI (a := E.length) (b := k) (by omega) (by omega)).mpr z9)
        obtain ⟨b1, b2⟩ := hE9 k (by omega)
        obtain ⟨w1, kk, rr, w2, w3⟩ := hW.1 k (by omega)
        refine lv_aload_n hx hb d_Mo_standing_10 rfl (lv_at hl 0 rfl) ?_
        refine lv_aload_n hx hb d_Mo_standing_11 rfl (lv_at hl 0 rfl) ?_
        refine va_get (D := D9) (ci := 7) (C := R_Mo) (T := F_Mo) (N := 30) hx hb hts i_Mo hown hK hP 33 ww_33 rfl 27 (by decide) (hts _ g_749) (fun _ h9 => h9) rfl d_Mo_standing_12 ?_
        refine lv_iload_n hx hb d_Mo_standing_15 rfl (lv_at hl 2 rfl) ?_
        refine va_iald (D := D9) hx hb hK hP 46 1 ww_46 rfl (vp_in_nI (by omega) (by decide)) d_Mo_standing_16 ?_
        refine lv_topq (y := nI (eQ E k)) (by rw [nI_clamp (by omega)]; exact b2) ?_
        refine lv_iload_n hx hb d_Mo_standing_17 rfl (lv_at hl 1 rfl) ?_
        refine mw_cV (ci := 7) (k := 33) C0 (m_Mo_alike l D9 cB cI cJ cG a O _ _ G hGl hGB (eQ E k) q9 kk kb rr r2 w2 hN2 hkb) g_926 g_8 g_923 g_925 gs_Mo_alike ⟨by decide +kernel, by decide +kernel, show Option.map (fun d => d.parameters.length) (parseMethodDescriptor y_Mo_alike.desc) = some 2 by decide +kernel⟩ ⟨by decide, by decide⟩ rfl rfl hP hD hS hA rfl ww_33 hl.1 (Nat.le_of_ble_eq_true rfl) rfl d_Mo_standing_18 ⟨by decide, by decide⟩ (fun v9 w9 H locs hq hP hD hS => ?_)
        obtain ⟨I2, F3, hw9, q4⟩ := hq
        subst hw9
        obtain ⟨rfl, rfl, rfl⟩ := q4
        refine lv_if_eq (tgt := 31) hx hb d_Mo_standing_21 (by decide) (fun c5 => ?_) (fun c5 => ?_)
        · have c5 : al 128 G (eQ E k) q9 = false := bI_f c5
          refine lv_iinc (lv' := [(2, .int (nI (k + 1))), (0, _), (1, _)]) hx hb d_Mo_standing_31 hl (k := 2) rfl (nI_add _ 1) (by decide) rfl (fun ls hl => ?_)
          refine lv_goto (tgt := 2) hx hb d_Mo_standing_34 (by decide) ?_
          exact ih _ (by omega) (k + 1) _ _ _ _ _ rfl rfl rfl (by omega) (fun i hi => by rcases Nat.lt_or_eq_of_le (Nat.le_of_lt_succ hi) with z | z; exact hno i z; rw [z]; exact c5) hP hD hS (lv_pk hl [1, 2, 0] rfl)
        · have c5 : al 128 G (eQ E k) q9 = true := bI_t c5
          refine lv_aload_n hx hb d_Mo_standing_24 rfl (lv_at hl 0 rfl) ?_
          refine va_get (D := D9) (ci := 7) (C := R_Mo) (T := F_Mo) (N := 30) hx hb hts i_Mo hown hK hP 33 ww_33 rfl 26 (by decide) (hts _ g_748) (fun _ h9 => h9) rfl d_Mo_standing_25 ?_
          refine lv_iload_n hx hb d_Mo_standing_28 rfl (lv_at hl 2 rfl) ?_
          refine va_iald (D := D9) hx hb hK hP 45 1 ww_45 rfl (vp_in_nI (by omega) (by decide)) d_Mo_standing_29 ?_
          refine lv_topq (y := nI (eP E k)) (by rw [nI_clamp (by omega)]; exact b1) ?_
          exact hret _ _ _ _ _ _ _ hS hP hD d_Mo_standing_30 nr_i (Or.inl ⟨eP E k, fnd_some (by omega) c5 hno, w1, rfl, rfl, rfl⟩)
  exact loop1 _ 0 _ _ _ _ _ rfl rfl rfl (Nat.zero_le _) (fun i hi => by omega) hP hD hS (lv_pk hl [1, 2, 0] rfl)
