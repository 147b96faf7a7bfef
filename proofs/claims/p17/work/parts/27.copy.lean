/-! COPIES -/
theorem mn_nI {a b : Nat} (ha : a < 2 ^ 31) (hb : b < 2 ^ 31) : (if nI b < nI a then nI b else nI a) = nI (min a b) := by
  by_cases h : b < a
  · rw [if_pos ((nI_ltI hb ha).mpr h), Nat.min_eq_right (Nat.le_of_lt h)]
  · rw [if_neg (fun z => h ((nI_ltI hb ha).mp z)), Nat.min_eq_left (by omega)]
theorem BR_cpy {c k fr q : Nat} {f g : Nat → Int32} {L t : List Nat} (hg : BR c 65536 g L) (hf : BR 0 65536 f t) (h1 : fr + k ≤ t.length) (h2 : t.length ≤ 65536) (hq : q = min k (65536 - L.length)) : BR c 65536 (va_cpy f g fr L.length q) (L ++ sl9 t fr k) := by
  refine ⟨sb_fitC hf.1 hg.1, ?_⟩
  intro i b hb hc hn
  by_cases hi : i < L.length
  · rw [pk_cpy_out (Or.inl hi)]
    rw [List.getElem?_append_left hi] at hb
    exact hg.2 i b hb hc hn
  · have h3 := (List.getElem?_eq_some_iff.mp hb).1
    rw [List.length_append, sl9_len h1] at h3
    rw [pk_cpy_in (by omega) (by omega)]
    rw [List.getElem?_append_right (by omega), sl9_get (by omega)] at hb
    exact hf.2 _ b hb (Nat.zero_le _) (by omega)
theorem BR_more {c : Nat} {g : Nat → Int32} {L X : List Nat} (hg : BR c 65536 g L) (h : 65536 ≤ L.length ∨ X = []) : BR c 65536 g (L ++ X) := by
  rcases h with h | h
  · refine ⟨hg.1, ?_⟩
    intro i b hb hc hn
    rw [List.getElem?_append_left (by omega)] at hb
    exact hg.2 i b hb hc hn
  · rw [h, List.append_nil]; exact hg
theorem sl9_0 (t : List Nat) (p : Nat) : sl9 t p 0 = [] := by unfold sl9; exact List.take_zero
theorem g_14 : (Cond.initialized "java/lang/Math") ∈ GT := gt_mem 14 (by decide +kernel) rfl
theorem g_15 : (Cond.initialized "java/lang/System") ∈ GT := gt_mem 15 (by decide +kernel) rfl
theorem g_301 : (Cond.methodLink "WireMessages$Bytes" (38 : Nat) ({ cls := "java/lang/Math", name := "min", desc := "(II)I" } : MethodName)) ∈ GT := gt_mem 301 (by decide +kernel) rfl
theorem g_302 : (Cond.static ({ cls := "java/lang/Math", name := "min", desc := "(II)I" } : MethodName)) ∈ GT := gt_mem 302 (by decide +kernel) rfl
theorem g_303 : (Cond.code ({ cls := "java/lang/Math", name := "min", desc := "(II)I" } : MethodName) prog_15_method_69_code (2 : Nat) (Option.some FieldType.int)) ∈ GT := gt_mem 303 (by decide +kernel) rfl
theorem g_304 : (Cond.methodLink "WireMessages$Bytes" (44 : Nat) ({ cls := "java/lang/System", name := "arraycopy", desc := "(Ljava/lang/Object;ILjava/lang/Object;II)V" } : MethodName)) ∈ GT := gt_mem 304 (by decide +kernel) rfl
theorem g_305 : (Cond.static ({ cls := "java/lang/System", name := "arraycopy", desc := "(Ljava/lang/Object;ILjava/lang/Object;II)V" } : MethodName)) ∈ GT := gt_mem 305 (by decide +kernel) rfl
theorem g_306 : (Cond.native ({ cls := "java/lang/System", name := "arraycopy", desc := "(Ljava/lang/Object;ILjava/lang/Object;II)V" } : MethodName)) ∈ GT := gt_mem 306 (by decide +kernel) rfl
theorem d_By_putFrom_0 : decode b_By_putFrom 0 = .ok (.iload_n 3, 1) := by decide +kernel
theorem d_By_putFrom_1 : decode b_By_putFrom 1 = .ok (.aload_n 0, 1) := by decide +kernel
theorem d_By_putFrom_2 : decode b_By_putFrom 2 = .ok (.getfield 10, 3) := by decide +kernel
theorem d_By_putFrom_5 : decode b_By_putFrom 5 = .ok (.arraylength, 1) := by decide +kernel
theorem d_By_putFrom_6 : decode b_By_putFrom 6 = .ok (.aload_n 0, 1) := by decide +kernel
theorem d_By_putFrom_7 : decode b_By_putFrom 7 = .ok (.getfield 27, 3) := by decide +kernel
theorem d_By_putFrom_10 : decode b_By_putFrom 10 = .ok (.isub, 1) := by decide +kernel
theorem d_By_putFrom_11 : decode b_By_putFrom 11 = .ok (.invokestatic 38, 3) := by decide +kernel
theorem d_By_putFrom_14 : decode b_By_putFrom 14 = .ok (.aload_n 1, 1) := by decide +kernel
theorem d_By_putFrom_15 : decode b_By_putFrom 15 = .ok (.getfield 10, 3) := by decide +kernel
theorem d_By_putFrom_18 : decode b_By_putFrom 18 = .ok (.arraylength, 1) := by decide +kernel
theorem d_By_putFrom_19 : decode b_By_putFrom 19 = .ok (.iload_n 2, 1) := by decide +kernel
theorem d_By_putFrom_20 : decode b_By_putFrom 20 = .ok (.isub, 1) := by decide +kernel
theorem d_By_putFrom_21 : decode b_By_putFrom 21 = .ok (.invokestatic 38, 3) := by decide +kernel
theorem d_By_putFrom_24 : decode b_By_putFrom 24 = .ok (.istore 4, 2) := by decide +kernel
theorem d_By_putFrom_26 : decode b_By_putFrom 26 = .ok (.iload_n 2, 1) := by decide +kernel
theorem d_By_putFrom_27 : decode b_By_putFrom 27 = .ok (.ifCond .lt 26, 3) := by decide +kernel
theorem d_By_putFrom_30 : decode b_By_putFrom 30 = .ok (.iload 4, 2) := by decide +kernel
theorem d_By_putFrom_32 : decode b_By_putFrom 32 = .ok (.ifCond .le 21, 3) := by decide +kernel
theorem d_By_putFrom_35 : decode b_By_putFrom 35 = .ok (.aload_n 1, 1) := by decide +kernel
theorem d_By_putFrom_36 : decode b_By_putFrom 36 = .ok (.getfield 10, 3) := by decide +kernel
theorem d_By_putFrom_39 : decode b_By_putFrom 39 = .ok (.iload_n 2, 1) := by decide +kernel
theorem d_By_putFrom_40 : decode b_By_putFrom 40 = .ok (.aload_n 0, 1) := by decide +kernel
theorem d_By_putFrom_41 : decode b_By_putFrom 41 = .ok (.getfield 10, 3) := by decide +kernel
theorem d_By_putFrom_44 : decode b_By_putFrom 44 = .ok (.aload_n 0, 1) := by decide +kernel
theorem d_By_putFrom_45 : decode b_By_putFrom 45 = .ok (.getfield 27, 3) := by decide +kernel
theorem d_By_putFrom_48 : decode b_By_putFrom 48 = .ok (.iload 4, 2) := by decide +kernel
theorem d_By_putFrom_50 : decode b_By_putFrom 50 = .ok (.invokestatic 44, 3) := by decide +kernel
theorem d_By_putFrom_53 : decode b_By_putFrom 53 = .ok (.aload_n 0, 1) := by decide +kernel
theorem d_By_putFrom_54 : decode b_By_putFrom 54 = .ok (.dup, 1) := by decide +kernel
theorem d_By_putFrom_55 : decode b_By_putFrom 55 = .ok (.getfield 27, 3) := by decide +kernel
theorem d_By_putFrom_58 : decode b_By_putFrom 58 = .ok (.iload_n 3, 1) := by decide +kernel
theorem d_By_putFrom_59 : decode b_By_putFrom 59 = .ok (.iadd, 1) := by decide +kernel
theorem d_By_putFrom_60 : decode b_By_putFrom 60 = .ok (.putfield 27, 3) := by decide +kernel
theorem d_By_putFrom_63 : decode b_By_putFrom 63 = .ok (.return_, 1) := by decide +kernel
set_option maxHeartbeats 4000000 in
set_option maxRecDepth 100000 in
/-- Bytes.putFrom -/
theorem m_By_putFrom_gb_tp (l : Launch) (D9 : va_G) (cB cI cJ cG : ClassId) (a : Nat → Nat) (O : Nat → Int64) (I : Nat → Int32) (F : Nat → Nat → Int32) (L t : List Nat) (c9 fr k : Nat) (hBL : BR c9 65536 (F 4) L) (hBt : BR 0 65536 (F 2) t) (hLl : I 3 = nI L.length) (htl : t.length ≤ 65536) (hft : fr + k ≤ t.length) (hLb : L.length < 1000000) : MC l D9 cB cI cJ cG a O y_By_putFrom b_By_putFrom 5 (none) 1 [.ref (a 3), .ref (a 1), .int (nI fr), .int (nI k)] I F (fun v I' F' => v = none ∧ sm [3] I I' ∧ I' 3 = nI (L.length + k) ∧ sm [4] F F' ∧ BR c9 65536 (F' 4) (L ++ sl9 t fr k)) := by
  refine mc_ofv (by decide) (Nat.le_of_ble_eq_true rfl) ?_
  intro p e s m below meth c ls A0 Q C0 hP hD hA hS hl hret
  obtain ⟨hx, hb, hml, hr, hlocks, hown, hts, hK⟩ := id C0
  have hl : lv_has ls 5 [(0, .ref (a 3)), (1, .ref (a 1)), (2, .int (nI fr)), (3, .int (nI k))] := hl
  by_cases hA : L.length ≤ 65536
  · refine lv_iload_n hx hb d_By_putFrom_0 rfl (lv_at hl 3 rfl) ?_
    refine lv_aload_n hx hb d_By_putFrom_1 rfl (lv_at hl 0 rfl) ?_
    refine va_get (D := D9) (ci := 0) (C := R_By) (T := F_By) (N := 2) hx hb hts i_By hown hK hP 3 ww_3 rfl 0 (by decide) (hts _ g_35) (fun _ h9 => h9) rfl d_By_putFrom_2 ?_
    refine va_alen (D := D9) hx hb hK hP 4 0 ww_4 rfl rfl d_By_putFrom_5 ?_
    refine lv_topq (y := nI 65536) (rfl) ?_
    refine lv_aload_n hx hb d_By_putFrom_6 rfl (lv_at hl 0 rfl) ?_
    refine va_get (D := D9) (ci := 0) (C := R_By) (T := F_By) (N := 2) hx hb hts i_By hown hK hP 3 ww_3 rfl 1 (by decide) (hts _ g_40) (fun _ h9 => h9) rfl d_By_putFrom_7 ?_
    refine lv_topq (y := nI L.length) (hLl) ?_
    refine lv_isub hx hb d_By_putFrom_10 ?_
    refine lv_topq (y := nI (65536 - L.length)) (pk_sub (by omega)) ?_
    refine va_mmin hx hb (by rw [hml]; exact hl.1.symm) hown (hts _ g_301) (hts _ g_302) (hts _ g_14) (hts _ g_303) (by decide) (by decide) (by decide) (by decide) d_By_putFrom_11 ?_
    refine lv_topq (y := nI (min k (65536 - L.length))) (mn_nI (by omega) (by omega)) ?_
    refine lv_aload_n hx hb d_By_putFrom_14 rfl (lv_at hl 1 rfl) ?_
    refine va_get (D := D9) (ci := 0) (C := R_By) (T := F_By) (N := 2) hx hb hts i_By hown hK hP 1 ww_1 rfl 0 (by decide) (hts _ g_35) (fun _ h9 => h9) rfl d_By_putFrom_15 ?_
    refine va_alen (D := D9) hx hb hK hP 2 0 ww_2 rfl rfl d_By_putFrom_18 ?_
    refine lv_topq (y := nI 65536) (rfl) ?_
    refine lv_iload_n hx hb d_By_putFrom_19 rfl (lv_at hl 2 rfl) ?_
    refine lv_isub hx hb d_By_putFrom_20 ?_
    refine lv_topq (y := nI (65536 - fr)) (pk_sub (by omega)) ?_
    refine va_mmin hx hb (by rw [hml]; exact hl.1.symm) hown (hts _ g_301) (hts _ g_302) (hts _ g_14) (hts _ g_303) (by decide) (by decide) (by decide) (by decide) d_By_putFrom_21 ?_
    refine lv_topq (y := nI (min k (65536 - L.length))) ((mn_nI (by omega) (by omega)).trans (congrArg nI (by omega))) ?_
    refine lv_istore (lv' := [(4, _), (0, _), (1, _), (2, _), (3, _)]) hx hb d_By_putFrom_24 hl (by decide) rfl (fun ls hl => ?_)
    refine lv_iload_n hx hb d_By_putFrom_26 rfl (lv_at hl 3 rfl) ?_
    refine lv_if_lt (tgt := 53) hx hb d_By_putFrom_27 (by decide) (fun c1 => ?_) (fun c1 => ?_)
    · have c1 : fr < 0 := (nI_ltI (a := fr) (b := 0) (by omega) (by omega)).mp c1
      exfalso; omega
    · have c1 : ¬ (fr < 0) := fun z9 => c1 ((nI_ltI (a := fr) (b := 0) (by omega) (by omega)).mpr z9)
      refine lv_iload hx hb d_By_putFrom_30 (lv_at hl 0 rfl) ?_
      refine lv_if_le (tgt := 53) hx hb d_By_putFrom_32 (by decide) (fun c2 => ?_) (fun c2 => ?_)
      · have c2 : min k (65536 - L.length) ≤ 0 := (nI_leI (a := min k (65536 - L.length)) (b := 0) (by omega) (by omega)).mp c2
        refine lv_aload_n hx hb d_By_putFrom_53 rfl (lv_at hl 1 rfl) ?_
        refine lv_dup hx hb d_By_putFrom_54 rfl ?_
        refine va_get (D := D9) (ci := 0) (C := R_By) (T := F_By) (N := 2) hx hb hts i_By hown hK hP 3 ww_3 rfl 1 (by decide) (hts _ g_40) (fun _ h9 => h9) rfl d_By_putFrom_55 ?_
        refine lv_topq (y := nI L.length) (hLl) ?_
        refine lv_iload_n hx hb d_By_putFrom_58 rfl (lv_at hl 4 rfl) ?_
        refine lv_iadd hx hb d_By_putFrom_59 ?_
        refine lv_topq (y := nI (L.length + k)) (nI_add _ _) ?_
        refine va_put (D := D9) (ty := .int) (ci := 0) (C := R_By) (T := F_By) (N := 2) hx hb hts i_By t_By t_By_ok n_By hown hK hP hD hS 3 ww_3 rfl 1 (by decide) (hts _ g_40) (fun _ h9 => h9) rfl (by decide +kernel) rfl rfl (Nat.le_of_ble_eq_true rfl) d_By_putFrom_60 (fun H locs hP hD hS => ?_)
        obtain ⟨I3, aI3, sI3, hP, hD⟩ := fx (P := fun z => va_P D9 cls9 (WW a cB cI cJ cG z _ O) H ∧ va_D A0 (WW a cB cI cJ cG z _ O)) ⟨wp_3 hP, wd_3 hD⟩
        exact hret _ _ _ _ _ _ hS hP hD d_By_putFrom_63 (⟨rfl, (sm_mo sI3 (by decide)), aI3, sm_rf, BR_more hBL (by rcases (show k = 0 ∨ 65536 ≤ L.length by omega) with z | z; exact Or.inr (by rw [z]; exact sl9_0 _ _); exact Or.inl z)⟩)
      · have c2 : ¬ (min k (65536 - L.length) ≤ 0) := fun z9 => c2 ((nI_leI (a := min k (65536 - L.length)) (b := 0) (by omega) (by omega)).mpr z9)
        refine lv_aload_n hx hb d_By_putFrom_35 rfl (lv_at hl 2 rfl) ?_
        refine va_get (D := D9) (ci := 0) (C := R_By) (T := F_By) (N := 2) hx hb hts i_By hown hK hP 1 ww_1 rfl 0 (by decide) (hts _ g_35) (fun _ h9 => h9) rfl d_By_putFrom_36 ?_
        refine lv_iload_n hx hb d_By_putFrom_39 rfl (lv_at hl 3 rfl) ?_
        refine lv_aload_n hx hb d_By_putFrom_40 rfl (lv_at hl 1 rfl) ?_
        refine va_get (D := D9) (ci := 0) (C := R_By) (T := F_By) (N := 2) hx hb hts i_By hown hK hP 3 ww_3 rfl 0 (by decide) (hts _ g_35) (fun _ h9 => h9) rfl d_By_putFrom_41 ?_
        refine lv_aload_n hx hb d_By_putFrom_44 rfl (lv_at hl 1 rfl) ?_
        refine va_get (D := D9) (ci := 0) (C := R_By) (T := F_By) (N := 2) hx hb hts i_By hown hK hP 3 ww_3 rfl 1 (by decide) (hts _ g_40) (fun _ h9 => h9) rfl d_By_putFrom_45 ?_
        refine lv_topq (y := nI L.length) (hLl) ?_
        refine lv_iload hx hb d_By_putFrom_48 (lv_at hl 0 rfl) ?_
        refine va_copyi (D := D9) (ty := .byte) hx hb (by rw [hml]; exact hl.1.symm) hown (hts _ g_304) (hts _ g_306) (hts _ g_305) (hts _ g_15) hK hP hD hS 2 4 0 0 ww_2 ww_4 rfl rfl rfl (nI_pos (by omega)) (nI_pos (by omega)) (nI_pos (by omega)) (by rw [nI_clamp (by omega), nI_clamp (by omega)]; omega) (by rw [nI_clamp (by omega), nI_clamp (by omega)]; omega) (fun i _ => hBt.1 _) (by decide) (by decide) d_By_putFrom_50 (fun H locs hP hD hS => ?_)
        obtain ⟨F4, aF4, sF4, hP, hD⟩ := fx (P := fun z => va_P D9 cls9 (WW a cB cI cJ cG _ z O) H ∧ va_D A0 (WW a cB cI cJ cG _ z O)) ⟨wpa_4 hP, wda_4 hD⟩
        rw [nI_clamp (by omega), nI_clamp (by omega), nI_clamp (by omega)] at aF4
        refine lv_aload_n hx hb d_By_putFrom_53 rfl (lv_at hl 1 rfl) ?_
        refine lv_dup hx hb d_By_putFrom_54 rfl ?_
        refine va_get (D := D9) (ci := 0) (C := R_By) (T := F_By) (N := 2) hx hb hts i_By hown hK hP 3 ww_3 rfl 1 (by decide) (hts _ g_40) (fun _ h9 => h9) rfl d_By_putFrom_55 ?_
        refine lv_topq (y := nI L.length) (hLl) ?_
        refine lv_iload_n hx hb d_By_putFrom_58 rfl (lv_at hl 4 rfl) ?_
        refine lv_iadd hx hb d_By_putFrom_59 ?_
        refine lv_topq (y := nI (L.length + k)) (nI_add _ _) ?_
        refine va_put (D := D9) (ty := .int) (ci := 0) (C := R_By) (T := F_By) (N := 2) hx hb hts i_By t_By t_By_ok n_By hown hK hP hD hS 3 ww_3 rfl 1 (by decide) (hts _ g_40) (fun _ h9 => h9) rfl (by decide +kernel) rfl rfl (Nat.le_of_ble_eq_true rfl) d_By_putFrom_60 (fun H locs hP hD hS => ?_)
        obtain ⟨I5, aI5, sI5, hP, hD⟩ := fx (P := fun z => va_P D9 cls9 (WW a cB cI cJ cG z _ O) H ∧ va_D A0 (WW a cB cI cJ cG z _ O)) ⟨wp_3 hP, wd_3 hD⟩
        exact hret _ _ _ _ _ _ hS hP hD d_By_putFrom_63 (⟨rfl, (sm_mo sI5 (by decide)), aI5, (sm_mo sF4 (by decide)), BR_eq (BR_cpy hBL hBt hft htl rfl) aF4⟩)
  · refine lv_iload_n hx hb d_By_putFrom_0 rfl (lv_at hl 3 rfl) ?_
    refine lv_aload_n hx hb d_By_putFrom_1 rfl (lv_at hl 0 rfl) ?_
    refine va_get (D := D9) (ci := 0) (C := R_By) (T := F_By) (N := 2) hx hb hts i_By hown hK hP 3 ww_3 rfl 0 (by decide) (hts _ g_35) (fun _ h9 => h9) rfl d_By_putFrom_2 ?_
    refine va_alen (D := D9) hx hb hK hP 4 0 ww_4 rfl rfl d_By_putFrom_5 ?_
    refine lv_topq (y := nI 65536) (rfl) ?_
    refine lv_aload_n hx hb d_By_putFrom_6 rfl (lv_at hl 0 rfl) ?_
    refine va_get (D := D9) (ci := 0) (C := R_By) (T := F_By) (N := 2) hx hb hts i_By hown hK hP 3 ww_3 rfl 1 (by decide) (hts _ g_40) (fun _ h9 => h9) rfl d_By_putFrom_7 ?_
    refine lv_topq (y := nI L.length) (hLl) ?_
    refine lv_isub hx hb d_By_putFrom_10 ?_
    refine lv_topq (y := nI 65536 - nI L.length) (rfl) ?_
    refine va_mmin hx hb (by rw [hml]; exact hl.1.symm) hown (hts _ g_301) (hts _ g_302) (hts _ g_14) (hts _ g_303) (by decide) (by decide) (by decide) (by decide) d_By_putFrom_11 ?_
    refine lv_topq (y := nI 65536 - nI L.length) (if_pos (Int32.lt_of_lt_of_le (pk_sneg (a := 65536) (b := L.length) (by omega) (by omega)) (nI_pos' (by omega)))) ?_
    refine lv_aload_n hx hb d_By_putFrom_14 rfl (lv_at hl 1 rfl) ?_
    refine va_get (D := D9) (ci := 0) (C := R_By) (T := F_By) (N := 2) hx hb hts i_By hown hK hP 1 ww_1 rfl 0 (by decide) (hts _ g_35) (fun _ h9 => h9) rfl d_By_putFrom_15 ?_
    refine va_alen (D := D9) hx hb hK hP 2 0 ww_2 rfl rfl d_By_putFrom_18 ?_
    refine lv_topq (y := nI 65536) (rfl) ?_
    refine lv_iload_n hx hb d_By_putFrom_19 rfl (lv_at hl 2 rfl) ?_
    refine lv_isub hx hb d_By_putFrom_20 ?_
    refine lv_topq (y := nI (65536 - fr)) (pk_sub (by omega)) ?_
    refine va_mmin hx hb (by rw [hml]; exact hl.1.symm) hown (hts _ g_301) (hts _ g_302) (hts _ g_14) (hts _ g_303) (by decide) (by decide) (by decide) (by decide) d_By_putFrom_21 ?_
    refine lv_topq (y := nI 65536 - nI L.length) (if_neg (fun z9 => nI_pos (show 65536 - fr < 2 ^ 31 by omega) (Int32.lt_trans z9 (pk_sneg (a := 65536) (b := L.length) (by omega) (by omega))))) ?_
    refine lv_istore (lv' := [(4, _), (0, _), (1, _), (2, _), (3, _)]) hx hb d_By_putFrom_24 hl (by decide) rfl (fun ls hl => ?_)
    refine lv_iload_n hx hb d_By_putFrom_26 rfl (lv_at hl 3 rfl) ?_
    refine lv_if_lt (tgt := 53) hx hb d_By_putFrom_27 (by decide) (fun c6 => ?_) (fun c6 => ?_)
    · have c6 : fr < 0 := (nI_ltI (a := fr) (b := 0) (by omega) (by omega)).mp c6
      exfalso; omega
    · have c6 : ¬ (fr < 0) := fun z9 => c6 ((nI_ltI (a := fr) (b := 0) (by omega) (by omega)).mpr z9)
      refine lv_iload hx hb d_By_putFrom_30 (lv_at hl 0 rfl) ?_
      refine lv_if_le (tgt := 53) hx hb d_By_putFrom_32 (by decide) (fun c7 => ?_) (fun c7 => ?_)
      · refine lv_aload_n hx hb d_By_putFrom_53 rfl (lv_at hl 1 rfl) ?_
        refine lv_dup hx hb d_By_putFrom_54 rfl ?_
        refine va_get (D := D9) (ci := 0) (C := R_By) (T := F_By) (N := 2) hx hb hts i_By hown hK hP 3 ww_3 rfl 1 (by decide) (hts _ g_40) (fun _ h9 => h9) rfl d_By_putFrom_55 ?_
        refine lv_topq (y := nI L.length) (hLl) ?_
        refine lv_iload_n hx hb d_By_putFrom_58 rfl (lv_at hl 4 rfl) ?_
        refine lv_iadd hx hb d_By_putFrom_59 ?_
        refine lv_topq (y := nI (L.length + k)) (nI_add _ _) ?_
        refine va_put (D := D9) (ty := .int) (ci := 0) (C := R_By) (T := F_By) (N := 2) hx hb hts i_By t_By t_By_ok n_By hown hK hP hD hS 3 ww_3 rfl 1 (by decide) (hts _ g_40) (fun _ h9 => h9) rfl (by decide +kernel) rfl rfl (Nat.le_of_ble_eq_true rfl) d_By_putFrom_60 (fun H locs hP hD hS => ?_)
        obtain ⟨I8, aI8, sI8, hP, hD⟩ := fx (P := fun z => va_P D9 cls9 (WW a cB cI cJ cG z _ O) H ∧ va_D A0 (WW a cB cI cJ cG z _ O)) ⟨wp_3 hP, wd_3 hD⟩
        exact hret _ _ _ _ _ _ hS hP hD d_By_putFrom_63 (⟨rfl, (sm_mo sI8 (by decide)), aI8, sm_rf, BR_more (BR_eq hBL rfl) (Or.inl (by omega))⟩)
      · exact absurd (Int32.le_of_lt (pk_sneg (a := 65536) (b := L.length) (by omega) (by omega))) c7
set_option maxHeartbeats 4000000 in
set_option maxRecDepth 100000 in
/-- Bytes.putFrom -/
theorem m_By_putFrom_ms_gb (l : Launch) (D9 : va_G) (cB cI cJ cG : ClassId) (a : Nat → Nat) (O : Nat → Int64) (I : Nat → Int32) (F : Nat → Nat → Int32) (L t : List Nat) (c9 fr k : Nat) (hBL : BR c9 65536 (F 21) L) (hBt : BR 0 65536 (F 4) t) (hLl : I 13 = nI L.length) (htl : t.length ≤ 65536) (hft : fr + k ≤ t.length) (hLb : L.length < 1000000) : MC l D9 cB cI cJ cG a O y_By_putFrom b_By_putFrom 5 (none) 1 [.ref (a 20), .ref (a 3), .int (nI fr), .int (nI k)] I F (fun v I' F' => v = none ∧ sm [13] I I' ∧ I' 13 = nI (L.length + k) ∧ sm [21] F F' ∧ BR c9 65536 (F' 21) (L ++ sl9 t fr k)) := by
  refine mc_ofv (by decide) (Nat.le_of_ble_eq_true rfl) ?_
  intro p e s m below meth c ls A0 Q C0 hP hD hA hS hl hret
  obtain ⟨hx, hb, hml, hr, hlocks, hown, hts, hK⟩ := id C0
  have hl : lv_has ls 5 [(0, .ref (a 20)), (1, .ref (a 3)), (2, .int (nI fr)), (3, .int (nI k))] := hl
  by_cases hA : L.length ≤ 65536
  · refine lv_iload_n hx hb d_By_putFrom_0 rfl (lv_at hl 3 rfl) ?_
    refine lv_aload_n hx hb d_By_putFrom_1 rfl (lv_at hl 0 rfl) ?_
    refine va_get (D := D9) (ci := 0) (C := R_By) (T := F_By) (N := 2) hx hb hts i_By hown hK hP 20 ww_20 rfl 0 (by decide) (hts _ g_35) (fun _ h9 => h9) rfl d_By_putFrom_2 ?_
    refine va_alen (D := D9) hx hb hK hP 21 0 ww_21 rfl rfl d_By_putFrom_5 ?_
    refine lv_topq (y := nI 65536) (rfl) ?_
    refine lv_aload_n hx hb d_By_putFrom_6 rfl (lv_at hl 0 rfl) ?_
    refine va_get (D := D9) (ci := 0) (C := R_By) (T := F_By) (N := 2) hx hb hts i_By hown hK hP 20 ww_20 rfl 1 (by decide) (hts _ g_40) (fun _ h9 => h9) rfl d_By_putFrom_7 ?_
    refine lv_topq (y := nI L.length) (hLl) ?_
    refine lv_isub hx hb d_By_putFrom_10 ?_
    refine lv_topq (y := nI (65536 - L.length)) (pk_sub (by omega)) ?_
    refine va_mmin hx hb (by rw [hml]; exact hl.1.symm) hown (hts _ g_301) (hts _ g_302) (hts _ g_14) (hts _ g_303) (by decide) (by decide) (by decide) (by decide) d_By_putFrom_11 ?_
    refine lv_topq (y := nI (min k (65536 - L.length))) (mn_nI (by omega) (by omega)) ?_
    refine lv_aload_n hx hb d_By_putFrom_14 rfl (lv_at hl 1 rfl) ?_
    refine va_get (D := D9) (ci := 0) (C := R_By) (T := F_By) (N := 2) hx hb hts i_By hown hK hP 3 ww_3 rfl 0 (by decide) (hts _ g_35) (fun _ h9 => h9) rfl d_By_putFrom_15 ?_
    refine va_alen (D := D9) hx hb hK hP 4 0 ww_4 rfl rfl d_By_putFrom_18 ?_
    refine lv_topq (y := nI 65536) (rfl) ?_
    refine lv_iload_n hx hb d_By_putFrom_19 rfl (lv_at hl 2 rfl) ?_
    refine lv_isub hx hb d_By_putFrom_20 ?_
    refine lv_topq (y := nI (65536 - fr)) (pk_sub (by omega)) ?_
    refine va_mmin hx hb (by rw [hml]; exact hl.1.symm) hown (hts _ g_301) (hts _ g_302) (hts _ g_14) (hts _ g_303) (by decide) (by decide) (by decide) (by decide) d_By_putFrom_21 ?_
    refine lv_topq (y := nI (min k (65536 - L.length))) ((mn_nI (by omega) (by omega)).trans (congrArg nI (by omega))) ?_
    refine lv_istore (lv' := [(4, _), (0, _), (1, _), (2, _), (3, _)]) hx hb d_By_putFrom_24 hl (by decide) rfl (fun ls hl => ?_)
    refine lv_iload_n hx hb d_By_putFrom_26 rfl (lv_at hl 3 rfl) ?_
    refine lv_if_lt (tgt := 53) hx hb d_By_putFrom_27 (by decide) (fun c1 => ?_) (fun c1 => ?_)
    · have c1 : fr < 0 := (nI_ltI (a := fr) (b := 0) (by omega) (by omega)).mp c1
      exfalso; omega
    · have c1 : ¬ (fr < 0) := fun z9 => c1 ((nI_ltI (a := fr) (b := 0) (by omega) (by omega)).mpr z9)
      refine lv_iload hx hb d_By_putFrom_30 (lv_at hl 0 rfl) ?_
      refine lv_if_le (tgt := 53) hx hb d_By_putFrom_32 (by decide) (fun c2 => ?_) (fun c2 => ?_)
      · have c2 : min k (65536 - L.length) ≤ 0 := (nI_leI (a := min k (65536 - L.length)) (b := 0) (by omega) (by omega)).mp c2
        refine lv_aload_n hx hb d_By_putFrom_53 rfl (lv_at hl 1 rfl) ?_
        refine lv_dup hx hb d_By_putFrom_54 rfl ?_
        refine va_get (D := D9) (ci := 0) (C := R_By) (T := F_By) (N := 2) hx hb hts i_By hown hK hP 20 ww_20 rfl 1 (by decide) (hts _ g_40) (fun _ h9 => h9) rfl d_By_putFrom_55 ?_
        refine lv_topq (y := nI L.length) (hLl) ?_
        refine lv_iload_n hx hb d_By_putFrom_58 rfl (lv_at hl 4 rfl) ?_
        refine lv_iadd hx hb d_By_putFrom_59 ?_
        refine lv_topq (y := nI (L.length + k)) (nI_add _ _) ?_
        refine va_put (D := D9) (ty := .int) (ci := 0) (C := R_By) (T := F_By) (N := 2) hx hb hts i_By t_By t_By_ok n_By hown hK hP hD hS 20 ww_20 rfl 1 (by decide) (hts _ g_40) (fun _ h9 => h9) rfl (by decide +kernel) rfl rfl (Nat.le_of_ble_eq_true rfl) d_By_putFrom_60 (fun H locs hP hD hS => ?_)
        obtain ⟨I3, aI3, sI3, hP, hD⟩ := fx (P := fun z => va_P D9 cls9 (WW a cB cI cJ cG z _ O) H ∧ va_D A0 (WW a cB cI cJ cG z _ O)) ⟨wp_13 hP, wd_13 hD⟩
        exact hret _ _ _ _ _ _ hS hP hD d_By_putFrom_63 (⟨rfl, (sm_mo sI3 (by decide)), aI3, sm_rf, BR_more hBL (by rcases (show k = 0 ∨ 65536 ≤ L.length by omega) with z | z; exact Or.inr (by rw [z]; exact sl9_0 _ _); exact Or.inl z)⟩)
      · have c2 : ¬ (min k (65536 - L.length) ≤ 0) := fun z9 => c2 ((nI_leI (a := min k (65536 - L.length)) (b := 0) (by omega) (by omega)).mpr z9)
        refine lv_aload_n hx hb d_By_putFrom_35 rfl (lv_at hl 2 rfl) ?_
        refine va_get (D := D9) (ci := 0) (C := R_By) (T := F_By) (N := 2) hx hb hts i_By hown hK hP 3 ww_3 rfl 0 (by decide) (hts _ g_35) (fun _ h9 => h9) rfl d_By_putFrom_36 ?_
        refine lv_iload_n hx hb d_By_putFrom_39 rfl (lv_at hl 3 rfl) ?_
        refine lv_aload_n hx hb d_By_putFrom_40 rfl (lv_at hl 1 rfl) ?_
        refine va_get (D := D9) (ci := 0) (C := R_By) (T := F_By) (N := 2) hx hb hts i_By hown hK hP 20 ww_20 rfl 0 (by decide) (hts _ g_35) (fun _ h9 => h9) rfl d_By_putFrom_41 ?_
        refine lv_aload_n hx hb d_By_putFrom_44 rfl (lv_at hl 1 rfl) ?_
        refine va_get (D := D9) (ci := 0) (C := R_By) (T := F_By) (N := 2) hx hb hts i_By hown hK hP 20 ww_20 rfl 1 (by decide) (hts _ g_40) (fun _ h9 => h9) rfl d_By_putFrom_45 ?_
        refine lv_topq (y := nI L.length) (hLl) ?_
        refine lv_iload hx hb d_By_putFrom_48 (lv_at hl 0 rfl) ?_
        refine va_copyi (D := D9) (ty := .byte) hx hb (by rw [hml]; exact hl.1.symm) hown (hts _ g_304) (hts _ g_306) (hts _ g_305) (hts _ g_15) hK hP hD hS 4 21 0 0 ww_4 ww_21 rfl rfl rfl (nI_pos (by omega)) (nI_pos (by omega)) (nI_pos (by omega)) (by rw [nI_clamp (by omega), nI_clamp (by omega)]; omega) (by rw [nI_clamp (by omega), nI_clamp (by omega)]; omega) (fun i _ => hBt.1 _) (by decide) (by decide) d_By_putFrom_50 (fun H locs hP hD hS => ?_)
        obtain ⟨F4, aF4, sF4, hP, hD⟩ := fx (P := fun z => va_P D9 cls9 (WW a cB cI cJ cG _ z O) H ∧ va_D A0 (WW a cB cI cJ cG _ z O)) ⟨wpa_21 hP, wda_21 hD⟩
        rw [nI_clamp (by omega), nI_clamp (by omega), nI_clamp (by omega)] at aF4
        refine lv_aload_n hx hb d_By_putFrom_53 rfl (lv_at hl 1 rfl) ?_
        refine lv_dup hx hb d_By_putFrom_54 rfl ?_
        refine va_get (D := D9) (ci := 0) (C := R_By) (T := F_By) (N := 2) hx hb hts i_By hown hK hP 20 ww_20 rfl 1 (by decide) (hts _ g_40) (fun _ h9 => h9) rfl d_By_putFrom_55 ?_
        refine lv_topq (y := nI L.length) (hLl) ?_
        refine lv_iload_n hx hb d_By_putFrom_58 rfl (lv_at hl 4 rfl) ?_
        refine lv_iadd hx hb d_By_putFrom_59 ?_
        refine lv_topq (y := nI (L.length + k)) (nI_add _ _) ?_
        refine va_put (D := D9) (ty := .int) (ci := 0) (C := R_By) (T := F_By) (N := 2) hx hb hts i_By t_By t_By_ok n_By hown hK hP hD hS 20 ww_20 rfl 1 (by decide) (hts _ g_40) (fun _ h9 => h9) rfl (by decide +kernel) rfl rfl (Nat.le_of_ble_eq_true rfl) d_By_putFrom_60 (fun H locs hP hD hS => ?_)
        obtain ⟨I5, aI5, sI5, hP, hD⟩ := fx (P := fun z => va_P D9 cls9 (WW a cB cI cJ cG z _ O) H ∧ va_D A0 (WW a cB cI cJ cG z _ O)) ⟨wp_13 hP, wd_13 hD⟩
        exact hret _ _ _ _ _ _ hS hP hD d_By_putFrom_63 (⟨rfl, (sm_mo sI5 (by decide)), aI5, (sm_mo sF4 (by decide)), BR_eq (BR_cpy hBL hBt hft htl rfl) aF4⟩)
  · refine lv_iload_n hx hb d_By_putFrom_0 rfl (lv_at hl 3 rfl) ?_
    refine lv_aload_n hx hb d_By_putFrom_1 rfl (lv_at hl 0 rfl) ?_
    refine va_get (D := D9) (ci := 0) (C := R_By) (T := F_By) (N := 2) hx hb hts i_By hown hK hP 20 ww_20 rfl 0 (by decide) (hts _ g_35) (fun _ h9 => h9) rfl d_By_putFrom_2 ?_
    refine va_alen (D := D9) hx hb hK hP 21 0 ww_21 rfl rfl d_By_putFrom_5 ?_
    refine lv_topq (y := nI 65536) (rfl) ?_
    refine lv_aload_n hx hb d_By_putFrom_6 rfl (lv_at hl 0 rfl) ?_
    refine va_get (D := D9) (ci := 0) (C := R_By) (T := F_By) (N := 2) hx hb hts i_By hown hK hP 20 ww_20 rfl 1 (by decide) (hts _ g_40) (fun _ h9 => h9) rfl d_By_putFrom_7 ?_
    refine lv_topq (y := nI L.length) (hLl) ?_
    refine lv_isub hx hb d_By_putFrom_10 ?_
    refine lv_topq (y := nI 65536 - nI L.length) (rfl) ?_
    refine va_mmin hx hb (by rw [hml]; exact hl.1.symm) hown (hts _ g_301) (hts _ g_302) (hts _ g_14) (hts _ g_303) (by decide) (by decide) (by decide) (by decide) d_By_putFrom_11 ?_
    refine lv_topq (y := nI 65536 - nI L.length) (if_pos (Int32.lt_of_lt_of_le (pk_sneg (a := 65536) (b := L.length) (by omega) (by omega)) (nI_pos' (by omega)))) ?_
    refine lv_aload_n hx hb d_By_putFrom_14 rfl (lv_at hl 1 rfl) ?_
    refine va_get (D := D9) (ci := 0) (C := R_By) (T := F_By) (N := 2) hx hb hts i_By hown hK hP 3 ww_3 rfl 0 (by decide) (hts _ g_35) (fun _ h9 => h9) rfl d_By_putFrom_15 ?_
    refine va_alen (D := D9) hx hb hK hP 4 0 ww_4 rfl rfl d_By_putFrom_18 ?_
    refine lv_topq (y := nI 65536) (rfl) ?_
    refine lv_iload_n hx hb d_By_putFrom_19 rfl (lv_at hl 2 rfl) ?_
    refine lv_isub hx hb d_By_putFrom_20 ?_
    refine lv_topq (y := nI (65536 - fr)) (pk_sub (by omega)) ?_
    refine va_mmin hx hb (by rw [hml]; exact hl.1.symm) hown (hts _ g_301) (hts _ g_302) (hts _ g_14) (hts _ g_303) (by decide) (by decide) (by decide) (by decide) d_By_putFrom_21 ?_
    refine lv_topq (y := nI 65536 - nI L.length) (if_neg (fun z9 => nI_pos (show 65536 - fr < 2 ^ 31 by omega) (Int32.lt_trans z9 (pk_sneg (a := 65536) (b := L.length) (by omega) (by omega))))) ?_
    refine lv_istore (lv' := [(4, _), (0, _), (1, _), (2, _), (3, _)]) hx hb d_By_putFrom_24 hl (by decide) rfl (fun ls hl => ?_)
    refine lv_iload_n hx hb d_By_putFrom_26 rfl (lv_at hl 3 rfl) ?_
    refine lv_if_lt (tgt := 53) hx hb d_By_putFrom_27 (by decide) (fun c6 => ?_) (fun c6 => ?_)
    · have c6 : fr < 0 := (nI_ltI (a := fr) (b := 0) (by omega) (by omega)).mp c6
      exfalso; omega
    · have c6 : ¬ (fr < 0) := fun z9 => c6 ((nI_ltI (a := fr) (b := 0) (by omega) (by omega)).mpr z9)
      refine lv_iload hx hb d_By_putFrom_30 (lv_at hl 0 rfl) ?_
      refine lv_if_le (tgt := 53) hx hb d_By_putFrom_32 (by decide) (fun c7 => ?_) (fun c7 => ?_)
      · refine lv_aload_n hx hb d_By_putFrom_53 rfl (lv_at hl 1 rfl) ?_
        refine lv_dup hx hb d_By_putFrom_54 rfl ?_
        refine va_get (D := D9) (ci := 0) (C := R_By) (T := F_By) (N := 2) hx hb hts i_By hown hK hP 20 ww_20 rfl 1 (by decide) (hts _ g_40) (fun _ h9 => h9) rfl d_By_putFrom_55 ?_
        refine lv_topq (y := nI L.length) (hLl) ?_
        refine lv_iload_n hx hb d_By_putFrom_58 rfl (lv_at hl 4 rfl) ?_
        refine lv_iadd hx hb d_By_putFrom_59 ?_
        refine lv_topq (y := nI (L.length + k)) (nI_add _ _) ?_
        refine va_put (D := D9) (ty := .int) (ci := 0) (C := R_By) (T := F_By) (N := 2) hx hb hts i_By t_By t_By_ok n_By hown hK hP hD hS 20 ww_20 rfl 1 (by decide) (hts _ g_40) (fun _ h9 => h9) rfl (by decide +kernel) rfl rfl (Nat.le_of_ble_eq_true rfl) d_By_putFrom_60 (fun H locs hP hD hS => ?_)
        obtain ⟨I8, aI8, sI8, hP, hD⟩ := fx (P := fun z => va_P D9 cls9 (WW a cB cI cJ cG z _ O) H ∧ va_D A0 (WW a cB cI cJ cG z _ O)) ⟨wp_13 hP, wd_13 hD⟩
        exact hret _ _ _ _ _ _ hS hP hD d_By_putFrom_63 (⟨rfl, (sm_mo sI8 (by decide)), aI8, sm_rf, BR_more (BR_eq hBL rfl) (Or.inl (by omega))⟩)
      · exact absurd (Int32.le_of_lt (pk_sneg (a := 65536) (b := L.length) (by omega) (by omega))) c7
set_option maxHeartbeats 4000000 in
set_option maxRecDepth 100000 in
/-- Bytes.putFrom -/
theorem m_By_putFrom_tp_ms (l : Launch) (D9 : va_G) (cB cI cJ cG : ClassId) (a : Nat → Nat) (O : Nat → Int64) (I : Nat → Int32) (F : Nat → Nat → Int32) (L t : List Nat) (c9 fr k : Nat) (hBL : BR c9 65536 (F 2) L) (hBt : BR 0 65536 (F 21) t) (hLl : I 2 = nI L.length) (htl : t.length ≤ 65536) (hft : fr + k ≤ t.length) (hLb : L.length < 1000000) : MC l D9 cB cI cJ cG a O y_By_putFrom b_By_putFrom 5 (none) 1 [.ref (a 1), .ref (a 20), .int (nI fr), .int (nI k)] I F (fun v I' F' => v = none ∧ sm [2] I I' ∧ I' 2 = nI (L.length + k) ∧ sm [2] F F' ∧ BR c9 65536 (F' 2) (L ++ sl9 t fr k)) := by
  refine mc_ofv (by decide) (Nat.le_of_ble_eq_true rfl) ?_
  intro p e s m below meth c ls A0 Q C0 hP hD hA hS hl hret
  obtain ⟨hx, hb, hml, hr, hlocks, hown, hts, hK⟩ := id C0
  have hl : lv_has ls 5 [(0, .ref (a 1)), (1, .ref (a 20)), (2, .int (nI fr)), (3, .int (nI k))] := hl
  by_cases hA : L.length ≤ 65536
  · refine lv_iload_n hx hb d_By_putFrom_0 rfl (lv_at hl 3 rfl) ?_
    refine lv_aload_n hx hb d_By_putFrom_1 rfl (lv_at hl 0 rfl) ?_
    refine va_get (D := D9) (ci := 0) (C := R_By) (T := F_By) (N := 2) hx hb hts i_By hown hK hP 1 ww_1 rfl 0 (by decide) (hts _ g_35) (fun _ h9 => h9) rfl d_By_putFrom_2 ?_
    refine va_alen (D := D9) hx hb hK hP 2 0 ww_2 rfl rfl d_By_putFrom_5 ?_
    refine lv_topq (y := nI 65536) (rfl) ?_
    refine lv_aload_n hx hb d_By_putFrom_6 rfl (lv_at hl 0 rfl) ?_
    refine va_get (D := D9) (ci := 0) (C := R_By) (T := F_By) (N := 2) hx hb hts i_By hown hK hP 1 ww_1 rfl 1 (by decide) (hts _ g_40) (fun _ h9 => h9) rfl d_By_putFrom_7 ?_
    refine lv_topq (y := nI L.length) (hLl) ?_
    refine lv_isub hx hb d_By_putFrom_10 ?_
    refine lv_topq (y := nI (65536 - L.length)) (pk_sub (by omega)) ?_
    refine va_mmin hx hb (by rw [hml]; exact hl.1.symm) hown (hts _ g_301) (hts _ g_302) (hts _ g_14) (hts _ g_303) (by decide) (by decide) (by decide) (by decide) d_By_putFrom_11 ?_
    refine lv_topq (y := nI (min k (65536 - L.length))) (mn_nI (by omega) (by omega)) ?_
    refine lv_aload_n hx hb d_By_putFrom_14 rfl (lv_at hl 1 rfl) ?_
    refine va_get (D := D9) (ci := 0) (C := R_By) (T := F_By) (N := 2) hx hb hts i_By hown hK hP 20 ww_20 rfl 0 (by decide) (hts _ g_35) (fun _ h9 => h9) rfl d_By_putFrom_15 ?_
    refine va_alen (D := D9) hx hb hK hP 21 0 ww_21 rfl rfl d_By_putFrom_18 ?_
    refine lv_topq (y := nI 65536) (rfl) ?_
    refine lv_iload_n hx hb d_By_putFrom_19 rfl (lv_at hl 2 rfl) ?_
    refine lv_isub hx hb d_By_putFrom_20 ?_
    refine lv_topq (y := nI (65536 - fr)) (pk_sub (by omega)) ?_
    refine va_mmin hx hb (by rw [hml]; exact hl.1.symm) hown (hts _ g_301) (hts _ g_302) (hts _ g_14) (hts _ g_303) (by decide) (by decide) (by decide) (by decide) d_By_putFrom_21 ?_
    refine lv_topq (y := nI (min k (65536 - L.length))) ((mn_nI (by omega) (by omega)).trans (congrArg nI (by omega))) ?_
    refine lv_istore (lv' := [(4, _), (0, _), (1, _), (2, _), (3, _)]) hx hb d_By_putFrom_24 hl (by decide) rfl (fun ls hl => ?_)
    refine lv_iload_n hx hb d_By_putFrom_26 rfl (lv_at hl 3 rfl) ?_
    refine lv_if_lt (tgt := 53) hx hb d_By_putFrom_27 (by decide) (fun c1 => ?_) (fun c1 => ?_)
    · have c1 : fr < 0 := (nI_ltI (a := fr) (b := 0) (by omega) (by omega)).mp c1
      exfalso; omega
    · have c1 : ¬ (fr < 0) := fun z9 => c1 ((nI_ltI (a := fr) (b := 0) (by omega) (by omega)).mpr z9)
      refine lv_iload hx hb d_By_putFrom_30 (lv_at hl 0 rfl) ?_
      refine lv_if_le (tgt := 53) hx hb d_By_putFrom_32 (by decide) (fun c2 => ?_) (fun c2 => ?_)
      · have c2 : min k (65536 - L.length) ≤ 0 := (nI_leI (a := min k (65536 - L.length)) (b := 0) (by omega) (by omega)).mp c2
        refine lv_aload_n hx hb d_By_putFrom_53 rfl (lv_at hl 1 rfl) ?_
        refine lv_dup hx hb d_By_putFrom_54 rfl ?_
        refine va_get (D := D9) (ci := 0) (C := R_By) (T := F_By) (N := 2) hx hb hts i_By hown hK hP 1 ww_1 rfl 1 (by decide) (hts _ g_40) (fun _ h9 => h9) rfl d_By_putFrom_55 ?_
        refine lv_topq (y := nI L.length) (hLl) ?_
        refine lv_iload_n hx hb d_By_putFrom_58 rfl (lv_at hl 4 rfl) ?_
        refine lv_iadd hx hb d_By_putFrom_59 ?_
        refine lv_topq (y := nI (L.length + k)) (nI_add _ _) ?_
        refine va_put (D := D9) (ty := .int) (ci := 0) (C := R_By) (T := F_By) (N := 2) hx hb hts i_By t_By t_By_ok n_By hown hK hP hD hS 1 ww_1 rfl 1 (by decide) (hts _ g_40) (fun _ h9 => h9) rfl (by decide +kernel) rfl rfl (Nat.le_of_ble_eq_true rfl) d_By_putFrom_60 (fun H locs hP hD hS => ?_)
        obtain ⟨I3, aI3, sI3, hP, hD⟩ := fx (P := fun z => va_P D9 cls9 (WW a cB cI cJ cG z _ O) H ∧ va_D A0 (WW a cB cI cJ cG z _ O)) ⟨wp_2 hP, wd_2 hD⟩
        exact hret _ _ _ _ _ _ hS hP hD d_By_putFrom_63 (⟨rfl, (sm_mo sI3 (by decide)), aI3, sm_rf, BR_more hBL (by rcases (show k = 0 ∨ 65536 ≤ L.length by omega) with z | z; exact Or.inr (by rw [z]; exact sl9_0 _ _); exact Or.inl z)⟩)
      · have c2 : ¬ (min k (65536 - L.length) ≤ 0) := fun z9 => c2 ((nI_leI (a := min k (65536 - L.length)) (b := 0) (by omega) (by omega)).mpr z9)
        refine lv_aload_n hx hb d_By_putFrom_35 rfl (lv_at hl 2 rfl) ?_
        refine va_get (D := D9) (ci := 0) (C := R_By) (T := F_By) (N := 2) hx hb hts i_By hown hK hP 20 ww_20 rfl 0 (by decide) (hts _ g_35) (fun _ h9 => h9) rfl d_By_putFrom_36 ?_
        refine lv_iload_n hx hb d_By_putFrom_39 rfl (lv_at hl 3 rfl) ?_
        refine lv_aload_n hx hb d_By_putFrom_40 rfl (lv_at hl 1 rfl) ?_
        refine va_get (D := D9) (ci := 0) (C := R_By) (T := F_By) (N := 2) hx hb hts i_By hown hK hP 1 ww_1 rfl 0 (by decide) (hts _ g_35) (fun _ h9 => h9) rfl d_By_putFrom_41 ?_
        refine lv_aload_n hx hb d_By_putFrom_44 rfl (lv_at hl 1 rfl) ?_
        refine va_get (D := D9) (ci := 0) (C := R_By) (T := F_By) (N := 2) hx hb hts i_By hown hK hP 1 ww_1 rfl 1 (by decide) (hts _ g_40) (fun _ h9 => h9) rfl d_By_putFrom_45 ?_
        refine lv_topq (y := nI L.length) (hLl) ?_
        refine lv_iload hx hb d_By_putFrom_48 (lv_at hl 0 rfl) ?_
        refine va_copyi (D := D9) (ty := .byte) hx hb (by rw [hml]; exact hl.1.symm) hown (hts _ g_304) (hts _ g_306) (hts _ g_305) (hts _ g_15) hK hP hD hS 21 2 0 0 ww_21 ww_2 rfl rfl rfl (nI_pos (by omega)) (nI_pos (by omega)) (nI_pos (by omega)) (by rw [nI_clamp (by omega), nI_clamp (by omega)]; omega) (by rw [nI_clamp (by omega), nI_clamp (by omega)]; omega) (fun i _ => hBt.1 _) (by decide) (by decide) d_By_putFrom_50 (fun H locs hP hD hS => ?_)
        obtain ⟨F4, aF4, sF4, hP, hD⟩ := fx (P := fun z => va_P D9 cls9 (WW a cB cI cJ cG _ z O) H ∧ va_D A0 (WW a cB cI cJ cG _ z O)) ⟨wpa_2 hP, wda_2 hD⟩
        rw [nI_clamp (by omega), nI_clamp (by omega), nI_clamp (by omega)] at aF4
        refine lv_aload_n hx hb d_By_putFrom_53 rfl (lv_at hl 1 rfl) ?_
        refine lv_dup hx hb d_By_putFrom_54 rfl ?_
        refine va_get (D := D9) (ci := 0) (C := R_By) (T := F_By) (N := 2) hx hb hts i_By hown hK hP 1 ww_1 rfl 1 (by decide) (hts _ g_40) (fun _ h9 => h9) rfl d_By_putFrom_55 ?_
        refine lv_topq (y := nI L.length) (hLl) ?_
        refine lv_iload_n hx hb d_By_putFrom_58 rfl (lv_at hl 4 rfl) ?_
        refine lv_iadd hx hb d_By_putFrom_59 ?_
        refine lv_topq (y := nI (L.length + k)) (nI_add _ _) ?_
        refine va_put (D := D9) (ty := .int) (ci := 0) (C := R_By) (T := F_By) (N := 2) hx hb hts i_By t_By t_By_ok n_By hown hK hP hD hS 1 ww_1 rfl 1 (by decide) (hts _ g_40) (fun _ h9 => h9) rfl (by decide +kernel) rfl rfl (Nat.le_of_ble_eq_true rfl) d_By_putFrom_60 (fun H locs hP hD hS => ?_)
        obtain ⟨I5, aI5, sI5, hP, hD⟩ := fx (P := fun z => va_P D9 cls9 (WW a cB cI cJ cG z _ O) H ∧ va_D A0 (WW a cB cI cJ cG z _ O)) ⟨wp_2 hP, wd_2 hD⟩
        exact hret _ _ _ _ _ _ hS hP hD d_By_putFrom_63 (⟨rfl, (sm_mo sI5 (by decide)), aI5, (sm_mo sF4 (by decide)), BR_eq (BR_cpy hBL hBt hft htl rfl) aF4⟩)
  · refine lv_iload_n hx hb d_By_putFrom_0 rfl (lv_at hl 3 rfl) ?_
    refine lv_aload_n hx hb d_By_putFrom_1 rfl (lv_at hl 0 rfl) ?_
    refine va_get (D := D9) (ci := 0) (C := R_By) (T := F_By) (N := 2) hx hb hts i_By hown hK hP 1 ww_1 rfl 0 (by decide) (hts _ g_35) (fun _ h9 => h9) rfl d_By_putFrom_2 ?_
    refine va_alen (D := D9) hx hb hK hP 2 0 ww_2 rfl rfl d_By_putFrom_5 ?_
    refine lv_topq (y := nI 65536) (rfl) ?_
    refine lv_aload_n hx hb d_By_putFrom_6 rfl (lv_at hl 0 rfl) ?_
    refine va_get (D := D9) (ci := 0) (C := R_By) (T := F_By) (N := 2) hx hb hts i_By hown hK hP 1 ww_1 rfl 1 (by decide) (hts _ g_40) (fun _ h9 => h9) rfl d_By_putFrom_7 ?_
    refine lv_topq (y := nI L.length) (hLl) ?_
    refine lv_isub hx hb d_By_putFrom_10 ?_
    refine lv_topq (y := nI 65536 - nI L.length) (rfl) ?_
    refine va_mmin hx hb (by rw [hml]; exact hl.1.symm) hown (hts _ g_301) (hts _ g_302) (hts _ g_14) (hts _ g_303) (by decide) (by decide) (by decide) (by decide) d_By_putFrom_11 ?_
    refine lv_topq (y := nI 65536 - nI L.length) (if_pos (Int32.lt_of_lt_of_le (pk_sneg (a := 65536) (b := L.length) (by omega) (by omega)) (nI_pos' (by omega)))) ?_
    refine lv_aload_n hx hb d_By_putFrom_14 rfl (lv_at hl 1 rfl) ?_
    refine va_get (D := D9) (ci := 0) (C := R_By) (T := F_By) (N := 2) hx hb hts i_By hown hK hP 20 ww_20 rfl 0 (by decide) (hts _ g_35) (fun _ h9 => h9) rfl d_By_putFrom_15 ?_
    refine va_alen (D := D9) hx hb hK hP 21 0 ww_21 rfl rfl d_By_putFrom_18 ?_
    refine lv_topq (y := nI 65536) (rfl) ?_
    refine lv_iload_n hx hb d_By_putFrom_19 rfl (lv_at hl 2 rfl) ?_
    refine lv_isub hx hb d_By_putFrom_20 ?_
    refine lv_topq (y := nI (65536 - fr)) (pk_sub (by omega)) ?_
    refine va_mmin hx hb (by rw [hml]; exact hl.1.symm) hown (hts _ g_301) (hts _ g_302) (hts _ g_14) (hts _ g_303) (by decide) (by decide) (by decide) (by decide) d_By_putFrom_21 ?_
    refine lv_topq (y := nI 65536 - nI L.length) (if_neg (fun z9 => nI_pos (show 65536 - fr < 2 ^ 31 by omega) (Int32.lt_trans z9 (pk_sneg (a := 65536) (b := L.length) (by omega) (by omega))))) ?_
    refine lv_istore (lv' := [(4, _), (0, _), (1, _), (2, _), (3, _)]) hx hb d_By_putFrom_24 hl (by decide) rfl (fun ls hl => ?_)
    refine lv_iload_n hx hb d_By_putFrom_26 rfl (lv_at hl 3 rfl) ?_
    refine lv_if_lt (tgt := 53) hx hb d_By_putFrom_27 (by decide) (fun c6 => ?_) (fun c6 => ?_)
    · have c6 : fr < 0 := (nI_ltI (a := fr) (b := 0) (by omega) (by omega)).mp c6
      exfalso; omega
    · have c6 : ¬ (fr < 0) := fun z9 => c6 ((nI_ltI (a := fr) (b := 0) (by omega) (by omega)).mpr z9)
      refine lv_iload hx hb d_By_putFrom_30 (lv_at hl 0 rfl) ?_
      refine lv_if_le (tgt := 53) hx hb d_By_putFrom_32 (by decide) (fun c7 => ?_) (fun c7 => ?_)
      · refine lv_aload_n hx hb d_By_putFrom_53 rfl (lv_at hl 1 rfl) ?_
        refine lv_dup hx hb d_By_putFrom_54 rfl ?_
        refine va_get (D := D9) (ci := 0) (C := R_By) (T := F_By) (N := 2) hx hb hts i_By hown hK hP 1 ww_1 rfl 1 (by decide) (hts _ g_40) (fun _ h9 => h9) rfl d_By_putFrom_55 ?_
        refine lv_topq (y := nI L.length) (hLl) ?_
        refine lv_iload_n hx hb d_By_putFrom_58 rfl (lv_at hl 4 rfl) ?_
        refine lv_iadd hx hb d_By_putFrom_59 ?_
        refine lv_topq (y := nI (L.length + k)) (nI_add _ _) ?_
        refine va_put (D := D9) (ty := .int) (ci := 0) (C := R_By) (T := F_By) (N := 2) hx hb hts i_By t_By t_By_ok n_By hown hK hP hD hS 1 ww_1 rfl 1 (by decide) (hts _ g_40) (fun _ h9 => h9) rfl (by decide +kernel) rfl rfl (Nat.le_of_ble_eq_true rfl) d_By_putFrom_60 (fun H locs hP hD hS => ?_)
        obtain ⟨I8, aI8, sI8, hP, hD⟩ := fx (P := fun z => va_P D9 cls9 (WW a cB cI cJ cG z _ O) H ∧ va_D A0 (WW a cB cI cJ cG z _ O)) ⟨wp_2 hP, wd_2 hD⟩
        exact hret _ _ _ _ _ _ hS hP hD d_By_putFrom_63 (⟨rfl, (sm_mo sI8 (by decide)), aI8, sm_rf, BR_more (BR_eq hBL rfl) (Or.inl (by omega))⟩)
      · exact absurd (Int32.le_of_lt (pk_sneg (a := 65536) (b := L.length) (by omega) (by omega))) c7
