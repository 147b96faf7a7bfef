def k_fx (t : Nat) : Int32 := if t = 1 then 4 else if t = 28 then 16 else -1
def k_nm (t : Nat) : Nat := if t = 2 ∨ t = 5 ∨ t = 12 ∨ t = 15 ∨ t = 33 then 1 else if t = 6 then 2 else 0
def k_bf (t : Nat) : Nat := if t = 15 then 2 else if t = 33 then 6 else 0
def k_bh (t : Nat) : Nat := if t = 6 then 20 else 0
def k_sh (t : Nat) : Bool := t == 2 || t == 5 || t == 12 || t == 15 || t == 6
theorem k_sh_a {t : Nat} (h : t ≠ 33) (h2 : 0 < k_nm t) : k_sh t = true := by
  unfold k_nm at h2; unfold k_sh
  simp only [Bool.or_eq_true, beq_iff_eq]
  split at h2
  · omega
  · split at h2 <;> omega
theorem k_sh_b {t : Nat} (h : t = 33) : k_sh t = false := by subst h; rfl
theorem k_nm_lt (t : Nat) : k_nm t < 2 ^ 31 := by unfold k_nm; split; decide; split <;> decide
theorem k_sh_c {t : Nat} (h2 : k_nm t = 0) : k_sh t = false := by
  unfold k_nm at h2; unfold k_sh
  simp only [Bool.or_eq_false_iff, beq_eq_false_iff_ne]
  split at h2
  · omega
  · split at h2 <;> omega
theorem g_16 : (Cond.initialized "WireMessages$Kinds") ∈ GT := gt_mem 16 (by decide +kernel) rfl
theorem g_329 : (Cond.static ({ cls := "WireMessages$Kinds", name := "namesIn", desc := "(I)I" } : MethodName)) ∈ GT := gt_mem 329 (by decide +kernel) rfl
theorem g_330 : (Cond.code ({ cls := "WireMessages$Kinds", name := "namesIn", desc := "(I)I" } : MethodName) prog_5_method_3_code (1 : Nat) (Option.some FieldType.int)) ∈ GT := gt_mem 330 (by decide +kernel) rfl
theorem g_344 : (Cond.methodLink "WireMessages$Kinds" (7 : Nat) ({ cls := "WireMessages$Kinds", name := "namesIn", desc := "(I)I" } : MethodName)) ∈ GT := gt_mem 344 (by decide +kernel) rfl
theorem d_Ki_fixedSize_0 : decode b_Ki_fixedSize 0 = .ok (.iload_n 0, 1) := by decide +kernel
theorem d_Ki_fixedSize_1 : decode b_Ki_fixedSize 1 = .ok (.lookupswitch 32 #[(1, 27), (28, 29)], 27) := by decide +kernel
theorem d_Ki_fixedSize_28 : decode b_Ki_fixedSize 28 = .ok (.iconst 4, 1) := by decide +kernel
theorem d_Ki_fixedSize_29 : decode b_Ki_fixedSize 29 = .ok (.ireturn, 1) := by decide +kernel
theorem d_Ki_fixedSize_30 : decode b_Ki_fixedSize 30 = .ok (.bipush 16, 2) := by decide +kernel
theorem d_Ki_fixedSize_32 : decode b_Ki_fixedSize 32 = .ok (.ireturn, 1) := by decide +kernel
theorem d_Ki_fixedSize_33 : decode b_Ki_fixedSize 33 = .ok (.iconst (-1), 1) := by decide +kernel
theorem d_Ki_fixedSize_34 : decode b_Ki_fixedSize 34 = .ok (.ireturn, 1) := by decide +kernel
theorem d_Ki_namesIn_0 : decode b_Ki_namesIn 0 = .ok (.iload_n 0, 1) := by decide +kernel
theorem d_Ki_namesIn_1 : decode b_Ki_namesIn 1 = .ok (.lookupswitch 63 #[(2, 59), (5, 59), (6, 61), (12, 59), (15, 59), (33, 59)], 59) := by decide +kernel
theorem d_Ki_namesIn_60 : decode b_Ki_namesIn 60 = .ok (.iconst 1, 1) := by decide +kernel
theorem d_Ki_namesIn_61 : decode b_Ki_namesIn 61 = .ok (.ireturn, 1) := by decide +kernel
theorem d_Ki_namesIn_62 : decode b_Ki_namesIn 62 = .ok (.iconst 2, 1) := by decide +kernel
theorem d_Ki_namesIn_63 : decode b_Ki_namesIn 63 = .ok (.ireturn, 1) := by decide +kernel
theorem d_Ki_namesIn_64 : decode b_Ki_namesIn 64 = .ok (.iconst 0, 1) := by decide +kernel
theorem d_Ki_namesIn_65 : decode b_Ki_namesIn 65 = .ok (.ireturn, 1) := by decide +kernel
theorem d_Ki_bytesBeforeNames_0 : decode b_Ki_bytesBeforeNames 0 = .ok (.iload_n 0, 1) := by decide +kernel
theorem d_Ki_bytesBeforeNames_1 : decode b_Ki_bytesBeforeNames 1 = .ok (.lookupswitch 32 #[(15, 27), (33, 29)], 27) := by decide +kernel
theorem d_Ki_bytesBeforeNames_28 : decode b_Ki_bytesBeforeNames 28 = .ok (.iconst 2, 1) := by decide +kernel
theorem d_Ki_bytesBeforeNames_29 : decode b_Ki_bytesBeforeNames 29 = .ok (.ireturn, 1) := by decide +kernel
theorem d_Ki_bytesBeforeNames_30 : decode b_Ki_bytesBeforeNames 30 = .ok (.bipush 6, 2) := by decide +kernel
theorem d_Ki_bytesBeforeNames_32 : decode b_Ki_bytesBeforeNames 32 = .ok (.ireturn, 1) := by decide +kernel
theorem d_Ki_bytesBeforeNames_33 : decode b_Ki_bytesBeforeNames 33 = .ok (.iconst 0, 1) := by decide +kernel
theorem d_Ki_bytesBeforeNames_34 : decode b_Ki_bytesBeforeNames 34 = .ok (.ireturn, 1) := by decide +kernel
theorem d_Ki_bytesBehindNames_0 : decode b_Ki_bytesBehindNames 0 = .ok (.iload_n 0, 1) := by decide +kernel
theorem d_Ki_bytesBehindNames_1 : decode b_Ki_bytesBehindNames 1 = .ok (.bipush 6, 2) := by decide +kernel
theorem d_Ki_bytesBehindNames_3 : decode b_Ki_bytesBehindNames 3 = .ok (.if_icmp .ne 8, 3) := by decide +kernel
theorem d_Ki_bytesBehindNames_6 : decode b_Ki_bytesBehindNames 6 = .ok (.bipush 20, 2) := by decide +kernel
theorem d_Ki_bytesBehindNames_8 : decode b_Ki_bytesBehindNames 8 = .ok (.goto 4, 3) := by decide +kernel
theorem d_Ki_bytesBehindNames_11 : decode b_Ki_bytesBehindNames 11 = .ok (.iconst 0, 1) := by decide +kernel
theorem d_Ki_bytesBehindNames_12 : decode b_Ki_bytesBehindNames 12 = .ok (.ireturn, 1) := by decide +kernel
theorem d_Ki_sharesNames_0 : decode b_Ki_sharesNames 0 = .ok (.iload_n 0, 1) := by decide +kernel
theorem d_Ki_sharesNames_1 : decode b_Ki_sharesNames 1 = .ok (.bipush 33, 2) := by decide +kernel
theorem d_Ki_sharesNames_3 : decode b_Ki_sharesNames 3 = .ok (.if_icmp .eq 14, 3) := by decide +kernel
theorem d_Ki_sharesNames_6 : decode b_Ki_sharesNames 6 = .ok (.iload_n 0, 1) := by decide +kernel
theorem d_Ki_sharesNames_7 : decode b_Ki_sharesNames 7 = .ok (.invokestatic 7, 3) := by decide +kernel
theorem d_Ki_sharesNames_10 : decode b_Ki_sharesNames 10 = .ok (.ifCond .le 7, 3) := by decide +kernel
theorem d_Ki_sharesNames_13 : decode b_Ki_sharesNames 13 = .ok (.iconst 1, 1) := by decide +kernel
theorem d_Ki_sharesNames_14 : decode b_Ki_sharesNames 14 = .ok (.goto 4, 3) := by decide +kernel
theorem d_Ki_sharesNames_17 : decode b_Ki_sharesNames 17 = .ok (.iconst 0, 1) := by decide +kernel
theorem d_Ki_sharesNames_18 : decode b_Ki_sharesNames 18 = .ok (.ireturn, 1) := by decide +kernel
set_option maxHeartbeats 4000000 in
set_option maxRecDepth 100000 in
theorem m_Ki_fixedSize (l : Launch) (D9 : va_G) (cB cI cJ cG : ClassId) (a : Nat → Nat) (O : Nat → Int64) (I : Nat → Int32) (F : Nat → Nat → Int32) (t : Nat) (ht : t < 65536) : MC l D9 cB cI cJ cG a O y_Ki_fixedSize b_Ki_fixedSize 1 (some .int) 0 [.int (nI t)] I F (fun v I' F' => v = some (.int (k_fx t)) ∧ I = I' ∧ F = F') := by
  refine mc_of (by decide) (Nat.le_of_ble_eq_true rfl) ?_
  intro p e s m below meth c ls A0 Q C0 hP hD hA hS hl hret
  obtain ⟨hx, hb, hml, hr, hlocks, hown, hts, hK⟩ := id C0
  have hl : lv_has ls 1 [(0, .int (nI t))] := hl
  refine lv_iload_n hx hb d_Ki_fixedSize_0 rfl (lv_at hl 0 rfl) ?_
  by_cases h1 : t = 1
  · refine lv_lookup (tgt := 28) hx hb d_Ki_fixedSize_1 (by decide) (show _ = _ by rw [h1]) (by decide) ?_
    refine lv_iconst (v := 4) hx hb d_Ki_fixedSize_28 (by decide) ?_
    exact hret _ _ _ _ _ _ _ hS hP hD d_Ki_fixedSize_29 nr_i (⟨by simp [k_fx, h1] <;> rfl, rfl, rfl⟩)
  · by_cases h2 : t = 28
    · refine lv_lookup (tgt := 30) hx hb d_Ki_fixedSize_1 (by decide) (show _ = _ by rw [h2]) (by decide) ?_
      refine lv_bipush (v := 16) hx hb d_Ki_fixedSize_30 (by decide) ?_
      exact hret _ _ _ _ _ _ _ hS hP hD d_Ki_fixedSize_32 nr_i (⟨by simp [k_fx, h2] <;> rfl, rfl, rfl⟩)
    · refine lv_lookup (tgt := 33) hx hb d_Ki_fixedSize_1 (by decide) (show Op.lookupswitch.offset [(1, 27), (28, 29)] (32) (nI t).toInt = 32 by rw [nI_toInt (by omega), Op.lookupswitch.offset_cons, if_neg (by omega), Op.lookupswitch.offset_cons, if_neg (by omega), Op.lookupswitch.offset_nil]) (by decide) ?_
      refine lv_iconst (v := -1) hx hb d_Ki_fixedSize_33 (by decide) ?_
      exact hret _ _ _ _ _ _ _ hS hP hD d_Ki_fixedSize_34 nr_i (⟨by simp [k_fx, h1, h2] <;> rfl, rfl, rfl⟩)
set_option maxHeartbeats 4000000 in
set_option maxRecDepth 100000 in
theorem m_Ki_namesIn (l : Launch) (D9 : va_G) (cB cI cJ cG : ClassId) (a : Nat → Nat) (O : Nat → Int64) (I : Nat → Int32) (F : Nat → Nat → Int32) (t : Nat) (ht : t < 65536) : MC l D9 cB cI cJ cG a O y_Ki_namesIn b_Ki_namesIn 1 (some .int) 0 [.int (nI t)] I F (fun v I' F' => v = some (.int (nI (k_nm t))) ∧ I = I' ∧ F = F') := by
  refine mc_of (by decide) (Nat.le_of_ble_eq_true rfl) ?_
  intro p e s m below meth c ls A0 Q C0 hP hD hA hS hl hret
  obtain ⟨hx, hb, hml, hr, hlocks, hown, hts, hK⟩ := id C0
  have hl : lv_has ls 1 [(0, .int (nI t))] := hl
  refine lv_iload_n hx hb d_Ki_namesIn_0 rfl (lv_at hl 0 rfl) ?_
  by_cases h1 : t = 2
  · refine lv_lookup (tgt := 60) hx hb d_Ki_namesIn_1 (by decide) (show _ = _ by rw [h1]) (by decide) ?_
    refine lv_iconst (v := 1) hx hb d_Ki_namesIn_60 (by decide) ?_
    exact hret _ _ _ _ _ _ _ hS hP hD d_Ki_namesIn_61 nr_i (⟨by simp [k_nm, h1] <;> rfl, rfl, rfl⟩)
  · by_cases h2 : t = 5
    · refine lv_lookup (tgt := 60) hx hb d_Ki_namesIn_1 (by decide) (show _ = _ by rw [h2]) (by decide) ?_
      refine lv_iconst (v := 1) hx hb d_Ki_namesIn_60 (by decide) ?_
      exact hret _ _ _ _ _ _ _ hS hP hD d_Ki_namesIn_61 nr_i (⟨by simp [k_nm, h2] <;> rfl, rfl, rfl⟩)
    · by_cases h3 : t = 6
      · refine lv_lookup (tgt := 62) hx hb d_Ki_namesIn_1 (by decide) (show _ = _ by rw [h3]) (by decide) ?_
        refine lv_iconst (v := 2) hx hb d_Ki_namesIn_62 (by decide) ?_
        exact hret _ _ _ _ _ _ _ hS hP hD d_Ki_namesIn_63 nr_i (⟨by simp [k_nm, h3] <;> rfl, rfl, rfl⟩)
      · by_cases h4 : t = 12
        · refine lv_lookup (tgt := 60) hx hb d_Ki_namesIn_1 (by decide) (show _ = _ by rw [h4]) (by decide) ?_
          refine lv_iconst (v := 1) hx hb d_Ki_namesIn_60 (by decide) ?_
          exact hret _ _ _ _ _ _ _ hS hP hD d_Ki_namesIn_61 nr_i (⟨by simp [k_nm, h4] <;> rfl, rfl, rfl⟩)
        · by_cases h5 : t = 15
          · refine lv_lookup (tgt := 60) hx hb d_Ki_namesIn_1 (by decide) (show _ = _ by rw [h5]) (by decide) ?_
            refine lv_iconst (v := 1) hx hb d_Ki_namesIn_60 (by decide) ?_
            exact hret _ _ _ _ _ _ _ hS hP hD d_Ki_namesIn_61 nr_i (⟨by simp [k_nm, h5] <;> rfl, rfl, rfl⟩)
          · by_cases h6 : t = 33
            · refine lv_lookup (tgt := 60) hx hb d_Ki_namesIn_1 (by decide) (show _ = _ by rw [h6]) (by decide) ?_
              refine lv_iconst (v := 1) hx hb d_Ki_namesIn_60 (by decide) ?_
              exact hret _ _ _ _ _ _ _ hS hP hD d_Ki_namesIn_61 nr_i (⟨by simp [k_nm, h6] <;> rfl, rfl, rfl⟩)
            · refine lv_lookup (tgt := 64) hx hb d_Ki_namesIn_1 (by decide) (show Op.lookupswitch.offset [(2, 59), (5, 59), (6, 61), (12, 59), (15, 59), (33, 59)] (63) (nI t).toInt = 63 by rw [nI_toInt (by omega), Op.lookupswitch.offset_cons, if_neg (by omega), Op.lookupswitch.offset_cons, if_neg (by omega), Op.lookupswitch.offset_cons, if_neg (by omega), Op.lookupswitch.offset_cons, if_neg (by omega), Op.lookupswitch.offset_cons, if_neg (by omega), Op.lookupswitch.offset_cons, if_neg (by omega), Op.lookupswitch.offset_nil]) (by decide) ?_
              refine lv_iconst (v := 0) hx hb d_Ki_namesIn_64 (by decide) ?_
              exact hret _ _ _ _ _ _ _ hS hP hD d_Ki_namesIn_65 nr_i (⟨by simp [k_nm, h1, h2, h3, h4, h5, h6] <;> rfl, rfl, rfl⟩)
set_option maxHeartbeats 4000000 in
set_option maxRecDepth 100000 in
theorem m_Ki_bytesBeforeNames (l : Launch) (D9 : va_G) (cB cI cJ cG : ClassId) (a : Nat → Nat) (O : Nat → Int64) (I : Nat → Int32) (F : Nat → Nat → Int32) (t : Nat) (ht : t < 65536) : MC l D9 cB cI cJ cG a O y_Ki_bytesBeforeNames b_Ki_bytesBeforeNames 1 (some .int) 0 [.int (nI t)] I F (fun v I' F' => v = some (.int (nI (k_bf t))) ∧ I = I' ∧ F = F') := by
  refine mc_of (by decide) (Nat.le_of_ble_eq_true rfl) ?_
  intro p e s m below meth c ls A0 Q C0 hP hD hA hS hl hret
  obtain ⟨hx, hb, hml, hr, hlocks, hown, hts, hK⟩ := id C0
  have hl : lv_has ls 1 [(0, .int (nI t))] := hl
  refine lv_iload_n hx hb d_Ki_bytesBeforeNames_0 rfl (lv_at hl 0 rfl) ?_
  by_cases h1 : t = 15
  · refine lv_lookup (tgt := 28) hx hb d_Ki_bytesBeforeNames_1 (by decide) (show _ = _ by rw [h1]) (by decide) ?_
    refine lv_iconst (v := 2) hx hb d_Ki_bytesBeforeNames_28 (by decide) ?_
    exact hret _ _ _ _ _ _ _ hS hP hD d_Ki_bytesBeforeNames_29 nr_i (⟨by simp [k_bf, h1] <;> rfl, rfl, rfl⟩)
  · by_cases h2 : t = 33
    · refine lv_lookup (tgt := 30) hx hb d_Ki_bytesBeforeNames_1 (by decide) (show _ = _ by rw [h2]) (by decide) ?_
      refine lv_bipush (v := 6) hx hb d_Ki_bytesBeforeNames_30 (by decide) ?_
      exact hret _ _ _ _ _ _ _ hS hP hD d_Ki_bytesBeforeNames_32 nr_i (⟨by simp [k_bf, h2] <;> rfl, rfl, rfl⟩)
    · refine lv_lookup (tgt := 33) hx hb d_Ki_bytesBeforeNames_1 (by decide) (show Op.lookupswitch.offset [(15, 27), (33, 29)] (32) (nI t).toInt = 32 by rw [nI_toInt (by omega), Op.lookupswitch.offset_cons, if_neg (by omega), Op.lookupswitch.offset_cons, if_neg (by omega), Op.lookupswitch.offset_nil]) (by decide) ?_
      refine lv_iconst (v := 0) hx hb d_Ki_bytesBeforeNames_33 (by decide) ?_
      exact hret _ _ _ _ _ _ _ hS hP hD d_Ki_bytesBeforeNames_34 nr_i (⟨by simp [k_bf, h1, h2] <;> rfl, rfl, rfl⟩)
set_option maxHeartbeats 4000000 in
set_option maxRecDepth 100000 in
theorem m_Ki_bytesBehindNames (l : Launch) (D9 : va_G) (cB cI cJ cG : ClassId) (a : Nat → Nat) (O : Nat → Int64) (I : Nat → Int32) (F : Nat → Nat → Int32) (t : Nat) (ht : t < 65536) : MC l D9 cB cI cJ cG a O y_Ki_bytesBehindNames b_Ki_bytesBehindNames 1 (some .int) 0 [.int (nI t)] I F (fun v I' F' => v = some (.int (nI (k_bh t))) ∧ I = I' ∧ F = F') := by
  refine mc_of (by decide) (Nat.le_of_ble_eq_true rfl) ?_
  intro p e s m below meth c ls A0 Q C0 hP hD hA hS hl hret
  obtain ⟨hx, hb, hml, hr, hlocks, hown, hts, hK⟩ := id C0
  have hl : lv_has ls 1 [(0, .int (nI t))] := hl
  refine lv_iload_n hx hb d_Ki_bytesBehindNames_0 rfl (lv_at hl 0 rfl) ?_
  refine lv_bipush (v := 6) hx hb d_Ki_bytesBehindNames_1 (by decide) ?_
  refine lv_icmp_ne (tgt := 11) hx hb d_Ki_bytesBehindNames_3 (by decide) (fun c1 => ?_) (fun c1 => ?_)
  · refine lv_iconst (v := 0) hx hb d_Ki_bytesBehindNames_11 (by decide) ?_
    exact hret _ _ _ _ _ _ _ hS hP hD d_Ki_bytesBehindNames_12 nr_i (⟨by rw [k_bh, if_neg (fun e9 => c1 (by rw [e9]; rfl))] <;> rfl, rfl, rfl⟩)
  · refine lv_bipush (v := 20) hx hb d_Ki_bytesBehindNames_6 (by decide) ?_
    refine lv_goto (tgt := 12) hx hb d_Ki_bytesBehindNames_8 (by decide) ?_
    exact hret _ _ _ _ _ _ _ hS hP hD d_Ki_bytesBehindNames_12 nr_i (⟨by rw [k_bh, if_pos ((nI_eq (b := 6) (by omega) (by decide)).mp c1)] <;> rfl, rfl, rfl⟩)
set_option maxHeartbeats 4000000 in
set_option maxRecDepth 100000 in
theorem m_Ki_sharesNames (l : Launch) (D9 : va_G) (cB cI cJ cG : ClassId) (a : Nat → Nat) (O : Nat → Int64) (I : Nat → Int32) (F : Nat → Nat → Int32) (t : Nat) (ht : t < 65536) : MC l D9 cB cI cJ cG a O y_Ki_sharesNames b_Ki_sharesNames 1 (some .boolean) 1 [.int (nI t)] I F (fun v I' F' => v = some (.int (if k_sh t then 1 else 0)) ∧ I = I' ∧ F = F') := by
  refine mc_of (by decide) (Nat.le_of_ble_eq_true rfl) ?_
  intro p e s m below meth c ls A0 Q C0 hP hD hA hS hl hret
  obtain ⟨hx, hb, hml, hr, hlocks, hown, hts, hK⟩ := id C0
  have hl : lv_has ls 1 [(0, .int (nI t))] := hl
  refine lv_iload_n hx hb d_Ki_sharesNames_0 rfl (lv_at hl 0 rfl) ?_
  refine lv_bipush (v := 33) hx hb d_Ki_sharesNames_1 (by decide) ?_
  refine lv_icmp_eq (tgt := 17) hx hb d_Ki_sharesNames_3 (by decide) (fun c1 => ?_) (fun c1 => ?_)
  · refine lv_iconst (v := 0) hx hb d_Ki_sharesNames_17 (by decide) ?_
    exact hret _ _ _ _ _ _ _ hS hP hD d_Ki_sharesNames_18 (nr_z (by first | exact Or.inl rfl | exact Or.inr rfl | decide)) (⟨by rw [k_sh_b ((nI_eq (by omega) (by decide)).mp c1)] <;> rfl, rfl, rfl⟩)
  · refine lv_iload_n hx hb d_Ki_sharesNames_6 rfl (lv_at hl 0 rfl) ?_
    refine mw_cS C0 (m_Ki_namesIn l D9 cB cI cJ cG a O _ _ t ht) g_330 g_16 g_344 g_329 ⟨by decide +kernel, by decide +kernel, show Option.map (fun d => d.parameters.length) (parseMethodDescriptor y_Ki_namesIn.desc) = some 1 by decide +kernel⟩ ⟨by decide, by decide⟩ rfl rfl hP hD hS hA hl.1 (Nat.le_of_ble_eq_true rfl) rfl d_Ki_sharesNames_7 ⟨by decide, by decide⟩ (fun v9 w9 H locs hq hP hD hS => ?_)
    obtain ⟨I2, F3, hw9, q4⟩ := hq
    subst hw9
    obtain ⟨rfl, rfl, rfl⟩ := q4
    refine lv_if_le (tgt := 17) hx hb d_Ki_sharesNames_10 (by decide) (fun c5 => ?_) (fun c5 => ?_)
    · refine lv_iconst (v := 0) hx hb d_Ki_sharesNames_17 (by decide) ?_
      exact hret _ _ _ _ _ _ _ hS hP hD d_Ki_sharesNames_18 (nr_z (by first | exact Or.inl rfl | exact Or.inr rfl | decide)) (⟨by rw [k_sh_c (by rcases Nat.eq_zero_or_pos (k_nm t) with h9 | h9; exact h9; exact absurd c5 (nI_nle h9 (k_nm_lt t)))] <;> rfl, rfl, rfl⟩)
    · refine lv_iconst (v := 1) hx hb d_Ki_sharesNames_13 (by decide) ?_
      refine lv_goto (tgt := 18) hx hb d_Ki_sharesNames_14 (by decide) ?_
      exact hret _ _ _ _ _ _ _ hS hP hD d_Ki_sharesNames_18 (nr_z (by first | exact Or.inl rfl | exact Or.inr rfl | decide)) (⟨by rw [k_sh_a (fun e9 => c1 (by rw [e9]; rfl)) (by rcases Nat.eq_zero_or_pos (k_nm t) with h9 | h9; exact absurd (by rw [h9]; decide) c5; exact h9)] <;> rfl, rfl, rfl⟩)
