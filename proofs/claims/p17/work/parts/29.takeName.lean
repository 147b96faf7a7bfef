/-! NAMES ON THE TAPE -/
def tg (t : List Nat) (pos : Nat) : Nat := (tb t pos * 256 + tb t (pos + 1)) % 16384
def rch (t : List Nat) (b : Nat) (nx : Option Nat) : Nat := match nx with
  | none => b
  | some _ => t.length
/-- a name: its bytes, where it ends, how many pointers -/
def rn : Nat → List Nat → Nat → Nat → Nat → Nat → Option Nat → Option (List Nat × Nat × Nat)
  | 0, _, _, _, _, _, _ => none
  | f + 1, t, b, pos, low, sz, nx =>
    if t.length ≤ pos then none
    else if tb t pos = 0 then (if nx.getD (pos + 1) ≤ b then some ([0], nx.getD (pos + 1), 0) else none)
    else if 192 ≤ tb t pos then
      if t.length < pos + 2 ∨ rch t b nx < pos + 2 ∨ low ≤ tg t pos then none
      else (rn f t b (tg t pos) (tg t pos) sz (some (nx.getD (pos + 2)))).map (fun r => (r.1, r.2.1, r.2.2 + 1))
    else if 63 < tb t pos ∨ 255 < sz + tb t pos + 2 ∨ t.length < pos + 1 + tb t pos ∨ rch t b nx < pos + 1 + tb t pos then none
    else (rn f t b (pos + (tb t pos + 1)) low (sz + (tb t pos + 1)) nx).map (fun r => (sl9 t pos (tb t pos + 1) ++ r.1, r.2.1, r.2.2))
section RN
variable {f : Nat} {t : List Nat} {b pos low sz : Nat} {nx : Option Nat}
theorem rn_short (h : t.length ≤ pos) : rn (f + 1) t b pos low sz nx = none := by unfold rn; rw [if_pos h]
theorem rn_end (h : pos < t.length) (h0 : tb t pos = 0) : rn (f + 1) t b pos low sz nx = if nx.getD (pos + 1) ≤ b then some ([0], nx.getD (pos + 1), 0) else none := by
  conv => lhs; unfold rn
  rw [if_neg (by omega), if_pos h0]
theorem rn_ptr (h : pos < t.length) (h1 : 192 ≤ tb t pos) : rn (f + 1) t b pos low sz nx = if t.length < pos + 2 ∨ rch t b nx < pos + 2 ∨ low ≤ tg t pos then none else (rn f t b (tg t pos) (tg t pos) sz (some (nx.getD (pos + 2)))).map (fun r => (r.1, r.2.1, r.2.2 + 1)) := by
  conv => lhs; unfold rn
  rw [if_neg (by omega), if_neg (by omega), if_pos h1]
theorem rn_lab (h : pos < t.length) (h0 : ¬ tb t pos = 0) (h1 : tb t pos < 192) : rn (f + 1) t b pos low sz nx = if 63 < tb t pos ∨ 255 < sz + tb t pos + 2 ∨ t.length < pos + 1 + tb t pos ∨ rch t b nx < pos + 1 + tb t pos then none else (rn f t b (pos + (tb t pos + 1)) low (sz + (tb t pos + 1)) nx).map (fun r => (sl9 t pos (tb t pos + 1) ++ r.1, r.2.1, r.2.2)) := by
  conv => lhs; unfold rn
  rw [if_neg (by omega), if_neg h0, if_neg (by omega)]
end RN
theorem rn_id (x : Option (List Nat × Nat × Nat)) : x = x.map (fun r => ([] ++ r.1, r.2.1, 0 + r.2.2)) := by
  cases x with
  | none => rfl
  | some r => simp
theorem rn_mp {x : Option (List Nat × Nat × Nat)} {acc : List Nat} {c : Nat} : (x.map (fun r => (r.1, r.2.1, r.2.2 + 1))).map (fun r => (acc ++ r.1, r.2.1, c + r.2.2)) = x.map (fun r => (acc ++ r.1, r.2.1, (c + 1) + r.2.2)) := by
  cases x with
  | none => rfl
  | some r => simp; omega
theorem rn_ml {x : Option (List Nat × Nat × Nat)} {acc s : List Nat} {c : Nat} : (x.map (fun r => (s ++ r.1, r.2.1, r.2.2))).map (fun r => (acc ++ r.1, r.2.1, c + r.2.2)) = x.map (fun r => ((acc ++ s) ++ r.1, r.2.1, c + r.2.2)) := by
  cases x with
  | none => rfl
  | some r => simp
/-- bounds of what is read -/
theorem rn_bd : ∀ {f : Nat} {t : List Nat} {b pos low sz : Nat} {nx : Option Nat} {nm : List Nat} {e c : Nat}, rn f t b pos low sz nx = some (nm, e, c) → sz ≤ 254 → e ≤ b ∧ nm.length + sz ≤ 255 ∧ 1 ≤ nm.length ∧ c ≤ f
  | 0, _, _, _, _, _, _, _, _, _, h, _ => by cases h
  | f + 1, t, b, pos, low, sz, nx, nm, e, c, h, hz => by
    unfold rn at h
    split at h
    · cases h
    · split at h
      · split at h
        · simp only [Option.some.injEq, Prod.mk.injEq] at h
          obtain ⟨rfl, rfl, rfl⟩ := h
          exact ⟨by assumption, by simp; omega, by simp, Nat.zero_le _⟩
        · cases h
      · split at h
        · split at h
          · cases h
          · obtain ⟨⟨nm1, e1, c1⟩, h1, h2⟩ := Option.map_eq_some_iff.mp h
            simp only [Prod.mk.injEq] at h2
            obtain ⟨rfl, rfl, rfl⟩ := h2
            have := rn_bd h1 hz
            omega
        · split at h
          · cases h
          · rename_i hc
            obtain ⟨⟨nm1, e1, c1⟩, h1, h2⟩ := Option.map_eq_some_iff.mp h
            simp only [Prod.mk.injEq] at h2
            obtain ⟨rfl, rfl, rfl⟩ := h2
            have := rn_bd h1 (by omega)
            rw [List.length_append, sl9_len (by omega)]
            omega
theorem bt2_ex (f : Nat → Int32) (i : Int32) : ∃ w : Nat, w < 65536 ∧ bt2 f i = nI w := by
  unfold bt2
  have e : ∀ j : Int32, ∃ w : Nat, w < 256 ∧ bt f j = nI w := fun j => by
    unfold bt
    split
    · exact ⟨0, by decide, rfl⟩
    · split
      · exact ⟨0, by decide, rfl⟩
      · exact ⟨_, ub_lt _, ub_and _⟩
  obtain ⟨w1, h1, e1⟩ := e i
  obtain ⟨w2, h2, e2⟩ := e (i + 1)
  exact ⟨w1 * 256 + w2, by omega, by rw [e1, e2, two_nI h1 h2]⟩
theorem g_39 : (Cond.fieldLinkNest "WireMessages$Reader" (44 : Nat) "WireMessages$Bytes" "length" "I" "WireMessages") ∈ GT := gt_mem 39 (by decide +kernel) rfl
theorem g_60 : (Cond.fieldLinkNest "WireMessages$Reader" (59 : Nat) "WireMessages$Gathered" "bytes" "LWireMessages$Bytes;" "WireMessages") ∈ GT := gt_mem 60 (by decide +kernel) rfl
theorem g_122 : (Cond.fieldLink "WireMessages$Reader" (19 : Nat) "WireMessages$Reader" "fault" "I") ∈ GT := gt_mem 122 (by decide +kernel) rfl
theorem g_123 : (Cond.fieldLink "WireMessages$Reader" (23 : Nat) "WireMessages$Reader" "faultPlace" "I") ∈ GT := gt_mem 123 (by decide +kernel) rfl
theorem g_125 : (Cond.fieldLink "WireMessages$Reader" (41 : Nat) "WireMessages$Reader" "next" "I") ∈ GT := gt_mem 125 (by decide +kernel) rfl
theorem g_126 : (Cond.fieldLink "WireMessages$Reader" (26 : Nat) "WireMessages$Reader" "followed" "I") ∈ GT := gt_mem 126 (by decide +kernel) rfl
theorem g_130 : (Cond.fieldLink "WireMessages$Reader" (92 : Nat) "WireMessages$Reader" "dataStart" "I") ∈ GT := gt_mem 130 (by decide +kernel) rfl
theorem g_252 : (Cond.methodLinkNest "WireMessages$Reader" (29 : Nat) ({ cls := "WireMessages$Bytes", name := "twoAt", desc := "(I)I" } : MethodName) "WireMessages") ∈ GT := gt_mem 252 (by decide +kernel) rfl
theorem g_264 : (Cond.methodLink "WireMessages$Reader" (47 : Nat) ({ cls := "WireMessages$Reader", name := "fail", desc := "(II)Z" } : MethodName)) ∈ GT := gt_mem 264 (by decide +kernel) rfl
theorem g_266 : (Cond.instanceMethod ({ cls := "WireMessages$Reader", name := "fail", desc := "(II)Z" } : MethodName)) ∈ GT := gt_mem 266 (by decide +kernel) rfl
theorem g_267 : (Cond.code ({ cls := "WireMessages$Reader", name := "fail", desc := "(II)Z" } : MethodName) prog_7_method_2_code (3 : Nat) (Option.some FieldType.boolean)) ∈ GT := gt_mem 267 (by decide +kernel) rfl
theorem g_280 : (Cond.methodLinkNest "WireMessages$Reader" (85 : Nat) ({ cls := "WireMessages$Bytes", name := "at", desc := "(I)I" } : MethodName) "WireMessages") ∈ GT := gt_mem 280 (by decide +kernel) rfl
theorem g_281 : (Cond.methodLinkNest "WireMessages$Reader" (88 : Nat) ({ cls := "WireMessages$Bytes", name := "put", desc := "(I)V" } : MethodName) "WireMessages") ∈ GT := gt_mem 281 (by decide +kernel) rfl
theorem g_289 : (Cond.methodLink "WireMessages$Reader" (95 : Nat) ({ cls := "WireMessages$Reader", name := "isGoodPointer", desc := "(IIII)Z" } : MethodName)) ∈ GT := gt_mem 289 (by decide +kernel) rfl
theorem g_291 : (Cond.instanceMethod ({ cls := "WireMessages$Reader", name := "isGoodPointer", desc := "(IIII)Z" } : MethodName)) ∈ GT := gt_mem 291 (by decide +kernel) rfl
theorem g_292 : (Cond.code ({ cls := "WireMessages$Reader", name := "isGoodPointer", desc := "(IIII)Z" } : MethodName) prog_7_method_11_code (5 : Nat) (Option.some FieldType.boolean)) ∈ GT := gt_mem 292 (by decide +kernel) rfl
theorem g_293 : (Cond.methodLink "WireMessages$Reader" (99 : Nat) ({ cls := "WireMessages$Reader", name := "isGoodLabel", desc := "(IIIII)Z" } : MethodName)) ∈ GT := gt_mem 293 (by decide +kernel) rfl
theorem g_295 : (Cond.instanceMethod ({ cls := "WireMessages$Reader", name := "isGoodLabel", desc := "(IIIII)Z" } : MethodName)) ∈ GT := gt_mem 295 (by decide +kernel) rfl
theorem g_296 : (Cond.code ({ cls := "WireMessages$Reader", name := "isGoodLabel", desc := "(IIIII)Z" } : MethodName) prog_7_method_12_code (7 : Nat) (Option.some FieldType.boolean)) ∈ GT := gt_mem 296 (by decide +kernel) rfl
theorem g_297 : (Cond.methodLinkNest "WireMessages$Reader" (103 : Nat) ({ cls := "WireMessages$Bytes", name := "putFrom", desc := "(LWireMessages$Bytes;II)V" } : MethodName) "WireMessages") ∈ GT := gt_mem 297 (by decide +kernel) rfl
theorem g_299 : (Cond.instanceMethod ({ cls := "WireMessages$Bytes", name := "putFrom", desc := "(LWireMessages$Bytes;II)V" } : MethodName)) ∈ GT := gt_mem 299 (by decide +kernel) rfl
theorem g_300 : (Cond.code ({ cls := "WireMessages$Bytes", name := "putFrom", desc := "(LWireMessages$Bytes;II)V" } : MethodName) prog_2_method_10_code (5 : Nat) (Option.none : Option FieldType)) ∈ GT := gt_mem 300 (by decide +kernel) rfl
theorem gs_Re_fail : Cond.selects R_Re y_Re_fail y_Re_fail ∈ GT := gt_sel (q := (⟨"WireMessages$Reader", "fail", "(II)Z"⟩, 8)) (by decide +kernel)
theorem gs_Re_isGoodLabel : Cond.selects R_Re y_Re_isGoodLabel y_Re_isGoodLabel ∈ GT := gt_sel (q := (⟨"WireMessages$Reader", "isGoodLabel", "(IIIII)Z"⟩, 8)) (by decide +kernel)
theorem gs_By_putFrom : Cond.selects R_By y_By_putFrom y_By_putFrom ∈ GT := gt_sel (q := (⟨"WireMessages$Bytes", "putFrom", "(LWireMessages$Bytes;II)V"⟩, 2)) (by decide +kernel)
theorem gs_Re_isGoodPointer : Cond.selects R_Re y_Re_isGoodPointer y_Re_isGoodPointer ∈ GT := gt_sel (q := (⟨"WireMessages$Reader", "isGoodPointer", "(IIII)Z"⟩, 8)) (by decide +kernel)
theorem d_Re_fail_0 : decode b_Re_fail 0 = .ok (.aload_n 0, 1) := by decide +kernel
theorem d_Re_fail_1 : decode b_Re_fail 1 = .ok (.iload_n 1, 1) := by decide +kernel
theorem d_Re_fail_2 : decode b_Re_fail 2 = .ok (.putfield 19, 3) := by decide +kernel
theorem d_Re_fail_5 : decode b_Re_fail 5 = .ok (.aload_n 0, 1) := by decide +kernel
theorem d_Re_fail_6 : decode b_Re_fail 6 = .ok (.iload_n 2, 1) := by decide +kernel
theorem d_Re_fail_7 : decode b_Re_fail 7 = .ok (.putfield 23, 3) := by decide +kernel
theorem d_Re_fail_10 : decode b_Re_fail 10 = .ok (.iconst 0, 1) := by decide +kernel
theorem d_Re_fail_11 : decode b_Re_fail 11 = .ok (.ireturn, 1) := by decide +kernel
theorem d_Re_isGoodLabel_0 : decode b_Re_isGoodLabel 0 = .ok (.iload_n 1, 1) := by decide +kernel
theorem d_Re_isGoodLabel_1 : decode b_Re_isGoodLabel 1 = .ok (.iconst 1, 1) := by decide +kernel
theorem d_Re_isGoodLabel_2 : decode b_Re_isGoodLabel 2 = .ok (.iadd, 1) := by decide +kernel
theorem d_Re_isGoodLabel_3 : decode b_Re_isGoodLabel 3 = .ok (.iload_n 2, 1) := by decide +kernel
theorem d_Re_isGoodLabel_4 : decode b_Re_isGoodLabel 4 = .ok (.iadd, 1) := by decide +kernel
theorem d_Re_isGoodLabel_5 : decode b_Re_isGoodLabel 5 = .ok (.istore 6, 2) := by decide +kernel
theorem d_Re_isGoodLabel_7 : decode b_Re_isGoodLabel 7 = .ok (.iload_n 2, 1) := by decide +kernel
theorem d_Re_isGoodLabel_8 : decode b_Re_isGoodLabel 8 = .ok (.bipush 63, 2) := by decide +kernel
theorem d_Re_isGoodLabel_10 : decode b_Re_isGoodLabel 10 = .ok (.if_icmp .le 10, 3) := by decide +kernel
theorem d_Re_isGoodLabel_13 : decode b_Re_isGoodLabel 13 = .ok (.aload_n 0, 1) := by decide +kernel
theorem d_Re_isGoodLabel_14 : decode b_Re_isGoodLabel 14 = .ok (.iconst 2, 1) := by decide +kernel
theorem d_Re_isGoodLabel_15 : decode b_Re_isGoodLabel 15 = .ok (.iload_n 1, 1) := by decide +kernel
theorem d_Re_isGoodLabel_16 : decode b_Re_isGoodLabel 16 = .ok (.invokevirtual 47, 3) := by decide +kernel
theorem d_Re_isGoodLabel_19 : decode b_Re_isGoodLabel 19 = .ok (.ireturn, 1) := by decide +kernel
theorem d_Re_isGoodLabel_20 : decode b_Re_isGoodLabel 20 = .ok (.iload 5, 2) := by decide +kernel
theorem d_Re_isGoodLabel_22 : decode b_Re_isGoodLabel 22 = .ok (.iconst 1, 1) := by decide +kernel
theorem d_Re_isGoodLabel_23 : decode b_Re_isGoodLabel 23 = .ok (.iadd, 1) := by decide +kernel
theorem d_Re_isGoodLabel_24 : decode b_Re_isGoodLabel 24 = .ok (.iload_n 2, 1) := by decide +kernel
theorem d_Re_isGoodLabel_25 : decode b_Re_isGoodLabel 25 = .ok (.iadd, 1) := by decide +kernel
theorem d_Re_isGoodLabel_26 : decode b_Re_isGoodLabel 26 = .ok (.iconst 1, 1) := by decide +kernel
theorem d_Re_isGoodLabel_27 : decode b_Re_isGoodLabel 27 = .ok (.iadd, 1) := by decide +kernel
theorem d_Re_isGoodLabel_28 : decode b_Re_isGoodLabel 28 = .ok (.sipush 255, 3) := by decide +kernel
theorem d_Re_isGoodLabel_31 : decode b_Re_isGoodLabel 31 = .ok (.if_icmp .le 11, 3) := by decide +kernel
theorem d_Re_isGoodLabel_34 : decode b_Re_isGoodLabel 34 = .ok (.aload_n 0, 1) := by decide +kernel
theorem d_Re_isGoodLabel_35 : decode b_Re_isGoodLabel 35 = .ok (.iconst 4, 1) := by decide +kernel
theorem d_Re_isGoodLabel_36 : decode b_Re_isGoodLabel 36 = .ok (.iload 4, 2) := by decide +kernel
theorem d_Re_isGoodLabel_38 : decode b_Re_isGoodLabel 38 = .ok (.invokevirtual 47, 3) := by decide +kernel
theorem d_Re_isGoodLabel_41 : decode b_Re_isGoodLabel 41 = .ok (.ireturn, 1) := by decide +kernel
theorem d_Re_isGoodLabel_42 : decode b_Re_isGoodLabel 42 = .ok (.iload 6, 2) := by decide +kernel
theorem d_Re_isGoodLabel_44 : decode b_Re_isGoodLabel 44 = .ok (.aload_n 0, 1) := by decide +kernel
theorem d_Re_isGoodLabel_45 : decode b_Re_isGoodLabel 45 = .ok (.getfield 9, 3) := by decide +kernel
theorem d_Re_isGoodLabel_48 : decode b_Re_isGoodLabel 48 = .ok (.getfield 44, 3) := by decide +kernel
theorem d_Re_isGoodLabel_51 : decode b_Re_isGoodLabel 51 = .ok (.if_icmp .le 12, 3) := by decide +kernel
theorem d_Re_isGoodLabel_54 : decode b_Re_isGoodLabel 54 = .ok (.aload_n 0, 1) := by decide +kernel
theorem d_Re_isGoodLabel_55 : decode b_Re_isGoodLabel 55 = .ok (.iconst 1, 1) := by decide +kernel
theorem d_Re_isGoodLabel_56 : decode b_Re_isGoodLabel 56 = .ok (.iload_n 1, 1) := by decide +kernel
theorem d_Re_isGoodLabel_57 : decode b_Re_isGoodLabel 57 = .ok (.iconst 1, 1) := by decide +kernel
theorem d_Re_isGoodLabel_58 : decode b_Re_isGoodLabel 58 = .ok (.iadd, 1) := by decide +kernel
theorem d_Re_isGoodLabel_59 : decode b_Re_isGoodLabel 59 = .ok (.invokevirtual 47, 3) := by decide +kernel
theorem d_Re_isGoodLabel_62 : decode b_Re_isGoodLabel 62 = .ok (.ireturn, 1) := by decide +kernel
theorem d_Re_isGoodLabel_63 : decode b_Re_isGoodLabel 63 = .ok (.iload 6, 2) := by decide +kernel
theorem d_Re_isGoodLabel_65 : decode b_Re_isGoodLabel 65 = .ok (.iload_n 3, 1) := by decide +kernel
theorem d_Re_isGoodLabel_66 : decode b_Re_isGoodLabel 66 = .ok (.if_icmp .le 15, 3) := by decide +kernel
theorem d_Re_isGoodLabel_69 : decode b_Re_isGoodLabel 69 = .ok (.aload_n 0, 1) := by decide +kernel
theorem d_Re_isGoodLabel_70 : decode b_Re_isGoodLabel 70 = .ok (.iconst 5, 1) := by decide +kernel
theorem d_Re_isGoodLabel_71 : decode b_Re_isGoodLabel 71 = .ok (.aload_n 0, 1) := by decide +kernel
theorem d_Re_isGoodLabel_72 : decode b_Re_isGoodLabel 72 = .ok (.getfield 92, 3) := by decide +kernel
theorem d_Re_isGoodLabel_75 : decode b_Re_isGoodLabel 75 = .ok (.invokevirtual 47, 3) := by decide +kernel
theorem d_Re_isGoodLabel_78 : decode b_Re_isGoodLabel 78 = .ok (.ifCond .eq 7, 3) := by decide +kernel
theorem d_Re_isGoodLabel_81 : decode b_Re_isGoodLabel 81 = .ok (.iconst 1, 1) := by decide +kernel
theorem d_Re_isGoodLabel_82 : decode b_Re_isGoodLabel 82 = .ok (.goto 4, 3) := by decide +kernel
theorem d_Re_isGoodLabel_85 : decode b_Re_isGoodLabel 85 = .ok (.iconst 0, 1) := by decide +kernel
theorem d_Re_isGoodLabel_86 : decode b_Re_isGoodLabel 86 = .ok (.ireturn, 1) := by decide +kernel
theorem d_Re_isGoodPointer_0 : decode b_Re_isGoodPointer 0 = .ok (.iload_n 1, 1) := by decide +kernel
theorem d_Re_isGoodPointer_1 : decode b_Re_isGoodPointer 1 = .ok (.iconst 2, 1) := by decide +kernel
theorem d_Re_isGoodPointer_2 : decode b_Re_isGoodPointer 2 = .ok (.iadd, 1) := by decide +kernel
theorem d_Re_isGoodPointer_3 : decode b_Re_isGoodPointer 3 = .ok (.aload_n 0, 1) := by decide +kernel
theorem d_Re_isGoodPointer_4 : decode b_Re_isGoodPointer 4 = .ok (.getfield 9, 3) := by decide +kernel
theorem d_Re_isGoodPointer_7 : decode b_Re_isGoodPointer 7 = .ok (.getfield 44, 3) := by decide +kernel
theorem d_Re_isGoodPointer_10 : decode b_Re_isGoodPointer 10 = .ok (.if_icmp .le 10, 3) := by decide +kernel
theorem d_Re_isGoodPointer_13 : decode b_Re_isGoodPointer 13 = .ok (.aload_n 0, 1) := by decide +kernel
theorem d_Re_isGoodPointer_14 : decode b_Re_isGoodPointer 14 = .ok (.iconst 1, 1) := by decide +kernel
theorem d_Re_isGoodPointer_15 : decode b_Re_isGoodPointer 15 = .ok (.iload_n 1, 1) := by decide +kernel
theorem d_Re_isGoodPointer_16 : decode b_Re_isGoodPointer 16 = .ok (.invokevirtual 47, 3) := by decide +kernel
theorem d_Re_isGoodPointer_19 : decode b_Re_isGoodPointer 19 = .ok (.ireturn, 1) := by decide +kernel
theorem d_Re_isGoodPointer_20 : decode b_Re_isGoodPointer 20 = .ok (.iload_n 1, 1) := by decide +kernel
theorem d_Re_isGoodPointer_21 : decode b_Re_isGoodPointer 21 = .ok (.iconst 2, 1) := by decide +kernel
theorem d_Re_isGoodPointer_22 : decode b_Re_isGoodPointer 22 = .ok (.iadd, 1) := by decide +kernel
theorem d_Re_isGoodPointer_23 : decode b_Re_isGoodPointer 23 = .ok (.iload_n 2, 1) := by decide +kernel
theorem d_Re_isGoodPointer_24 : decode b_Re_isGoodPointer 24 = .ok (.if_icmp .le 13, 3) := by decide +kernel
theorem d_Re_isGoodPointer_27 : decode b_Re_isGoodPointer 27 = .ok (.aload_n 0, 1) := by decide +kernel
theorem d_Re_isGoodPointer_28 : decode b_Re_isGoodPointer 28 = .ok (.iconst 5, 1) := by decide +kernel
theorem d_Re_isGoodPointer_29 : decode b_Re_isGoodPointer 29 = .ok (.aload_n 0, 1) := by decide +kernel
theorem d_Re_isGoodPointer_30 : decode b_Re_isGoodPointer 30 = .ok (.getfield 92, 3) := by decide +kernel
theorem d_Re_isGoodPointer_33 : decode b_Re_isGoodPointer 33 = .ok (.invokevirtual 47, 3) := by decide +kernel
theorem d_Re_isGoodPointer_36 : decode b_Re_isGoodPointer 36 = .ok (.ireturn, 1) := by decide +kernel
theorem d_Re_isGoodPointer_37 : decode b_Re_isGoodPointer 37 = .ok (.iload_n 3, 1) := by decide +kernel
theorem d_Re_isGoodPointer_38 : decode b_Re_isGoodPointer 38 = .ok (.iload 4, 2) := by decide +kernel
theorem d_Re_isGoodPointer_40 : decode b_Re_isGoodPointer 40 = .ok (.if_icmp .lt 12, 3) := by decide +kernel
theorem d_Re_isGoodPointer_43 : decode b_Re_isGoodPointer 43 = .ok (.aload_n 0, 1) := by decide +kernel
theorem d_Re_isGoodPointer_44 : decode b_Re_isGoodPointer 44 = .ok (.iconst 3, 1) := by decide +kernel
theorem d_Re_isGoodPointer_45 : decode b_Re_isGoodPointer 45 = .ok (.iload_n 1, 1) := by decide +kernel
theorem d_Re_isGoodPointer_46 : decode b_Re_isGoodPointer 46 = .ok (.invokevirtual 47, 3) := by decide +kernel
theorem d_Re_isGoodPointer_49 : decode b_Re_isGoodPointer 49 = .ok (.ifCond .eq 7, 3) := by decide +kernel
theorem d_Re_isGoodPointer_52 : decode b_Re_isGoodPointer 52 = .ok (.iconst 1, 1) := by decide +kernel
theorem d_Re_isGoodPointer_53 : decode b_Re_isGoodPointer 53 = .ok (.goto 4, 3) := by decide +kernel
theorem d_Re_isGoodPointer_56 : decode b_Re_isGoodPointer 56 = .ok (.iconst 0, 1) := by decide +kernel
theorem d_Re_isGoodPointer_57 : decode b_Re_isGoodPointer 57 = .ok (.ireturn, 1) := by decide +kernel
theorem d_Re_takeName_0 : decode b_Re_takeName 0 = .ok (.iload_n 1, 1) := by decide +kernel
theorem d_Re_takeName_1 : decode b_Re_takeName 1 = .ok (.istore_n 3, 1) := by decide +kernel
theorem d_Re_takeName_2 : decode b_Re_takeName 2 = .ok (.iload_n 1, 1) := by decide +kernel
theorem d_Re_takeName_3 : decode b_Re_takeName 3 = .ok (.istore 4, 2) := by decide +kernel
theorem d_Re_takeName_5 : decode b_Re_takeName 5 = .ok (.iconst 0, 1) := by decide +kernel
theorem d_Re_takeName_6 : decode b_Re_takeName 6 = .ok (.istore 5, 2) := by decide +kernel
theorem d_Re_takeName_8 : decode b_Re_takeName 8 = .ok (.iconst 0, 1) := by decide +kernel
theorem d_Re_takeName_9 : decode b_Re_takeName 9 = .ok (.istore 6, 2) := by decide +kernel
theorem d_Re_takeName_11 : decode b_Re_takeName 11 = .ok (.iconst 0, 1) := by decide +kernel
theorem d_Re_takeName_12 : decode b_Re_takeName 12 = .ok (.istore 7, 2) := by decide +kernel
theorem d_Re_takeName_14 : decode b_Re_takeName 14 = .ok (.iload 7, 2) := by decide +kernel
theorem d_Re_takeName_16 : decode b_Re_takeName 16 = .ok (.sipush 16639, 3) := by decide +kernel
theorem d_Re_takeName_19 : decode b_Re_takeName 19 = .ok (.if_icmp .ge 248, 3) := by decide +kernel
theorem d_Re_takeName_22 : decode b_Re_takeName 22 = .ok (.iload_n 3, 1) := by decide +kernel
theorem d_Re_takeName_23 : decode b_Re_takeName 23 = .ok (.aload_n 0, 1) := by decide +kernel
theorem d_Re_takeName_24 : decode b_Re_takeName 24 = .ok (.getfield 9, 3) := by decide +kernel
theorem d_Re_takeName_27 : decode b_Re_takeName 27 = .ok (.getfield 44, 3) := by decide +kernel
theorem d_Re_takeName_30 : decode b_Re_takeName 30 = .ok (.if_icmp .lt 10, 3) := by decide +kernel
theorem d_Re_takeName_33 : decode b_Re_takeName 33 = .ok (.aload_n 0, 1) := by decide +kernel
theorem d_Re_takeName_34 : decode b_Re_takeName 34 = .ok (.iconst 1, 1) := by decide +kernel
theorem d_Re_takeName_35 : decode b_Re_takeName 35 = .ok (.iload_n 3, 1) := by decide +kernel
theorem d_Re_takeName_36 : decode b_Re_takeName 36 = .ok (.invokevirtual 47, 3) := by decide +kernel
theorem d_Re_takeName_39 : decode b_Re_takeName 39 = .ok (.ireturn, 1) := by decide +kernel
theorem d_Re_takeName_40 : decode b_Re_takeName 40 = .ok (.aload_n 0, 1) := by decide +kernel
theorem d_Re_takeName_41 : decode b_Re_takeName 41 = .ok (.getfield 9, 3) := by decide +kernel
theorem d_Re_takeName_44 : decode b_Re_takeName 44 = .ok (.iload_n 3, 1) := by decide +kernel
theorem d_Re_takeName_45 : decode b_Re_takeName 45 = .ok (.invokevirtual 85, 3) := by decide +kernel
theorem d_Re_takeName_48 : decode b_Re_takeName 48 = .ok (.istore 8, 2) := by decide +kernel
theorem d_Re_takeName_50 : decode b_Re_takeName 50 = .ok (.iload 6, 2) := by decide +kernel
theorem d_Re_takeName_52 : decode b_Re_takeName 52 = .ok (.ifCond .eq 13, 3) := by decide +kernel
theorem d_Re_takeName_55 : decode b_Re_takeName 55 = .ok (.aload_n 0, 1) := by decide +kernel
theorem d_Re_takeName_56 : decode b_Re_takeName 56 = .ok (.getfield 9, 3) := by decide +kernel
theorem d_Re_takeName_59 : decode b_Re_takeName 59 = .ok (.getfield 44, 3) := by decide +kernel
theorem d_Re_takeName_62 : decode b_Re_takeName 62 = .ok (.goto 4, 3) := by decide +kernel
theorem d_Re_takeName_65 : decode b_Re_takeName 65 = .ok (.iload_n 2, 1) := by decide +kernel
theorem d_Re_takeName_66 : decode b_Re_takeName 66 = .ok (.istore 9, 2) := by decide +kernel
theorem d_Re_takeName_68 : decode b_Re_takeName 68 = .ok (.iload 8, 2) := by decide +kernel
theorem d_Re_takeName_70 : decode b_Re_takeName 70 = .ok (.ifCond .ne 59, 3) := by decide +kernel
theorem d_Re_takeName_73 : decode b_Re_takeName 73 = .ok (.aload_n 0, 1) := by decide +kernel
theorem d_Re_takeName_74 : decode b_Re_takeName 74 = .ok (.getfield 15, 3) := by decide +kernel
theorem d_Re_takeName_77 : decode b_Re_takeName 77 = .ok (.getfield 59, 3) := by decide +kernel
theorem d_Re_takeName_80 : decode b_Re_takeName 80 = .ok (.iconst 0, 1) := by decide +kernel
theorem d_Re_takeName_81 : decode b_Re_takeName 81 = .ok (.invokevirtual 88, 3) := by decide +kernel
theorem d_Re_takeName_84 : decode b_Re_takeName 84 = .ok (.aload_n 0, 1) := by decide +kernel
theorem d_Re_takeName_85 : decode b_Re_takeName 85 = .ok (.iload 6, 2) := by decide +kernel
theorem d_Re_takeName_87 : decode b_Re_takeName 87 = .ok (.ifCond .eq 10, 3) := by decide +kernel
theorem d_Re_takeName_90 : decode b_Re_takeName 90 = .ok (.aload_n 0, 1) := by decide +kernel
theorem d_Re_takeName_91 : decode b_Re_takeName 91 = .ok (.getfield 41, 3) := by decide +kernel
theorem d_Re_takeName_94 : decode b_Re_takeName 94 = .ok (.goto 6, 3) := by decide +kernel
theorem d_Re_takeName_97 : decode b_Re_takeName 97 = .ok (.iload_n 3, 1) := by decide +kernel
theorem d_Re_takeName_98 : decode b_Re_takeName 98 = .ok (.iconst 1, 1) := by decide +kernel
theorem d_Re_takeName_99 : decode b_Re_takeName 99 = .ok (.iadd, 1) := by decide +kernel
theorem d_Re_takeName_100 : decode b_Re_takeName 100 = .ok (.putfield 41, 3) := by decide +kernel
theorem d_Re_takeName_103 : decode b_Re_takeName 103 = .ok (.aload_n 0, 1) := by decide +kernel
theorem d_Re_takeName_104 : decode b_Re_takeName 104 = .ok (.getfield 41, 3) := by decide +kernel
theorem d_Re_takeName_107 : decode b_Re_takeName 107 = .ok (.iload_n 2, 1) := by decide +kernel
theorem d_Re_takeName_108 : decode b_Re_takeName 108 = .ok (.if_icmp .le 15, 3) := by decide +kernel
theorem d_Re_takeName_111 : decode b_Re_takeName 111 = .ok (.aload_n 0, 1) := by decide +kernel
theorem d_Re_takeName_112 : decode b_Re_takeName 112 = .ok (.iconst 5, 1) := by decide +kernel
theorem d_Re_takeName_113 : decode b_Re_takeName 113 = .ok (.aload_n 0, 1) := by decide +kernel
theorem d_Re_takeName_114 : decode b_Re_takeName 114 = .ok (.getfield 92, 3) := by decide +kernel
theorem d_Re_takeName_117 : decode b_Re_takeName 117 = .ok (.invokevirtual 47, 3) := by decide +kernel
theorem d_Re_takeName_120 : decode b_Re_takeName 120 = .ok (.ifCond .eq 7, 3) := by decide +kernel
theorem d_Re_takeName_123 : decode b_Re_takeName 123 = .ok (.iconst 1, 1) := by decide +kernel
theorem d_Re_takeName_124 : decode b_Re_takeName 124 = .ok (.goto 4, 3) := by decide +kernel
theorem d_Re_takeName_127 : decode b_Re_takeName 127 = .ok (.iconst 0, 1) := by decide +kernel
theorem d_Re_takeName_128 : decode b_Re_takeName 128 = .ok (.ireturn, 1) := by decide +kernel
theorem d_Re_takeName_129 : decode b_Re_takeName 129 = .ok (.iload 8, 2) := by decide +kernel
theorem d_Re_takeName_131 : decode b_Re_takeName 131 = .ok (.sipush 192, 3) := by decide +kernel
theorem d_Re_takeName_134 : decode b_Re_takeName 134 = .ok (.if_icmp .lt 75, 3) := by decide +kernel
theorem d_Re_takeName_137 : decode b_Re_takeName 137 = .ok (.aload_n 0, 1) := by decide +kernel
theorem d_Re_takeName_138 : decode b_Re_takeName 138 = .ok (.getfield 9, 3) := by decide +kernel
theorem d_Re_takeName_141 : decode b_Re_takeName 141 = .ok (.iload_n 3, 1) := by decide +kernel
theorem d_Re_takeName_142 : decode b_Re_takeName 142 = .ok (.invokevirtual 29, 3) := by decide +kernel
theorem d_Re_takeName_145 : decode b_Re_takeName 145 = .ok (.sipush 16383, 3) := by decide +kernel
theorem d_Re_takeName_148 : decode b_Re_takeName 148 = .ok (.iand, 1) := by decide +kernel
theorem d_Re_takeName_149 : decode b_Re_takeName 149 = .ok (.istore 10, 2) := by decide +kernel
theorem d_Re_takeName_151 : decode b_Re_takeName 151 = .ok (.aload_n 0, 1) := by decide +kernel
theorem d_Re_takeName_152 : decode b_Re_takeName 152 = .ok (.iload_n 3, 1) := by decide +kernel
theorem d_Re_takeName_153 : decode b_Re_takeName 153 = .ok (.iload 9, 2) := by decide +kernel
theorem d_Re_takeName_155 : decode b_Re_takeName 155 = .ok (.iload 10, 2) := by decide +kernel
theorem d_Re_takeName_157 : decode b_Re_takeName 157 = .ok (.iload 4, 2) := by decide +kernel
theorem d_Re_takeName_159 : decode b_Re_takeName 159 = .ok (.invokevirtual 95, 3) := by decide +kernel
theorem d_Re_takeName_162 : decode b_Re_takeName 162 = .ok (.ifCond .ne 5, 3) := by decide +kernel
theorem d_Re_takeName_165 : decode b_Re_takeName 165 = .ok (.iconst 0, 1) := by decide +kernel
theorem d_Re_takeName_166 : decode b_Re_takeName 166 = .ok (.ireturn, 1) := by decide +kernel
theorem d_Re_takeName_167 : decode b_Re_takeName 167 = .ok (.aload_n 0, 1) := by decide +kernel
theorem d_Re_takeName_168 : decode b_Re_takeName 168 = .ok (.iload 6, 2) := by decide +kernel
theorem d_Re_takeName_170 : decode b_Re_takeName 170 = .ok (.ifCond .eq 10, 3) := by decide +kernel
theorem d_Re_takeName_173 : decode b_Re_takeName 173 = .ok (.aload_n 0, 1) := by decide +kernel
theorem d_Re_takeName_174 : decode b_Re_takeName 174 = .ok (.getfield 41, 3) := by decide +kernel
theorem d_Re_takeName_177 : decode b_Re_takeName 177 = .ok (.goto 6, 3) := by decide +kernel
theorem d_Re_takeName_180 : decode b_Re_takeName 180 = .ok (.iload_n 3, 1) := by decide +kernel
theorem d_Re_takeName_181 : decode b_Re_takeName 181 = .ok (.iconst 2, 1) := by decide +kernel
theorem d_Re_takeName_182 : decode b_Re_takeName 182 = .ok (.iadd, 1) := by decide +kernel
theorem d_Re_takeName_183 : decode b_Re_takeName 183 = .ok (.putfield 41, 3) := by decide +kernel
theorem d_Re_takeName_186 : decode b_Re_takeName 186 = .ok (.iconst 1, 1) := by decide +kernel
theorem d_Re_takeName_187 : decode b_Re_takeName 187 = .ok (.istore 6, 2) := by decide +kernel
theorem d_Re_takeName_189 : decode b_Re_takeName 189 = .ok (.aload_n 0, 1) := by decide +kernel
theorem d_Re_takeName_190 : decode b_Re_takeName 190 = .ok (.dup, 1) := by decide +kernel
theorem d_Re_takeName_191 : decode b_Re_takeName 191 = .ok (.getfield 26, 3) := by decide +kernel
theorem d_Re_takeName_194 : decode b_Re_takeName 194 = .ok (.iconst 1, 1) := by decide +kernel
theorem d_Re_takeName_195 : decode b_Re_takeName 195 = .ok (.iadd, 1) := by decide +kernel
theorem d_Re_takeName_196 : decode b_Re_takeName 196 = .ok (.putfield 26, 3) := by decide +kernel
theorem d_Re_takeName_199 : decode b_Re_takeName 199 = .ok (.iload 10, 2) := by decide +kernel
theorem d_Re_takeName_201 : decode b_Re_takeName 201 = .ok (.istore 4, 2) := by decide +kernel
theorem d_Re_takeName_203 : decode b_Re_takeName 203 = .ok (.iload 10, 2) := by decide +kernel
theorem d_Re_takeName_205 : decode b_Re_takeName 205 = .ok (.istore_n 3, 1) := by decide +kernel
theorem d_Re_takeName_206 : decode b_Re_takeName 206 = .ok (.goto 55, 3) := by decide +kernel
theorem d_Re_takeName_209 : decode b_Re_takeName 209 = .ok (.aload_n 0, 1) := by decide +kernel
theorem d_Re_takeName_210 : decode b_Re_takeName 210 = .ok (.iload_n 3, 1) := by decide +kernel
theorem d_Re_takeName_211 : decode b_Re_takeName 211 = .ok (.iload 8, 2) := by decide +kernel
theorem d_Re_takeName_213 : decode b_Re_takeName 213 = .ok (.iload 9, 2) := by decide +kernel
theorem d_Re_takeName_215 : decode b_Re_takeName 215 = .ok (.iload_n 1, 1) := by decide +kernel
theorem d_Re_takeName_216 : decode b_Re_takeName 216 = .ok (.iload 5, 2) := by decide +kernel
theorem d_Re_takeName_218 : decode b_Re_takeName 218 = .ok (.invokevirtual 99, 3) := by decide +kernel
theorem d_Re_takeName_221 : decode b_Re_takeName 221 = .ok (.ifCond .ne 5, 3) := by decide +kernel
theorem d_Re_takeName_224 : decode b_Re_takeName 224 = .ok (.iconst 0, 1) := by decide +kernel
theorem d_Re_takeName_225 : decode b_Re_takeName 225 = .ok (.ireturn, 1) := by decide +kernel
theorem d_Re_takeName_226 : decode b_Re_takeName 226 = .ok (.aload_n 0, 1) := by decide +kernel
theorem d_Re_takeName_227 : decode b_Re_takeName 227 = .ok (.getfield 15, 3) := by decide +kernel
theorem d_Re_takeName_230 : decode b_Re_takeName 230 = .ok (.getfield 59, 3) := by decide +kernel
theorem d_Re_takeName_233 : decode b_Re_takeName 233 = .ok (.aload_n 0, 1) := by decide +kernel
theorem d_Re_takeName_234 : decode b_Re_takeName 234 = .ok (.getfield 9, 3) := by decide +kernel
theorem d_Re_takeName_237 : decode b_Re_takeName 237 = .ok (.iload_n 3, 1) := by decide +kernel
theorem d_Re_takeName_238 : decode b_Re_takeName 238 = .ok (.iload 8, 2) := by decide +kernel
theorem d_Re_takeName_240 : decode b_Re_takeName 240 = .ok (.iconst 1, 1) := by decide +kernel
theorem d_Re_takeName_241 : decode b_Re_takeName 241 = .ok (.iadd, 1) := by decide +kernel
theorem d_Re_takeName_242 : decode b_Re_takeName 242 = .ok (.invokevirtual 103, 3) := by decide +kernel
theorem d_Re_takeName_245 : decode b_Re_takeName 245 = .ok (.iload 5, 2) := by decide +kernel
theorem d_Re_takeName_247 : decode b_Re_takeName 247 = .ok (.iload 8, 2) := by decide +kernel
theorem d_Re_takeName_249 : decode b_Re_takeName 249 = .ok (.iconst 1, 1) := by decide +kernel
theorem d_Re_takeName_250 : decode b_Re_takeName 250 = .ok (.iadd, 1) := by decide +kernel
theorem d_Re_takeName_251 : decode b_Re_takeName 251 = .ok (.iadd, 1) := by decide +kernel
theorem d_Re_takeName_252 : decode b_Re_takeName 252 = .ok (.istore 5, 2) := by decide +kernel
theorem d_Re_takeName_254 : decode b_Re_takeName 254 = .ok (.iload_n 3, 1) := by decide +kernel
theorem d_Re_takeName_255 : decode b_Re_takeName 255 = .ok (.iload 8, 2) := by decide +kernel
theorem d_Re_takeName_257 : decode b_Re_takeName 257 = .ok (.iconst 1, 1) := by decide +kernel
theorem d_Re_takeName_258 : decode b_Re_takeName 258 = .ok (.iadd, 1) := by decide +kernel
theorem d_Re_takeName_259 : decode b_Re_takeName 259 = .ok (.iadd, 1) := by decide +kernel
theorem d_Re_takeName_260 : decode b_Re_takeName 260 = .ok (.istore_n 3, 1) := by decide +kernel
theorem d_Re_takeName_261 : decode b_Re_takeName 261 = .ok (.iinc 7 1, 3) := by decide +kernel
theorem d_Re_takeName_264 : decode b_Re_takeName 264 = .ok (.goto (-250), 3) := by decide +kernel
theorem d_Re_takeName_267 : decode b_Re_takeName 267 = .ok (.aload_n 0, 1) := by decide +kernel
theorem d_Re_takeName_268 : decode b_Re_takeName 268 = .ok (.iconst 3, 1) := by decide +kernel
theorem d_Re_takeName_269 : decode b_Re_takeName 269 = .ok (.iload_n 3, 1) := by decide +kernel
theorem d_Re_takeName_270 : decode b_Re_takeName 270 = .ok (.invokevirtual 47, 3) := by decide +kernel
theorem d_Re_takeName_273 : decode b_Re_takeName 273 = .ok (.ireturn, 1) := by decide +kernel
set_option maxHeartbeats 4000000 in
set_option maxRecDepth 100000 in
/-- Reader.fail -/
theorem m_Re_fail (l : Launch) (D9 : va_G) (cB cI cJ cG : ClassId) (a : Nat → Nat) (O : Nat → Int64) (I : Nat → Int32) (F : Nat → Nat → Int32) (x y : Int32) : MC l D9 cB cI cJ cG a O y_Re_fail b_Re_fail 3 (some .boolean) 0 [.ref (a 17), .int (x), .int (y)] I F (fun v I' F' => v = some (.int (nI 0)) ∧ sm [4, 5] I I' ∧ I' 4 = x ∧ F = F') := by
  refine mc_of (by decide) (Nat.le_of_ble_eq_true rfl) ?_
  intro p e s m below meth c ls A0 Q C0 hP hD hA hS hl hret
  obtain ⟨hx, hb, hml, hr, hlocks, hown, hts, hK⟩ := id C0
  have hl : lv_has ls 3 [(0, .ref (a 17)), (1, .int (x)), (2, .int (y))] := hl
  refine lv_aload_n hx hb d_Re_fail_0 rfl (lv_at hl 0 rfl) ?_
  refine lv_iload_n hx hb d_Re_fail_1 rfl (lv_at hl 1 rfl) ?_
  refine va_put (D := D9) (ty := .int) (ci := 4) (C := R_Re) (T := F_Re) (N := 8) hx hb hts i_Re t_Re t_Re_ok n_Re hown hK hP hD hS 17 ww_17 rfl 2 (by decide) (hts _ g_122) (fun _ h9 => h9) rfl (by decide +kernel) rfl rfl (Nat.le_of_ble_eq_true rfl) d_Re_fail_2 (fun H locs hP hD hS => ?_)
  obtain ⟨I1, aI1, sI1, hP, hD⟩ := fx (P := fun z => va_P D9 cls9 (WW a cB cI cJ cG z _ O) H ∧ va_D A0 (WW a cB cI cJ cG z _ O)) ⟨wp_4 hP, wd_4 hD⟩
  refine lv_aload_n hx hb d_Re_fail_5 rfl (lv_at hl 0 rfl) ?_
  refine lv_iload_n hx hb d_Re_fail_6 rfl (lv_at hl 2 rfl) ?_
  refine va_put (D := D9) (ty := .int) (ci := 4) (C := R_Re) (T := F_Re) (N := 8) hx hb hts i_Re t_Re t_Re_ok n_Re hown hK hP hD hS 17 ww_17 rfl 3 (by decide) (hts _ g_123) (fun _ h9 => h9) rfl (by decide +kernel) rfl rfl (Nat.le_of_ble_eq_true rfl) d_Re_fail_7 (fun H locs hP hD hS => ?_)
  obtain ⟨I2, aI2, sI2, hP, hD⟩ := fx (P := fun z => va_P D9 cls9 (WW a cB cI cJ cG z _ O) H ∧ va_D A0 (WW a cB cI cJ cG z _ O)) ⟨wp_5 hP, wd_5 hD⟩
  refine lv_iconst (v := 0) hx hb d_Re_fail_10 (by decide) ?_
  refine lv_topq (y := nI 0) (rfl) ?_
  exact hret _ _ _ _ _ _ _ hS hP hD d_Re_fail_11 (nr_z (Or.inl rfl)) (⟨rfl, (sm_tr (sm_mo sI1 (by decide)) (sm_mo sI2 (by decide))), ((sI2 4 (by decide)).trans aI1), rfl⟩)
set_option maxHeartbeats 4000000 in
set_option maxRecDepth 100000 in
/-- Reader.isGoodPointer -/
theorem m_Re_isGoodPointer (l : Launch) (D9 : va_G) (cB cI cJ cG : ClassId) (a : Nat → Nat) (O : Nat → Int64) (I : Nat → Int32) (F : Nat → Nat → Int32) (t : List Nat) (hT2 : I 2 = nI t.length) (htl : t.length ≤ 65536) (pos rc tgt low : Nat) (h1 : pos < 1000000) (h2 : rc < 1000000) (h3 : tgt < 1000000) (h4 : low < 1000000) : MC l D9 cB cI cJ cG a O y_Re_isGoodPointer b_Re_isGoodPointer 5 (some .boolean) 1 [.ref (a 17), .int (nI pos), .int (nI rc), .int (nI tgt), .int (nI low)] I F (fun v I' F' => ((pos + 2 ≤ t.length ∧ pos + 2 ≤ rc ∧ tgt < low) ∧ v = some (.int (nI 1)) ∧ I = I' ∧ F = F') ∨ (¬ (pos + 2 ≤ t.length ∧ pos + 2 ≤ rc ∧ tgt < low) ∧ v = some (.int (nI 0)) ∧ sm [4, 5] I I' ∧ ¬ I' 4 = 0 ∧ F = F')) := by
  refine mc_of (by decide) (Nat.le_of_ble_eq_true rfl) ?_
  intro p e s m below meth c ls A0 Q C0 hP hD hA hS hl hret
  obtain ⟨hx, hb, hml, hr, hlocks, hown, hts, hK⟩ := id C0
  have hl : lv_has ls 5 [(0, .ref (a 17)), (1, .int (nI pos)), (2, .int (nI rc)), (3, .int (nI tgt)), (4, .int (nI low))] := hl
  refine lv_iload_n hx hb d_Re_isGoodPointer_0 rfl (lv_at hl 1 rfl) ?_
  refine lv_iconst (v := 2) hx hb d_Re_isGoodPointer_1 (by decide) ?_
  refine lv_topq (y := nI 2) (rfl) ?_
  refine lv_iadd hx hb d_Re_isGoodPointer_2 ?_
  refine lv_topq (y := nI (pos + 2)) (nI_add _ _) ?_
  refine lv_aload_n hx hb d_Re_isGoodPointer_3 rfl (lv_at hl 0 rfl) ?_
  refine va_get (D := D9) (ci := 4) (C := R_Re) (T := F_Re) (N := 8) hx hb hts i_Re hown hK hP 17 ww_17 rfl 0 (by decide) (hts _ g_120) (fun _ h9 => h9) rfl d_Re_isGoodPointer_4 ?_
  refine va_getN (D := D9) (ci := 0) (C := R_By) (T := F_By) (N := 2) hx hb hts i_By hown hK hP 1 ww_1 rfl 1 (by decide) (hts _ g_39) (fun _ h9 => h9) rfl d_Re_isGoodPointer_7 ?_
  refine lv_topq (y := nI t.length) (hT2) ?_
  refine lv_icmp_le (tgt := 20) hx hb d_Re_isGoodPointer_10 (by decide) (fun c1 => ?_) (fun c1 => ?_)
  · have c1 : pos + 2 ≤ t.length := (nI_leI (a := pos + 2) (b := t.length) (by omega) (by omega)).mp c1
    refine lv_iload_n hx hb d_Re_isGoodPointer_20 rfl (lv_at hl 1 rfl) ?_
    refine lv_iconst (v := 2) hx hb d_Re_isGoodPointer_21 (by decide) ?_
    refine lv_topq (y := nI 2) (rfl) ?_
    refine lv_iadd hx hb d_Re_isGoodPointer_22 ?_
    refine lv_topq (y := nI (pos + 2)) (nI_add _ _) ?_
    refine lv_iload_n hx hb d_Re_isGoodPointer_23 rfl (lv_at hl 2 rfl) ?_
    refine lv_icmp_le (tgt := 37) hx hb d_Re_isGoodPointer_24 (by decide) (fun c2 => ?_) (fun c2 => ?_)
    · have c2 : pos + 2 ≤ rc := (nI_leI (a := pos + 2) (b := rc) (by omega) (by omega)).mp c2
      refine lv_iload_n hx hb d_Re_isGoodPointer_37 rfl (lv_at hl 3 rfl) ?_
      refine lv_iload hx hb d_Re_isGoodPointer_38 (lv_at hl 4 rfl) ?_
      refine lv_icmp_lt (tgt := 52) hx hb d_Re_isGoodPointer_40 (by decide) (fun c3 => ?_) (fun c3 => ?_)
      · have c3 : tgt < low := (nI_ltI (a := tgt) (b := low) (by omega) (by omega)).mp c3
        refine lv_iconst (v := 1) hx hb d_Re_isGoodPointer_52 (by decide) ?_
        refine lv_topq (y := nI 1) (rfl) ?_
        refine lv_goto (tgt := 57) hx hb d_Re_isGoodPointer_53 (by decide) ?_
        exact hret _ _ _ _ _ _ _ hS hP hD d_Re_isGoodPointer_57 (nr_z (Or.inr rfl)) (Or.inl ⟨(show pos + 2 ≤ t.length ∧ pos + 2 ≤ rc ∧ tgt < low by omega), rfl, rfl, rfl⟩)
      · have c3 : ¬ (tgt < low) := fun z9 => c3 ((nI_ltI (a := tgt) (b := low) (by omega) (by omega)).mpr z9)
        refine lv_aload_n hx hb d_Re_isGoodPointer_43 rfl (lv_at hl 0 rfl) ?_
        refine lv_iconst (v := 3) hx hb d_Re_isGoodPointer_44 (by decide) ?_
        refine lv_topq (y := nI 3) (rfl) ?_
        refine lv_iload_n hx hb d_Re_isGoodPointer_45 rfl (lv_at hl 1 rfl) ?_
        refine mw_cV (ci := 4) (k := 17) C0 (m_Re_fail l D9 cB cI cJ cG a O _ _ (nI 3) _) g_267 g_4 g_264 g_266 gs_Re_fail ⟨by decide +kernel, by decide +kernel, show Option.map (fun d => d.parameters.length) (parseMethodDescriptor y_Re_fail.desc) = some 2 by decide +kernel⟩ ⟨by decide, by decide⟩ rfl rfl hP hD hS hA rfl ww_17 hl.1 (Nat.le_of_ble_eq_true rfl) rfl d_Re_isGoodPointer_46 ⟨by decide, by decide⟩ (fun v9 w9 H locs hq hP hD hS => ?_)
        obtain ⟨I4, F5, hw9, q6⟩ := hq
        subst hw9
        obtain ⟨rfl, sI4, zI4, rfl⟩ := q6
        refine lv_if_eq (tgt := 56) hx hb d_Re_isGoodPointer_49 (by decide) (fun c7 => ?_) (fun c7 => ?_)
        · refine lv_iconst (v := 0) hx hb d_Re_isGoodPointer_56 (by decide) ?_
          refine lv_topq (y := nI 0) (rfl) ?_
          exact hret _ _ _ _ _ _ _ hS hP hD d_Re_isGoodPointer_57 (nr_z (Or.inl rfl)) (Or.inr ⟨(show ¬ (pos + 2 ≤ t.length ∧ pos + 2 ≤ rc ∧ tgt < low) by omega), rfl, (sm_mo sI4 (by decide)), (by rw [zI4]; decide), rfl⟩)
        · exact absurd c7 (by decide)
    · have c2 : ¬ (pos + 2 ≤ rc) := fun z9 => c2 ((nI_leI (a := pos + 2) (b := rc) (by omega) (by omega)).mpr z9)
      refine lv_aload_n hx hb d_Re_isGoodPointer_27 rfl (lv_at hl 0 rfl) ?_
      refine lv_iconst (v := 5) hx hb d_Re_isGoodPointer_28 (by decide) ?_
      refine lv_topq (y := nI 5) (rfl) ?_
      refine lv_aload_n hx hb d_Re_isGoodPointer_29 rfl (lv_at hl 0 rfl) ?_
      refine va_get (D := D9) (ci := 4) (C := R_Re) (T := F_Re) (N := 8) hx hb hts i_Re hown hK hP 17 ww_17 rfl 7 (by decide) (hts _ g_130) (fun _ h9 => h9) rfl d_Re_isGoodPointer_30 ?_
      refine mw_cV (ci := 4) (k := 17) C0 (m_Re_fail l D9 cB cI cJ cG a O _ _ (nI 5) _) g_267 g_4 g_264 g_266 gs_Re_fail ⟨by decide +kernel, by decide +kernel, show Option.map (fun d => d.parameters.length) (parseMethodDescriptor y_Re_fail.desc) = some 2 by decide +kernel⟩ ⟨by decide, by decide⟩ rfl rfl hP hD hS hA rfl ww_17 hl.1 (Nat.le_of_ble_eq_true rfl) rfl d_Re_isGoodPointer_33 ⟨by decide, by decide⟩ (fun v9 w9 H locs hq hP hD hS => ?_)
      obtain ⟨I8, F9, hw9, q10⟩ := hq
      subst hw9
      obtain ⟨rfl, sI8, zI8, rfl⟩ := q10
      exact hret _ _ _ _ _ _ _ hS hP hD d_Re_isGoodPointer_36 (nr_z (Or.inl rfl)) (Or.inr ⟨(show ¬ (pos + 2 ≤ t.length ∧ pos + 2 ≤ rc ∧ tgt < low) by omega), rfl, (sm_mo sI8 (by decide)), (by rw [zI8]; decide), rfl⟩)
  · have c1 : ¬ (pos + 2 ≤ t.length) := fun z9 => c1 ((nI_leI (a := pos + 2) (b := t.length) (by omega) (by omega)).mpr z9)
    refine lv_aload_n hx hb d_Re_isGoodPointer_13 rfl (lv_at hl 0 rfl) ?_
    refine lv_iconst (v := 1) hx hb d_Re_isGoodPointer_14 (by decide) ?_
    refine lv_topq (y := nI 1) (rfl) ?_
    refine lv_iload_n hx hb d_Re_isGoodPointer_15 rfl (lv_at hl 1 rfl) ?_
    refine mw_cV (ci := 4) (k := 17) C0 (m_Re_fail l D9 cB cI cJ cG a O _ _ (nI 1) _) g_267 g_4 g_264 g_266 gs_Re_fail ⟨by decide +kernel, by decide +kernel, show Option.map (fun d => d.parameters.length) (parseMethodDescriptor y_Re_fail.desc) = some 2 by decide +kernel⟩ ⟨by decide, by decide⟩ rfl rfl hP hD hS hA rfl ww_17 hl.1 (Nat.le_of_ble_eq_true rfl) rfl d_Re_isGoodPointer_16 ⟨by decide, by decide⟩ (fun v9 w9 H locs hq hP hD hS => ?_)
    obtain ⟨I11, F12, hw9, q13⟩ := hq
    subst hw9
    obtain ⟨rfl, sI11, zI11, rfl⟩ := q13
    exact hret _ _ _ _ _ _ _ hS hP hD d_Re_isGoodPointer_19 (nr_z (Or.inl rfl)) (Or.inr ⟨(show ¬ (pos + 2 ≤ t.length ∧ pos + 2 ≤ rc ∧ tgt < low) by omega), rfl, (sm_mo sI11 (by decide)), (by rw [zI11]; decide), rfl⟩)
set_option maxHeartbeats 4000000 in
set_option maxRecDepth 100000 in
/-- Reader.isGoodLabel -/
theorem m_Re_isGoodLabel (l : Launch) (D9 : va_G) (cB cI cJ cG : ClassId) (a : Nat → Nat) (O : Nat → Int64) (I : Nat → Int32) (F : Nat → Nat → Int32) (t : List Nat) (hT2 : I 2 = nI t.length) (htl : t.length ≤ 65536) (pos ld rc sz : Nat) (x : Int32) (h1 : pos < 1000000) (h2 : rc < 1000000) (h3 : ld < 1000000) (h4 : sz < 1000000) : MC l D9 cB cI cJ cG a O y_Re_isGoodLabel b_Re_isGoodLabel 7 (some .boolean) 1 [.ref (a 17), .int (nI pos), .int (nI ld), .int (nI rc), .int (x), .int (nI sz)] I F (fun v I' F' => ((ld ≤ 63 ∧ sz + ld + 2 ≤ 255 ∧ pos + 1 + ld ≤ t.length ∧ pos + 1 + ld ≤ rc) ∧ v = some (.int (nI 1)) ∧ I = I' ∧ F = F') ∨ (¬ (ld ≤ 63 ∧ sz + ld + 2 ≤ 255 ∧ pos + 1 + ld ≤ t.length ∧ pos + 1 + ld ≤ rc) ∧ v = some (.int (nI 0)) ∧ sm [4, 5] I I' ∧ ¬ I' 4 = 0 ∧ F = F')) := by
  refine mc_of (by decide) (Nat.le_of_ble_eq_true rfl) ?_
  intro p e s m below meth c ls A0 Q C0 hP hD hA hS hl hret
  obtain ⟨hx, hb, hml, hr, hlocks, hown, hts, hK⟩ := id C0
  have hl : lv_has ls 7 [(0, .ref (a 17)), (1, .int (nI pos)), (2, .int (nI ld)), (3, .int (nI rc)), (4, .int (x)), (5, .int (nI sz))] := hl
  refine lv_iload_n hx hb d_Re_isGoodLabel_0 rfl (lv_at hl 1 rfl) ?_
  refine lv_iconst (v := 1) hx hb d_Re_isGoodLabel_1 (by decide) ?_
  refine lv_topq (y := nI 1) (rfl) ?_
  refine lv_iadd hx hb d_Re_isGoodLabel_2 ?_
  refine lv_topq (y := nI (pos + 1)) (nI_add _ _) ?_
  refine lv_iload_n hx hb d_Re_isGoodLabel_3 rfl (lv_at hl 2 rfl) ?_
  refine lv_iadd hx hb d_Re_isGoodLabel_4 ?_
  refine lv_topq (y := nI (pos + 1 + ld)) (nI_add _ _) ?_
  refine lv_istore (lv' := [(6, _), (0, _), (1, _), (2, _), (3, _), (4, _), (5, _)]) hx hb d_Re_isGoodLabel_5 hl (by decide) rfl (fun ls hl => ?_)
  refine lv_iload_n hx hb d_Re_isGoodLabel_7 rfl (lv_at hl 3 rfl) ?_
  refine lv_bipush (v := 63) hx hb d_Re_isGoodLabel_8 (by decide) ?_
  refine lv_topq (y := nI 63) (rfl) ?_
  refine lv_icmp_le (tgt := 20) hx hb d_Re_isGoodLabel_10 (by decide) (fun c1 => ?_) (fun c1 => ?_)
  · have c1 : ld ≤ 63 := (nI_leI (a := ld) (b := 63) (by omega) (by omega)).mp c1
    refine lv_iload hx hb d_Re_isGoodLabel_20 (lv_at hl 6 rfl) ?_
    refine lv_iconst (v := 1) hx hb d_Re_isGoodLabel_22 (by decide) ?_
    refine lv_topq (y := nI 1) (rfl) ?_
    refine lv_iadd hx hb d_Re_isGoodLabel_23 ?_
    refine lv_topq (y := nI (sz + 1)) (nI_add _ _) ?_
    refine lv_iload_n hx hb d_Re_isGoodLabel_24 rfl (lv_at hl 3 rfl) ?_
    refine lv_iadd hx hb d_Re_isGoodLabel_25 ?_
    refine lv_topq (y := nI (sz + 1 + ld)) (nI_add _ _) ?_
    refine lv_iconst (v := 1) hx hb d_Re_isGoodLabel_26 (by decide) ?_
    refine lv_topq (y := nI 1) (rfl) ?_
    refine lv_iadd hx hb d_Re_isGoodLabel_27 ?_
    refine lv_topq (y := nI (sz + 1 + ld + 1)) (nI_add _ _) ?_
    refine lv_sipush (v := 255) hx hb d_Re_isGoodLabel_28 (by decide) ?_
    refine lv_topq (y := nI 255) (rfl) ?_
    refine lv_icmp_le (tgt := 42) hx hb d_Re_isGoodLabel_31 (by decide) (fun c2 => ?_) (fun c2 => ?_)
    · have c2 : sz + 1 + ld + 1 ≤ 255 := (nI_leI (a := sz + 1 + ld + 1) (b := 255) (by omega) (by omega)).mp c2
      refine lv_iload hx hb d_Re_isGoodLabel_42 (lv_at hl 0 rfl) ?_
      refine lv_aload_n hx hb d_Re_isGoodLabel_44 rfl (lv_at hl 1 rfl) ?_
      refine va_get (D := D9) (ci := 4) (C := R_Re) (T := F_Re) (N := 8) hx hb hts i_Re hown hK hP 17 ww_17 rfl 0 (by decide) (hts _ g_120) (fun _ h9 => h9) rfl d_Re_isGoodLabel_45 ?_
      refine va_getN (D := D9) (ci := 0) (C := R_By) (T := F_By) (N := 2) hx hb hts i_By hown hK hP 1 ww_1 rfl 1 (by decide) (hts _ g_39) (fun _ h9 => h9) rfl d_Re_isGoodLabel_48 ?_
      refine lv_topq (y := nI t.length) (hT2) ?_
      refine lv_icmp_le (tgt := 63) hx hb d_Re_isGoodLabel_51 (by decide) (fun c3 => ?_) (fun c3 => ?_)
      · have c3 : pos + 1 + ld ≤ t.length := (nI_leI (a := pos + 1 + ld) (b := t.length) (by omega) (by omega)).mp c3
        refine lv_iload hx hb d_Re_isGoodLabel_63 (lv_at hl 0 rfl) ?_
        refine lv_iload_n hx hb d_Re_isGoodLabel_65 rfl (lv_at hl 4 rfl) ?_
        refine lv_icmp_le (tgt := 81) hx hb d_Re_isGoodLabel_66 (by decide) (fun c4 => ?_) (fun c4 => ?_)
        · have c4 : pos + 1 + ld ≤ rc := (nI_leI (a := pos + 1 + ld) (b := rc) (by omega) (by omega)).mp c4
          refine lv_iconst (v := 1) hx hb d_Re_isGoodLabel_81 (by decide) ?_
          refine lv_topq (y := nI 1) (rfl) ?_
          refine lv_goto (tgt := 86) hx hb d_Re_isGoodLabel_82 (by decide) ?_
          exact hret _ _ _ _ _ _ _ hS hP hD d_Re_isGoodLabel_86 (nr_z (Or.inr rfl)) (Or.inl ⟨(show ld ≤ 63 ∧ sz + ld + 2 ≤ 255 ∧ pos + 1 + ld ≤ t.length ∧ pos + 1 + ld ≤ rc by omega), rfl, rfl, rfl⟩)
        · have c4 : ¬ (pos + 1 + ld ≤ rc) := fun z9 => c4 ((nI_leI (a := pos + 1 + ld) (b := rc) (by omega) (by omega)).mpr z9)
          refine lv_aload_n hx hb d_Re_isGoodLabel_69 rfl (lv_at hl 1 rfl) ?_
          refine lv_iconst (v := 5) hx hb d_Re_isGoodLabel_70 (by decide) ?_
          refine lv_topq (y := nI 5) (rfl) ?_
          refine lv_aload_n hx hb d_Re_isGoodLabel_71 rfl (lv_at hl 1 rfl) ?_
          refine va_get (D := D9) (ci := 4) (C := R_Re) (T := F_Re) (N := 8) hx hb hts i_Re hown hK hP 17 ww_17 rfl 7 (by decide) (hts _ g_130) (fun _ h9 => h9) rfl d_Re_isGoodLabel_72 ?_
          refine mw_cV (ci := 4) (k := 17) C0 (m_Re_fail l D9 cB cI cJ cG a O _ _ (nI 5) _) g_267 g_4 g_264 g_266 gs_Re_fail ⟨by decide +kernel, by decide +kernel, show Option.map (fun d => d.parameters.length) (parseMethodDescriptor y_Re_fail.desc) = some 2 by decide +kernel⟩ ⟨by decide, by decide⟩ rfl rfl hP hD hS hA rfl ww_17 hl.1 (Nat.le_of_ble_eq_true rfl) rfl d_Re_isGoodLabel_75 ⟨by decide, by decide⟩ (fun v9 w9 H locs hq hP hD hS => ?_)
          obtain ⟨I5, F6, hw9, q7⟩ := hq
          subst hw9
          obtain ⟨rfl, sI5, zI5, rfl⟩ := q7
          refine lv_if_eq (tgt := 85) hx hb d_Re_isGoodLabel_78 (by decide) (fun c8 => ?_) (fun c8 => ?_)
          · refine lv_iconst (v := 0) hx hb d_Re_isGoodLabel_85 (by decide) ?_
            refine lv_topq (y := nI 0) (rfl) ?_
            exact hret _ _ _ _ _ _ _ hS hP hD d_Re_isGoodLabel_86 (nr_z (Or.inl rfl)) (Or.inr ⟨(show ¬ (ld ≤ 63 ∧ sz + ld + 2 ≤ 255 ∧ pos + 1 + ld ≤ t.length ∧ pos + 1 + ld ≤ rc) by omega), rfl, (sm_mo sI5 (by decide)), (by rw [zI5]; decide), rfl⟩)
          · exact absurd c8 (by decide)
      · have c3 : ¬ (pos + 1 + ld ≤ t.length) := fun z9 => c3 ((nI_leI (a := pos + 1 + ld) (b := t.length) (by omega) (by omega)).mpr z9)
        refine lv_aload_n hx hb d_Re_isGoodLabel_54 rfl (lv_at hl 1 rfl) ?_
        refine lv_iconst (v := 1) hx hb d_Re_isGoodLabel_55 (by decide) ?_
        refine lv_topq (y := nI 1) (rfl) ?_
        refine lv_iload_n hx hb d_Re_isGoodLabel_56 rfl (lv_at hl 2 rfl) ?_
        refine lv_iconst (v := 1) hx hb d_Re_isGoodLabel_57 (by decide) ?_
        refine lv_topq (y := nI 1) (rfl) ?_
        refine lv_iadd hx hb d_Re_isGoodLabel_58 ?_
        refine lv_topq (y := nI (pos + 1)) (nI_add _ _) ?_
        refine mw_cV (ci := 4) (k := 17) C0 (m_Re_fail l D9 cB cI cJ cG a O _ _ (nI 1) _) g_267 g_4 g_264 g_266 gs_Re_fail ⟨by decide +kernel, by decide +kernel, show Option.map (fun d => d.parameters.length) (parseMethodDescriptor y_Re_fail.desc) = some 2 by decide +kernel⟩ ⟨by decide, by decide⟩ rfl rfl hP hD hS hA rfl ww_17 hl.1 (Nat.le_of_ble_eq_true rfl) rfl d_Re_isGoodLabel_59 ⟨by decide, by decide⟩ (fun v9 w9 H locs hq hP hD hS => ?_)
        obtain ⟨I9, F10, hw9, q11⟩ := hq
        subst hw9
        obtain ⟨rfl, sI9, zI9, rfl⟩ := q11
        exact hret _ _ _ _ _ _ _ hS hP hD d_Re_isGoodLabel_62 (nr_z (Or.inl rfl)) (Or.inr ⟨(show ¬ (ld ≤ 63 ∧ sz + ld + 2 ≤ 255 ∧ pos + 1 + ld ≤ t.length ∧ pos + 1 + ld ≤ rc) by omega), rfl, (sm_mo sI9 (by decide)), (by rw [zI9]; decide), rfl⟩)
    · have c2 : ¬ (sz + 1 + ld + 1 ≤ 255) := fun z9 => c2 ((nI_leI (a := sz + 1 + ld + 1) (b := 255) (by omega) (by omega)).mpr z9)
      refine lv_aload_n hx hb d_Re_isGoodLabel_34 rfl (lv_at hl 1 rfl) ?_
      refine lv_iconst (v := 4) hx hb d_Re_isGoodLabel_35 (by decide) ?_
      refine lv_topq (y := nI 4) (rfl) ?_
      refine lv_iload hx hb d_Re_isGoodLabel_36 (lv_at hl 5 rfl) ?_
      refine mw_cV (ci := 4) (k := 17) C0 (m_Re_fail l D9 cB cI cJ cG a O _ _ (nI 4) _) g_267 g_4 g_264 g_266 gs_Re_fail ⟨by decide +kernel, by decide +kernel, show Option.map (fun d => d.parameters.length) (parseMethodDescriptor y_Re_fail.desc) = some 2 by decide +kernel⟩ ⟨by decide, by decide⟩ rfl rfl hP hD hS hA rfl ww_17 hl.1 (Nat.le_of_ble_eq_true rfl) rfl d_Re_isGoodLabel_38 ⟨by decide, by decide⟩ (fun v9 w9 H locs hq hP hD hS => ?_)
      obtain ⟨I12, F13, hw9, q14⟩ := hq
      subst hw9
      obtain ⟨rfl, sI12, zI12, rfl⟩ := q14
      exact hret _ _ _ _ _ _ _ hS hP hD d_Re_isGoodLabel_41 (nr_z (Or.inl rfl)) (Or.inr ⟨(show ¬ (ld ≤ 63 ∧ sz + ld + 2 ≤ 255 ∧ pos + 1 + ld ≤ t.length ∧ pos + 1 + ld ≤ rc) by omega), rfl, (sm_mo sI12 (by decide)), (by rw [zI12]; decide), rfl⟩)
  · have c1 : ¬ (ld ≤ 63) := fun z9 => c1 ((nI_leI (a := ld) (b := 63) (by omega) (by omega)).mpr z9)
    refine lv_aload_n hx hb d_Re_isGoodLabel_13 rfl (lv_at hl 1 rfl) ?_
    refine lv_iconst (v := 2) hx hb d_Re_isGoodLabel_14 (by decide) ?_
    refine lv_topq (y := nI 2) (rfl) ?_
    refine lv_iload_n hx hb d_Re_isGoodLabel_15 rfl (lv_at hl 2 rfl) ?_
    refine mw_cV (ci := 4) (k := 17) C0 (m_Re_fail l D9 cB cI cJ cG a O _ _ (nI 2) _) g_267 g_4 g_264 g_266 gs_Re_fail ⟨by decide +kernel, by decide +kernel, show Option.map (fun d => d.parameters.length) (parseMethodDescriptor y_Re_fail.desc) = some 2 by decide +kernel⟩ ⟨by decide, by decide⟩ rfl rfl hP hD hS hA rfl ww_17 hl.1 (Nat.le_of_ble_eq_true rfl) rfl d_Re_isGoodLabel_16 ⟨by decide, by decide⟩ (fun v9 w9 H locs hq hP hD hS => ?_)
    obtain ⟨I15, F16, hw9, q17⟩ := hq
    subst hw9
    obtain ⟨rfl, sI15, zI15, rfl⟩ := q17
    exact hret _ _ _ _ _ _ _ hS hP hD d_Re_isGoodLabel_19 (nr_z (Or.inl rfl)) (Or.inr ⟨(show ¬ (ld ≤ 63 ∧ sz + ld + 2 ≤ 255 ∧ pos + 1 + ld ≤ t.length ∧ pos + 1 + ld ≤ rc) by omega), rfl, (sm_mo sI15 (by decide)), (by rw [zI15]; decide), rfl⟩)
set_option maxHeartbeats 4000000 in
set_option maxRecDepth 100000 in
/-- Reader.takeName -/
theorem m_Re_takeName (l : Launch) (D9 : va_G) (cB cI cJ cG : ClassId) (a : Nat → Nat) (O : Nat → Int64) (I : Nat → Int32) (F : Nat → Nat → Int32) (t : List Nat) (hT2 : I 2 = nI t.length) (htl : t.length ≤ 65536) (hT : BR 0 65536 (F 2) t) (L : List Nat) (b st9 fw : Nat) (hL3 : I 3 = nI L.length) (hLb : L.length < 500000) (hBL : BR 0 65536 (F 4) L) (hb9 : b ≤ t.length) (hst9 : st9 ≤ 65536) (hfw : I 7 = nI fw) : MC l D9 cB cI cJ cG a O y_Re_takeName b_Re_takeName 11 (some .boolean) 2 [.ref (a 17), .int (nI st9), .int (nI b)] I F (fun v I' F' => (∃ nm e c, rn 16639 t b st9 st9 0 none = some (nm, e, c) ∧ v = some (.int (nI 1)) ∧ sm [3, 6, 7] I I' ∧ I' 3 = nI (L ++ nm).length ∧ I' 6 = nI e ∧ I' 7 = nI (fw + c) ∧ sm [4] F F' ∧ BR 0 65536 (F' 4) (L ++ nm)) ∨ (rn 16639 t b st9 st9 0 none = none ∧ v = some (.int (nI 0)) ∧ sm [3, 4, 5, 6, 7] I I' ∧ ¬ I' 4 = 0 ∧ sm [4] F F' ∧ BR 0 65536 (F' 4) L)) := by
  refine mc_of (by decide) (Nat.le_of_ble_eq_true rfl) ?_
  intro p e s m below meth c ls A0 Q C0 hP hD hA hS hl hret
  obtain ⟨hx, hb, hml, hr, hlocks, hown, hts, hK⟩ := id C0
  have hl : lv_has ls 11 [(0, .ref (a 17)), (1, .int (nI st9)), (2, .int (nI b))] := hl
  refine lv_iload_n hx hb d_Re_takeName_0 rfl (lv_at hl 1 rfl) ?_
  refine lv_istore_n (lv' := [(3, _), (0, _), (1, _), (2, _)]) hx hb d_Re_takeName_1 rfl hl (by decide) rfl (fun ls hl => ?_)
  refine lv_iload_n hx hb d_Re_takeName_2 rfl (lv_at hl 2 rfl) ?_
  refine lv_istore (lv' := [(4, _), (3, _), (0, _), (1, _), (2, _)]) hx hb d_Re_takeName_3 hl (by decide) rfl (fun ls hl => ?_)
  refine lv_iconst (v := 0) hx hb d_Re_takeName_5 (by decide) ?_
  refine lv_topq (y := nI 0) (rfl) ?_
  refine lv_istore (lv' := [(5, _), (4, _), (3, _), (0, _), (1, _), (2, _)]) hx hb d_Re_takeName_6 hl (by decide) rfl (fun ls hl => ?_)
  refine lv_iconst (v := 0) hx hb d_Re_takeName_8 (by decide) ?_
  refine lv_topq (y := nI 0) (rfl) ?_
  refine lv_istore (lv' := [(6, _), (5, _), (4, _), (3, _), (0, _), (1, _), (2, _)]) hx hb d_Re_takeName_9 hl (by decide) rfl (fun ls hl => ?_)
  refine lv_iconst (v := 0) hx hb d_Re_takeName_11 (by decide) ?_
  refine lv_topq (y := nI 0) (rfl) ?_
  refine lv_istore (lv' := [(7, _), (6, _), (5, _), (4, _), (3, _), (0, _), (1, _), (2, _)]) hx hb d_Re_takeName_12 hl (by decide) rfl (fun ls hl => ?_)
  have loop1 : ∀ (n9 : Nat) (k : Nat) (pos : Nat) (low : Nat) (sz : Nat) (nx : Option Nat) (cc9 : Nat) (acc : List Nat) (I9 : Nat → Int32) (F9 : Nat → Nat → Int32) (H : Heap) (locs : List Loc) (ls : Array Slot), (sm [3, 6, 7] I I9) → (sm [4] F F9) → (16639 - k = n9) → (k ≤ 16639) → (rn 16639 t b st9 st9 0 none = (rn (16639 - k) t b pos low sz nx).map (fun r => (acc ++ r.1, r.2.1, cc9 + r.2.2))) → (acc.length = sz ∧ sz ≤ 254) → (pos ≤ 65536 ∧ low ≤ 65536) → (∀ z, nx = some z → I9 6 = nI z ∧ z ≤ 65536) → (I9 3 = nI (L ++ acc).length) → (I9 7 = nI (fw + cc9)) → (BR 0 65536 (F9 4) (L ++ acc)) → va_P D9 cls9 (WW a cB cI cJ cG I9 F9 O) H → va_D A0 (WW a cB cI cJ cG I9 F9 O) → va_S A0 s.heap H locs → lv_has ls 11 [(0, .ref (a 17)), (1, .int (nI st9)), (2, .int (nI b)), (3, .int (nI pos)), (4, .int (nI low)), (5, .int (nI sz)), (6, .int (bI nx.isSome)), (7, .int (nI k))] → W p l e (rm9 2 0 0) s m ([.ref (a 17), .int (nI st9), .int (nI b)] : List Value).toArray below meth c H locs 0 0 Q (F0 m 14 ls []) := by
    intro n9
    induction n9 using Nat.strongRecOn with
    | ind n9 ih =>
      intro k pos low sz nx cc9 acc I9 F9 H locs ls hsI hsF hn9 hk hR hz hpo hnx h3 h7 hB hP hD hS hl
      refine lv_iload hx hb d_Re_takeName_14 (lv_at hl 7 rfl) ?_
      refine lv_sipush (v := 16639) hx hb d_Re_takeName_16 (by decide) ?_
      refine lv_topq (y := nI 16639) (rfl) ?_
      refine lv_icmp_ge (tgt := 267) hx hb d_Re_takeName_19 (by decide) (fun c1 => ?_) (fun c1 => ?_)
      · have c1 : 16639 ≤ k := (nI_leI (a := 16639) (b := k) (by omega) (by omega)).mp c1
        obtain rfl : k = 16639 := by omega
        refine lv_aload_n hx hb d_Re_takeName_267 rfl (lv_at hl 0 rfl) ?_
        refine lv_iconst (v := 3) hx hb d_Re_takeName_268 (by decide) ?_
        refine lv_topq (y := nI 3) (rfl) ?_
        refine lv_iload_n hx hb d_Re_takeName_269 rfl (lv_at hl 3 rfl) ?_
        refine mw_cV (ci := 4) (k := 17) C0 (m_Re_fail l D9 cB cI cJ cG a O _ _ (nI 3) _) g_267 g_4 g_264 g_266 gs_Re_fail ⟨by decide +kernel, by decide +kernel, show Option.map (fun d => d.parameters.length) (parseMethodDescriptor y_Re_fail.desc) = some 2 by decide +kernel⟩ ⟨by decide, by decide⟩ rfl rfl hP hD hS hA rfl ww_17 hl.1 (Nat.le_of_ble_eq_true rfl) rfl d_Re_takeName_270 ⟨by decide, by decide⟩ (fun v9 w9 H locs hq hP hD hS => ?_)
        obtain ⟨I2, F3, hw9, q4⟩ := hq
        subst hw9
        obtain ⟨rfl, sI2, zI2, rfl⟩ := q4
        exact hret _ _ _ _ _ _ _ hS hP hD d_Re_takeName_273 (nr_z (Or.inl rfl)) (Or.inr ⟨(by rw [hR]; rfl), rfl, (sm_tr (sm_mo hsI (by decide)) (sm_mo sI2 (by decide))), (by rw [zI2]; decide), (sm_mo hsF (by decide)), BR_pre hB⟩)
      · have c1 : ¬ (16639 ≤ k) := fun z9 => c1 ((nI_leI (a := 16639) (b := k) (by omega) (by omega)).mpr z9)
        have hf : 16639 - k = (16639 - (k + 1)) + 1 := by omega
        rw [hf] at hR
        refine lv_iload_n hx hb d_Re_takeName_22 rfl (lv_at hl 3 rfl) ?_
        refine lv_aload_n hx hb d_Re_takeName_23 rfl (lv_at hl 0 rfl) ?_
        refine va_get (D := D9) (ci := 4) (C := R_Re) (T := F_Re) (N := 8) hx hb hts i_Re hown hK hP 17 ww_17 rfl 0 (by decide) (hts _ g_120) (fun _ h9 => h9) rfl d_Re_takeName_24 ?_
        refine va_getN (D := D9) (ci := 0) (C := R_By) (T := F_By) (N := 2) hx hb hts i_By hown hK hP 1 ww_1 rfl 1 (by decide) (hts _ g_39) (fun _ h9 => h9) rfl d_Re_takeName_27 ?_
        refine lv_topq (y := nI t.length) (((hsI 2 (by decide)).trans hT2)) ?_
        refine lv_icmp_lt (tgt := 40) hx hb d_Re_takeName_30 (by decide) (fun c5 => ?_) (fun c5 => ?_)
        · have c5 : pos < t.length := (nI_ltI (a := pos) (b := t.length) (by omega) (by omega)).mp c5
          have hT9 : BR 0 65536 (F9 2) t := BR_eq hT (hsF 2 (by decide))
          have hby : tb t pos < 256 := BR_lt hT (by omega) (by omega) (by omega)
          have hLn : (L ++ acc).length = L.length + sz := by rw [List.length_append]; omega
          refine lv_aload_n hx hb d_Re_takeName_40 rfl (lv_at hl 0 rfl) ?_
          refine va_get (D := D9) (ci := 4) (C := R_Re) (T := F_Re) (N := 8) hx hb hts i_Re hown hK hP 17 ww_17 rfl 0 (by decide) (hts _ g_120) (fun _ h9 => h9) rfl d_Re_takeName_41 ?_
          refine lv_iload_n hx hb d_Re_takeName_44 rfl (lv_at hl 3 rfl) ?_
          refine mw_cVN (ci := 0) (k := 1) C0 (m_By_atL_tp l D9 cB cI cJ cG a O _ _ t pos hT9 htl (by omega)) g_259 g_2 g_280 g_258 gs_By_at ⟨by decide +kernel, by decide +kernel, show Option.map (fun d => d.parameters.length) (parseMethodDescriptor y_By_at.desc) = some 1 by decide +kernel⟩ ⟨by decide, by decide⟩ rfl rfl hP hD hS hA rfl ww_1 hl.1 (Nat.le_of_ble_eq_true rfl) rfl d_Re_takeName_45 ⟨by decide, by decide⟩ (fun v9 w9 H locs hq hP hD hS => ?_)
          obtain ⟨I6, F7, hw9, q8⟩ := hq
          subst hw9
          obtain ⟨rfl, rfl, rfl⟩ := q8
          refine lv_istore (lv' := [(8, _), (0, _), (1, _), (2, _), (3, _), (4, _), (5, _), (6, _), (7, _)]) hx hb d_Re_takeName_48 hl (by decide) rfl (fun ls hl => ?_)
          refine lv_iload hx hb d_Re_takeName_50 (lv_at hl 7 rfl) ?_
          refine lv_if_eq (tgt := 65) hx hb d_Re_takeName_52 (by decide) (fun c9 => ?_) (fun c9 => ?_)
          · have c9 : nx.isSome = false := bI_f c9
            obtain rfl : nx = none := by cases nx with | none => rfl | some z => cases c9
            refine lv_iload_n hx hb d_Re_takeName_65 rfl (lv_at hl 3 rfl) ?_
            refine lv_istore (lv' := [(9, _), (8, _), (0, _), (1, _), (2, _), (3, _), (4, _), (5, _), (6, _), (7, _)]) hx hb d_Re_takeName_66 hl (by decide) rfl (fun ls hl => ?_)
            refine lv_iload hx hb d_Re_takeName_68 (lv_at hl 1 rfl) ?_
            refine lv_if_ne (tgt := 129) hx hb d_Re_takeName_70 (by decide) (fun c10 => ?_) (fun c10 => ?_)
            · have c10 : ¬ (tb t pos = 0) := fun z9 => c10 ((nI_eq (a := tb t pos) (b := 0) (by omega) (by omega)).mpr z9)
              refine lv_iload hx hb d_Re_takeName_129 (lv_at hl 1 rfl) ?_
              refine lv_sipush (v := 192) hx hb d_Re_takeName_131 (by decide) ?_
              refine lv_topq (y := nI 192) (rfl) ?_
              refine lv_icmp_lt (tgt := 209) hx hb d_Re_takeName_134 (by decide) (fun c11 => ?_) (fun c11 => ?_)
              · have c11 : tb t pos < 192 := (nI_ltI (a := tb t pos) (b := 192) (by omega) (by omega)).mp c11
                refine lv_aload_n hx hb d_Re_takeName_209 rfl (lv_at hl 2 rfl) ?_
                refine lv_iload_n hx hb d_Re_takeName_210 rfl (lv_at hl 5 rfl) ?_
                refine lv_iload hx hb d_Re_takeName_211 (lv_at hl 1 rfl) ?_
                refine lv_iload hx hb d_Re_takeName_213 (lv_at hl 0 rfl) ?_
                refine lv_iload_n hx hb d_Re_takeName_215 rfl (lv_at hl 3 rfl) ?_
                refine lv_iload hx hb d_Re_takeName_216 (lv_at hl 7 rfl) ?_
                refine mw_cV (ci := 4) (k := 17) C0 (m_Re_isGoodLabel l D9 cB cI cJ cG a O _ _ t ((hsI 2 (by decide)).trans hT2) htl pos (tb t pos) b sz (nI st9) (by omega) (by omega) (by omega) (by omega)) g_296 g_4 g_293 g_295 gs_Re_isGoodLabel ⟨by decide +kernel, by decide +kernel, show Option.map (fun d => d.parameters.length) (parseMethodDescriptor y_Re_isGoodLabel.desc) = some 5 by decide +kernel⟩ ⟨by decide, by decide⟩ rfl rfl hP hD hS hA rfl ww_17 hl.1 (Nat.le_of_ble_eq_true rfl) rfl d_Re_takeName_218 ⟨by decide, by decide⟩ (fun v9 w9 H locs hq hP hD hS => ?_)
                obtain ⟨I12, F13, hw9, q14⟩ := hq
                subst hw9
                rcases q14 with ⟨g15, rfl, rfl, rfl⟩ | ⟨g15, rfl, s16, u17, rfl⟩
                · refine lv_if_ne (tgt := 226) hx hb d_Re_takeName_221 (by decide) (fun c18 => ?_) (fun c18 => ?_)
                  · have hgood : ¬ (63 < tb t pos ∨ 255 < sz + tb t pos + 2 ∨ t.length < pos + 1 + tb t pos ∨ rch t b none < pos + 1 + tb t pos) := by show ¬ (_ ∨ _ ∨ _ ∨ b < _); omega
                    rw [rn_lab c5 c10 (by omega), if_neg hgood, rn_ml] at hR
                    refine lv_aload_n hx hb d_Re_takeName_226 rfl (lv_at hl 2 rfl) ?_
                    refine va_get (D := D9) (ci := 4) (C := R_Re) (T := F_Re) (N := 8) hx hb hts i_Re hown hK hP 17 ww_17 rfl 1 (by decide) (hts _ g_121) (fun _ h9 => h9) rfl d_Re_takeName_227 ?_
                    refine va_getN (D := D9) (ci := 2) (C := R_Ga) (T := F_Ga) (N := 11) hx hb hts i_Ga hown hK hP 19 ww_19 rfl 0 (by decide) (hts _ g_60) (fun _ h9 => h9) rfl d_Re_takeName_230 ?_
                    refine lv_aload_n hx hb d_Re_takeName_233 rfl (lv_at hl 2 rfl) ?_
                    refine va_get (D := D9) (ci := 4) (C := R_Re) (T := F_Re) (N := 8) hx hb hts i_Re hown hK hP 17 ww_17 rfl 0 (by decide) (hts _ g_120) (fun _ h9 => h9) rfl d_Re_takeName_234 ?_
                    refine lv_iload_n hx hb d_Re_takeName_237 rfl (lv_at hl 5 rfl) ?_
                    refine lv_iload hx hb d_Re_takeName_238 (lv_at hl 1 rfl) ?_
                    refine lv_iconst (v := 1) hx hb d_Re_takeName_240 (by decide) ?_
                    refine lv_topq (y := nI 1) (rfl) ?_
                    refine lv_iadd hx hb d_Re_takeName_241 ?_
                    refine lv_topq (y := nI (tb t pos + 1)) (nI_add _ _) ?_
                    refine mw_cVN (ci := 0) (k := 3) C0 (m_By_putFrom_gb_tp l D9 cB cI cJ cG a O _ _ (L ++ acc) t 0 pos (tb t pos + 1) hB hT9 h3 htl (by omega) (by omega)) g_300 g_2 g_297 g_299 gs_By_putFrom ⟨by decide +kernel, by decide +kernel, show Option.map (fun d => d.parameters.length) (parseMethodDescriptor y_By_putFrom.desc) = some 3 by decide +kernel⟩ ⟨by decide, by decide⟩ rfl rfl hP hD hS hA rfl ww_3 hl.1 (Nat.le_of_ble_eq_true rfl) rfl d_Re_takeName_242 ⟨by decide, by decide⟩ (fun v9 w9 H locs hq hP hD hS => ?_)
                    obtain ⟨I19, F20, hw9, q21⟩ := hq
                    subst hw9
                    obtain ⟨rfl, sI19, zI19, sF20, wF20⟩ := q21
                    refine lv_iload hx hb d_Re_takeName_245 (lv_at hl 7 rfl) ?_
                    refine lv_iload hx hb d_Re_takeName_247 (lv_at hl 1 rfl) ?_
                    refine lv_iconst (v := 1) hx hb d_Re_takeName_249 (by decide) ?_
                    refine lv_topq (y := nI 1) (rfl) ?_
                    refine lv_iadd hx hb d_Re_takeName_250 ?_
                    refine lv_topq (y := nI (tb t pos + 1)) (nI_add _ _) ?_
                    refine lv_iadd hx hb d_Re_takeName_251 ?_
                    refine lv_topq (y := nI (sz + (tb t pos + 1))) (nI_add _ _) ?_
                    refine lv_istore (lv' := [(5, _), (9, _), (8, _), (0, _), (1, _), (2, _), (3, _), (4, _), (6, _), (7, _)]) hx hb d_Re_takeName_252 hl (by decide) rfl (fun ls hl => ?_)
                    refine lv_iload_n hx hb d_Re_takeName_254 rfl (lv_at hl 6 rfl) ?_
                    refine lv_iload hx hb d_Re_takeName_255 (lv_at hl 2 rfl) ?_
                    refine lv_iconst (v := 1) hx hb d_Re_takeName_257 (by decide) ?_
                    refine lv_topq (y := nI 1) (rfl) ?_
                    refine lv_iadd hx hb d_Re_takeName_258 ?_
                    refine lv_topq (y := nI (tb t pos + 1)) (nI_add _ _) ?_
                    refine lv_iadd hx hb d_Re_takeName_259 ?_
                    refine lv_topq (y := nI (pos + (tb t pos + 1))) (nI_add _ _) ?_
                    refine lv_istore_n (lv' := [(3, _), (5, _), (9, _), (8, _), (0, _), (1, _), (2, _), (4, _), (6, _), (7, _)]) hx hb d_Re_takeName_260 rfl hl (by decide) rfl (fun ls hl => ?_)
                    refine lv_iinc (lv' := [(7, .int (nI (k + 1))), (3, _), (5, _), (9, _), (8, _), (0, _), (1, _), (2, _), (4, _), (6, _)]) hx hb d_Re_takeName_261 hl (k := 9) rfl (nI_add _ 1) (by decide) rfl (fun ls hl => ?_)
                    refine lv_goto (tgt := 14) hx hb d_Re_takeName_264 (by decide) ?_
                    exact ih _ (by omega) (k + 1) (pos + (tb t pos + 1)) low (sz + (tb t pos + 1)) none cc9 (acc ++ sl9 t pos (tb t pos + 1)) _ _ _ _ _ (sm_tr (sm_mo hsI (by decide)) (sm_mo sI19 (by decide))) (sm_tr (sm_mo hsF (by decide)) (sm_mo sF20 (by decide))) rfl (by omega) hR ⟨by rw [List.length_append, sl9_len (by omega)]; omega, by omega⟩ ⟨by omega, by omega⟩ (fun y hy => by cases hy) (by rw [zI19]; exact congrArg nI (by simp only [List.length_append, sl9_len (show pos + (tb t pos + 1) ≤ t.length by omega)]; omega)) ((sI19 7 (by decide)).trans h7) (by rw [← List.append_assoc]; exact wF20) hP hD hS (lv_pk hl [5, 6, 7, 1, 8, 2, 9, 0] rfl)
                  · exact absurd c18 (by decide)
                · refine lv_if_ne (tgt := 226) hx hb d_Re_takeName_221 (by decide) (fun c22 => ?_) (fun c22 => ?_)
                  · exact absurd c22 (by decide)
                  · have hbad : 63 < tb t pos ∨ 255 < sz + tb t pos + 2 ∨ t.length < pos + 1 + tb t pos ∨ rch t b none < pos + 1 + tb t pos := by show _ ∨ _ ∨ _ ∨ b < _; omega
                    refine lv_iconst (v := 0) hx hb d_Re_takeName_224 (by decide) ?_
                    refine lv_topq (y := nI 0) (rfl) ?_
                    exact hret _ _ _ _ _ _ _ hS hP hD d_Re_takeName_225 (nr_z (Or.inl rfl)) (Or.inr ⟨(by rw [hR, rn_lab c5 c10 (by omega), if_pos hbad]; rfl), rfl, (sm_tr (sm_mo hsI (by decide)) (sm_mo s16 (by decide))), u17, (sm_mo hsF (by decide)), BR_pre hB⟩)
              · have c11 : ¬ (tb t pos < 192) := fun z9 => c11 ((nI_ltI (a := tb t pos) (b := 192) (by omega) (by omega)).mpr z9)
                by_cases hp2 : pos + 2 ≤ t.length
                · have hby2 : tb t (pos + 1) < 256 := BR_lt hT (by omega) (by omega) (by omega)
                  have htg : tg t pos < 16384 := Nat.mod_lt _ (by decide)
                  refine lv_aload_n hx hb d_Re_takeName_137 rfl (lv_at hl 2 rfl) ?_
                  refine va_get (D := D9) (ci := 4) (C := R_Re) (T := F_Re) (N := 8) hx hb hts i_Re hown hK hP 17 ww_17 rfl 0 (by decide) (hts _ g_120) (fun _ h9 => h9) rfl d_Re_takeName_138 ?_
                  refine lv_iload_n hx hb d_Re_takeName_141 rfl (lv_at hl 5 rfl) ?_
                  refine mw_cVN (ci := 0) (k := 1) C0 (m_By_twoAtL_tp l D9 cB cI cJ cG a O _ _ t pos hT9 htl (by omega)) g_255 g_2 g_252 g_254 gs_By_twoAt ⟨by decide +kernel, by decide +kernel, show Option.map (fun d => d.parameters.length) (parseMethodDescriptor y_By_twoAt.desc) = some 1 by decide +kernel⟩ ⟨by decide, by decide⟩ rfl rfl hP hD hS hA rfl ww_1 hl.1 (Nat.le_of_ble_eq_true rfl) rfl d_Re_takeName_142 ⟨by decide, by decide⟩ (fun v9 w9 H locs hq hP hD hS => ?_)
                  obtain ⟨I23, F24, hw9, q25⟩ := hq
                  subst hw9
                  obtain ⟨rfl, rfl, rfl⟩ := q25
                  refine lv_sipush (v := 16383) hx hb d_Re_takeName_145 (by decide) ?_
                  refine lv_topq (y := nI 16383) (rfl) ?_
                  refine lv_iand hx hb d_Re_takeName_148 ?_
                  refine lv_topq (y := nI (tg t pos)) (pk_andN (by omega) 14 (by decide)) ?_
                  refine lv_istore (lv' := [(10, _), (9, _), (8, _), (0, _), (1, _), (2, _), (3, _), (4, _), (5, _), (6, _), (7, _)]) hx hb d_Re_takeName_149 hl (by decide) rfl (fun ls hl => ?_)
                  refine lv_aload_n hx hb d_Re_takeName_151 rfl (lv_at hl 3 rfl) ?_
                  refine lv_iload_n hx hb d_Re_takeName_152 rfl (lv_at hl 6 rfl) ?_
                  refine lv_iload hx hb d_Re_takeName_153 (lv_at hl 1 rfl) ?_
                  refine lv_iload hx hb d_Re_takeName_155 (lv_at hl 0 rfl) ?_
                  refine lv_iload hx hb d_Re_takeName_157 (lv_at hl 7 rfl) ?_
                  refine mw_cV (ci := 4) (k := 17) C0 (m_Re_isGoodPointer l D9 cB cI cJ cG a O _ _ t ((hsI 2 (by decide)).trans hT2) htl pos b (tg t pos) low (by omega) (by omega) (by omega) (by omega)) g_292 g_4 g_289 g_291 gs_Re_isGoodPointer ⟨by decide +kernel, by decide +kernel, show Option.map (fun d => d.parameters.length) (parseMethodDescriptor y_Re_isGoodPointer.desc) = some 4 by decide +kernel⟩ ⟨by decide, by decide⟩ rfl rfl hP hD hS hA rfl ww_17 hl.1 (Nat.le_of_ble_eq_true rfl) rfl d_Re_takeName_159 ⟨by decide, by decide⟩ (fun v9 w9 H locs hq hP hD hS => ?_)
                  obtain ⟨I26, F27, hw9, q28⟩ := hq
                  subst hw9
                  rcases q28 with ⟨g29, rfl, rfl, rfl⟩ | ⟨g29, rfl, s30, u31, rfl⟩
                  · refine lv_if_ne (tgt := 167) hx hb d_Re_takeName_162 (by decide) (fun c32 => ?_) (fun c32 => ?_)
                    · have hgood : ¬ (t.length < pos + 2 ∨ rch t b none < pos + 2 ∨ low ≤ tg t pos) := by show ¬ (_ ∨ b < pos + 2 ∨ _); omega
                      rw [rn_ptr c5 (by omega), if_neg hgood, rn_mp] at hR
                      refine lv_aload_n hx hb d_Re_takeName_167 rfl (lv_at hl 3 rfl) ?_
                      refine lv_iload hx hb d_Re_takeName_168 (lv_at hl 9 rfl) ?_
                      refine lv_topq (y := nI 0) (rfl) ?_
                      refine lv_if_eq (tgt := 180) hx hb d_Re_takeName_170 (by decide) (fun c33 => ?_) (fun c33 => ?_)
                      · refine lv_iload_n hx hb d_Re_takeName_180 rfl (lv_at hl 6 rfl) ?_
                        refine lv_iconst (v := 2) hx hb d_Re_takeName_181 (by decide) ?_
                        refine lv_topq (y := nI 2) (rfl) ?_
                        refine lv_iadd hx hb d_Re_takeName_182 ?_
                        refine lv_topq (y := nI (pos + 2)) (nI_add _ _) ?_
                        refine va_put (D := D9) (ty := .int) (ci := 4) (C := R_Re) (T := F_Re) (N := 8) hx hb hts i_Re t_Re t_Re_ok n_Re hown hK hP hD hS 17 ww_17 rfl 4 (by decide) (hts _ g_125) (fun _ h9 => h9) rfl (by decide +kernel) rfl rfl (Nat.le_of_ble_eq_true rfl) d_Re_takeName_183 (fun H locs hP hD hS => ?_)
                        obtain ⟨I34, aI34, sI34, hP, hD⟩ := fx (P := fun z => va_P D9 cls9 (WW a cB cI cJ cG z _ O) H ∧ va_D A0 (WW a cB cI cJ cG z _ O)) ⟨wp_6 hP, wd_6 hD⟩
                        refine lv_iconst (v := 1) hx hb d_Re_takeName_186 (by decide) ?_
                        refine lv_topq (y := nI 1) (rfl) ?_
                        refine lv_istore (lv' := [(6, _), (10, _), (9, _), (8, _), (0, _), (1, _), (2, _), (3, _), (4, _), (5, _), (7, _)]) hx hb d_Re_takeName_187 hl (by decide) rfl (fun ls hl => ?_)
                        refine lv_aload_n hx hb d_Re_takeName_189 rfl (lv_at hl 4 rfl) ?_
                        refine lv_dup hx hb d_Re_takeName_190 rfl ?_
                        refine va_get (D := D9) (ci := 4) (C := R_Re) (T := F_Re) (N := 8) hx hb hts i_Re hown hK hP 17 ww_17 rfl 5 (by decide) (hts _ g_126) (fun _ h9 => h9) rfl d_Re_takeName_191 ?_
                        refine lv_topq (y := nI (fw + cc9)) (((sI34 7 (by decide)).trans h7)) ?_
                        refine lv_iconst (v := 1) hx hb d_Re_takeName_194 (by decide) ?_
                        refine lv_topq (y := nI 1) (rfl) ?_
                        refine lv_iadd hx hb d_Re_takeName_195 ?_
                        refine lv_topq (y := nI (fw + cc9 + 1)) (nI_add _ _) ?_
                        refine va_put (D := D9) (ty := .int) (ci := 4) (C := R_Re) (T := F_Re) (N := 8) hx hb hts i_Re t_Re t_Re_ok n_Re hown hK hP hD hS 17 ww_17 rfl 5 (by decide) (hts _ g_126) (fun _ h9 => h9) rfl (by decide +kernel) rfl rfl (Nat.le_of_ble_eq_true rfl) d_Re_takeName_196 (fun H locs hP hD hS => ?_)
                        obtain ⟨I35, aI35, sI35, hP, hD⟩ := fx (P := fun z => va_P D9 cls9 (WW a cB cI cJ cG z _ O) H ∧ va_D A0 (WW a cB cI cJ cG z _ O)) ⟨wp_7 hP, wd_7 hD⟩
                        refine lv_iload hx hb d_Re_takeName_199 (lv_at hl 1 rfl) ?_
                        refine lv_istore (lv' := [(4, _), (6, _), (10, _), (9, _), (8, _), (0, _), (1, _), (2, _), (3, _), (5, _), (7, _)]) hx hb d_Re_takeName_201 hl (by decide) rfl (fun ls hl => ?_)
                        refine lv_iload hx hb d_Re_takeName_203 (lv_at hl 2 rfl) ?_
                        refine lv_istore_n (lv' := [(3, _), (4, _), (6, _), (10, _), (9, _), (8, _), (0, _), (1, _), (2, _), (5, _), (7, _)]) hx hb d_Re_takeName_205 rfl hl (by decide) rfl (fun ls hl => ?_)
                        refine lv_goto (tgt := 261) hx hb d_Re_takeName_206 (by decide) ?_
                        refine lv_iinc (lv' := [(7, .int (nI (k + 1))), (3, _), (4, _), (6, _), (10, _), (9, _), (8, _), (0, _), (1, _), (2, _), (5, _)]) hx hb d_Re_takeName_261 hl (k := 10) rfl (nI_add _ 1) (by decide) rfl (fun ls hl => ?_)
                        refine lv_goto (tgt := 14) hx hb d_Re_takeName_264 (by decide) ?_
                        exact ih _ (by omega) (k + 1) (tg t pos) (tg t pos) sz (some (pos + 2)) (cc9 + 1) acc _ _ _ _ _ (sm_tr (sm_tr (sm_mo hsI (by decide)) (sm_mo sI34 (by decide))) (sm_mo sI35 (by decide))) (sm_mo hsF (by decide)) rfl (by omega) hR hz ⟨by omega, by omega⟩ (fun y hy => by cases hy; exact ⟨((sI35 6 (by decide)).trans aI34), by omega⟩) (((sI35 3 (by decide)).trans (sI34 3 (by decide))).trans h3) aI35 hB hP hD hS (lv_pk hl [7, 8, 9, 1, 2, 10, 3, 0] rfl)
                      · exact absurd c33 (by decide)
                    · exact absurd c32 (by decide)
                  · refine lv_if_ne (tgt := 167) hx hb d_Re_takeName_162 (by decide) (fun c36 => ?_) (fun c36 => ?_)
                    · exact absurd c36 (by decide)
                    · have hbad : t.length < pos + 2 ∨ rch t b none < pos + 2 ∨ low ≤ tg t pos := by show _ ∨ b < pos + 2 ∨ _; omega
                      refine lv_iconst (v := 0) hx hb d_Re_takeName_165 (by decide) ?_
                      refine lv_topq (y := nI 0) (rfl) ?_
                      exact hret _ _ _ _ _ _ _ hS hP hD d_Re_takeName_166 (nr_z (Or.inl rfl)) (Or.inr ⟨(by rw [hR, rn_ptr c5 (by omega), if_pos hbad]; rfl), rfl, (sm_tr (sm_mo hsI (by decide)) (sm_mo s30 (by decide))), u31, (sm_mo hsF (by decide)), BR_pre hB⟩)
                · refine lv_aload_n hx hb d_Re_takeName_137 rfl (lv_at hl 2 rfl) ?_
                  refine va_get (D := D9) (ci := 4) (C := R_Re) (T := F_Re) (N := 8) hx hb hts i_Re hown hK hP 17 ww_17 rfl 0 (by decide) (hts _ g_120) (fun _ h9 => h9) rfl d_Re_takeName_138 ?_
                  refine lv_iload_n hx hb d_Re_takeName_141 rfl (lv_at hl 5 rfl) ?_
                  refine mw_cVN (ci := 0) (k := 1) C0 (m_By_twoAt_tp l D9 cB cI cJ cG a O _ _ _) g_255 g_2 g_252 g_254 gs_By_twoAt ⟨by decide +kernel, by decide +kernel, show Option.map (fun d => d.parameters.length) (parseMethodDescriptor y_By_twoAt.desc) = some 1 by decide +kernel⟩ ⟨by decide, by decide⟩ rfl rfl hP hD hS hA rfl ww_1 hl.1 (Nat.le_of_ble_eq_true rfl) rfl d_Re_takeName_142 ⟨by decide, by decide⟩ (fun v9 w9 H locs hq hP hD hS => ?_)
                  obtain ⟨I37, F38, hw9, q39⟩ := hq
                  subst hw9
                  obtain ⟨rfl, rfl, rfl⟩ := q39
                  obtain ⟨w9, hw9, ew9⟩ := bt2_ex (F9 2) (nI pos)
                  refine lv_topq (y := nI w9) (ew9) ?_
                  refine lv_sipush (v := 16383) hx hb d_Re_takeName_145 (by decide) ?_
                  refine lv_topq (y := nI 16383) (rfl) ?_
                  refine lv_iand hx hb d_Re_takeName_148 ?_
                  refine lv_topq (y := nI (w9 % 16384)) (pk_andN (by omega) 14 (by decide)) ?_
                  refine lv_istore (lv' := [(10, _), (9, _), (8, _), (0, _), (1, _), (2, _), (3, _), (4, _), (5, _), (6, _), (7, _)]) hx hb d_Re_takeName_149 hl (by decide) rfl (fun ls hl => ?_)
                  refine lv_aload_n hx hb d_Re_takeName_151 rfl (lv_at hl 3 rfl) ?_
                  refine lv_iload_n hx hb d_Re_takeName_152 rfl (lv_at hl 6 rfl) ?_
                  refine lv_iload hx hb d_Re_takeName_153 (lv_at hl 1 rfl) ?_
                  refine lv_iload hx hb d_Re_takeName_155 (lv_at hl 0 rfl) ?_
                  refine lv_iload hx hb d_Re_takeName_157 (lv_at hl 7 rfl) ?_
                  refine mw_cV (ci := 4) (k := 17) C0 (m_Re_isGoodPointer l D9 cB cI cJ cG a O _ _ t ((hsI 2 (by decide)).trans hT2) htl pos b (w9 % 16384) low (by omega) (by omega) (by omega) (by omega)) g_292 g_4 g_289 g_291 gs_Re_isGoodPointer ⟨by decide +kernel, by decide +kernel, show Option.map (fun d => d.parameters.length) (parseMethodDescriptor y_Re_isGoodPointer.desc) = some 4 by decide +kernel⟩ ⟨by decide, by decide⟩ rfl rfl hP hD hS hA rfl ww_17 hl.1 (Nat.le_of_ble_eq_true rfl) rfl d_Re_takeName_159 ⟨by decide, by decide⟩ (fun v9 w9 H locs hq hP hD hS => ?_)
                  obtain ⟨I40, F41, hw9, q42⟩ := hq
                  subst hw9
                  rcases q42 with ⟨g43, rfl, rfl, rfl⟩ | ⟨g43, rfl, s44, u45, rfl⟩
                  · refine lv_if_ne (tgt := 167) hx hb d_Re_takeName_162 (by decide) (fun c46 => ?_) (fun c46 => ?_)
                    · exfalso; omega
                    · exact absurd c46 (by decide)
                  · refine lv_if_ne (tgt := 167) hx hb d_Re_takeName_162 (by decide) (fun c47 => ?_) (fun c47 => ?_)
                    · exact absurd c47 (by decide)
                    · have hbad : t.length < pos + 2 ∨ rch t b none < pos + 2 ∨ low ≤ tg t pos := by exact Or.inl (by omega)
                      refine lv_iconst (v := 0) hx hb d_Re_takeName_165 (by decide) ?_
                      refine lv_topq (y := nI 0) (rfl) ?_
                      exact hret _ _ _ _ _ _ _ hS hP hD d_Re_takeName_166 (nr_z (Or.inl rfl)) (Or.inr ⟨(by rw [hR, rn_ptr c5 (by omega), if_pos hbad]; rfl), rfl, (sm_tr (sm_mo hsI (by decide)) (sm_mo s44 (by decide))), u45, (sm_mo hsF (by decide)), BR_pre hB⟩)
            · have c10 : tb t pos = 0 := (nI_eq (a := tb t pos) (b := 0) (by omega) (by omega)).mp c10
              refine lv_aload_n hx hb d_Re_takeName_73 rfl (lv_at hl 2 rfl) ?_
              refine va_get (D := D9) (ci := 4) (C := R_Re) (T := F_Re) (N := 8) hx hb hts i_Re hown hK hP 17 ww_17 rfl 1 (by decide) (hts _ g_121) (fun _ h9 => h9) rfl d_Re_takeName_74 ?_
              refine va_getN (D := D9) (ci := 2) (C := R_Ga) (T := F_Ga) (N := 11) hx hb hts i_Ga hown hK hP 19 ww_19 rfl 0 (by decide) (hts _ g_60) (fun _ h9 => h9) rfl d_Re_takeName_77 ?_
              refine lv_iconst (v := 0) hx hb d_Re_takeName_80 (by decide) ?_
              refine lv_topq (y := nI 0) (rfl) ?_
              refine mw_cVN (ci := 0) (k := 3) C0 (m_By_putL_gb l D9 cB cI cJ cG a O _ _ (L ++ acc) 0 (nI 0) hB h3 (by omega)) g_284 g_2 g_281 g_283 gs_By_put ⟨by decide +kernel, by decide +kernel, show Option.map (fun d => d.parameters.length) (parseMethodDescriptor y_By_put.desc) = some 1 by decide +kernel⟩ ⟨by decide, by decide⟩ rfl rfl hP hD hS hA rfl ww_3 hl.1 (Nat.le_of_ble_eq_true rfl) rfl d_Re_takeName_81 ⟨by decide, by decide⟩ (fun v9 w9 H locs hq hP hD hS => ?_)
              obtain ⟨I48, F49, hw9, q50⟩ := hq
              subst hw9
              obtain ⟨rfl, sI48, zI48, sF49, wF49⟩ := q50
              refine lv_aload_n hx hb d_Re_takeName_84 rfl (lv_at hl 2 rfl) ?_
              refine lv_iload hx hb d_Re_takeName_85 (lv_at hl 8 rfl) ?_
              refine lv_topq (y := nI 0) (rfl) ?_
              refine lv_if_eq (tgt := 97) hx hb d_Re_takeName_87 (by decide) (fun c51 => ?_) (fun c51 => ?_)
              · refine lv_iload_n hx hb d_Re_takeName_97 rfl (lv_at hl 5 rfl) ?_
                refine lv_iconst (v := 1) hx hb d_Re_takeName_98 (by decide) ?_
                refine lv_topq (y := nI 1) (rfl) ?_
                refine lv_iadd hx hb d_Re_takeName_99 ?_
                refine lv_topq (y := nI (pos + 1)) (nI_add _ _) ?_
                refine va_put (D := D9) (ty := .int) (ci := 4) (C := R_Re) (T := F_Re) (N := 8) hx hb hts i_Re t_Re t_Re_ok n_Re hown hK hP hD hS 17 ww_17 rfl 4 (by decide) (hts _ g_125) (fun _ h9 => h9) rfl (by decide +kernel) rfl rfl (Nat.le_of_ble_eq_true rfl) d_Re_takeName_100 (fun H locs hP hD hS => ?_)
                obtain ⟨I52, aI52, sI52, hP, hD⟩ := fx (P := fun z => va_P D9 cls9 (WW a cB cI cJ cG z _ O) H ∧ va_D A0 (WW a cB cI cJ cG z _ O)) ⟨wp_6 hP, wd_6 hD⟩
                refine lv_aload_n hx hb d_Re_takeName_103 rfl (lv_at hl 2 rfl) ?_
                refine va_get (D := D9) (ci := 4) (C := R_Re) (T := F_Re) (N := 8) hx hb hts i_Re hown hK hP 17 ww_17 rfl 4 (by decide) (hts _ g_125) (fun _ h9 => h9) rfl d_Re_takeName_104 ?_
                refine lv_topq (y := nI (pos + 1)) (aI52) ?_
                refine lv_iload_n hx hb d_Re_takeName_107 rfl (lv_at hl 4 rfl) ?_
                refine lv_icmp_le (tgt := 123) hx hb d_Re_takeName_108 (by decide) (fun c53 => ?_) (fun c53 => ?_)
                · have c53 : pos + 1 ≤ b := (nI_leI (a := pos + 1) (b := b) (by omega) (by omega)).mp c53
                  refine lv_iconst (v := 1) hx hb d_Re_takeName_123 (by decide) ?_
                  refine lv_topq (y := nI 1) (rfl) ?_
                  refine lv_goto (tgt := 128) hx hb d_Re_takeName_124 (by decide) ?_
                  exact hret _ _ _ _ _ _ _ hS hP hD d_Re_takeName_128 (nr_z (Or.inr rfl)) (Or.inl ⟨acc ++ [0], pos + 1, cc9 + 0, by rw [hR, rn_end c5 c10, if_pos (show Option.getD none (pos + 1) ≤ b from c53)]; rfl, rfl, (sm_tr (sm_tr (sm_mo hsI (by decide)) (sm_mo sI48 (by decide))) (sm_mo sI52 (by decide))), by rw [((sI52 3 (by decide)).trans zI48)]; exact congrArg nI (by simp only [List.length_append, List.length_singleton]; omega), aI52, (((sI52 7 (by decide)).trans (sI48 7 (by decide))).trans h7), (sm_tr (sm_mo hsF (by decide)) (sm_mo sF49 (by decide))), by rw [← List.append_assoc]; exact wF49⟩)
                · have c53 : ¬ (pos + 1 ≤ b) := fun z9 => c53 ((nI_leI (a := pos + 1) (b := b) (by omega) (by omega)).mpr z9)
                  refine lv_aload_n hx hb d_Re_takeName_111 rfl (lv_at hl 2 rfl) ?_
                  refine lv_iconst (v := 5) hx hb d_Re_takeName_112 (by decide) ?_
                  refine lv_topq (y := nI 5) (rfl) ?_
                  refine lv_aload_n hx hb d_Re_takeName_113 rfl (lv_at hl 2 rfl) ?_
                  refine va_get (D := D9) (ci := 4) (C := R_Re) (T := F_Re) (N := 8) hx hb hts i_Re hown hK hP 17 ww_17 rfl 7 (by decide) (hts _ g_130) (fun _ h9 => h9) rfl d_Re_takeName_114 ?_
                  refine mw_cV (ci := 4) (k := 17) C0 (m_Re_fail l D9 cB cI cJ cG a O _ _ (nI 5) _) g_267 g_4 g_264 g_266 gs_Re_fail ⟨by decide +kernel, by decide +kernel, show Option.map (fun d => d.parameters.length) (parseMethodDescriptor y_Re_fail.desc) = some 2 by decide +kernel⟩ ⟨by decide, by decide⟩ rfl rfl hP hD hS hA rfl ww_17 hl.1 (Nat.le_of_ble_eq_true rfl) rfl d_Re_takeName_117 ⟨by decide, by decide⟩ (fun v9 w9 H locs hq hP hD hS => ?_)
                  obtain ⟨I54, F55, hw9, q56⟩ := hq
                  subst hw9
                  obtain ⟨rfl, sI54, zI54, rfl⟩ := q56
                  refine lv_if_eq (tgt := 127) hx hb d_Re_takeName_120 (by decide) (fun c57 => ?_) (fun c57 => ?_)
                  · refine lv_iconst (v := 0) hx hb d_Re_takeName_127 (by decide) ?_
                    refine lv_topq (y := nI 0) (rfl) ?_
                    exact hret _ _ _ _ _ _ _ hS hP hD d_Re_takeName_128 (nr_z (Or.inl rfl)) (Or.inr ⟨(by rw [hR, rn_end c5 c10, if_neg (show ¬ (Option.getD none (pos + 1) ≤ b) from c53)]; rfl), rfl, (sm_tr (sm_tr (sm_tr (sm_mo hsI (by decide)) (sm_mo sI48 (by decide))) (sm_mo sI52 (by decide))) (sm_mo sI54 (by decide))), (by rw [zI54]; decide), (sm_tr (sm_mo hsF (by decide)) (sm_mo sF49 (by decide))), BR_pre (BR_pre wF49)⟩)
                  · exact absurd c57 (by decide)
              · exact absurd c51 (by decide)
          · have c9 : nx.isSome = true := bI_t c9
            obtain ⟨z, rfl⟩ : ∃ z, nx = some z := Option.isSome_iff_exists.mp c9
            obtain ⟨hz6, hzb⟩ := hnx z rfl
            refine lv_aload_n hx hb d_Re_takeName_55 rfl (lv_at hl 1 rfl) ?_
            refine va_get (D := D9) (ci := 4) (C := R_Re) (T := F_Re) (N := 8) hx hb hts i_Re hown hK hP 17 ww_17 rfl 0 (by decide) (hts _ g_120) (fun _ h9 => h9) rfl d_Re_takeName_56 ?_
            refine va_getN (D := D9) (ci := 0) (C := R_By) (T := F_By) (N := 2) hx hb hts i_By hown hK hP 1 ww_1 rfl 1 (by decide) (hts _ g_39) (fun _ h9 => h9) rfl d_Re_takeName_59 ?_
            refine lv_topq (y := nI t.length) (((hsI 2 (by decide)).trans hT2)) ?_
            refine lv_goto (tgt := 66) hx hb d_Re_takeName_62 (by decide) ?_
            refine lv_istore (lv' := [(9, _), (8, _), (0, _), (1, _), (2, _), (3, _), (4, _), (5, _), (6, _), (7, _)]) hx hb d_Re_takeName_66 hl (by decide) rfl (fun ls hl => ?_)
            refine lv_iload hx hb d_Re_takeName_68 (lv_at hl 1 rfl) ?_
            refine lv_if_ne (tgt := 129) hx hb d_Re_takeName_70 (by decide) (fun c58 => ?_) (fun c58 => ?_)
            · have c58 : ¬ (tb t pos = 0) := fun z9 => c58 ((nI_eq (a := tb t pos) (b := 0) (by omega) (by omega)).mpr z9)
              refine lv_iload hx hb d_Re_takeName_129 (lv_at hl 1 rfl) ?_
              refine lv_sipush (v := 192) hx hb d_Re_takeName_131 (by decide) ?_
              refine lv_topq (y := nI 192) (rfl) ?_
              refine lv_icmp_lt (tgt := 209) hx hb d_Re_takeName_134 (by decide) (fun c59 => ?_) (fun c59 => ?_)
              · have c59 : tb t pos < 192 := (nI_ltI (a := tb t pos) (b := 192) (by omega) (by omega)).mp c59
                refine lv_aload_n hx hb d_Re_takeName_209 rfl (lv_at hl 2 rfl) ?_
                refine lv_iload_n hx hb d_Re_takeName_210 rfl (lv_at hl 5 rfl) ?_
                refine lv_iload hx hb d_Re_takeName_211 (lv_at hl 1 rfl) ?_
                refine lv_iload hx hb d_Re_takeName_213 (lv_at hl 0 rfl) ?_
                refine lv_iload_n hx hb d_Re_takeName_215 rfl (lv_at hl 3 rfl) ?_
                refine lv_iload hx hb d_Re_takeName_216 (lv_at hl 7 rfl) ?_
                refine mw_cV (ci := 4) (k := 17) C0 (m_Re_isGoodLabel l D9 cB cI cJ cG a O _ _ t ((hsI 2 (by decide)).trans hT2) htl pos (tb t pos) t.length sz (nI st9) (by omega) (by omega) (by omega) (by omega)) g_296 g_4 g_293 g_295 gs_Re_isGoodLabel ⟨by decide +kernel, by decide +kernel, show Option.map (fun d => d.parameters.length) (parseMethodDescriptor y_Re_isGoodLabel.desc) = some 5 by decide +kernel⟩ ⟨by decide, by decide⟩ rfl rfl hP hD hS hA rfl ww_17 hl.1 (Nat.le_of_ble_eq_true rfl) rfl d_Re_takeName_218 ⟨by decide, by decide⟩ (fun v9 w9 H locs hq hP hD hS => ?_)
                obtain ⟨I60, F61, hw9, q62⟩ := hq
                subst hw9
                rcases q62 with ⟨g63, rfl, rfl, rfl⟩ | ⟨g63, rfl, s64, u65, rfl⟩
                · refine lv_if_ne (tgt := 226) hx hb d_Re_takeName_221 (by decide) (fun c66 => ?_) (fun c66 => ?_)
                  · have hgood : ¬ (63 < tb t pos ∨ 255 < sz + tb t pos + 2 ∨ t.length < pos + 1 + tb t pos ∨ rch t b (some z) < pos + 1 + tb t pos) := by show ¬ (_ ∨ _ ∨ _ ∨ t.length < _); omega
                    rw [rn_lab c5 c58 (by omega), if_neg hgood, rn_ml] at hR
                    refine lv_aload_n hx hb d_Re_takeName_226 rfl (lv_at hl 2 rfl) ?_
                    refine va_get (D := D9) (ci := 4) (C := R_Re) (T := F_Re) (N := 8) hx hb hts i_Re hown hK hP 17 ww_17 rfl 1 (by decide) (hts _ g_121) (fun _ h9 => h9) rfl d_Re_takeName_227 ?_
                    refine va_getN (D := D9) (ci := 2) (C := R_Ga) (T := F_Ga) (N := 11) hx hb hts i_Ga hown hK hP 19 ww_19 rfl 0 (by decide) (hts _ g_60) (fun _ h9 => h9) rfl d_Re_takeName_230 ?_
                    refine lv_aload_n hx hb d_Re_takeName_233 rfl (lv_at hl 2 rfl) ?_
                    refine va_get (D := D9) (ci := 4) (C := R_Re) (T := F_Re) (N := 8) hx hb hts i_Re hown hK hP 17 ww_17 rfl 0 (by decide) (hts _ g_120) (fun _ h9 => h9) rfl d_Re_takeName_234 ?_
                    refine lv_iload_n hx hb d_Re_takeName_237 rfl (lv_at hl 5 rfl) ?_
                    refine lv_iload hx hb d_Re_takeName_238 (lv_at hl 1 rfl) ?_
                    refine lv_iconst (v := 1) hx hb d_Re_takeName_240 (by decide) ?_
                    refine lv_topq (y := nI 1) (rfl) ?_
                    refine lv_iadd hx hb d_Re_takeName_241 ?_
                    refine lv_topq (y := nI (tb t pos + 1)) (nI_add _ _) ?_
                    refine mw_cVN (ci := 0) (k := 3) C0 (m_By_putFrom_gb_tp l D9 cB cI cJ cG a O _ _ (L ++ acc) t 0 pos (tb t pos + 1) hB hT9 h3 htl (by omega) (by omega)) g_300 g_2 g_297 g_299 gs_By_putFrom ⟨by decide +kernel, by decide +kernel, show Option.map (fun d => d.parameters.length) (parseMethodDescriptor y_By_putFrom.desc) = some 3 by decide +kernel⟩ ⟨by decide, by decide⟩ rfl rfl hP hD hS hA rfl ww_3 hl.1 (Nat.le_of_ble_eq_true rfl) rfl d_Re_takeName_242 ⟨by decide, by decide⟩ (fun v9 w9 H locs hq hP hD hS => ?_)
                    obtain ⟨I67, F68, hw9, q69⟩ := hq
                    subst hw9
                    obtain ⟨rfl, sI67, zI67, sF68, wF68⟩ := q69
                    refine lv_iload hx hb d_Re_takeName_245 (lv_at hl 7 rfl) ?_
                    refine lv_iload hx hb d_Re_takeName_247 (lv_at hl 1 rfl) ?_
                    refine lv_iconst (v := 1) hx hb d_Re_takeName_249 (by decide) ?_
                    refine lv_topq (y := nI 1) (rfl) ?_
                    refine lv_iadd hx hb d_Re_takeName_250 ?_
                    refine lv_topq (y := nI (tb t pos + 1)) (nI_add _ _) ?_
                    refine lv_iadd hx hb d_Re_takeName_251 ?_
                    refine lv_topq (y := nI (sz + (tb t pos + 1))) (nI_add _ _) ?_
                    refine lv_istore (lv' := [(5, _), (9, _), (8, _), (0, _), (1, _), (2, _), (3, _), (4, _), (6, _), (7, _)]) hx hb d_Re_takeName_252 hl (by decide) rfl (fun ls hl => ?_)
                    refine lv_iload_n hx hb d_Re_takeName_254 rfl (lv_at hl 6 rfl) ?_
                    refine lv_iload hx hb d_Re_takeName_255 (lv_at hl 2 rfl) ?_
                    refine lv_iconst (v := 1) hx hb d_Re_takeName_257 (by decide) ?_
                    refine lv_topq (y := nI 1) (rfl) ?_
                    refine lv_iadd hx hb d_Re_takeName_258 ?_
                    refine lv_topq (y := nI (tb t pos + 1)) (nI_add _ _) ?_
                    refine lv_iadd hx hb d_Re_takeName_259 ?_
                    refine lv_topq (y := nI (pos + (tb t pos + 1))) (nI_add _ _) ?_
                    refine lv_istore_n (lv' := [(3, _), (5, _), (9, _), (8, _), (0, _), (1, _), (2, _), (4, _), (6, _), (7, _)]) hx hb d_Re_takeName_260 rfl hl (by decide) rfl (fun ls hl => ?_)
                    refine lv_iinc (lv' := [(7, .int (nI (k + 1))), (3, _), (5, _), (9, _), (8, _), (0, _), (1, _), (2, _), (4, _), (6, _)]) hx hb d_Re_takeName_261 hl (k := 9) rfl (nI_add _ 1) (by decide) rfl (fun ls hl => ?_)
                    refine lv_goto (tgt := 14) hx hb d_Re_takeName_264 (by decide) ?_
                    exact ih _ (by omega) (k + 1) (pos + (tb t pos + 1)) low (sz + (tb t pos + 1)) (some z) cc9 (acc ++ sl9 t pos (tb t pos + 1)) _ _ _ _ _ (sm_tr (sm_mo hsI (by decide)) (sm_mo sI67 (by decide))) (sm_tr (sm_mo hsF (by decide)) (sm_mo sF68 (by decide))) rfl (by omega) hR ⟨by rw [List.length_append, sl9_len (by omega)]; omega, by omega⟩ ⟨by omega, by omega⟩ (fun y hy => by cases hy; exact ⟨((sI67 6 (by decide)).trans hz6), hzb⟩) (by rw [zI67]; exact congrArg nI (by simp only [List.length_append, sl9_len (show pos + (tb t pos + 1) ≤ t.length by omega)]; omega)) ((sI67 7 (by decide)).trans h7) (by rw [← List.append_assoc]; exact wF68) hP hD hS (lv_pk hl [5, 6, 7, 1, 8, 2, 9, 0] rfl)
                  · exact absurd c66 (by decide)
                · refine lv_if_ne (tgt := 226) hx hb d_Re_takeName_221 (by decide) (fun c70 => ?_) (fun c70 => ?_)
                  · exact absurd c70 (by decide)
                  · have hbad : 63 < tb t pos ∨ 255 < sz + tb t pos + 2 ∨ t.length < pos + 1 + tb t pos ∨ rch t b (some z) < pos + 1 + tb t pos := by show _ ∨ _ ∨ _ ∨ t.length < _; omega
                    refine lv_iconst (v := 0) hx hb d_Re_takeName_224 (by decide) ?_
                    refine lv_topq (y := nI 0) (rfl) ?_
                    exact hret _ _ _ _ _ _ _ hS hP hD d_Re_takeName_225 (nr_z (Or.inl rfl)) (Or.inr ⟨(by rw [hR, rn_lab c5 c58 (by omega), if_pos hbad]; rfl), rfl, (sm_tr (sm_mo hsI (by decide)) (sm_mo s64 (by decide))), u65, (sm_mo hsF (by decide)), BR_pre hB⟩)
              · have c59 : ¬ (tb t pos < 192) := fun z9 => c59 ((nI_ltI (a := tb t pos) (b := 192) (by omega) (by omega)).mpr z9)
                by_cases hp2 : pos + 2 ≤ t.length
                · have hby2 : tb t (pos + 1) < 256 := BR_lt hT (by omega) (by omega) (by omega)
                  have htg : tg t pos < 16384 := Nat.mod_lt _ (by decide)
                  refine lv_aload_n hx hb d_Re_takeName_137 rfl (lv_at hl 2 rfl) ?_
                  refine va_get (D := D9) (ci := 4) (C := R_Re) (T := F_Re) (N := 8) hx hb hts i_Re hown hK hP 17 ww_17 rfl 0 (by decide) (hts _ g_120) (fun _ h9 => h9) rfl d_Re_takeName_138 ?_
                  refine lv_iload_n hx hb d_Re_takeName_141 rfl (lv_at hl 5 rfl) ?_
                  refine mw_cVN (ci := 0) (k := 1) C0 (m_By_twoAtL_tp l D9 cB cI cJ cG a O _ _ t pos hT9 htl (by omega)) g_255 g_2 g_252 g_254 gs_By_twoAt ⟨by decide +kernel, by decide +kernel, show Option.map (fun d => d.parameters.length) (parseMethodDescriptor y_By_twoAt.desc) = some 1 by decide +kernel⟩ ⟨by decide, by decide⟩ rfl rfl hP hD hS hA rfl ww_1 hl.1 (Nat.le_of_ble_eq_true rfl) rfl d_Re_takeName_142 ⟨by decide, by decide⟩ (fun v9 w9 H locs hq hP hD hS => ?_)
                  obtain ⟨I71, F72, hw9, q73⟩ := hq
                  subst hw9
                  obtain ⟨rfl, rfl, rfl⟩ := q73
                  refine lv_sipush (v := 16383) hx hb d_Re_takeName_145 (by decide) ?_
                  refine lv_topq (y := nI 16383) (rfl) ?_
                  refine lv_iand hx hb d_Re_takeName_148 ?_
                  refine lv_topq (y := nI (tg t pos)) (pk_andN (by omega) 14 (by decide)) ?_
                  refine lv_istore (lv' := [(10, _), (9, _), (8, _), (0, _), (1, _), (2, _), (3, _), (4, _), (5, _), (6, _), (7, _)]) hx hb d_Re_takeName_149 hl (by decide) rfl (fun ls hl => ?_)
                  refine lv_aload_n hx hb d_Re_takeName_151 rfl (lv_at hl 3 rfl) ?_
                  refine lv_iload_n hx hb d_Re_takeName_152 rfl (lv_at hl 6 rfl) ?_
                  refine lv_iload hx hb d_Re_takeName_153 (lv_at hl 1 rfl) ?_
                  refine lv_iload hx hb d_Re_takeName_155 (lv_at hl 0 rfl) ?_
                  refine lv_iload hx hb d_Re_takeName_157 (lv_at hl 7 rfl) ?_
                  refine mw_cV (ci := 4) (k := 17) C0 (m_Re_isGoodPointer l D9 cB cI cJ cG a O _ _ t ((hsI 2 (by decide)).trans hT2) htl pos t.length (tg t pos) low (by omega) (by omega) (by omega) (by omega)) g_292 g_4 g_289 g_291 gs_Re_isGoodPointer ⟨by decide +kernel, by decide +kernel, show Option.map (fun d => d.parameters.length) (parseMethodDescriptor y_Re_isGoodPointer.desc) = some 4 by decide +kernel⟩ ⟨by decide, by decide⟩ rfl rfl hP hD hS hA rfl ww_17 hl.1 (Nat.le_of_ble_eq_true rfl) rfl d_Re_takeName_159 ⟨by decide, by decide⟩ (fun v9 w9 H locs hq hP hD hS => ?_)
                  obtain ⟨I74, F75, hw9, q76⟩ := hq
                  subst hw9
                  rcases q76 with ⟨g77, rfl, rfl, rfl⟩ | ⟨g77, rfl, s78, u79, rfl⟩
                  · refine lv_if_ne (tgt := 167) hx hb d_Re_takeName_162 (by decide) (fun c80 => ?_) (fun c80 => ?_)
                    · have hgood : ¬ (t.length < pos + 2 ∨ rch t b (some z) < pos + 2 ∨ low ≤ tg t pos) := by show ¬ (_ ∨ t.length < pos + 2 ∨ _); omega
                      rw [rn_ptr c5 (by omega), if_neg hgood, rn_mp] at hR
                      refine lv_aload_n hx hb d_Re_takeName_167 rfl (lv_at hl 3 rfl) ?_
                      refine lv_iload hx hb d_Re_takeName_168 (lv_at hl 9 rfl) ?_
                      refine lv_topq (y := nI 1) (rfl) ?_
                      refine lv_if_eq (tgt := 180) hx hb d_Re_takeName_170 (by decide) (fun c81 => ?_) (fun c81 => ?_)
                      · exact absurd c81 (by decide)
                      · refine lv_aload_n hx hb d_Re_takeName_173 rfl (lv_at hl 3 rfl) ?_
                        refine va_get (D := D9) (ci := 4) (C := R_Re) (T := F_Re) (N := 8) hx hb hts i_Re hown hK hP 17 ww_17 rfl 4 (by decide) (hts _ g_125) (fun _ h9 => h9) rfl d_Re_takeName_174 ?_
                        refine lv_topq (y := nI z) (hz6) ?_
                        refine lv_goto (tgt := 183) hx hb d_Re_takeName_177 (by decide) ?_
                        refine va_put (D := D9) (ty := .int) (ci := 4) (C := R_Re) (T := F_Re) (N := 8) hx hb hts i_Re t_Re t_Re_ok n_Re hown hK hP hD hS 17 ww_17 rfl 4 (by decide) (hts _ g_125) (fun _ h9 => h9) rfl (by decide +kernel) rfl rfl (Nat.le_of_ble_eq_true rfl) d_Re_takeName_183 (fun H locs hP hD hS => ?_)
                        obtain ⟨I82, aI82, sI82, hP, hD⟩ := fx (P := fun z => va_P D9 cls9 (WW a cB cI cJ cG z _ O) H ∧ va_D A0 (WW a cB cI cJ cG z _ O)) ⟨wp_6 hP, wd_6 hD⟩
                        refine lv_iconst (v := 1) hx hb d_Re_takeName_186 (by decide) ?_
                        refine lv_topq (y := nI 1) (rfl) ?_
                        refine lv_istore (lv' := [(6, _), (10, _), (9, _), (8, _), (0, _), (1, _), (2, _), (3, _), (4, _), (5, _), (7, _)]) hx hb d_Re_takeName_187 hl (by decide) rfl (fun ls hl => ?_)
                        refine lv_aload_n hx hb d_Re_takeName_189 rfl (lv_at hl 4 rfl) ?_
                        refine lv_dup hx hb d_Re_takeName_190 rfl ?_
                        refine va_get (D := D9) (ci := 4) (C := R_Re) (T := F_Re) (N := 8) hx hb hts i_Re hown hK hP 17 ww_17 rfl 5 (by decide) (hts _ g_126) (fun _ h9 => h9) rfl d_Re_takeName_191 ?_
                        refine lv_topq (y := nI (fw + cc9)) (((sI82 7 (by decide)).trans h7)) ?_
                        refine lv_iconst (v := 1) hx hb d_Re_takeName_194 (by decide) ?_
                        refine lv_topq (y := nI 1) (rfl) ?_
                        refine lv_iadd hx hb d_Re_takeName_195 ?_
                        refine lv_topq (y := nI (fw + cc9 + 1)) (nI_add _ _) ?_
                        refine va_put (D := D9) (ty := .int) (ci := 4) (C := R_Re) (T := F_Re) (N := 8) hx hb hts i_Re t_Re t_Re_ok n_Re hown hK hP hD hS 17 ww_17 rfl 5 (by decide) (hts _ g_126) (fun _ h9 => h9) rfl (by decide +kernel) rfl rfl (Nat.le_of_ble_eq_true rfl) d_Re_takeName_196 (fun H locs hP hD hS => ?_)
                        obtain ⟨I83, aI83, sI83, hP, hD⟩ := fx (P := fun z => va_P D9 cls9 (WW a cB cI cJ cG z _ O) H ∧ va_D A0 (WW a cB cI cJ cG z _ O)) ⟨wp_7 hP, wd_7 hD⟩
                        refine lv_iload hx hb d_Re_takeName_199 (lv_at hl 1 rfl) ?_
                        refine lv_istore (lv' := [(4, _), (6, _), (10, _), (9, _), (8, _), (0, _), (1, _), (2, _), (3, _), (5, _), (7, _)]) hx hb d_Re_takeName_201 hl (by decide) rfl (fun ls hl => ?_)
                        refine lv_iload hx hb d_Re_takeName_203 (lv_at hl 2 rfl) ?_
                        refine lv_istore_n (lv' := [(3, _), (4, _), (6, _), (10, _), (9, _), (8, _), (0, _), (1, _), (2, _), (5, _), (7, _)]) hx hb d_Re_takeName_205 rfl hl (by decide) rfl (fun ls hl => ?_)
                        refine lv_goto (tgt := 261) hx hb d_Re_takeName_206 (by decide) ?_
                        refine lv_iinc (lv' := [(7, .int (nI (k + 1))), (3, _), (4, _), (6, _), (10, _), (9, _), (8, _), (0, _), (1, _), (2, _), (5, _)]) hx hb d_Re_takeName_261 hl (k := 10) rfl (nI_add _ 1) (by decide) rfl (fun ls hl => ?_)
                        refine lv_goto (tgt := 14) hx hb d_Re_takeName_264 (by decide) ?_
                        exact ih _ (by omega) (k + 1) (tg t pos) (tg t pos) sz (some z) (cc9 + 1) acc _ _ _ _ _ (sm_tr (sm_tr (sm_mo hsI (by decide)) (sm_mo sI82 (by decide))) (sm_mo sI83 (by decide))) (sm_mo hsF (by decide)) rfl (by omega) hR hz ⟨by omega, by omega⟩ (fun y hy => by cases hy; exact ⟨((sI83 6 (by decide)).trans aI82), by omega⟩) (((sI83 3 (by decide)).trans (sI82 3 (by decide))).trans h3) aI83 hB hP hD hS (lv_pk hl [7, 8, 9, 1, 2, 10, 3, 0] rfl)
                    · exact absurd c80 (by decide)
                  · refine lv_if_ne (tgt := 167) hx hb d_Re_takeName_162 (by decide) (fun c84 => ?_) (fun c84 => ?_)
                    · exact absurd c84 (by decide)
                    · have hbad : t.length < pos + 2 ∨ rch t b (some z) < pos + 2 ∨ low ≤ tg t pos := by show _ ∨ t.length < pos + 2 ∨ _; omega
                      refine lv_iconst (v := 0) hx hb d_Re_takeName_165 (by decide) ?_
                      refine lv_topq (y := nI 0) (rfl) ?_
                      exact hret _ _ _ _ _ _ _ hS hP hD d_Re_takeName_166 (nr_z (Or.inl rfl)) (Or.inr ⟨(by rw [hR, rn_ptr c5 (by omega), if_pos hbad]; rfl), rfl, (sm_tr (sm_mo hsI (by decide)) (sm_mo s78 (by decide))), u79, (sm_mo hsF (by decide)), BR_pre hB⟩)
                · refine lv_aload_n hx hb d_Re_takeName_137 rfl (lv_at hl 2 rfl) ?_
                  refine va_get (D := D9) (ci := 4) (C := R_Re) (T := F_Re) (N := 8) hx hb hts i_Re hown hK hP 17 ww_17 rfl 0 (by decide) (hts _ g_120) (fun _ h9 => h9) rfl d_Re_takeName_138 ?_
                  refine lv_iload_n hx hb d_Re_takeName_141 rfl (lv_at hl 5 rfl) ?_
                  refine mw_cVN (ci := 0) (k := 1) C0 (m_By_twoAt_tp l D9 cB cI cJ cG a O _ _ _) g_255 g_2 g_252 g_254 gs_By_twoAt ⟨by decide +kernel, by decide +kernel, show Option.map (fun d => d.parameters.length) (parseMethodDescriptor y_By_twoAt.desc) = some 1 by decide +kernel⟩ ⟨by decide, by decide⟩ rfl rfl hP hD hS hA rfl ww_1 hl.1 (Nat.le_of_ble_eq_true rfl) rfl d_Re_takeName_142 ⟨by decide, by decide⟩ (fun v9 w9 H locs hq hP hD hS => ?_)
                  obtain ⟨I85, F86, hw9, q87⟩ := hq
                  subst hw9
                  obtain ⟨rfl, rfl, rfl⟩ := q87
                  obtain ⟨w9, hw9, ew9⟩ := bt2_ex (F9 2) (nI pos)
                  refine lv_topq (y := nI w9) (ew9) ?_
                  refine lv_sipush (v := 16383) hx hb d_Re_takeName_145 (by decide) ?_
                  refine lv_topq (y := nI 16383) (rfl) ?_
                  refine lv_iand hx hb d_Re_takeName_148 ?_
                  refine lv_topq (y := nI (w9 % 16384)) (pk_andN (by omega) 14 (by decide)) ?_
                  refine lv_istore (lv' := [(10, _), (9, _), (8, _), (0, _), (1, _), (2, _), (3, _), (4, _), (5, _), (6, _), (7, _)]) hx hb d_Re_takeName_149 hl (by decide) rfl (fun ls hl => ?_)
                  refine lv_aload_n hx hb d_Re_takeName_151 rfl (lv_at hl 3 rfl) ?_
                  refine lv_iload_n hx hb d_Re_takeName_152 rfl (lv_at hl 6 rfl) ?_
                  refine lv_iload hx hb d_Re_takeName_153 (lv_at hl 1 rfl) ?_
                  refine lv_iload hx hb d_Re_takeName_155 (lv_at hl 0 rfl) ?_
                  refine lv_iload hx hb d_Re_takeName_157 (lv_at hl 7 rfl) ?_
                  refine mw_cV (ci := 4) (k := 17) C0 (m_Re_isGoodPointer l D9 cB cI cJ cG a O _ _ t ((hsI 2 (by decide)).trans hT2) htl pos t.length (w9 % 16384) low (by omega) (by omega) (by omega) (by omega)) g_292 g_4 g_289 g_291 gs_Re_isGoodPointer ⟨by decide +kernel, by decide +kernel, show Option.map (fun d => d.parameters.length) (parseMethodDescriptor y_Re_isGoodPointer.desc) = some 4 by decide +kernel⟩ ⟨by decide, by decide⟩ rfl rfl hP hD hS hA rfl ww_17 hl.1 (Nat.le_of_ble_eq_true rfl) rfl d_Re_takeName_159 ⟨by decide, by decide⟩ (fun v9 w9 H locs hq hP hD hS => ?_)
                  obtain ⟨I88, F89, hw9, q90⟩ := hq
                  subst hw9
                  rcases q90 with ⟨g91, rfl, rfl, rfl⟩ | ⟨g91, rfl, s92, u93, rfl⟩
                  · refine lv_if_ne (tgt := 167) hx hb d_Re_takeName_162 (by decide) (fun c94 => ?_) (fun c94 => ?_)
                    · exfalso; omega
                    · exact absurd c94 (by decide)
                  · refine lv_if_ne (tgt := 167) hx hb d_Re_takeName_162 (by decide) (fun c95 => ?_) (fun c95 => ?_)
                    · exact absurd c95 (by decide)
                    · have hbad : t.length < pos + 2 ∨ rch t b (some z) < pos + 2 ∨ low ≤ tg t pos := by exact Or.inl (by omega)
                      refine lv_iconst (v := 0) hx hb d_Re_takeName_165 (by decide) ?_
                      refine lv_topq (y := nI 0) (rfl) ?_
                      exact hret _ _ _ _ _ _ _ hS hP hD d_Re_takeName_166 (nr_z (Or.inl rfl)) (Or.inr ⟨(by rw [hR, rn_ptr c5 (by omega), if_pos hbad]; rfl), rfl, (sm_tr (sm_mo hsI (by decide)) (sm_mo s92 (by decide))), u93, (sm_mo hsF (by decide)), BR_pre hB⟩)
            · have c58 : tb t pos = 0 := (nI_eq (a := tb t pos) (b := 0) (by omega) (by omega)).mp c58
              refine lv_aload_n hx hb d_Re_takeName_73 rfl (lv_at hl 2 rfl) ?_
              refine va_get (D := D9) (ci := 4) (C := R_Re) (T := F_Re) (N := 8) hx hb hts i_Re hown hK hP 17 ww_17 rfl 1 (by decide) (hts _ g_121) (fun _ h9 => h9) rfl d_Re_takeName_74 ?_
              refine va_getN (D := D9) (ci := 2) (C := R_Ga) (T := F_Ga) (N := 11) hx hb hts i_Ga hown hK hP 19 ww_19 rfl 0 (by decide) (hts _ g_60) (fun _ h9 => h9) rfl d_Re_takeName_77 ?_
              refine lv_iconst (v := 0) hx hb d_Re_takeName_80 (by decide) ?_
              refine lv_topq (y := nI 0) (rfl) ?_
              refine mw_cVN (ci := 0) (k := 3) C0 (m_By_putL_gb l D9 cB cI cJ cG a O _ _ (L ++ acc) 0 (nI 0) hB h3 (by omega)) g_284 g_2 g_281 g_283 gs_By_put ⟨by decide +kernel, by decide +kernel, show Option.map (fun d => d.parameters.length) (parseMethodDescriptor y_By_put.desc) = some 1 by decide +kernel⟩ ⟨by decide, by decide⟩ rfl rfl hP hD hS hA rfl ww_3 hl.1 (Nat.le_of_ble_eq_true rfl) rfl d_Re_takeName_81 ⟨by decide, by decide⟩ (fun v9 w9 H locs hq hP hD hS => ?_)
              obtain ⟨I96, F97, hw9, q98⟩ := hq
              subst hw9
              obtain ⟨rfl, sI96, zI96, sF97, wF97⟩ := q98
              refine lv_aload_n hx hb d_Re_takeName_84 rfl (lv_at hl 2 rfl) ?_
              refine lv_iload hx hb d_Re_takeName_85 (lv_at hl 8 rfl) ?_
              refine lv_topq (y := nI 1) (rfl) ?_
              refine lv_if_eq (tgt := 97) hx hb d_Re_takeName_87 (by decide) (fun c99 => ?_) (fun c99 => ?_)
              · exact absurd c99 (by decide)
              · refine lv_aload_n hx hb d_Re_takeName_90 rfl (lv_at hl 2 rfl) ?_
                refine va_get (D := D9) (ci := 4) (C := R_Re) (T := F_Re) (N := 8) hx hb hts i_Re hown hK hP 17 ww_17 rfl 4 (by decide) (hts _ g_125) (fun _ h9 => h9) rfl d_Re_takeName_91 ?_
                refine lv_topq (y := nI z) (((sI96 6 (by decide)).trans hz6)) ?_
                refine lv_goto (tgt := 100) hx hb d_Re_takeName_94 (by decide) ?_
                refine va_put (D := D9) (ty := .int) (ci := 4) (C := R_Re) (T := F_Re) (N := 8) hx hb hts i_Re t_Re t_Re_ok n_Re hown hK hP hD hS 17 ww_17 rfl 4 (by decide) (hts _ g_125) (fun _ h9 => h9) rfl (by decide +kernel) rfl rfl (Nat.le_of_ble_eq_true rfl) d_Re_takeName_100 (fun H locs hP hD hS => ?_)
                obtain ⟨I100, aI100, sI100, hP, hD⟩ := fx (P := fun z => va_P D9 cls9 (WW a cB cI cJ cG z _ O) H ∧ va_D A0 (WW a cB cI cJ cG z _ O)) ⟨wp_6 hP, wd_6 hD⟩
                refine lv_aload_n hx hb d_Re_takeName_103 rfl (lv_at hl 2 rfl) ?_
                refine va_get (D := D9) (ci := 4) (C := R_Re) (T := F_Re) (N := 8) hx hb hts i_Re hown hK hP 17 ww_17 rfl 4 (by decide) (hts _ g_125) (fun _ h9 => h9) rfl d_Re_takeName_104 ?_
                refine lv_topq (y := nI z) (aI100) ?_
                refine lv_iload_n hx hb d_Re_takeName_107 rfl (lv_at hl 4 rfl) ?_
                refine lv_icmp_le (tgt := 123) hx hb d_Re_takeName_108 (by decide) (fun c101 => ?_) (fun c101 => ?_)
                · have c101 : z ≤ b := (nI_leI (a := z) (b := b) (by omega) (by omega)).mp c101
                  refine lv_iconst (v := 1) hx hb d_Re_takeName_123 (by decide) ?_
                  refine lv_topq (y := nI 1) (rfl) ?_
                  refine lv_goto (tgt := 128) hx hb d_Re_takeName_124 (by decide) ?_
                  exact hret _ _ _ _ _ _ _ hS hP hD d_Re_takeName_128 (nr_z (Or.inr rfl)) (Or.inl ⟨acc ++ [0], z, cc9 + 0, by rw [hR, rn_end c5 c58, if_pos (show Option.getD (some z) (pos + 1) ≤ b from c101)]; rfl, rfl, (sm_tr (sm_tr (sm_mo hsI (by decide)) (sm_mo sI96 (by decide))) (sm_mo sI100 (by decide))), by rw [((sI100 3 (by decide)).trans zI96)]; exact congrArg nI (by simp only [List.length_append, List.length_singleton]; omega), aI100, (((sI100 7 (by decide)).trans (sI96 7 (by decide))).trans h7), (sm_tr (sm_mo hsF (by decide)) (sm_mo sF97 (by decide))), by rw [← List.append_assoc]; exact wF97⟩)
                · have c101 : ¬ (z ≤ b) := fun z9 => c101 ((nI_leI (a := z) (b := b) (by omega) (by omega)).mpr z9)
                  refine lv_aload_n hx hb d_Re_takeName_111 rfl (lv_at hl 2 rfl) ?_
                  refine lv_iconst (v := 5) hx hb d_Re_takeName_112 (by decide) ?_
                  refine lv_topq (y := nI 5) (rfl) ?_
                  refine lv_aload_n hx hb d_Re_takeName_113 rfl (lv_at hl 2 rfl) ?_
                  refine va_get (D := D9) (ci := 4) (C := R_Re) (T := F_Re) (N := 8) hx hb hts i_Re hown hK hP 17 ww_17 rfl 7 (by decide) (hts _ g_130) (fun _ h9 => h9) rfl d_Re_takeName_114 ?_
                  refine mw_cV (ci := 4) (k := 17) C0 (m_Re_fail l D9 cB cI cJ cG a O _ _ (nI 5) _) g_267 g_4 g_264 g_266 gs_Re_fail ⟨by decide +kernel, by decide +kernel, show Option.map (fun d => d.parameters.length) (parseMethodDescriptor y_Re_fail.desc) = some 2 by decide +kernel⟩ ⟨by decide, by decide⟩ rfl rfl hP hD hS hA rfl ww_17 hl.1 (Nat.le_of_ble_eq_true rfl) rfl d_Re_takeName_117 ⟨by decide, by decide⟩ (fun v9 w9 H locs hq hP hD hS => ?_)
                  obtain ⟨I102, F103, hw9, q104⟩ := hq
                  subst hw9
                  obtain ⟨rfl, sI102, zI102, rfl⟩ := q104
                  refine lv_if_eq (tgt := 127) hx hb d_Re_takeName_120 (by decide) (fun c105 => ?_) (fun c105 => ?_)
                  · refine lv_iconst (v := 0) hx hb d_Re_takeName_127 (by decide) ?_
                    refine lv_topq (y := nI 0) (rfl) ?_
                    exact hret _ _ _ _ _ _ _ hS hP hD d_Re_takeName_128 (nr_z (Or.inl rfl)) (Or.inr ⟨(by rw [hR, rn_end c5 c58, if_neg (show ¬ (Option.getD (some z) (pos + 1) ≤ b) from c101)]; rfl), rfl, (sm_tr (sm_tr (sm_tr (sm_mo hsI (by decide)) (sm_mo sI96 (by decide))) (sm_mo sI100 (by decide))) (sm_mo sI102 (by decide))), (by rw [zI102]; decide), (sm_tr (sm_mo hsF (by decide)) (sm_mo sF97 (by decide))), BR_pre (BR_pre wF97)⟩)
                  · exact absurd c105 (by decide)
        · have c5 : ¬ (pos < t.length) := fun z9 => c5 ((nI_ltI (a := pos) (b := t.length) (by omega) (by omega)).mpr z9)
          refine lv_aload_n hx hb d_Re_takeName_33 rfl (lv_at hl 0 rfl) ?_
          refine lv_iconst (v := 1) hx hb d_Re_takeName_34 (by decide) ?_
          refine lv_topq (y := nI 1) (rfl) ?_
          refine lv_iload_n hx hb d_Re_takeName_35 rfl (lv_at hl 3 rfl) ?_
          refine mw_cV (ci := 4) (k := 17) C0 (m_Re_fail l D9 cB cI cJ cG a O _ _ (nI 1) _) g_267 g_4 g_264 g_266 gs_Re_fail ⟨by decide +kernel, by decide +kernel, show Option.map (fun d => d.parameters.length) (parseMethodDescriptor y_Re_fail.desc) = some 2 by decide +kernel⟩ ⟨by decide, by decide⟩ rfl rfl hP hD hS hA rfl ww_17 hl.1 (Nat.le_of_ble_eq_true rfl) rfl d_Re_takeName_36 ⟨by decide, by decide⟩ (fun v9 w9 H locs hq hP hD hS => ?_)
          obtain ⟨I106, F107, hw9, q108⟩ := hq
          subst hw9
          obtain ⟨rfl, sI106, zI106, rfl⟩ := q108
          exact hret _ _ _ _ _ _ _ hS hP hD d_Re_takeName_39 (nr_z (Or.inl rfl)) (Or.inr ⟨(by rw [hR, rn_short (by omega)]; rfl), rfl, (sm_tr (sm_mo hsI (by decide)) (sm_mo sI106 (by decide))), (by rw [zI106]; decide), (sm_mo hsF (by decide)), BR_pre hB⟩)
  exact loop1 _ 0 st9 st9 0 none 0 [] _ _ _ _ _ sm_rf sm_rf rfl (Nat.zero_le _) (rn_id _) ⟨rfl, by decide⟩ ⟨hst9, hst9⟩ (fun z hz => by cases hz) (by rw [List.append_nil]; exact hL3) hfw (by rw [List.append_nil]; exact hBL) hP hD hS (lv_pk hl [5, 6, 7, 4, 3, 2, 1, 0] rfl)
