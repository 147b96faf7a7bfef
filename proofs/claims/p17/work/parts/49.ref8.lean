/-! THE REFERENCE: what the other calls do -/
def cnV (n m p l : Nat) (x : Int32) : Int32 := if x = nI 0 then nI n else if x = nI 1 then nI m else if x = nI 2 then nI p else if x = nI 3 then nI l else -1
def hdV (es : List En9) (id fg : Nat) (x : Int32) : Int32 := if x = nI 0 then nI id else if x = nI 1 then nI fg else nI (cn (x.toNatClampNeg - 2) es)
def hdB (x : Int32) : Prop := x < 0 ∨ nI 6 ≤ x
theorem ub_xor (x y : Int32) : ub (x ^^^ y) = ub x ^^^ ub y := by
  unfold ub
  rw [Int32.toBitVec_xor, BitVec.toNat_xor]
  exact Nat.xor_mod_two_pow (n := 8)
theorem lt_m1 {x : Int32} (h : x < 0) (h2 : ¬ x = -1) : x < -1 := by
  rw [Int32.lt_iff_toInt_lt] at h ⊢
  have h3 : x.toInt ≠ (-1 : Int32).toInt := fun z => h2 (Int32.toInt_inj.mp z)
  have e1 : (-1 : Int32).toInt = -1 := by decide
  have e2 : (0 : Int32).toInt = 0 := by decide
  omega
/-- what goes back onto the tape -/
def bkL (M : List Nat) (x y : Int32) : List Nat := if x < 0 then M else M.set x.toNatClampNeg (tb M x.toNatClampNeg ^^^ ub y)
theorem bkL_len (M : List Nat) (x y : Int32) : (bkL M x y).length = M.length := by
  unfold bkL; split
  · rfl
  · rw [List.length_set]
theorem bkL_at {M : List Nat} {x y : Int32} {i : Nat} (hi : i < M.length) (h31 : M.length < 2 ^ 31) : tb (bkL M x y) i = if nI i = x then tb M i ^^^ ub y else tb M i := by
  unfold bkL
  by_cases h : x < 0
  · rw [if_pos h, if_neg (fun z => by rw [← z] at h; exact nI_pos (by omega) h)]
  · rw [if_neg h]
    obtain ⟨j, hj, rfl⟩ := nI_of h
    rw [nI_clamp hj]
    by_cases he : i = j
    · subst he
      rw [if_pos rfl]
      unfold tb
      rw [List.getD_eq_getElem?_getD, List.getElem?_set_self hi]; rfl
    · rw [if_neg (fun z => he ((nI_eq (by omega) hj).mp z))]
      unfold tb
      rw [List.getD_eq_getElem?_getD, List.getElem?_set_ne (fun z => he z.symm), ← List.getD_eq_getElem?_getD]
theorem take_tb {L : List Nat} {i : Nat} (h : i < L.length) : L.take (i + 1) = L.take i ++ [tb L i] := take_get (tb_in h)
def tdB (a w : Int32) : Prop := w < 0 ∨ nI 4 < w ∨ (a = 0 ∧ nI 2 < w)
def tdV (e : En9) (w : Int32) : Int32 := if w = nI 0 then nI (eT e) else if w = nI 1 then nI (eK e) else if w = nI 2 then nI (eN e).length else if w = nI 3 then nI (eD e).length else eL e
theorem rI_some {a b : Int32} {es : List En9} {r : Nat} (h : rI a b es = some r) : ∃ e, es[r]? = some e ∧ r < es.length := by
  unfold rI at h
  split at h
  · cases h
  · obtain ⟨e, h1, -, -⟩ := ix_some h
    exact ⟨e, h1, (List.getElem?_eq_some_iff.mp h1).1⟩
theorem g_746 : (Cond.fieldLink "WireMessagesModel" (153 : Nat) "WireMessagesModel" "length" "I") ∈ GT := gt_mem 746 (by decide +kernel) rfl
theorem g_747 : (Cond.fieldLink "WireMessagesModel" (173 : Nat) "WireMessagesModel" "pointers" "I") ∈ GT := gt_mem 747 (by decide +kernel) rfl
theorem d_Mo_back_0 : decode b_Mo_back 0 = .ok (.aload_n 0, 1) := by decide +kernel
theorem d_Mo_back_1 : decode b_Mo_back 1 = .ok (.iconst 0, 1) := by decide +kernel
theorem d_Mo_back_2 : decode b_Mo_back 2 = .ok (.putfield 61, 3) := by decide +kernel
theorem d_Mo_back_5 : decode b_Mo_back 5 = .ok (.iload_n 1, 1) := by decide +kernel
theorem d_Mo_back_6 : decode b_Mo_back 6 = .ok (.iconst (-1), 1) := by decide +kernel
theorem d_Mo_back_7 : decode b_Mo_back 7 = .ok (.if_icmp .lt 11, 3) := by decide +kernel
theorem d_Mo_back_10 : decode b_Mo_back 10 = .ok (.iload_n 1, 1) := by decide +kernel
theorem d_Mo_back_11 : decode b_Mo_back 11 = .ok (.aload_n 0, 1) := by decide +kernel
theorem d_Mo_back_12 : decode b_Mo_back 12 = .ok (.getfield 153, 3) := by decide +kernel
theorem d_Mo_back_15 : decode b_Mo_back 15 = .ok (.if_icmp .lt 9, 3) := by decide +kernel
theorem d_Mo_back_18 : decode b_Mo_back 18 = .ok (.aload_n 0, 1) := by decide +kernel
theorem d_Mo_back_19 : decode b_Mo_back 19 = .ok (.iconst 1, 1) := by decide +kernel
theorem d_Mo_back_20 : decode b_Mo_back 20 = .ok (.invokevirtual 138, 3) := by decide +kernel
theorem d_Mo_back_23 : decode b_Mo_back 23 = .ok (.ireturn, 1) := by decide +kernel
theorem d_Mo_back_24 : decode b_Mo_back 24 = .ok (.iconst 0, 1) := by decide +kernel
theorem d_Mo_back_25 : decode b_Mo_back 25 = .ok (.istore_n 3, 1) := by decide +kernel
theorem d_Mo_back_26 : decode b_Mo_back 26 = .ok (.iload_n 3, 1) := by decide +kernel
theorem d_Mo_back_27 : decode b_Mo_back 27 = .ok (.aload_n 0, 1) := by decide +kernel
theorem d_Mo_back_28 : decode b_Mo_back 28 = .ok (.getfield 153, 3) := by decide +kernel
theorem d_Mo_back_31 : decode b_Mo_back 31 = .ok (.if_icmp .ge 33, 3) := by decide +kernel
theorem d_Mo_back_34 : decode b_Mo_back 34 = .ok (.aload_n 0, 1) := by decide +kernel
theorem d_Mo_back_35 : decode b_Mo_back 35 = .ok (.getfield 8, 3) := by decide +kernel
theorem d_Mo_back_38 : decode b_Mo_back 38 = .ok (.iload_n 3, 1) := by decide +kernel
theorem d_Mo_back_39 : decode b_Mo_back 39 = .ok (.aload_n 0, 1) := by decide +kernel
theorem d_Mo_back_40 : decode b_Mo_back 40 = .ok (.getfield 48, 3) := by decide +kernel
theorem d_Mo_back_43 : decode b_Mo_back 43 = .ok (.iload_n 3, 1) := by decide +kernel
theorem d_Mo_back_44 : decode b_Mo_back 44 = .ok (.baload, 1) := by decide +kernel
theorem d_Mo_back_45 : decode b_Mo_back 45 = .ok (.iload_n 3, 1) := by decide +kernel
theorem d_Mo_back_46 : decode b_Mo_back 46 = .ok (.iload_n 1, 1) := by decide +kernel
theorem d_Mo_back_47 : decode b_Mo_back 47 = .ok (.if_icmp .ne 7, 3) := by decide +kernel
theorem d_Mo_back_50 : decode b_Mo_back 50 = .ok (.iload_n 2, 1) := by decide +kernel
theorem d_Mo_back_51 : decode b_Mo_back 51 = .ok (.goto 4, 3) := by decide +kernel
theorem d_Mo_back_54 : decode b_Mo_back 54 = .ok (.iconst 0, 1) := by decide +kernel
theorem d_Mo_back_55 : decode b_Mo_back 55 = .ok (.ixor, 1) := by decide +kernel
theorem d_Mo_back_56 : decode b_Mo_back 56 = .ok (.i2b, 1) := by decide +kernel
theorem d_Mo_back_57 : decode b_Mo_back 57 = .ok (.bastore, 1) := by decide +kernel
theorem d_Mo_back_58 : decode b_Mo_back 58 = .ok (.iinc 3 1, 3) := by decide +kernel
theorem d_Mo_back_61 : decode b_Mo_back 61 = .ok (.goto (-35), 3) := by decide +kernel
theorem d_Mo_back_64 : decode b_Mo_back 64 = .ok (.aload_n 0, 1) := by decide +kernel
theorem d_Mo_back_65 : decode b_Mo_back 65 = .ok (.aload_n 0, 1) := by decide +kernel
theorem d_Mo_back_66 : decode b_Mo_back 66 = .ok (.getfield 153, 3) := by decide +kernel
theorem d_Mo_back_69 : decode b_Mo_back 69 = .ok (.putfield 86, 3) := by decide +kernel
theorem d_Mo_back_72 : decode b_Mo_back 72 = .ok (.aload_n 0, 1) := by decide +kernel
theorem d_Mo_back_73 : decode b_Mo_back 73 = .ok (.getfield 86, 3) := by decide +kernel
theorem d_Mo_back_76 : decode b_Mo_back 76 = .ok (.ireturn, 1) := by decide +kernel
theorem d_Mo_begin_0 : decode b_Mo_begin 0 = .ok (.aload_n 0, 1) := by decide +kernel
theorem d_Mo_begin_1 : decode b_Mo_begin 1 = .ok (.iconst 0, 1) := by decide +kernel
theorem d_Mo_begin_2 : decode b_Mo_begin 2 = .ok (.putfield 61, 3) := by decide +kernel
theorem d_Mo_begin_5 : decode b_Mo_begin 5 = .ok (.aload_n 0, 1) := by decide +kernel
theorem d_Mo_begin_6 : decode b_Mo_begin 6 = .ok (.invokevirtual 128, 3) := by decide +kernel
theorem d_Mo_begin_9 : decode b_Mo_begin 9 = .ok (.aload_n 0, 1) := by decide +kernel
theorem d_Mo_begin_10 : decode b_Mo_begin 10 = .ok (.iload_n 1, 1) := by decide +kernel
theorem d_Mo_begin_11 : decode b_Mo_begin 11 = .ok (.ldc 141, 2) := by decide +kernel
theorem d_Mo_begin_13 : decode b_Mo_begin 13 = .ok (.iand, 1) := by decide +kernel
theorem d_Mo_begin_14 : decode b_Mo_begin 14 = .ok (.putfield 70, 3) := by decide +kernel
theorem d_Mo_begin_17 : decode b_Mo_begin 17 = .ok (.aload_n 0, 1) := by decide +kernel
theorem d_Mo_begin_18 : decode b_Mo_begin 18 = .ok (.iload_n 2, 1) := by decide +kernel
theorem d_Mo_begin_19 : decode b_Mo_begin 19 = .ok (.ldc 141, 2) := by decide +kernel
theorem d_Mo_begin_21 : decode b_Mo_begin 21 = .ok (.iand, 1) := by decide +kernel
theorem d_Mo_begin_22 : decode b_Mo_begin 22 = .ok (.putfield 73, 3) := by decide +kernel
theorem d_Mo_begin_25 : decode b_Mo_begin 25 = .ok (.return_, 1) := by decide +kernel
theorem d_Mo_count_0 : decode b_Mo_count 0 = .ok (.aload_n 0, 1) := by decide +kernel
theorem d_Mo_count_1 : decode b_Mo_count 1 = .ok (.iconst 0, 1) := by decide +kernel
theorem d_Mo_count_2 : decode b_Mo_count 2 = .ok (.putfield 61, 3) := by decide +kernel
theorem d_Mo_count_5 : decode b_Mo_count 5 = .ok (.iload_n 1, 1) := by decide +kernel
theorem d_Mo_count_6 : decode b_Mo_count 6 = .ok (.tableswitch 50 0 3 #[30, 35, 40, 45], 30) := by decide +kernel
theorem d_Mo_count_36 : decode b_Mo_count 36 = .ok (.aload_n 0, 1) := by decide +kernel
theorem d_Mo_count_37 : decode b_Mo_count 37 = .ok (.getfield 86, 3) := by decide +kernel
theorem d_Mo_count_40 : decode b_Mo_count 40 = .ok (.ireturn, 1) := by decide +kernel
theorem d_Mo_count_41 : decode b_Mo_count 41 = .ok (.aload_n 0, 1) := by decide +kernel
theorem d_Mo_count_42 : decode b_Mo_count 42 = .ok (.getfield 153, 3) := by decide +kernel
theorem d_Mo_count_45 : decode b_Mo_count 45 = .ok (.ireturn, 1) := by decide +kernel
theorem d_Mo_count_46 : decode b_Mo_count 46 = .ok (.aload_n 0, 1) := by decide +kernel
theorem d_Mo_count_47 : decode b_Mo_count 47 = .ok (.getfield 173, 3) := by decide +kernel
theorem d_Mo_count_50 : decode b_Mo_count 50 = .ok (.ireturn, 1) := by decide +kernel
theorem d_Mo_count_51 : decode b_Mo_count 51 = .ok (.aload_n 0, 1) := by decide +kernel
theorem d_Mo_count_52 : decode b_Mo_count 52 = .ok (.getfield 134, 3) := by decide +kernel
theorem d_Mo_count_55 : decode b_Mo_count 55 = .ok (.ireturn, 1) := by decide +kernel
theorem d_Mo_count_56 : decode b_Mo_count 56 = .ok (.iconst (-1), 1) := by decide +kernel
theorem d_Mo_count_57 : decode b_Mo_count 57 = .ok (.ireturn, 1) := by decide +kernel
theorem d_Mo_end_0 : decode b_Mo_end 0 = .ok (.aload_n 0, 1) := by decide +kernel
theorem d_Mo_end_1 : decode b_Mo_end 1 = .ok (.iconst 0, 1) := by decide +kernel
theorem d_Mo_end_2 : decode b_Mo_end 2 = .ok (.putfield 61, 3) := by decide +kernel
theorem d_Mo_end_5 : decode b_Mo_end 5 = .ok (.iload_n 1, 1) := by decide +kernel
theorem d_Mo_end_6 : decode b_Mo_end 6 = .ok (.ifCond .lt 11, 3) := by decide +kernel
theorem d_Mo_end_9 : decode b_Mo_end 9 = .ok (.iload_n 1, 1) := by decide +kernel
theorem d_Mo_end_10 : decode b_Mo_end 10 = .ok (.aload_n 0, 1) := by decide +kernel
theorem d_Mo_end_11 : decode b_Mo_end 11 = .ok (.getfield 86, 3) := by decide +kernel
theorem d_Mo_end_14 : decode b_Mo_end 14 = .ok (.if_icmp .le 9, 3) := by decide +kernel
theorem d_Mo_end_17 : decode b_Mo_end 17 = .ok (.aload_n 0, 1) := by decide +kernel
theorem d_Mo_end_18 : decode b_Mo_end 18 = .ok (.iconst 1, 1) := by decide +kernel
theorem d_Mo_end_19 : decode b_Mo_end 19 = .ok (.invokevirtual 138, 3) := by decide +kernel
theorem d_Mo_end_22 : decode b_Mo_end 22 = .ok (.ireturn, 1) := by decide +kernel
theorem d_Mo_end_23 : decode b_Mo_end 23 = .ok (.aload_n 0, 1) := by decide +kernel
theorem d_Mo_end_24 : decode b_Mo_end 24 = .ok (.iload_n 1, 1) := by decide +kernel
theorem d_Mo_end_25 : decode b_Mo_end 25 = .ok (.putfield 86, 3) := by decide +kernel
theorem d_Mo_end_28 : decode b_Mo_end 28 = .ok (.iload_n 1, 1) := by decide +kernel
theorem d_Mo_end_29 : decode b_Mo_end 29 = .ok (.ireturn, 1) := by decide +kernel
theorem d_Mo_faultAt_0 : decode b_Mo_faultAt 0 = .ok (.aload_n 0, 1) := by decide +kernel
theorem d_Mo_faultAt_1 : decode b_Mo_faultAt 1 = .ok (.iconst 0, 1) := by decide +kernel
theorem d_Mo_faultAt_2 : decode b_Mo_faultAt 2 = .ok (.putfield 61, 3) := by decide +kernel
theorem d_Mo_faultAt_5 : decode b_Mo_faultAt 5 = .ok (.aload_n 0, 1) := by decide +kernel
theorem d_Mo_faultAt_6 : decode b_Mo_faultAt 6 = .ok (.getfield 43, 3) := by decide +kernel
theorem d_Mo_faultAt_9 : decode b_Mo_faultAt 9 = .ok (.ireturn, 1) := by decide +kernel
theorem d_Mo_header_0 : decode b_Mo_header 0 = .ok (.aload_n 0, 1) := by decide +kernel
theorem d_Mo_header_1 : decode b_Mo_header 1 = .ok (.iconst 0, 1) := by decide +kernel
theorem d_Mo_header_2 : decode b_Mo_header 2 = .ok (.putfield 61, 3) := by decide +kernel
theorem d_Mo_header_5 : decode b_Mo_header 5 = .ok (.iload_n 1, 1) := by decide +kernel
theorem d_Mo_header_6 : decode b_Mo_header 6 = .ok (.tableswitch 56 0 5 #[38, 43, 48, 48, 48, 48], 38) := by decide +kernel
theorem d_Mo_header_44 : decode b_Mo_header 44 = .ok (.aload_n 0, 1) := by decide +kernel
theorem d_Mo_header_45 : decode b_Mo_header 45 = .ok (.getfield 70, 3) := by decide +kernel
theorem d_Mo_header_48 : decode b_Mo_header 48 = .ok (.ireturn, 1) := by decide +kernel
theorem d_Mo_header_49 : decode b_Mo_header 49 = .ok (.aload_n 0, 1) := by decide +kernel
theorem d_Mo_header_50 : decode b_Mo_header 50 = .ok (.getfield 73, 3) := by decide +kernel
theorem d_Mo_header_53 : decode b_Mo_header 53 = .ok (.ireturn, 1) := by decide +kernel
theorem d_Mo_header_54 : decode b_Mo_header 54 = .ok (.aload_n 0, 1) := by decide +kernel
theorem d_Mo_header_55 : decode b_Mo_header 55 = .ok (.iload_n 1, 1) := by decide +kernel
theorem d_Mo_header_56 : decode b_Mo_header 56 = .ok (.iconst 2, 1) := by decide +kernel
theorem d_Mo_header_57 : decode b_Mo_header 57 = .ok (.isub, 1) := by decide +kernel
theorem d_Mo_header_58 : decode b_Mo_header 58 = .ok (.invokevirtual 76, 3) := by decide +kernel
theorem d_Mo_header_61 : decode b_Mo_header 61 = .ok (.ireturn, 1) := by decide +kernel
theorem d_Mo_header_62 : decode b_Mo_header 62 = .ok (.aload_n 0, 1) := by decide +kernel
theorem d_Mo_header_63 : decode b_Mo_header 63 = .ok (.iconst 1, 1) := by decide +kernel
theorem d_Mo_header_64 : decode b_Mo_header 64 = .ok (.invokevirtual 138, 3) := by decide +kernel
theorem d_Mo_header_67 : decode b_Mo_header 67 = .ok (.ireturn, 1) := by decide +kernel
theorem d_Mo_written_0 : decode b_Mo_written 0 = .ok (.aload_n 0, 1) := by decide +kernel
theorem d_Mo_written_1 : decode b_Mo_written 1 = .ok (.iconst 0, 1) := by decide +kernel
theorem d_Mo_written_2 : decode b_Mo_written 2 = .ok (.putfield 61, 3) := by decide +kernel
theorem d_Mo_written_5 : decode b_Mo_written 5 = .ok (.iload_n 1, 1) := by decide +kernel
theorem d_Mo_written_6 : decode b_Mo_written 6 = .ok (.ifCond .lt 11, 3) := by decide +kernel
theorem d_Mo_written_9 : decode b_Mo_written 9 = .ok (.iload_n 1, 1) := by decide +kernel
theorem d_Mo_written_10 : decode b_Mo_written 10 = .ok (.aload_n 0, 1) := by decide +kernel
theorem d_Mo_written_11 : decode b_Mo_written 11 = .ok (.getfield 153, 3) := by decide +kernel
theorem d_Mo_written_14 : decode b_Mo_written 14 = .ok (.if_icmp .lt 9, 3) := by decide +kernel
theorem d_Mo_written_17 : decode b_Mo_written 17 = .ok (.aload_n 0, 1) := by decide +kernel
theorem d_Mo_written_18 : decode b_Mo_written 18 = .ok (.iconst 1, 1) := by decide +kernel
theorem d_Mo_written_19 : decode b_Mo_written 19 = .ok (.invokevirtual 138, 3) := by decide +kernel
theorem d_Mo_written_22 : decode b_Mo_written 22 = .ok (.ireturn, 1) := by decide +kernel
theorem d_Mo_written_23 : decode b_Mo_written 23 = .ok (.aload_n 0, 1) := by decide +kernel
theorem d_Mo_written_24 : decode b_Mo_written 24 = .ok (.getfield 48, 3) := by decide +kernel
theorem d_Mo_written_27 : decode b_Mo_written 27 = .ok (.iload_n 1, 1) := by decide +kernel
theorem d_Mo_written_28 : decode b_Mo_written 28 = .ok (.baload, 1) := by decide +kernel
theorem d_Mo_written_29 : decode b_Mo_written 29 = .ok (.sipush 255, 3) := by decide +kernel
theorem d_Mo_written_32 : decode b_Mo_written 32 = .ok (.iand, 1) := by decide +kernel
theorem d_Mo_written_33 : decode b_Mo_written 33 = .ok (.ireturn, 1) := by decide +kernel
set_option maxHeartbeats 4000000 in
set_option maxRecDepth 100000 in
set_option maxHeartbeats 4000000 in
set_option maxRecDepth 100000 in
/-- the reference: faultAt -/
theorem m_Mo_faultAt (l : Launch) (D9 : va_G) (cB cI cJ cG : ClassId) (a : Nat → Nat) (O : Nat → Int64) (I : Nat → Int32) (F : Nat → Nat → Int32)  : MC l D9 cB cI cJ cG a O y_Mo_faultAt b_Mo_faultAt 1 (some .int) 0 [.ref (a 33)] I F (fun v I' F' => (∃ w : Int32, v = some (.int w)) ∧ sm [15] I I' ∧ I' 15 = nI 0 ∧ F = F') := by
  refine mc_of (by decide) (Nat.le_of_ble_eq_true rfl) ?_
  intro p e s m below meth c ls A0 Q C0 hP hD hA hS hl hret
  obtain ⟨hx, hb, hml, hr, hlocks, hown, hts, hK⟩ := id C0
  have hl : lv_has ls 1 [(0, .ref (a 33))] := hl
  refine lv_aload_n hx hb d_Mo_faultAt_0 rfl (lv_at hl 0 rfl) ?_
  refine lv_iconst (v := 0) hx hb d_Mo_faultAt_1 (by decide) ?_
  refine lv_topq (y := nI 0) (rfl) ?_
  refine va_put (D := D9) (ty := .int) (ci := 7) (C := R_Mo) (T := F_Mo) (N := 30) hx hb hts i_Mo t_Mo t_Mo_ok n_Mo hown hK hP hD hS 33 ww_33 rfl 0 (by decide) (hts _ g_722) (fun _ h9 => h9) rfl (by decide +kernel) rfl rfl (Nat.le_of_ble_eq_true rfl) d_Mo_faultAt_2 (fun H locs hP hD hS => ?_)
  obtain ⟨I1, aI1, sI1, hP, hD⟩ := fx (P := fun z => va_P D9 cls9 (WW a cB cI cJ cG z _ O) H ∧ va_D A0 (WW a cB cI cJ cG z _ O)) ⟨wp_15 hP, wd_15 hD⟩
  refine lv_aload_n hx hb d_Mo_faultAt_5 rfl (lv_at hl 0 rfl) ?_
  refine va_get (D := D9) (ci := 7) (C := R_Mo) (T := F_Mo) (N := 30) hx hb hts i_Mo hown hK hP 33 ww_33 rfl 16 (by decide) (hts _ g_738) (fun _ h9 => h9) rfl d_Mo_faultAt_6 ?_
  exact hret _ _ _ _ _ _ _ hS hP hD d_Mo_faultAt_9 nr_i (⟨⟨_, rfl⟩, (sm_mo sI1 (by decide)), aI1, rfl⟩)
set_option maxHeartbeats 4000000 in
set_option maxRecDepth 100000 in
/-- the reference: begin -/
theorem m_Mo_begin (l : Launch) (D9 : va_G) (cB cI cJ cG : ClassId) (a : Nat → Nat) (O : Nat → Int64) (I : Nat → Int32) (F : Nat → Nat → Int32) (x y : Int32) : MC l D9 cB cI cJ cG a O y_Mo_begin b_Mo_begin 3 (none) 1 [.ref (a 33), .int (x), .int (y)] I F (fun v I' F' => v = none ∧ sm [15, 17, 18, 19, 20] I I' ∧ I' 15 = nI 0 ∧ I' 17 = nI 0 ∧ I' 18 = nI 0 ∧ I' 19 = nI (un x % 65536) ∧ I' 20 = nI (un y % 65536) ∧ F = F') := by
  refine mc_ofv (by decide) (Nat.le_of_ble_eq_true rfl) ?_
  intro p e s m below meth c ls A0 Q C0 hP hD hA hS hl hret
  obtain ⟨hx, hb, hml, hr, hlocks, hown, hts, hK⟩ := id C0
  have hl : lv_has ls 3 [(0, .ref (a 33)), (1, .int (x)), (2, .int (y))] := hl
  refine lv_aload_n hx hb d_Mo_begin_0 rfl (lv_at hl 0 rfl) ?_
  refine lv_iconst (v := 0) hx hb d_Mo_begin_1 (by decide) ?_
  refine lv_topq (y := nI 0) (rfl) ?_
  refine va_put (D := D9) (ty := .int) (ci := 7) (C := R_Mo) (T := F_Mo) (N := 30) hx hb hts i_Mo t_Mo t_Mo_ok n_Mo hown hK hP hD hS 33 ww_33 rfl 0 (by decide) (hts _ g_722) (fun _ h9 => h9) rfl (by decide +kernel) rfl rfl (Nat.le_of_ble_eq_true rfl) d_Mo_begin_2 (fun H locs hP hD hS => ?_)
  obtain ⟨I1, aI1, sI1, hP, hD⟩ := fx (P := fun z => va_P D9 cls9 (WW a cB cI cJ cG z _ O) H ∧ va_D A0 (WW a cB cI cJ cG z _ O)) ⟨wp_15 hP, wd_15 hD⟩
  refine lv_aload_n hx hb d_Mo_begin_5 rfl (lv_at hl 0 rfl) ?_
  refine mw_cV (ci := 7) (k := 33) C0 (m_Mo_none l D9 cB cI cJ cG a O _ _ ) g_820 g_8 g_817 g_819 gs_Mo_none ⟨by decide +kernel, by decide +kernel, show Option.map (fun d => d.parameters.length) (parseMethodDescriptor y_Mo_none.desc) = some 0 by decide +kernel⟩ ⟨by decide, by decide⟩ rfl rfl hP hD hS hA rfl ww_33 hl.1 (Nat.le_of_ble_eq_true rfl) rfl d_Mo_begin_6 ⟨by decide, by decide⟩ (fun v9 w9 H locs hq hP hD hS => ?_)
  obtain ⟨I2, F3, hw9, q4⟩ := hq
  subst hw9
  obtain ⟨rfl, sa2, u172, u182, u192, u202, rfl⟩ := q4
  refine lv_aload_n hx hb d_Mo_begin_9 rfl (lv_at hl 0 rfl) ?_
  refine lv_iload_n hx hb d_Mo_begin_10 rfl (lv_at hl 1 rfl) ?_
  refine lv_ldc hx hb hown (hts _ g_882) d_Mo_begin_11 ?_
  refine lv_topq (y := nI 65535) (rfl) ?_
  refine lv_iand hx hb d_Mo_begin_13 ?_
  refine lv_topq (y := nI (un x % 65536)) (lo16 _ rfl) ?_
  refine va_put (D := D9) (ty := .int) (ci := 7) (C := R_Mo) (T := F_Mo) (N := 30) hx hb hts i_Mo t_Mo t_Mo_ok n_Mo hown hK hP hD hS 33 ww_33 rfl 6 (by decide) (hts _ g_728) (fun _ h9 => h9) rfl (by decide +kernel) rfl rfl (Nat.le_of_ble_eq_true rfl) d_Mo_begin_14 (fun H locs hP hD hS => ?_)
  obtain ⟨I5, aI5, sI5, hP, hD⟩ := fx (P := fun z => va_P D9 cls9 (WW a cB cI cJ cG z _ O) H ∧ va_D A0 (WW a cB cI cJ cG z _ O)) ⟨wp_19 hP, wd_19 hD⟩
  refine lv_aload_n hx hb d_Mo_begin_17 rfl (lv_at hl 0 rfl) ?_
  refine lv_iload_n hx hb d_Mo_begin_18 rfl (lv_at hl 2 rfl) ?_
  refine lv_ldc hx hb hown (hts _ g_882) d_Mo_begin_19 ?_
  refine lv_topq (y := nI 65535) (rfl) ?_
  refine lv_iand hx hb d_Mo_begin_21 ?_
  refine lv_topq (y := nI (un y % 65536)) (lo16 _ rfl) ?_
  refine va_put (D := D9) (ty := .int) (ci := 7) (C := R_Mo) (T := F_Mo) (N := 30) hx hb hts i_Mo t_Mo t_Mo_ok n_Mo hown hK hP hD hS 33 ww_33 rfl 7 (by decide) (hts _ g_729) (fun _ h9 => h9) rfl (by decide +kernel) rfl rfl (Nat.le_of_ble_eq_true rfl) d_Mo_begin_22 (fun H locs hP hD hS => ?_)
  obtain ⟨I6, aI6, sI6, hP, hD⟩ := fx (P := fun z => va_P D9 cls9 (WW a cB cI cJ cG z _ O) H ∧ va_D A0 (WW a cB cI cJ cG z _ O)) ⟨wp_20 hP, wd_20 hD⟩
  exact hret _ _ _ _ _ _ hS hP hD d_Mo_begin_25 (⟨rfl, (sm_tr (sm_tr (sm_tr (sm_mo sI1 (by decide)) (sm_mo sa2 (by decide))) (sm_mo sI5 (by decide))) (sm_mo sI6 (by decide))), ((sI6 15 (by decide)).trans ((sI5 15 (by decide)).trans ((sa2 15 (by decide)).trans aI1))), ((sI6 17 (by decide)).trans ((sI5 17 (by decide)).trans u172)), ((sI6 18 (by decide)).trans ((sI5 18 (by decide)).trans u182)), ((sI6 19 (by decide)).trans aI5), aI6, rfl⟩)
set_option maxHeartbeats 4000000 in
set_option maxRecDepth 100000 in
/-- the reference: count -/
theorem m_Mo_count (l : Launch) (D9 : va_G) (cB cI cJ cG : ClassId) (a : Nat → Nat) (O : Nat → Int64) (I : Nat → Int32) (F : Nat → Nat → Int32) (n0 m0 p0 l0 : Nat) (x : Int32) (h16 : I 16 = nI n0) (h28 : I 28 = nI m0) (h29 : I 29 = nI p0) (h23 : I 23 = nI l0) : MC l D9 cB cI cJ cG a O y_Mo_count b_Mo_count 2 (some .int) 0 [.ref (a 33), .int (x)] I F (fun v I' F' => v = some (.int (cnV n0 m0 p0 l0 x)) ∧ sm [15] I I' ∧ I' 15 = nI 0 ∧ F = F') := by
  refine mc_of (by decide) (Nat.le_of_ble_eq_true rfl) ?_
  intro p e s m below meth c ls A0 Q C0 hP hD hA hS hl hret
  obtain ⟨hx, hb, hml, hr, hlocks, hown, hts, hK⟩ := id C0
  have hl : lv_has ls 2 [(0, .ref (a 33)), (1, .int (x))] := hl
  refine lv_aload_n hx hb d_Mo_count_0 rfl (lv_at hl 0 rfl) ?_
  refine lv_iconst (v := 0) hx hb d_Mo_count_1 (by decide) ?_
  refine lv_topq (y := nI 0) (rfl) ?_
  refine va_put (D := D9) (ty := .int) (ci := 7) (C := R_Mo) (T := F_Mo) (N := 30) hx hb hts i_Mo t_Mo t_Mo_ok n_Mo hown hK hP hD hS 33 ww_33 rfl 0 (by decide) (hts _ g_722) (fun _ h9 => h9) rfl (by decide +kernel) rfl rfl (Nat.le_of_ble_eq_true rfl) d_Mo_count_2 (fun H locs hP hD hS => ?_)
  obtain ⟨I1, aI1, sI1, hP, hD⟩ := fx (P := fun z => va_P D9 cls9 (WW a cB cI cJ cG z _ O) H ∧ va_D A0 (WW a cB cI cJ cG z _ O)) ⟨wp_15 hP, wd_15 hD⟩
  refine lv_iload_n hx hb d_Mo_count_5 rfl (lv_at hl 1 rfl) ?_
  rcases pk_ix x (n := 4) (by decide) with h9 | h9 | ⟨j9, hj9, e9⟩
  · refine lv_tableOut (tgt := 56) hx hb d_Mo_count_6 (Or.inl (sw_lo h9)) (by decide) ?_
    refine lv_iconst (v := -1) hx hb d_Mo_count_56 (by decide) ?_
    refine lv_topq (y := (-1 : Int32)) rfl ?_
    exact hret _ _ _ _ _ _ _ hS hP hD d_Mo_count_57 nr_i (⟨by unfold cnV; have H9 : ∀ j : Nat, j < 4 → ¬ x = nI j := (fun j hj z => by rw [z] at h9; first | exact nI_pos (by omega) h9 | exact nI_ge (b := 4) hj (by decide) h9); rw [if_neg (H9 0 (by decide)), if_neg (H9 1 (by decide)), if_neg (H9 2 (by decide)), if_neg (H9 3 (by decide))], (sm_mo sI1 (by decide)), aI1, rfl⟩)
  · refine lv_tableOut (tgt := 56) hx hb d_Mo_count_6 (Or.inr (sw_hi h9 (by decide) (by decide))) (by decide) ?_
    refine lv_iconst (v := -1) hx hb d_Mo_count_56 (by decide) ?_
    refine lv_topq (y := (-1 : Int32)) rfl ?_
    exact hret _ _ _ _ _ _ _ hS hP hD d_Mo_count_57 nr_i (⟨by unfold cnV; have H9 : ∀ j : Nat, j < 4 → ¬ x = nI j := (fun j hj z => by rw [z] at h9; first | exact nI_pos (by omega) h9 | exact nI_ge (b := 4) hj (by decide) h9); rw [if_neg (H9 0 (by decide)), if_neg (H9 1 (by decide)), if_neg (H9 2 (by decide)), if_neg (H9 3 (by decide))], (sm_mo sI1 (by decide)), aI1, rfl⟩)
  · rcases (show j9 = 0 ∨ j9 = 1 ∨ j9 = 2 ∨ j9 = 3 by omega) with e8 | e8 | e8 | e8
    · have e7 : x = nI 0 := by rw [e9, e8]
      refine lv_tableIn (tgt := 36) hx hb d_Mo_count_6 (by rw [e7]; decide) (by rw [e7]; decide) (by rw [e7]; rfl) (by decide) ?_
      refine lv_aload_n hx hb d_Mo_count_36 rfl (lv_at hl 0 rfl) ?_
      refine va_get (D := D9) (ci := 7) (C := R_Mo) (T := F_Mo) (N := 30) hx hb hts i_Mo hown hK hP 33 ww_33 rfl 2 (by decide) (hts _ g_724) (fun _ h9 => h9) rfl d_Mo_count_37 ?_
      refine lv_topq (y := nI n0) (((sI1 16 (by decide)).trans h16)) ?_
      exact hret _ _ _ _ _ _ _ hS hP hD d_Mo_count_40 nr_i (⟨by rw [e7]; rfl, (sm_mo sI1 (by decide)), aI1, rfl⟩)
    · have e7 : x = nI 1 := by rw [e9, e8]
      refine lv_tableIn (tgt := 41) hx hb d_Mo_count_6 (by rw [e7]; decide) (by rw [e7]; decide) (by rw [e7]; rfl) (by decide) ?_
      refine lv_aload_n hx hb d_Mo_count_41 rfl (lv_at hl 0 rfl) ?_
      refine va_get (D := D9) (ci := 7) (C := R_Mo) (T := F_Mo) (N := 30) hx hb hts i_Mo hown hK hP 33 ww_33 rfl 24 (by decide) (hts _ g_746) (fun _ h9 => h9) rfl d_Mo_count_42 ?_
      refine lv_topq (y := nI m0) (((sI1 28 (by decide)).trans h28)) ?_
      exact hret _ _ _ _ _ _ _ hS hP hD d_Mo_count_45 nr_i (⟨by rw [e7]; rfl, (sm_mo sI1 (by decide)), aI1, rfl⟩)
    · have e7 : x = nI 2 := by rw [e9, e8]
      refine lv_tableIn (tgt := 46) hx hb d_Mo_count_6 (by rw [e7]; decide) (by rw [e7]; decide) (by rw [e7]; rfl) (by decide) ?_
      refine lv_aload_n hx hb d_Mo_count_46 rfl (lv_at hl 0 rfl) ?_
      refine va_get (D := D9) (ci := 7) (C := R_Mo) (T := F_Mo) (N := 30) hx hb hts i_Mo hown hK hP 33 ww_33 rfl 25 (by decide) (hts _ g_747) (fun _ h9 => h9) rfl d_Mo_count_47 ?_
      refine lv_topq (y := nI p0) (((sI1 29 (by decide)).trans h29)) ?_
      exact hret _ _ _ _ _ _ _ hS hP hD d_Mo_count_50 nr_i (⟨by rw [e7]; rfl, (sm_mo sI1 (by decide)), aI1, rfl⟩)
    · have e7 : x = nI 3 := by rw [e9, e8]
      refine lv_tableIn (tgt := 51) hx hb d_Mo_count_6 (by rw [e7]; decide) (by rw [e7]; decide) (by rw [e7]; rfl) (by decide) ?_
      refine lv_aload_n hx hb d_Mo_count_51 rfl (lv_at hl 0 rfl) ?_
      refine va_get (D := D9) (ci := 7) (C := R_Mo) (T := F_Mo) (N := 30) hx hb hts i_Mo hown hK hP 33 ww_33 rfl 18 (by decide) (hts _ g_740) (fun _ h9 => h9) rfl d_Mo_count_52 ?_
      refine lv_topq (y := nI l0) (((sI1 23 (by decide)).trans h23)) ?_
      exact hret _ _ _ _ _ _ _ hS hP hD d_Mo_count_55 nr_i (⟨by rw [e7]; rfl, (sm_mo sI1 (by decide)), aI1, rfl⟩)
set_option maxHeartbeats 4000000 in
set_option maxRecDepth 100000 in
/-- the reference: header -/
theorem m_Mo_header (l : Launch) (D9 : va_G) (cB cI cJ cG : ClassId) (a : Nat → Nat) (O : Nat → Int64) (I : Nat → Int32) (F : Nat → Nat → Int32) (es : List En9) (hR : MoR F es) (h18 : I 18 = nI es.length) (hO : okE es) (id9 fg : Nat) (x : Int32) (h19 : I 19 = nI id9) (h20 : I 20 = nI fg) : MC l D9 cB cI cJ cG a O y_Mo_header b_Mo_header 2 (some .int) 1 [.ref (a 33), .int (x)] I F (fun v I' F' => (¬ hdB x ∧ v = some (.int (hdV es id9 fg x)) ∧ sm [15] I I' ∧ I' 15 = nI 0 ∧ F = F') ∨ (hdB x ∧ (∃ w : Int32, v = some (.int w)) ∧ sm [15] I I' ∧ I' 15 = nI 1 ∧ F = F')) := by
  refine mc_of (by decide) (Nat.le_of_ble_eq_true rfl) ?_
  intro p e s m below meth c ls A0 Q C0 hP hD hA hS hl hret
  obtain ⟨hx, hb, hml, hr, hlocks, hown, hts, hK⟩ := id C0
  have hl : lv_has ls 2 [(0, .ref (a 33)), (1, .int (x))] := hl
  have hln := okE_len hO
  refine lv_aload_n hx hb d_Mo_header_0 rfl (lv_at hl 0 rfl) ?_
  refine lv_iconst (v := 0) hx hb d_Mo_header_1 (by decide) ?_
  refine lv_topq (y := nI 0) (rfl) ?_
  refine va_put (D := D9) (ty := .int) (ci := 7) (C := R_Mo) (T := F_Mo) (N := 30) hx hb hts i_Mo t_Mo t_Mo_ok n_Mo hown hK hP hD hS 33 ww_33 rfl 0 (by decide) (hts _ g_722) (fun _ h9 => h9) rfl (by decide +kernel) rfl rfl (Nat.le_of_ble_eq_true rfl) d_Mo_header_2 (fun H locs hP hD hS => ?_)
  obtain ⟨I1, aI1, sI1, hP, hD⟩ := fx (P := fun z => va_P D9 cls9 (WW a cB cI cJ cG z _ O) H ∧ va_D A0 (WW a cB cI cJ cG z _ O)) ⟨wp_15 hP, wd_15 hD⟩
  refine lv_iload_n hx hb d_Mo_header_5 rfl (lv_at hl 1 rfl) ?_
  rcases pk_ix x (n := 6) (by decide) with h9 | h9 | ⟨j9, hj9, e9⟩
  · refine lv_tableOut (tgt := 62) hx hb d_Mo_header_6 (Or.inl (sw_lo h9)) (by decide) ?_
    refine lv_aload_n hx hb d_Mo_header_62 rfl (lv_at hl 0 rfl) ?_
    refine lv_iconst (v := 1) hx hb d_Mo_header_63 (by decide) ?_
    refine lv_topq (y := nI 1) (rfl) ?_
    refine mw_cV (ci := 7) (k := 33) C0 (m_Mo_fail l D9 cB cI cJ cG a O _ _ (nI 1)) g_873 g_8 g_870 g_872 gs_Mo_fail ⟨by decide +kernel, by decide +kernel, show Option.map (fun d => d.parameters.length) (parseMethodDescriptor y_Mo_fail.desc) = some 1 by decide +kernel⟩ ⟨by decide, by decide⟩ rfl rfl hP hD hS hA rfl ww_33 hl.1 (Nat.le_of_ble_eq_true rfl) rfl d_Mo_header_64 ⟨by decide, by decide⟩ (fun v9 w9 H locs hq hP hD hS => ?_)
    obtain ⟨I2, F3, hw9, q4⟩ := hq
    subst hw9
    obtain ⟨rfl, sI2, zI2, rfl⟩ := q4
    exact hret _ _ _ _ _ _ _ hS hP hD d_Mo_header_67 nr_i (Or.inr ⟨by first | exact Or.inl h9 | exact Or.inr h9, ⟨_, rfl⟩, (sm_tr (sm_mo sI1 (by decide)) (sm_mo sI2 (by decide))), zI2, rfl⟩)
  · refine lv_tableOut (tgt := 62) hx hb d_Mo_header_6 (Or.inr (sw_hi h9 (by decide) (by decide))) (by decide) ?_
    refine lv_aload_n hx hb d_Mo_header_62 rfl (lv_at hl 0 rfl) ?_
    refine lv_iconst (v := 1) hx hb d_Mo_header_63 (by decide) ?_
    refine lv_topq (y := nI 1) (rfl) ?_
    refine mw_cV (ci := 7) (k := 33) C0 (m_Mo_fail l D9 cB cI cJ cG a O _ _ (nI 1)) g_873 g_8 g_870 g_872 gs_Mo_fail ⟨by decide +kernel, by decide +kernel, show Option.map (fun d => d.parameters.length) (parseMethodDescriptor y_Mo_fail.desc) = some 1 by decide +kernel⟩ ⟨by decide, by decide⟩ rfl rfl hP hD hS hA rfl ww_33 hl.1 (Nat.le_of_ble_eq_true rfl) rfl d_Mo_header_64 ⟨by decide, by decide⟩ (fun v9 w9 H locs hq hP hD hS => ?_)
    obtain ⟨I5, F6, hw9, q7⟩ := hq
    subst hw9
    obtain ⟨rfl, sI5, zI5, rfl⟩ := q7
    exact hret _ _ _ _ _ _ _ hS hP hD d_Mo_header_67 nr_i (Or.inr ⟨by first | exact Or.inl h9 | exact Or.inr h9, ⟨_, rfl⟩, (sm_tr (sm_mo sI1 (by decide)) (sm_mo sI5 (by decide))), zI5, rfl⟩)
  · rcases (show j9 = 0 ∨ j9 = 1 ∨ j9 = 2 ∨ j9 = 3 ∨ j9 = 4 ∨ j9 = 5 by omega) with e8 | e8 | e8 | e8 | e8 | e8
    · have e7 : x = nI 0 := by rw [e9, e8]
      refine lv_tableIn (tgt := 44) hx hb d_Mo_header_6 (by rw [e7]; decide) (by rw [e7]; decide) (by rw [e7]; rfl) (by decide) ?_
      refine lv_aload_n hx hb d_Mo_header_44 rfl (lv_at hl 0 rfl) ?_
      refine va_get (D := D9) (ci := 7) (C := R_Mo) (T := F_Mo) (N := 30) hx hb hts i_Mo hown hK hP 33 ww_33 rfl 6 (by decide) (hts _ g_728) (fun _ h9 => h9) rfl d_Mo_header_45 ?_
      refine lv_topq (y := nI id9) (((sI1 19 (by decide)).trans h19)) ?_
      exact hret _ _ _ _ _ _ _ hS hP hD d_Mo_header_48 nr_i (Or.inl ⟨fun z9 => by rw [e7] at z9; rcases z9 with z9 | z9 <;> exact absurd z9 (by decide), by rw [e7]; rfl, (sm_mo sI1 (by decide)), aI1, rfl⟩)
    · have e7 : x = nI 1 := by rw [e9, e8]
      refine lv_tableIn (tgt := 49) hx hb d_Mo_header_6 (by rw [e7]; decide) (by rw [e7]; decide) (by rw [e7]; rfl) (by decide) ?_
      refine lv_aload_n hx hb d_Mo_header_49 rfl (lv_at hl 0 rfl) ?_
      refine va_get (D := D9) (ci := 7) (C := R_Mo) (T := F_Mo) (N := 30) hx hb hts i_Mo hown hK hP 33 ww_33 rfl 7 (by decide) (hts _ g_729) (fun _ h9 => h9) rfl d_Mo_header_50 ?_
      refine lv_topq (y := nI fg) (((sI1 20 (by decide)).trans h20)) ?_
      exact hret _ _ _ _ _ _ _ hS hP hD d_Mo_header_53 nr_i (Or.inl ⟨fun z9 => by rw [e7] at z9; rcases z9 with z9 | z9 <;> exact absurd z9 (by decide), by rw [e7]; rfl, (sm_mo sI1 (by decide)), aI1, rfl⟩)
    · have e7 : x = nI 2 := by rw [e9, e8]
      refine lv_tableIn (tgt := 54) hx hb d_Mo_header_6 (by rw [e7]; decide) (by rw [e7]; decide) (by rw [e7]; rfl) (by decide) ?_
      refine lv_aload_n hx hb d_Mo_header_54 rfl (lv_at hl 0 rfl) ?_
      refine lv_iload_n hx hb d_Mo_header_55 rfl (lv_at hl 1 rfl) ?_
      refine lv_iconst (v := 2) hx hb d_Mo_header_56 (by decide) ?_
      refine lv_topq (y := nI 2) (rfl) ?_
      refine lv_isub hx hb d_Mo_header_57 ?_
      refine lv_topq (y := nI 0) (by rw [e7]; rfl) ?_
      refine mw_cV (ci := 7) (k := 33) C0 (m_Mo_countOf l D9 cB cI cJ cG a O _ _ es hR ((sI1 18 (by decide)).trans h18) (by omega) (fun e he => (hO.2.2.2 e he).1) 0 (by omega)) g_856 g_8 g_853 g_855 gs_Mo_countOf ⟨by decide +kernel, by decide +kernel, show Option.map (fun d => d.parameters.length) (parseMethodDescriptor y_Mo_countOf.desc) = some 1 by decide +kernel⟩ ⟨by decide, by decide⟩ rfl rfl hP hD hS hA rfl ww_33 hl.1 (Nat.le_of_ble_eq_true rfl) rfl d_Mo_header_58 ⟨by decide, by decide⟩ (fun v9 w9 H locs hq hP hD hS => ?_)
      obtain ⟨I8, F9, hw9, q10⟩ := hq
      subst hw9
      obtain ⟨rfl, rfl, rfl⟩ := q10
      exact hret _ _ _ _ _ _ _ hS hP hD d_Mo_header_61 nr_i (Or.inl ⟨fun z9 => by rw [e7] at z9; rcases z9 with z9 | z9 <;> exact absurd z9 (by decide), by rw [e7]; rfl, (sm_mo sI1 (by decide)), aI1, rfl⟩)
    · have e7 : x = nI 3 := by rw [e9, e8]
      refine lv_tableIn (tgt := 54) hx hb d_Mo_header_6 (by rw [e7]; decide) (by rw [e7]; decide) (by rw [e7]; rfl) (by decide) ?_
      refine lv_aload_n hx hb d_Mo_header_54 rfl (lv_at hl 0 rfl) ?_
      refine lv_iload_n hx hb d_Mo_header_55 rfl (lv_at hl 1 rfl) ?_
      refine lv_iconst (v := 2) hx hb d_Mo_header_56 (by decide) ?_
      refine lv_topq (y := nI 2) (rfl) ?_
      refine lv_isub hx hb d_Mo_header_57 ?_
      refine lv_topq (y := nI 1) (by rw [e7]; rfl) ?_
      refine mw_cV (ci := 7) (k := 33) C0 (m_Mo_countOf l D9 cB cI cJ cG a O _ _ es hR ((sI1 18 (by decide)).trans h18) (by omega) (fun e he => (hO.2.2.2 e he).1) 1 (by omega)) g_856 g_8 g_853 g_855 gs_Mo_countOf ⟨by decide +kernel, by decide +kernel, show Option.map (fun d => d.parameters.length) (parseMethodDescriptor y_Mo_countOf.desc) = some 1 by decide +kernel⟩ ⟨by decide, by decide⟩ rfl rfl hP hD hS hA rfl ww_33 hl.1 (Nat.le_of_ble_eq_true rfl) rfl d_Mo_header_58 ⟨by decide, by decide⟩ (fun v9 w9 H locs hq hP hD hS => ?_)
      obtain ⟨I11, F12, hw9, q13⟩ := hq
      subst hw9
      obtain ⟨rfl, rfl, rfl⟩ := q13
      exact hret _ _ _ _ _ _ _ hS hP hD d_Mo_header_61 nr_i (Or.inl ⟨fun z9 => by rw [e7] at z9; rcases z9 with z9 | z9 <;> exact absurd z9 (by decide), by rw [e7]; rfl, (sm_mo sI1 (by decide)), aI1, rfl⟩)
    · have e7 : x = nI 4 := by rw [e9, e8]
      refine lv_tableIn (tgt := 54) hx hb d_Mo_header_6 (by rw [e7]; decide) (by rw [e7]; decide) (by rw [e7]; rfl) (by decide) ?_
      refine lv_aload_n hx hb d_Mo_header_54 rfl (lv_at hl 0 rfl) ?_
      refine lv_iload_n hx hb d_Mo_header_55 rfl (lv_at hl 1 rfl) ?_
      refine lv_iconst (v := 2) hx hb d_Mo_header_56 (by decide) ?_
      refine lv_topq (y := nI 2) (rfl) ?_
      refine lv_isub hx hb d_Mo_header_57 ?_
      refine lv_topq (y := nI 2) (by rw [e7]; rfl) ?_
      refine mw_cV (ci := 7) (k := 33) C0 (m_Mo_countOf l D9 cB cI cJ cG a O _ _ es hR ((sI1 18 (by decide)).trans h18) (by omega) (fun e he => (hO.2.2.2 e he).1) 2 (by omega)) g_856 g_8 g_853 g_855 gs_Mo_countOf ⟨by decide +kernel, by decide +kernel, show Option.map (fun d => d.parameters.length) (parseMethodDescriptor y_Mo_countOf.desc) = some 1 by decide +kernel⟩ ⟨by decide, by decide⟩ rfl rfl hP hD hS hA rfl ww_33 hl.1 (Nat.le_of_ble_eq_true rfl) rfl d_Mo_header_58 ⟨by decide, by decide⟩ (fun v9 w9 H locs hq hP hD hS => ?_)
      obtain ⟨I14, F15, hw9, q16⟩ := hq
      subst hw9
      obtain ⟨rfl, rfl, rfl⟩ := q16
      exact hret _ _ _ _ _ _ _ hS hP hD d_Mo_header_61 nr_i (Or.inl ⟨fun z9 => by rw [e7] at z9; rcases z9 with z9 | z9 <;> exact absurd z9 (by decide), by rw [e7]; rfl, (sm_mo sI1 (by decide)), aI1, rfl⟩)
    · have e7 : x = nI 5 := by rw [e9, e8]
      refine lv_tableIn (tgt := 54) hx hb d_Mo_header_6 (by rw [e7]; decide) (by rw [e7]; decide) (by rw [e7]; rfl) (by decide) ?_
      refine lv_aload_n hx hb d_Mo_header_54 rfl (lv_at hl 0 rfl) ?_
      refine lv_iload_n hx hb d_Mo_header_55 rfl (lv_at hl 1 rfl) ?_
      refine lv_iconst (v := 2) hx hb d_Mo_header_56 (by decide) ?_
      refine lv_topq (y := nI 2) (rfl) ?_
      refine lv_isub hx hb d_Mo_header_57 ?_
      refine lv_topq (y := nI 3) (by rw [e7]; rfl) ?_
      refine mw_cV (ci := 7) (k := 33) C0 (m_Mo_countOf l D9 cB cI cJ cG a O _ _ es hR ((sI1 18 (by decide)).trans h18) (by omega) (fun e he => (hO.2.2.2 e he).1) 3 (by omega)) g_856 g_8 g_853 g_855 gs_Mo_countOf ⟨by decide +kernel, by decide +kernel, show Option.map (fun d => d.parameters.length) (parseMethodDescriptor y_Mo_countOf.desc) = some 1 by decide +kernel⟩ ⟨by decide, by decide⟩ rfl rfl hP hD hS hA rfl ww_33 hl.1 (Nat.le_of_ble_eq_true rfl) rfl d_Mo_header_58 ⟨by decide, by decide⟩ (fun v9 w9 H locs hq hP hD hS => ?_)
      obtain ⟨I17, F18, hw9, q19⟩ := hq
      subst hw9
      obtain ⟨rfl, rfl, rfl⟩ := q19
      exact hret _ _ _ _ _ _ _ hS hP hD d_Mo_header_61 nr_i (Or.inl ⟨fun z9 => by rw [e7] at z9; rcases z9 with z9 | z9 <;> exact absurd z9 (by decide), by rw [e7]; rfl, (sm_mo sI1 (by decide)), aI1, rfl⟩)
set_option maxHeartbeats 4000000 in
set_option maxRecDepth 100000 in
/-- the reference: end -/
theorem m_Mo_end (l : Launch) (D9 : va_G) (cB cI cJ cG : ClassId) (a : Nat → Nat) (O : Nat → Int64) (I : Nat → Int32) (F : Nat → Nat → Int32) (t : List Nat) (hT : BR 0 65536 (F 34) t) (h16 : I 16 = nI t.length) (htl : t.length ≤ 65536) (x : Int32) : MC l D9 cB cI cJ cG a O y_Mo_end b_Mo_end 2 (some .int) 1 [.ref (a 33), .int (x)] I F (fun v I' F' => (∃ k, k ≤ t.length ∧ x = nI k ∧ v = some (.int x) ∧ sm [15, 16] I I' ∧ I' 15 = nI 0 ∧ I' 16 = nI k ∧ F = F') ∨ ((∀ k, k ≤ t.length → x ≠ nI k) ∧ (∃ w : Int32, v = some (.int w)) ∧ sm [15] I I' ∧ I' 15 = nI 1 ∧ F = F')) := by
  refine mc_of (by decide) (Nat.le_of_ble_eq_true rfl) ?_
  intro p e s m below meth c ls A0 Q C0 hP hD hA hS hl hret
  obtain ⟨hx, hb, hml, hr, hlocks, hown, hts, hK⟩ := id C0
  have hl : lv_has ls 2 [(0, .ref (a 33)), (1, .int (x))] := hl
  rcases pk_ix x (n := t.length + 1) (by omega) with h9 | h9 | ⟨k, hk, rfl⟩
  · refine lv_aload_n hx hb d_Mo_end_0 rfl (lv_at hl 0 rfl) ?_
    refine lv_iconst (v := 0) hx hb d_Mo_end_1 (by decide) ?_
    refine lv_topq (y := nI 0) (rfl) ?_
    refine va_put (D := D9) (ty := .int) (ci := 7) (C := R_Mo) (T := F_Mo) (N := 30) hx hb hts i_Mo t_Mo t_Mo_ok n_Mo hown hK hP hD hS 33 ww_33 rfl 0 (by decide) (hts _ g_722) (fun _ h9 => h9) rfl (by decide +kernel) rfl rfl (Nat.le_of_ble_eq_true rfl) d_Mo_end_2 (fun H locs hP hD hS => ?_)
    obtain ⟨I1, aI1, sI1, hP, hD⟩ := fx (P := fun z => va_P D9 cls9 (WW a cB cI cJ cG z _ O) H ∧ va_D A0 (WW a cB cI cJ cG z _ O)) ⟨wp_15 hP, wd_15 hD⟩
    refine lv_iload_n hx hb d_Mo_end_5 rfl (lv_at hl 1 rfl) ?_
    refine lv_if_lt (tgt := 17) hx hb d_Mo_end_6 (by decide) (fun c2 => ?_) (fun c2 => ?_)
    · refine lv_aload_n hx hb d_Mo_end_17 rfl (lv_at hl 0 rfl) ?_
      refine lv_iconst (v := 1) hx hb d_Mo_end_18 (by decide) ?_
      refine lv_topq (y := nI 1) (rfl) ?_
      refine mw_cV (ci := 7) (k := 33) C0 (m_Mo_fail l D9 cB cI cJ cG a O _ _ (nI 1)) g_873 g_8 g_870 g_872 gs_Mo_fail ⟨by decide +kernel, by decide +kernel, show Option.map (fun d => d.parameters.length) (parseMethodDescriptor y_Mo_fail.desc) = some 1 by decide +kernel⟩ ⟨by decide, by decide⟩ rfl rfl hP hD hS hA rfl ww_33 hl.1 (Nat.le_of_ble_eq_true rfl) rfl d_Mo_end_19 ⟨by decide, by decide⟩ (fun v9 w9 H locs hq hP hD hS => ?_)
      obtain ⟨I3, F4, hw9, q5⟩ := hq
      subst hw9
      obtain ⟨rfl, sI3, zI3, rfl⟩ := q5
      exact hret _ _ _ _ _ _ _ hS hP hD d_Mo_end_22 nr_i (Or.inr ⟨fun k hk z9 => by rw [z9] at h9; exact nI_pos (by omega) h9, ⟨_, rfl⟩, (sm_tr (sm_mo sI1 (by decide)) (sm_mo sI3 (by decide))), zI3, rfl⟩)
    · exact absurd h9 c2
  · refine lv_aload_n hx hb d_Mo_end_0 rfl (lv_at hl 0 rfl) ?_
    refine lv_iconst (v := 0) hx hb d_Mo_end_1 (by decide) ?_
    refine lv_topq (y := nI 0) (rfl) ?_
    refine va_put (D := D9) (ty := .int) (ci := 7) (C := R_Mo) (T := F_Mo) (N := 30) hx hb hts i_Mo t_Mo t_Mo_ok n_Mo hown hK hP hD hS 33 ww_33 rfl 0 (by decide) (hts _ g_722) (fun _ h9 => h9) rfl (by decide +kernel) rfl rfl (Nat.le_of_ble_eq_true rfl) d_Mo_end_2 (fun H locs hP hD hS => ?_)
    obtain ⟨I6, aI6, sI6, hP, hD⟩ := fx (P := fun z => va_P D9 cls9 (WW a cB cI cJ cG z _ O) H ∧ va_D A0 (WW a cB cI cJ cG z _ O)) ⟨wp_15 hP, wd_15 hD⟩
    refine lv_iload_n hx hb d_Mo_end_5 rfl (lv_at hl 1 rfl) ?_
    refine lv_if_lt (tgt := 17) hx hb d_Mo_end_6 (by decide) (fun c7 => ?_) (fun c7 => ?_)
    · exact absurd (Int32.lt_of_le_of_lt (Int32.le_trans (nI_pos' (by omega)) h9) c7) (by simp)
    · refine lv_iload_n hx hb d_Mo_end_9 rfl (lv_at hl 1 rfl) ?_
      refine lv_aload_n hx hb d_Mo_end_10 rfl (lv_at hl 0 rfl) ?_
      refine va_get (D := D9) (ci := 7) (C := R_Mo) (T := F_Mo) (N := 30) hx hb hts i_Mo hown hK hP 33 ww_33 rfl 2 (by decide) (hts _ g_724) (fun _ h9 => h9) rfl d_Mo_end_11 ?_
      refine lv_topq (y := nI t.length) (((sI6 16 (by decide)).trans h16)) ?_
      refine lv_icmp_le (tgt := 23) hx hb d_Mo_end_14 (by decide) (fun c8 => ?_) (fun c8 => ?_)
      · exact absurd (Int32.le_trans h9 c8) (nI_ge (by omega) (by omega))
      · refine lv_aload_n hx hb d_Mo_end_17 rfl (lv_at hl 0 rfl) ?_
        refine lv_iconst (v := 1) hx hb d_Mo_end_18 (by decide) ?_
        refine lv_topq (y := nI 1) (rfl) ?_
        refine mw_cV (ci := 7) (k := 33) C0 (m_Mo_fail l D9 cB cI cJ cG a O _ _ (nI 1)) g_873 g_8 g_870 g_872 gs_Mo_fail ⟨by decide +kernel, by decide +kernel, show Option.map (fun d => d.parameters.length) (parseMethodDescriptor y_Mo_fail.desc) = some 1 by decide +kernel⟩ ⟨by decide, by decide⟩ rfl rfl hP hD hS hA rfl ww_33 hl.1 (Nat.le_of_ble_eq_true rfl) rfl d_Mo_end_19 ⟨by decide, by decide⟩ (fun v9 w9 H locs hq hP hD hS => ?_)
        obtain ⟨I9, F10, hw9, q11⟩ := hq
        subst hw9
        obtain ⟨rfl, sI9, zI9, rfl⟩ := q11
        exact hret _ _ _ _ _ _ _ hS hP hD d_Mo_end_22 nr_i (Or.inr ⟨fun k hk z9 => by rw [z9] at h9; exact nI_ge (b := t.length + 1) (by omega) (by omega) h9, ⟨_, rfl⟩, (sm_tr (sm_mo sI6 (by decide)) (sm_mo sI9 (by decide))), zI9, rfl⟩)
  · refine lv_aload_n hx hb d_Mo_end_0 rfl (lv_at hl 0 rfl) ?_
    refine lv_iconst (v := 0) hx hb d_Mo_end_1 (by decide) ?_
    refine lv_topq (y := nI 0) (rfl) ?_
    refine va_put (D := D9) (ty := .int) (ci := 7) (C := R_Mo) (T := F_Mo) (N := 30) hx hb hts i_Mo t_Mo t_Mo_ok n_Mo hown hK hP hD hS 33 ww_33 rfl 0 (by decide) (hts _ g_722) (fun _ h9 => h9) rfl (by decide +kernel) rfl rfl (Nat.le_of_ble_eq_true rfl) d_Mo_end_2 (fun H locs hP hD hS => ?_)
    obtain ⟨I12, aI12, sI12, hP, hD⟩ := fx (P := fun z => va_P D9 cls9 (WW a cB cI cJ cG z _ O) H ∧ va_D A0 (WW a cB cI cJ cG z _ O)) ⟨wp_15 hP, wd_15 hD⟩
    refine lv_iload_n hx hb d_Mo_end_5 rfl (lv_at hl 1 rfl) ?_
    refine lv_if_lt (tgt := 17) hx hb d_Mo_end_6 (by decide) (fun c13 => ?_) (fun c13 => ?_)
    · have c13 : k < 0 := (nI_ltI (a := k) (b := 0) (by omega) (by omega)).mp c13
      exfalso; omega
    · have c13 : ¬ (k < 0) := fun z9 => c13 ((nI_ltI (a := k) (b := 0) (by omega) (by omega)).mpr z9)
      refine lv_iload_n hx hb d_Mo_end_9 rfl (lv_at hl 1 rfl) ?_
      refine lv_aload_n hx hb d_Mo_end_10 rfl (lv_at hl 0 rfl) ?_
      refine va_get (D := D9) (ci := 7) (C := R_Mo) (T := F_Mo) (N := 30) hx hb hts i_Mo hown hK hP 33 ww_33 rfl 2 (by decide) (hts _ g_724) (fun _ h9 => h9) rfl d_Mo_end_11 ?_
      refine lv_topq (y := nI t.length) (((sI12 16 (by decide)).trans h16)) ?_
      refine lv_icmp_le (tgt := 23) hx hb d_Mo_end_14 (by decide) (fun c14 => ?_) (fun c14 => ?_)
      · have c14 : k ≤ t.length := (nI_leI (a := k) (b := t.length) (by omega) (by omega)).mp c14
        refine lv_aload_n hx hb d_Mo_end_23 rfl (lv_at hl 0 rfl) ?_
        refine lv_iload_n hx hb d_Mo_end_24 rfl (lv_at hl 1 rfl) ?_
        refine va_put (D := D9) (ty := .int) (ci := 7) (C := R_Mo) (T := F_Mo) (N := 30) hx hb hts i_Mo t_Mo t_Mo_ok n_Mo hown hK hP hD hS 33 ww_33 rfl 2 (by decide) (hts _ g_724) (fun _ h9 => h9) rfl (by decide +kernel) rfl rfl (Nat.le_of_ble_eq_true rfl) d_Mo_end_25 (fun H locs hP hD hS => ?_)
        obtain ⟨I15, aI15, sI15, hP, hD⟩ := fx (P := fun z => va_P D9 cls9 (WW a cB cI cJ cG z _ O) H ∧ va_D A0 (WW a cB cI cJ cG z _ O)) ⟨wp_16 hP, wd_16 hD⟩
        refine lv_iload_n hx hb d_Mo_end_28 rfl (lv_at hl 1 rfl) ?_
        exact hret _ _ _ _ _ _ _ hS hP hD d_Mo_end_29 nr_i (Or.inl ⟨k, by omega, rfl, rfl, (sm_tr (sm_mo sI12 (by decide)) (sm_mo sI15 (by decide))), ((sI15 15 (by decide)).trans aI12), aI15, rfl⟩)
      · have c14 : ¬ (k ≤ t.length) := fun z9 => c14 ((nI_leI (a := k) (b := t.length) (by omega) (by omega)).mpr z9)
        exfalso; omega
set_option maxHeartbeats 4000000 in
set_option maxRecDepth 100000 in
/-- the reference: written -/
theorem m_Mo_written (l : Launch) (D9 : va_G) (cB cI cJ cG : ClassId) (a : Nat → Nat) (O : Nat → Int64) (I : Nat → Int32) (F : Nat → Nat → Int32) (M : List Nat) (hM : BR 0 131200 (F 44) M) (h28 : I 28 = nI M.length) (hMl : M.length ≤ 65536) (x : Int32) : MC l D9 cB cI cJ cG a O y_Mo_written b_Mo_written 2 (some .int) 1 [.ref (a 33), .int (x)] I F (fun v I' F' => (∃ k, k < M.length ∧ x = nI k ∧ v = some (.int (nI (tb M k))) ∧ sm [15] I I' ∧ I' 15 = nI 0 ∧ F = F') ∨ ((∀ k, k < M.length → x ≠ nI k) ∧ (∃ w : Int32, v = some (.int w)) ∧ sm [15] I I' ∧ I' 15 = nI 1 ∧ F = F')) := by
  refine mc_of (by decide) (Nat.le_of_ble_eq_true rfl) ?_
  intro p e s m below meth c ls A0 Q C0 hP hD hA hS hl hret
  obtain ⟨hx, hb, hml, hr, hlocks, hown, hts, hK⟩ := id C0
  have hl : lv_has ls 2 [(0, .ref (a 33)), (1, .int (x))] := hl
  rcases pk_ix x (n := M.length) (by omega) with h9 | h9 | ⟨k, hk, rfl⟩
  · refine lv_aload_n hx hb d_Mo_written_0 rfl (lv_at hl 0 rfl) ?_
    refine lv_iconst (v := 0) hx hb d_Mo_written_1 (by decide) ?_
    refine lv_topq (y := nI 0) (rfl) ?_
    refine va_put (D := D9) (ty := .int) (ci := 7) (C := R_Mo) (T := F_Mo) (N := 30) hx hb hts i_Mo t_Mo t_Mo_ok n_Mo hown hK hP hD hS 33 ww_33 rfl 0 (by decide) (hts _ g_722) (fun _ h9 => h9) rfl (by decide +kernel) rfl rfl (Nat.le_of_ble_eq_true rfl) d_Mo_written_2 (fun H locs hP hD hS => ?_)
    obtain ⟨I1, aI1, sI1, hP, hD⟩ := fx (P := fun z => va_P D9 cls9 (WW a cB cI cJ cG z _ O) H ∧ va_D A0 (WW a cB cI cJ cG z _ O)) ⟨wp_15 hP, wd_15 hD⟩
    refine lv_iload_n hx hb d_Mo_written_5 rfl (lv_at hl 1 rfl) ?_
    refine lv_if_lt (tgt := 17) hx hb d_Mo_written_6 (by decide) (fun c2 => ?_) (fun c2 => ?_)
    · refine lv_aload_n hx hb d_Mo_written_17 rfl (lv_at hl 0 rfl) ?_
      refine lv_iconst (v := 1) hx hb d_Mo_written_18 (by decide) ?_
      refine lv_topq (y := nI 1) (rfl) ?_
      refine mw_cV (ci := 7) (k := 33) C0 (m_Mo_fail l D9 cB cI cJ cG a O _ _ (nI 1)) g_873 g_8 g_870 g_872 gs_Mo_fail ⟨by decide +kernel, by decide +kernel, show Option.map (fun d => d.parameters.length) (parseMethodDescriptor y_Mo_fail.desc) = some 1 by decide +kernel⟩ ⟨by decide, by decide⟩ rfl rfl hP hD hS hA rfl ww_33 hl.1 (Nat.le_of_ble_eq_true rfl) rfl d_Mo_written_19 ⟨by decide, by decide⟩ (fun v9 w9 H locs hq hP hD hS => ?_)
      obtain ⟨I3, F4, hw9, q5⟩ := hq
      subst hw9
      obtain ⟨rfl, sI3, zI3, rfl⟩ := q5
      exact hret _ _ _ _ _ _ _ hS hP hD d_Mo_written_22 nr_i (Or.inr ⟨fun k hk z9 => by rw [z9] at h9; exact nI_pos (by omega) h9, ⟨_, rfl⟩, (sm_tr (sm_mo sI1 (by decide)) (sm_mo sI3 (by decide))), zI3, rfl⟩)
    · exact absurd h9 c2
  · refine lv_aload_n hx hb d_Mo_written_0 rfl (lv_at hl 0 rfl) ?_
    refine lv_iconst (v := 0) hx hb d_Mo_written_1 (by decide) ?_
    refine lv_topq (y := nI 0) (rfl) ?_
    refine va_put (D := D9) (ty := .int) (ci := 7) (C := R_Mo) (T := F_Mo) (N := 30) hx hb hts i_Mo t_Mo t_Mo_ok n_Mo hown hK hP hD hS 33 ww_33 rfl 0 (by decide) (hts _ g_722) (fun _ h9 => h9) rfl (by decide +kernel) rfl rfl (Nat.le_of_ble_eq_true rfl) d_Mo_written_2 (fun H locs hP hD hS => ?_)
    obtain ⟨I6, aI6, sI6, hP, hD⟩ := fx (P := fun z => va_P D9 cls9 (WW a cB cI cJ cG z _ O) H ∧ va_D A0 (WW a cB cI cJ cG z _ O)) ⟨wp_15 hP, wd_15 hD⟩
    refine lv_iload_n hx hb d_Mo_written_5 rfl (lv_at hl 1 rfl) ?_
    refine lv_if_lt (tgt := 17) hx hb d_Mo_written_6 (by decide) (fun c7 => ?_) (fun c7 => ?_)
    · exact absurd (Int32.lt_of_le_of_lt (Int32.le_trans (nI_pos' (by omega)) h9) c7) (by simp)
    · refine lv_iload_n hx hb d_Mo_written_9 rfl (lv_at hl 1 rfl) ?_
      refine lv_aload_n hx hb d_Mo_written_10 rfl (lv_at hl 0 rfl) ?_
      refine va_get (D := D9) (ci := 7) (C := R_Mo) (T := F_Mo) (N := 30) hx hb hts i_Mo hown hK hP 33 ww_33 rfl 24 (by decide) (hts _ g_746) (fun _ h9 => h9) rfl d_Mo_written_11 ?_
      refine lv_topq (y := nI M.length) (((sI6 28 (by decide)).trans h28)) ?_
      refine lv_icmp_lt (tgt := 23) hx hb d_Mo_written_14 (by decide) (fun c8 => ?_) (fun c8 => ?_)
      · exact absurd (Int32.lt_of_le_of_lt h9 c8) (by simp)
      · refine lv_aload_n hx hb d_Mo_written_17 rfl (lv_at hl 0 rfl) ?_
        refine lv_iconst (v := 1) hx hb d_Mo_written_18 (by decide) ?_
        refine lv_topq (y := nI 1) (rfl) ?_
        refine mw_cV (ci := 7) (k := 33) C0 (m_Mo_fail l D9 cB cI cJ cG a O _ _ (nI 1)) g_873 g_8 g_870 g_872 gs_Mo_fail ⟨by decide +kernel, by decide +kernel, show Option.map (fun d => d.parameters.length) (parseMethodDescriptor y_Mo_fail.desc) = some 1 by decide +kernel⟩ ⟨by decide, by decide⟩ rfl rfl hP hD hS hA rfl ww_33 hl.1 (Nat.le_of_ble_eq_true rfl) rfl d_Mo_written_19 ⟨by decide, by decide⟩ (fun v9 w9 H locs hq hP hD hS => ?_)
        obtain ⟨I9, F10, hw9, q11⟩ := hq
        subst hw9
        obtain ⟨rfl, sI9, zI9, rfl⟩ := q11
        exact hret _ _ _ _ _ _ _ hS hP hD d_Mo_written_22 nr_i (Or.inr ⟨fun k hk z9 => by rw [z9] at h9; exact nI_ge hk (by omega) h9, ⟨_, rfl⟩, (sm_tr (sm_mo sI6 (by decide)) (sm_mo sI9 (by decide))), zI9, rfl⟩)
  · refine lv_aload_n hx hb d_Mo_written_0 rfl (lv_at hl 0 rfl) ?_
    refine lv_iconst (v := 0) hx hb d_Mo_written_1 (by decide) ?_
    refine lv_topq (y := nI 0) (rfl) ?_
    refine va_put (D := D9) (ty := .int) (ci := 7) (C := R_Mo) (T := F_Mo) (N := 30) hx hb hts i_Mo t_Mo t_Mo_ok n_Mo hown hK hP hD hS 33 ww_33 rfl 0 (by decide) (hts _ g_722) (fun _ h9 => h9) rfl (by decide +kernel) rfl rfl (Nat.le_of_ble_eq_true rfl) d_Mo_written_2 (fun H locs hP hD hS => ?_)
    obtain ⟨I12, aI12, sI12, hP, hD⟩ := fx (P := fun z => va_P D9 cls9 (WW a cB cI cJ cG z _ O) H ∧ va_D A0 (WW a cB cI cJ cG z _ O)) ⟨wp_15 hP, wd_15 hD⟩
    refine lv_iload_n hx hb d_Mo_written_5 rfl (lv_at hl 1 rfl) ?_
    refine lv_if_lt (tgt := 17) hx hb d_Mo_written_6 (by decide) (fun c13 => ?_) (fun c13 => ?_)
    · have c13 : k < 0 := (nI_ltI (a := k) (b := 0) (by omega) (by omega)).mp c13
      exfalso; omega
    · have c13 : ¬ (k < 0) := fun z9 => c13 ((nI_ltI (a := k) (b := 0) (by omega) (by omega)).mpr z9)
      refine lv_iload_n hx hb d_Mo_written_9 rfl (lv_at hl 1 rfl) ?_
      refine lv_aload_n hx hb d_Mo_written_10 rfl (lv_at hl 0 rfl) ?_
      refine va_get (D := D9) (ci := 7) (C := R_Mo) (T := F_Mo) (N := 30) hx hb hts i_Mo hown hK hP 33 ww_33 rfl 24 (by decide) (hts _ g_746) (fun _ h9 => h9) rfl d_Mo_written_11 ?_
      refine lv_topq (y := nI M.length) (((sI12 28 (by decide)).trans h28)) ?_
      refine lv_icmp_lt (tgt := 23) hx hb d_Mo_written_14 (by decide) (fun c14 => ?_) (fun c14 => ?_)
      · have c14 : k < M.length := (nI_ltI (a := k) (b := M.length) (by omega) (by omega)).mp c14
        refine lv_aload_n hx hb d_Mo_written_23 rfl (lv_at hl 0 rfl) ?_
        refine va_get (D := D9) (ci := 7) (C := R_Mo) (T := F_Mo) (N := 30) hx hb hts i_Mo hown hK hP 33 ww_33 rfl 23 (by decide) (hts _ g_745) (fun _ h9 => h9) rfl d_Mo_written_24 ?_
        refine lv_iload_n hx hb d_Mo_written_27 rfl (lv_at hl 1 rfl) ?_
        refine va_bald (D := D9) hx hb hK hP 44 0 ww_44 rfl (vp_in_nI (by omega) (by decide)) d_Mo_written_28 ?_
        refine lv_topq (y := F 44 k) ((by rw [nI_clamp (by omega)])) ?_
        refine lv_sipush (v := 255) hx hb d_Mo_written_29 (by decide) ?_
        refine lv_topq (y := nI 255) (rfl) ?_
        refine lv_iand hx hb d_Mo_written_32 ?_
        refine lv_topq (y := nI (tb M k)) ((ub_and _).trans (congrArg nI (BR_tb hM hk (by omega) (by omega)))) ?_
        exact hret _ _ _ _ _ _ _ hS hP hD d_Mo_written_33 nr_i (Or.inl ⟨k, hk, rfl, rfl, (sm_mo sI12 (by decide)), aI12, rfl⟩)
      · have c14 : ¬ (k < M.length) := fun z9 => c14 ((nI_ltI (a := k) (b := M.length) (by omega) (by omega)).mpr z9)
        exfalso; omega
set_option maxHeartbeats 4000000 in
set_option maxRecDepth 100000 in
/-- the reference: back -/
theorem m_Mo_back (l : Launch) (D9 : va_G) (cB cI cJ cG : ClassId) (a : Nat → Nat) (O : Nat → Int64) (I : Nat → Int32) (F : Nat → Nat → Int32) (M : List Nat) (hM : BR 0 131200 (F 44) M) (h28 : I 28 = nI M.length) (hMl : M.length ≤ 65536) (x y : Int32) (hF34 : sb_Fit (F 34)) : MC l D9 cB cI cJ cG a O y_Mo_back b_Mo_back 4 (some .int) 1 [.ref (a 33), .int (x), .int (y)] I F (fun v I' F' => (¬ x < -1 ∧ (x < 0 ∨ ∃ k, k < M.length ∧ x = nI k) ∧ v = some (.int (nI M.length)) ∧ sm [15, 16] I I' ∧ I' 15 = nI 0 ∧ I' 16 = nI M.length ∧ sm [34] F F' ∧ BR 0 65536 (F' 34) (bkL M x y)) ∨ ((x < -1 ∨ nI M.length ≤ x) ∧ (∃ w : Int32, v = some (.int w)) ∧ sm [15] I I' ∧ I' 15 = nI 1 ∧ F = F')) := by
  refine mc_of (by decide) (Nat.le_of_ble_eq_true rfl) ?_
  intro p e s m below meth c ls A0 Q C0 hP hD hA hS hl hret
  obtain ⟨hx, hb, hml, hr, hlocks, hown, hts, hK⟩ := id C0
  have hl : lv_has ls 4 [(0, .ref (a 33)), (1, .int (x)), (2, .int (y))] := hl
  rcases pk_ix x (n := M.length) (by omega) with h9 | h9 | ⟨k, hk, hxk⟩
  · by_cases hm1 : x = -1
    · have hxb : x < 0 ∨ ∃ k, k < M.length ∧ x = nI k := Or.inl h9
      have hxo : ¬ x < -1 := by rw [hm1]; decide
      refine lv_aload_n hx hb d_Mo_back_0 rfl (lv_at hl 0 rfl) ?_
      refine lv_iconst (v := 0) hx hb d_Mo_back_1 (by decide) ?_
      refine lv_topq (y := nI 0) (rfl) ?_
      refine va_put (D := D9) (ty := .int) (ci := 7) (C := R_Mo) (T := F_Mo) (N := 30) hx hb hts i_Mo t_Mo t_Mo_ok n_Mo hown hK hP hD hS 33 ww_33 rfl 0 (by decide) (hts _ g_722) (fun _ h9 => h9) rfl (by decide +kernel) rfl rfl (Nat.le_of_ble_eq_true rfl) d_Mo_back_2 (fun H locs hP hD hS => ?_)
      obtain ⟨I1, aI1, sI1, hP, hD⟩ := fx (P := fun z => va_P D9 cls9 (WW a cB cI cJ cG z _ O) H ∧ va_D A0 (WW a cB cI cJ cG z _ O)) ⟨wp_15 hP, wd_15 hD⟩
      refine lv_iload_n hx hb d_Mo_back_5 rfl (lv_at hl 1 rfl) ?_
      refine lv_iconst (v := -1) hx hb d_Mo_back_6 (by decide) ?_
      refine lv_topq (y := (-1 : Int32)) rfl ?_
      refine lv_icmp_lt (tgt := 18) hx hb d_Mo_back_7 (by decide) (fun c2 => ?_) (fun c2 => ?_)
      · rw [hm1] at c2; exact absurd c2 (by decide)
      · refine lv_iload_n hx hb d_Mo_back_10 rfl (lv_at hl 1 rfl) ?_
        refine lv_aload_n hx hb d_Mo_back_11 rfl (lv_at hl 0 rfl) ?_
        refine va_get (D := D9) (ci := 7) (C := R_Mo) (T := F_Mo) (N := 30) hx hb hts i_Mo hown hK hP 33 ww_33 rfl 24 (by decide) (hts _ g_746) (fun _ h9 => h9) rfl d_Mo_back_12 ?_
        refine lv_topq (y := nI M.length) (((sI1 28 (by decide)).trans h28)) ?_
        refine lv_icmp_lt (tgt := 24) hx hb d_Mo_back_15 (by decide) (fun c3 => ?_) (fun c3 => ?_)
        · refine lv_iconst (v := 0) hx hb d_Mo_back_24 (by decide) ?_
          refine lv_topq (y := nI 0) (rfl) ?_
          refine lv_istore_n (lv' := [(3, _), (0, _), (1, _), (2, _)]) hx hb d_Mo_back_25 rfl hl (by decide) rfl (fun ls hl => ?_)
          have loopB : ∀ (nc : Nat) (i : Nat) (Fc : Nat → Nat → Int32) (H : Heap) (locs : List Loc) (ls : Array Slot), (sm [34] F Fc) → (M.length - i = nc) → (i ≤ M.length) → (BR 0 65536 (Fc 34) ((bkL M x y).take i)) → va_P D9 cls9 (WW a cB cI cJ cG I1 Fc O) H → va_D A0 (WW a cB cI cJ cG I1 Fc O) → va_S A0 s.heap H locs → lv_has ls 4 [(0, .ref (a 33)), (1, .int (x)), (2, .int (y)), (3, .int (nI i))] → W p l e (rm9 1 0 0) s m ([.ref (a 33), .int (x), .int (y)] : List Value).toArray below meth c H locs 0 0 Q (F0 m 26 ls []) := by
            intro nc
            induction nc using Nat.strongRecOn with
            | ind nc ihc =>
              intro i Fc H locs ls hsFc hnc hi hB9 hP hD hS hl
              have hbl := bkL_len M x y
              have hti : ((bkL M x y).take i).length = i := by rw [List.length_take]; omega
              refine lv_iload_n hx hb d_Mo_back_26 rfl (lv_at hl 3 rfl) ?_
              refine lv_aload_n hx hb d_Mo_back_27 rfl (lv_at hl 0 rfl) ?_
              refine va_get (D := D9) (ci := 7) (C := R_Mo) (T := F_Mo) (N := 30) hx hb hts i_Mo hown hK hP 33 ww_33 rfl 24 (by decide) (hts _ g_746) (fun _ h9 => h9) rfl d_Mo_back_28 ?_
              refine lv_topq (y := nI M.length) (((sI1 28 (by decide)).trans h28)) ?_
              refine lv_icmp_ge (tgt := 64) hx hb d_Mo_back_31 (by decide) (fun c4 => ?_) (fun c4 => ?_)
              · have c4 : M.length ≤ i := (nI_leI (a := M.length) (b := i) (by omega) (by omega)).mp c4
                have hie : i = M.length := by omega
                refine lv_aload_n hx hb d_Mo_back_64 rfl (lv_at hl 0 rfl) ?_
                refine lv_aload_n hx hb d_Mo_back_65 rfl (lv_at hl 0 rfl) ?_
                refine va_get (D := D9) (ci := 7) (C := R_Mo) (T := F_Mo) (N := 30) hx hb hts i_Mo hown hK hP 33 ww_33 rfl 24 (by decide) (hts _ g_746) (fun _ h9 => h9) rfl d_Mo_back_66 ?_
                refine lv_topq (y := nI M.length) (((sI1 28 (by decide)).trans h28)) ?_
                refine va_put (D := D9) (ty := .int) (ci := 7) (C := R_Mo) (T := F_Mo) (N := 30) hx hb hts i_Mo t_Mo t_Mo_ok n_Mo hown hK hP hD hS 33 ww_33 rfl 2 (by decide) (hts _ g_724) (fun _ h9 => h9) rfl (by decide +kernel) rfl rfl (Nat.le_of_ble_eq_true rfl) d_Mo_back_69 (fun H locs hP hD hS => ?_)
                obtain ⟨I5, aI5, sI5, hP, hD⟩ := fx (P := fun z => va_P D9 cls9 (WW a cB cI cJ cG z _ O) H ∧ va_D A0 (WW a cB cI cJ cG z _ O)) ⟨wp_16 hP, wd_16 hD⟩
                refine lv_aload_n hx hb d_Mo_back_72 rfl (lv_at hl 0 rfl) ?_
                refine va_get (D := D9) (ci := 7) (C := R_Mo) (T := F_Mo) (N := 30) hx hb hts i_Mo hown hK hP 33 ww_33 rfl 2 (by decide) (hts _ g_724) (fun _ h9 => h9) rfl d_Mo_back_73 ?_
                refine lv_topq (y := nI M.length) (aI5) ?_
                exact hret _ _ _ _ _ _ _ hS hP hD d_Mo_back_76 nr_i (Or.inl ⟨hxo, hxb, rfl, (sm_tr (sm_mo sI1 (by decide)) (sm_mo sI5 (by decide))), ((sI5 15 (by decide)).trans aI1), aI5, (sm_mo hsFc (by decide)), by have z9 := hB9; rw [hie, List.take_of_length_le (by omega)] at z9; exact z9⟩)
              · have c4 : ¬ (M.length ≤ i) := fun z9 => c4 ((nI_leI (a := M.length) (b := i) (by omega) (by omega)).mpr z9)
                have hat := bkL_at (M := M) (x := x) (y := y) (i := i) (by omega) (by omega)
                have hub := BR_tb hM (show i < M.length by omega) (by omega) (by omega)
                refine lv_aload_n hx hb d_Mo_back_34 rfl (lv_at hl 0 rfl) ?_
                refine va_get (D := D9) (ci := 7) (C := R_Mo) (T := F_Mo) (N := 30) hx hb hts i_Mo hown hK hP 33 ww_33 rfl 1 (by decide) (hts _ g_723) (fun _ h9 => h9) rfl d_Mo_back_35 ?_
                refine lv_iload_n hx hb d_Mo_back_38 rfl (lv_at hl 3 rfl) ?_
                refine lv_aload_n hx hb d_Mo_back_39 rfl (lv_at hl 0 rfl) ?_
                refine va_get (D := D9) (ci := 7) (C := R_Mo) (T := F_Mo) (N := 30) hx hb hts i_Mo hown hK hP 33 ww_33 rfl 23 (by decide) (hts _ g_745) (fun _ h9 => h9) rfl d_Mo_back_40 ?_
                refine lv_iload_n hx hb d_Mo_back_43 rfl (lv_at hl 3 rfl) ?_
                refine va_bald (D := D9) hx hb hK hP 44 0 ww_44 rfl (vp_in_nI (by omega) (by decide)) d_Mo_back_44 ?_
                refine lv_topq (y := F 44 i) (by rw [nI_clamp (by omega)]; exact ((congrFun (hsFc 44 (by decide)) _).trans rfl)) ?_
                refine lv_iload_n hx hb d_Mo_back_45 rfl (lv_at hl 3 rfl) ?_
                refine lv_iload_n hx hb d_Mo_back_46 rfl (lv_at hl 1 rfl) ?_
                refine lv_icmp_ne (tgt := 54) hx hb d_Mo_back_47 (by decide) (fun c6 => ?_) (fun c6 => ?_)
                · rw [if_neg c6] at hat
                  refine lv_iconst (v := 0) hx hb d_Mo_back_54 (by decide) ?_
                  refine lv_topq (y := nI 0) (rfl) ?_
                  refine lv_ixor hx hb d_Mo_back_55 ?_
                  refine lv_topq (y := F 44 i) (Int32.xor_zero) ?_
                  refine lv_i2b hx hb d_Mo_back_56 rfl ?_
                  refine va_bast (D := D9) hx hb hK hP hD hS 34 0 ww_34 rfl (vp_in_nI (by omega) (by decide)) d_Mo_back_57 (fun H locs hP hD hS => ?_)
                  obtain ⟨F7, aF7, sF7, hP, hD⟩ := fx (P := fun z => va_P D9 cls9 (WW a cB cI cJ cG _ z O) H ∧ va_D A0 (WW a cB cI cJ cG _ z O)) ⟨wpa_34 hP, wda_34 hD⟩
                  rw [nI_clamp (by omega)] at aF7
                  refine lv_iinc (lv' := [(3, .int (nI (i + 1))), (0, _), (1, _), (2, _)]) hx hb d_Mo_back_58 hl (k := 3) rfl (nI_add _ 1) (by decide) rfl (fun ls hl => ?_)
                  refine lv_goto (tgt := 26) hx hb d_Mo_back_61 (by decide) ?_
                  have hBn := BR_putb (x := F 44 i) hB9 hti (v := tb (bkL M x y) i) (by rw [hat, hub])
                  rw [← take_tb (by omega)] at hBn
                  exact ihc _ (by omega) (i + 1) _ _ _ _ (sm_tr (sm_mo hsFc (by decide)) (sm_mo sF7 (by decide))) rfl (by omega) (BR_eq hBn aF7) hP hD hS (lv_pk hl [1, 2, 3, 0] rfl)
                · rw [if_pos c6] at hat
                  refine lv_iload_n hx hb d_Mo_back_50 rfl (lv_at hl 2 rfl) ?_
                  refine lv_goto (tgt := 55) hx hb d_Mo_back_51 (by decide) ?_
                  refine lv_ixor hx hb d_Mo_back_55 ?_
                  refine lv_topq (y := F 44 i ^^^ y) (rfl) ?_
                  refine lv_i2b hx hb d_Mo_back_56 rfl ?_
                  refine va_bast (D := D9) hx hb hK hP hD hS 34 0 ww_34 rfl (vp_in_nI (by omega) (by decide)) d_Mo_back_57 (fun H locs hP hD hS => ?_)
                  obtain ⟨F8, aF8, sF8, hP, hD⟩ := fx (P := fun z => va_P D9 cls9 (WW a cB cI cJ cG _ z O) H ∧ va_D A0 (WW a cB cI cJ cG _ z O)) ⟨wpa_34 hP, wda_34 hD⟩
                  rw [nI_clamp (by omega)] at aF8
                  refine lv_iinc (lv' := [(3, .int (nI (i + 1))), (0, _), (1, _), (2, _)]) hx hb d_Mo_back_58 hl (k := 3) rfl (nI_add _ 1) (by decide) rfl (fun ls hl => ?_)
                  refine lv_goto (tgt := 26) hx hb d_Mo_back_61 (by decide) ?_
                  have hBn := BR_putb (x := F 44 i ^^^ y) hB9 hti (v := tb (bkL M x y) i) (by rw [hat, ub_xor, hub])
                  rw [← take_tb (by omega)] at hBn
                  exact ihc _ (by omega) (i + 1) _ _ _ _ (sm_tr (sm_mo hsFc (by decide)) (sm_mo sF8 (by decide))) rfl (by omega) (BR_eq hBn aF8) hP hD hS (lv_pk hl [1, 2, 3, 0] rfl)
          exact loopB _ 0 _ _ _ _ sm_rf rfl (Nat.zero_le _) (by rw [List.take_zero]; exact BR_nil hF34) hP hD hS (lv_pk hl [1, 2, 3, 0] rfl)
        · exact absurd (Int32.lt_of_lt_of_le h9 (nI_pos' (by omega))) c3
    · have hbad : x < -1 ∨ nI M.length ≤ x := Or.inl (lt_m1 h9 hm1)
      refine lv_aload_n hx hb d_Mo_back_0 rfl (lv_at hl 0 rfl) ?_
      refine lv_iconst (v := 0) hx hb d_Mo_back_1 (by decide) ?_
      refine lv_topq (y := nI 0) (rfl) ?_
      refine va_put (D := D9) (ty := .int) (ci := 7) (C := R_Mo) (T := F_Mo) (N := 30) hx hb hts i_Mo t_Mo t_Mo_ok n_Mo hown hK hP hD hS 33 ww_33 rfl 0 (by decide) (hts _ g_722) (fun _ h9 => h9) rfl (by decide +kernel) rfl rfl (Nat.le_of_ble_eq_true rfl) d_Mo_back_2 (fun H locs hP hD hS => ?_)
      obtain ⟨I9, aI9, sI9, hP, hD⟩ := fx (P := fun z => va_P D9 cls9 (WW a cB cI cJ cG z _ O) H ∧ va_D A0 (WW a cB cI cJ cG z _ O)) ⟨wp_15 hP, wd_15 hD⟩
      refine lv_iload_n hx hb d_Mo_back_5 rfl (lv_at hl 1 rfl) ?_
      refine lv_iconst (v := -1) hx hb d_Mo_back_6 (by decide) ?_
      refine lv_topq (y := (-1 : Int32)) rfl ?_
      refine lv_icmp_lt (tgt := 18) hx hb d_Mo_back_7 (by decide) (fun c10 => ?_) (fun c10 => ?_)
      · refine lv_aload_n hx hb d_Mo_back_18 rfl (lv_at hl 0 rfl) ?_
        refine lv_iconst (v := 1) hx hb d_Mo_back_19 (by decide) ?_
        refine lv_topq (y := nI 1) (rfl) ?_
        refine mw_cV (ci := 7) (k := 33) C0 (m_Mo_fail l D9 cB cI cJ cG a O _ _ (nI 1)) g_873 g_8 g_870 g_872 gs_Mo_fail ⟨by decide +kernel, by decide +kernel, show Option.map (fun d => d.parameters.length) (parseMethodDescriptor y_Mo_fail.desc) = some 1 by decide +kernel⟩ ⟨by decide, by decide⟩ rfl rfl hP hD hS hA rfl ww_33 hl.1 (Nat.le_of_ble_eq_true rfl) rfl d_Mo_back_20 ⟨by decide, by decide⟩ (fun v9 w9 H locs hq hP hD hS => ?_)
        obtain ⟨I11, F12, hw9, q13⟩ := hq
        subst hw9
        obtain ⟨rfl, sI11, zI11, rfl⟩ := q13
        exact hret _ _ _ _ _ _ _ hS hP hD d_Mo_back_23 nr_i (Or.inr ⟨hbad, ⟨_, rfl⟩, (sm_tr (sm_mo sI9 (by decide)) (sm_mo sI11 (by decide))), zI11, rfl⟩)
      · exact absurd (lt_m1 h9 hm1) c10
  · have hbad : x < -1 ∨ nI M.length ≤ x := Or.inr h9
    refine lv_aload_n hx hb d_Mo_back_0 rfl (lv_at hl 0 rfl) ?_
    refine lv_iconst (v := 0) hx hb d_Mo_back_1 (by decide) ?_
    refine lv_topq (y := nI 0) (rfl) ?_
    refine va_put (D := D9) (ty := .int) (ci := 7) (C := R_Mo) (T := F_Mo) (N := 30) hx hb hts i_Mo t_Mo t_Mo_ok n_Mo hown hK hP hD hS 33 ww_33 rfl 0 (by decide) (hts _ g_722) (fun _ h9 => h9) rfl (by decide +kernel) rfl rfl (Nat.le_of_ble_eq_true rfl) d_Mo_back_2 (fun H locs hP hD hS => ?_)
    obtain ⟨I14, aI14, sI14, hP, hD⟩ := fx (P := fun z => va_P D9 cls9 (WW a cB cI cJ cG z _ O) H ∧ va_D A0 (WW a cB cI cJ cG z _ O)) ⟨wp_15 hP, wd_15 hD⟩
    refine lv_iload_n hx hb d_Mo_back_5 rfl (lv_at hl 1 rfl) ?_
    refine lv_iconst (v := -1) hx hb d_Mo_back_6 (by decide) ?_
    refine lv_topq (y := (-1 : Int32)) rfl ?_
    refine lv_icmp_lt (tgt := 18) hx hb d_Mo_back_7 (by decide) (fun c15 => ?_) (fun c15 => ?_)
    · exact absurd (Int32.lt_of_le_of_lt (Int32.le_trans (nI_pos' (show M.length < 2 ^ 31 by omega)) h9) (Int32.lt_trans c15 (show (-1 : Int32) < 0 by decide))) (by decide)
    · refine lv_iload_n hx hb d_Mo_back_10 rfl (lv_at hl 1 rfl) ?_
      refine lv_aload_n hx hb d_Mo_back_11 rfl (lv_at hl 0 rfl) ?_
      refine va_get (D := D9) (ci := 7) (C := R_Mo) (T := F_Mo) (N := 30) hx hb hts i_Mo hown hK hP 33 ww_33 rfl 24 (by decide) (hts _ g_746) (fun _ h9 => h9) rfl d_Mo_back_12 ?_
      refine lv_topq (y := nI M.length) (((sI14 28 (by decide)).trans h28)) ?_
      refine lv_icmp_lt (tgt := 24) hx hb d_Mo_back_15 (by decide) (fun c16 => ?_) (fun c16 => ?_)
      · exact absurd (Int32.lt_of_le_of_lt h9 c16) (by simp)
      · refine lv_aload_n hx hb d_Mo_back_18 rfl (lv_at hl 0 rfl) ?_
        refine lv_iconst (v := 1) hx hb d_Mo_back_19 (by decide) ?_
        refine lv_topq (y := nI 1) (rfl) ?_
        refine mw_cV (ci := 7) (k := 33) C0 (m_Mo_fail l D9 cB cI cJ cG a O _ _ (nI 1)) g_873 g_8 g_870 g_872 gs_Mo_fail ⟨by decide +kernel, by decide +kernel, show Option.map (fun d => d.parameters.length) (parseMethodDescriptor y_Mo_fail.desc) = some 1 by decide +kernel⟩ ⟨by decide, by decide⟩ rfl rfl hP hD hS hA rfl ww_33 hl.1 (Nat.le_of_ble_eq_true rfl) rfl d_Mo_back_20 ⟨by decide, by decide⟩ (fun v9 w9 H locs hq hP hD hS => ?_)
        obtain ⟨I17, F18, hw9, q19⟩ := hq
        subst hw9
        obtain ⟨rfl, sI17, zI17, rfl⟩ := q19
        exact hret _ _ _ _ _ _ _ hS hP hD d_Mo_back_23 nr_i (Or.inr ⟨hbad, ⟨_, rfl⟩, (sm_tr (sm_mo sI14 (by decide)) (sm_mo sI17 (by decide))), zI17, rfl⟩)
  · have hxb : x < 0 ∨ ∃ k, k < M.length ∧ x = nI k := Or.inr ⟨k, hk, hxk⟩
    have hxo : ¬ x < -1 := fun z9 => nI_pos (show k < 2 ^ 31 by omega) (by rw [← hxk]; exact Int32.lt_trans z9 (by decide))
    refine lv_aload_n hx hb d_Mo_back_0 rfl (lv_at hl 0 rfl) ?_
    refine lv_iconst (v := 0) hx hb d_Mo_back_1 (by decide) ?_
    refine lv_topq (y := nI 0) (rfl) ?_
    refine va_put (D := D9) (ty := .int) (ci := 7) (C := R_Mo) (T := F_Mo) (N := 30) hx hb hts i_Mo t_Mo t_Mo_ok n_Mo hown hK hP hD hS 33 ww_33 rfl 0 (by decide) (hts _ g_722) (fun _ h9 => h9) rfl (by decide +kernel) rfl rfl (Nat.le_of_ble_eq_true rfl) d_Mo_back_2 (fun H locs hP hD hS => ?_)
    obtain ⟨I20, aI20, sI20, hP, hD⟩ := fx (P := fun z => va_P D9 cls9 (WW a cB cI cJ cG z _ O) H ∧ va_D A0 (WW a cB cI cJ cG z _ O)) ⟨wp_15 hP, wd_15 hD⟩
    refine lv_iload_n hx hb d_Mo_back_5 rfl (lv_at hl 1 rfl) ?_
    refine lv_iconst (v := -1) hx hb d_Mo_back_6 (by decide) ?_
    refine lv_topq (y := (-1 : Int32)) rfl ?_
    refine lv_icmp_lt (tgt := 18) hx hb d_Mo_back_7 (by decide) (fun c21 => ?_) (fun c21 => ?_)
    · rw [hxk] at c21; exact absurd (Int32.lt_trans c21 (by decide)) (nI_pos (by omega))
    · refine lv_iload_n hx hb d_Mo_back_10 rfl (lv_at hl 1 rfl) ?_
      refine lv_aload_n hx hb d_Mo_back_11 rfl (lv_at hl 0 rfl) ?_
      refine va_get (D := D9) (ci := 7) (C := R_Mo) (T := F_Mo) (N := 30) hx hb hts i_Mo hown hK hP 33 ww_33 rfl 24 (by decide) (hts _ g_746) (fun _ h9 => h9) rfl d_Mo_back_12 ?_
      refine lv_topq (y := nI M.length) (((sI20 28 (by decide)).trans h28)) ?_
      refine lv_icmp_lt (tgt := 24) hx hb d_Mo_back_15 (by decide) (fun c22 => ?_) (fun c22 => ?_)
      · refine lv_iconst (v := 0) hx hb d_Mo_back_24 (by decide) ?_
        refine lv_topq (y := nI 0) (rfl) ?_
        refine lv_istore_n (lv' := [(3, _), (0, _), (1, _), (2, _)]) hx hb d_Mo_back_25 rfl hl (by decide) rfl (fun ls hl => ?_)
        have loopB : ∀ (nc : Nat) (i : Nat) (Fc : Nat → Nat → Int32) (H : Heap) (locs : List Loc) (ls : Array Slot), (sm [34] F Fc) → (M.length - i = nc) → (i ≤ M.length) → (BR 0 65536 (Fc 34) ((bkL M x y).take i)) → va_P D9 cls9 (WW a cB cI cJ cG I20 Fc O) H → va_D A0 (WW a cB cI cJ cG I20 Fc O) → va_S A0 s.heap H locs → lv_has ls 4 [(0, .ref (a 33)), (1, .int (x)), (2, .int (y)), (3, .int (nI i))] → W p l e (rm9 1 0 0) s m ([.ref (a 33), .int (x), .int (y)] : List Value).toArray below meth c H locs 0 0 Q (F0 m 26 ls []) := by
          intro nc
          induction nc using Nat.strongRecOn with
          | ind nc ihc =>
            intro i Fc H locs ls hsFc hnc hi hB9 hP hD hS hl
            have hbl := bkL_len M x y
            have hti : ((bkL M x y).take i).length = i := by rw [List.length_take]; omega
            refine lv_iload_n hx hb d_Mo_back_26 rfl (lv_at hl 3 rfl) ?_
            refine lv_aload_n hx hb d_Mo_back_27 rfl (lv_at hl 0 rfl) ?_
            refine va_get (D := D9) (ci := 7) (C := R_Mo) (T := F_Mo) (N := 30) hx hb hts i_Mo hown hK hP 33 ww_33 rfl 24 (by decide) (hts _ g_746) (fun _ h9 => h9) rfl d_Mo_back_28 ?_
            refine lv_topq (y := nI M.length) (((sI20 28 (by decide)).trans h28)) ?_
            refine lv_icmp_ge (tgt := 64) hx hb d_Mo_back_31 (by decide) (fun c23 => ?_) (fun c23 => ?_)
            · have c23 : M.length ≤ i := (nI_leI (a := M.length) (b := i) (by omega) (by omega)).mp c23
              have hie : i = M.length := by omega
              refine lv_aload_n hx hb d_Mo_back_64 rfl (lv_at hl 0 rfl) ?_
              refine lv_aload_n hx hb d_Mo_back_65 rfl (lv_at hl 0 rfl) ?_
              refine va_get (D := D9) (ci := 7) (C := R_Mo) (T := F_Mo) (N := 30) hx hb hts i_Mo hown hK hP 33 ww_33 rfl 24 (by decide) (hts _ g_746) (fun _ h9 => h9) rfl d_Mo_back_66 ?_
              refine lv_topq (y := nI M.length) (((sI20 28 (by decide)).trans h28)) ?_
              refine va_put (D := D9) (ty := .int) (ci := 7) (C := R_Mo) (T := F_Mo) (N := 30) hx hb hts i_Mo t_Mo t_Mo_ok n_Mo hown hK hP hD hS 33 ww_33 rfl 2 (by decide) (hts _ g_724) (fun _ h9 => h9) rfl (by decide +kernel) rfl rfl (Nat.le_of_ble_eq_true rfl) d_Mo_back_69 (fun H locs hP hD hS => ?_)
              obtain ⟨I24, aI24, sI24, hP, hD⟩ := fx (P := fun z => va_P D9 cls9 (WW a cB cI cJ cG z _ O) H ∧ va_D A0 (WW a cB cI cJ cG z _ O)) ⟨wp_16 hP, wd_16 hD⟩
              refine lv_aload_n hx hb d_Mo_back_72 rfl (lv_at hl 0 rfl) ?_
              refine va_get (D := D9) (ci := 7) (C := R_Mo) (T := F_Mo) (N := 30) hx hb hts i_Mo hown hK hP 33 ww_33 rfl 2 (by decide) (hts _ g_724) (fun _ h9 => h9) rfl d_Mo_back_73 ?_
              refine lv_topq (y := nI M.length) (aI24) ?_
              exact hret _ _ _ _ _ _ _ hS hP hD d_Mo_back_76 nr_i (Or.inl ⟨hxo, hxb, rfl, (sm_tr (sm_mo sI20 (by decide)) (sm_mo sI24 (by decide))), ((sI24 15 (by decide)).trans aI20), aI24, (sm_mo hsFc (by decide)), by have z9 := hB9; rw [hie, List.take_of_length_le (by omega)] at z9; exact z9⟩)
            · have c23 : ¬ (M.length ≤ i) := fun z9 => c23 ((nI_leI (a := M.length) (b := i) (by omega) (by omega)).mpr z9)
              have hat := bkL_at (M := M) (x := x) (y := y) (i := i) (by omega) (by omega)
              have hub := BR_tb hM (show i < M.length by omega) (by omega) (by omega)
              refine lv_aload_n hx hb d_Mo_back_34 rfl (lv_at hl 0 rfl) ?_
              refine va_get (D := D9) (ci := 7) (C := R_Mo) (T := F_Mo) (N := 30) hx hb hts i_Mo hown hK hP 33 ww_33 rfl 1 (by decide) (hts _ g_723) (fun _ h9 => h9) rfl d_Mo_back_35 ?_
              refine lv_iload_n hx hb d_Mo_back_38 rfl (lv_at hl 3 rfl) ?_
              refine lv_aload_n hx hb d_Mo_back_39 rfl (lv_at hl 0 rfl) ?_
              refine va_get (D := D9) (ci := 7) (C := R_Mo) (T := F_Mo) (N := 30) hx hb hts i_Mo hown hK hP 33 ww_33 rfl 23 (by decide) (hts _ g_745) (fun _ h9 => h9) rfl d_Mo_back_40 ?_
              refine lv_iload_n hx hb d_Mo_back_43 rfl (lv_at hl 3 rfl) ?_
              refine va_bald (D := D9) hx hb hK hP 44 0 ww_44 rfl (vp_in_nI (by omega) (by decide)) d_Mo_back_44 ?_
              refine lv_topq (y := F 44 i) (by rw [nI_clamp (by omega)]; exact ((congrFun (hsFc 44 (by decide)) _).trans rfl)) ?_
              refine lv_iload_n hx hb d_Mo_back_45 rfl (lv_at hl 3 rfl) ?_
              refine lv_iload_n hx hb d_Mo_back_46 rfl (lv_at hl 1 rfl) ?_
              refine lv_icmp_ne (tgt := 54) hx hb d_Mo_back_47 (by decide) (fun c25 => ?_) (fun c25 => ?_)
              · rw [if_neg c25] at hat
                refine lv_iconst (v := 0) hx hb d_Mo_back_54 (by decide) ?_
                refine lv_topq (y := nI 0) (rfl) ?_
                refine lv_ixor hx hb d_Mo_back_55 ?_
                refine lv_topq (y := F 44 i) (Int32.xor_zero) ?_
                refine lv_i2b hx hb d_Mo_back_56 rfl ?_
                refine va_bast (D := D9) hx hb hK hP hD hS 34 0 ww_34 rfl (vp_in_nI (by omega) (by decide)) d_Mo_back_57 (fun H locs hP hD hS => ?_)
                obtain ⟨F26, aF26, sF26, hP, hD⟩ := fx (P := fun z => va_P D9 cls9 (WW a cB cI cJ cG _ z O) H ∧ va_D A0 (WW a cB cI cJ cG _ z O)) ⟨wpa_34 hP, wda_34 hD⟩
                rw [nI_clamp (by omega)] at aF26
                refine lv_iinc (lv' := [(3, .int (nI (i + 1))), (0, _), (1, _), (2, _)]) hx hb d_Mo_back_58 hl (k := 3) rfl (nI_add _ 1) (by decide) rfl (fun ls hl => ?_)
                refine lv_goto (tgt := 26) hx hb d_Mo_back_61 (by decide) ?_
                have hBn := BR_putb (x := F 44 i) hB9 hti (v := tb (bkL M x y) i) (by rw [hat, hub])
                rw [← take_tb (by omega)] at hBn
                exact ihc _ (by omega) (i + 1) _ _ _ _ (sm_tr (sm_mo hsFc (by decide)) (sm_mo sF26 (by decide))) rfl (by omega) (BR_eq hBn aF26) hP hD hS (lv_pk hl [1, 2, 3, 0] rfl)
              · rw [if_pos c25] at hat
                refine lv_iload_n hx hb d_Mo_back_50 rfl (lv_at hl 2 rfl) ?_
                refine lv_goto (tgt := 55) hx hb d_Mo_back_51 (by decide) ?_
                refine lv_ixor hx hb d_Mo_back_55 ?_
                refine lv_topq (y := F 44 i ^^^ y) (rfl) ?_
                refine lv_i2b hx hb d_Mo_back_56 rfl ?_
                refine va_bast (D := D9) hx hb hK hP hD hS 34 0 ww_34 rfl (vp_in_nI (by omega) (by decide)) d_Mo_back_57 (fun H locs hP hD hS => ?_)
                obtain ⟨F27, aF27, sF27, hP, hD⟩ := fx (P := fun z => va_P D9 cls9 (WW a cB cI cJ cG _ z O) H ∧ va_D A0 (WW a cB cI cJ cG _ z O)) ⟨wpa_34 hP, wda_34 hD⟩
                rw [nI_clamp (by omega)] at aF27
                refine lv_iinc (lv' := [(3, .int (nI (i + 1))), (0, _), (1, _), (2, _)]) hx hb d_Mo_back_58 hl (k := 3) rfl (nI_add _ 1) (by decide) rfl (fun ls hl => ?_)
                refine lv_goto (tgt := 26) hx hb d_Mo_back_61 (by decide) ?_
                have hBn := BR_putb (x := F 44 i ^^^ y) hB9 hti (v := tb (bkL M x y) i) (by rw [hat, ub_xor, hub])
                rw [← take_tb (by omega)] at hBn
                exact ihc _ (by omega) (i + 1) _ _ _ _ (sm_tr (sm_mo hsFc (by decide)) (sm_mo sF27 (by decide))) rfl (by omega) (BR_eq hBn aF27) hP hD hS (lv_pk hl [1, 2, 3, 0] rfl)
        exact loopB _ 0 _ _ _ _ sm_rf rfl (Nat.zero_le _) (by rw [List.take_zero]; exact BR_nil hF34) hP hD hS (lv_pk hl [1, 2, 3, 0] rfl)
      · exact absurd (by rw [hxk]; exact nI_lt hk (by omega)) c22
