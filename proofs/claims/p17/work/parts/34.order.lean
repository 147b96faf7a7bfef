/-! THE ORDER OF NAMES -/
def lw (x : Nat) : Nat := if 65 ≤ x ∧ x ≤ 90 then x + 32 else x
def wy (a b : Nat) : Int32 := if a = b then 0 else if a < b then -1 else 1
def cl (G : List Nat) (a b n m : Nat) : Nat → Nat → Int32
  | 0, _ => wy n m
  | f + 1, i => if wy (lw (tb G (a + i))) (lw (tb G (b + i))) = 0 then cl G a b n m f (i + 1) else wy (lw (tb G (a + i))) (lw (tb G (b + i)))
def cmpL (G : List Nat) (a b : Nat) : Int32 := cl G a b (tb G a) (tb G b) (min (tb G a) (tb G b)) 1
def cm (G : List Nat) (a ka b kb : Nat) : Nat → Nat → Int32
  | 0, _ => wy ka kb
  | f + 1, i => if cmpL G (lb G a (ka - i)) (lb G b (kb - i)) = 0 then cm G a ka b kb f (i + 1) else cmpL G (lb G a (ka - i)) (lb G b (kb - i))
def cmpN (G : List Nat) (a ka b kb : Nat) : Int32 := cm G a ka b kb (min ka kb) 1
theorem upd_lt {f g : Nat → Int32} {i : Nat} {x : Int32} (h : ∀ j, j < i → f j = g j) (hx : x = g i) : ∀ j, j < i + 1 → upd f i x j = g j := by
  intro j hj
  by_cases hji : j = i
  · rw [hji, pk_us, hx]
  · rw [pk_un hji]; exact h j (by omega)
theorem lw_lt {x : Nat} (h : x < 256) : lw x < 1000 := by unfold lw; split <;> omega
theorem isN_in {G : List Nat} {k p r : Nat} (h : isN G k p r) (hk : 0 < k) : p + tb G p < G.length := by
  cases k with
  | zero => omega
  | succ k => have := isN_r h.2.2.2; omega
theorem g_583 : (Cond.static ({ cls := "WireMessages$Names", name := "findLabels", desc := "(LWireMessages$Bytes;I[I)I" } : MethodName)) ∈ GT := gt_mem 583 (by decide +kernel) rfl
theorem g_584 : (Cond.code ({ cls := "WireMessages$Names", name := "findLabels", desc := "(LWireMessages$Bytes;I[I)I" } : MethodName) prog_6_method_2_code (5 : Nat) (Option.some FieldType.int)) ∈ GT := gt_mem 584 (by decide +kernel) rfl
theorem g_585 : (Cond.methodLinkNest "WireMessages$Names" (22 : Nat) ({ cls := "WireMessages$Bytes", name := "at", desc := "(I)I" } : MethodName) "WireMessages") ∈ GT := gt_mem 585 (by decide +kernel) rfl
theorem g_693 : (Cond.methodLink "WireMessages$Names" (28 : Nat) ({ cls := "WireMessages$Names", name := "findLabels", desc := "(LWireMessages$Bytes;I[I)I" } : MethodName)) ∈ GT := gt_mem 693 (by decide +kernel) rfl
theorem g_694 : (Cond.methodLink "WireMessages$Names" (32 : Nat) ({ cls := "java/lang/Math", name := "min", desc := "(II)I" } : MethodName)) ∈ GT := gt_mem 694 (by decide +kernel) rfl
theorem g_695 : (Cond.methodLink "WireMessages$Names" (38 : Nat) ({ cls := "WireMessages$Names", name := "compareLabels", desc := "(II)I" } : MethodName)) ∈ GT := gt_mem 695 (by decide +kernel) rfl
theorem g_697 : (Cond.instanceMethod ({ cls := "WireMessages$Names", name := "compareLabels", desc := "(II)I" } : MethodName)) ∈ GT := gt_mem 697 (by decide +kernel) rfl
theorem g_698 : (Cond.code ({ cls := "WireMessages$Names", name := "compareLabels", desc := "(II)I" } : MethodName) prog_6_method_4_code (8 : Nat) (Option.some FieldType.int)) ∈ GT := gt_mem 698 (by decide +kernel) rfl
theorem g_699 : (Cond.methodLink "WireMessages$Names" (44 : Nat) ({ cls := "WireMessages$Names", name := "lowered", desc := "(I)I" } : MethodName)) ∈ GT := gt_mem 699 (by decide +kernel) rfl
theorem g_700 : (Cond.static ({ cls := "WireMessages$Names", name := "lowered", desc := "(I)I" } : MethodName)) ∈ GT := gt_mem 700 (by decide +kernel) rfl
theorem g_701 : (Cond.code ({ cls := "WireMessages$Names", name := "lowered", desc := "(I)I" } : MethodName) prog_6_method_6_code (1 : Nat) (Option.some FieldType.int)) ∈ GT := gt_mem 701 (by decide +kernel) rfl
theorem g_702 : (Cond.methodLink "WireMessages$Names" (41 : Nat) ({ cls := "WireMessages$Names", name := "wayFrom", desc := "(II)I" } : MethodName)) ∈ GT := gt_mem 702 (by decide +kernel) rfl
theorem g_703 : (Cond.static ({ cls := "WireMessages$Names", name := "wayFrom", desc := "(II)I" } : MethodName)) ∈ GT := gt_mem 703 (by decide +kernel) rfl
theorem g_704 : (Cond.code ({ cls := "WireMessages$Names", name := "wayFrom", desc := "(II)I" } : MethodName) prog_6_method_5_code (2 : Nat) (Option.some FieldType.int)) ∈ GT := gt_mem 704 (by decide +kernel) rfl
theorem gs_Na_compareLabels : Cond.selects R_Na y_Na_compareLabels y_Na_compareLabels ∈ GT := gt_sel (q := (⟨"WireMessages$Names", "compareLabels", "(II)I"⟩, 3)) (by decide +kernel)
theorem d_Na_compare_0 : decode b_Na_compare 0 = .ok (.aload_n 0, 1) := by decide +kernel
theorem d_Na_compare_1 : decode b_Na_compare 1 = .ok (.getfield 18, 3) := by decide +kernel
theorem d_Na_compare_4 : decode b_Na_compare 4 = .ok (.iload_n 1, 1) := by decide +kernel
theorem d_Na_compare_5 : decode b_Na_compare 5 = .ok (.aload_n 0, 1) := by decide +kernel
theorem d_Na_compare_6 : decode b_Na_compare 6 = .ok (.getfield 9, 3) := by decide +kernel
theorem d_Na_compare_9 : decode b_Na_compare 9 = .ok (.invokestatic 28, 3) := by decide +kernel
theorem d_Na_compare_12 : decode b_Na_compare 12 = .ok (.istore_n 3, 1) := by decide +kernel
theorem d_Na_compare_13 : decode b_Na_compare 13 = .ok (.aload_n 0, 1) := by decide +kernel
theorem d_Na_compare_14 : decode b_Na_compare 14 = .ok (.getfield 18, 3) := by decide +kernel
theorem d_Na_compare_17 : decode b_Na_compare 17 = .ok (.iload_n 2, 1) := by decide +kernel
theorem d_Na_compare_18 : decode b_Na_compare 18 = .ok (.aload_n 0, 1) := by decide +kernel
theorem d_Na_compare_19 : decode b_Na_compare 19 = .ok (.getfield 15, 3) := by decide +kernel
theorem d_Na_compare_22 : decode b_Na_compare 22 = .ok (.invokestatic 28, 3) := by decide +kernel
theorem d_Na_compare_25 : decode b_Na_compare 25 = .ok (.istore 4, 2) := by decide +kernel
theorem d_Na_compare_27 : decode b_Na_compare 27 = .ok (.iload_n 3, 1) := by decide +kernel
theorem d_Na_compare_28 : decode b_Na_compare 28 = .ok (.iload 4, 2) := by decide +kernel
theorem d_Na_compare_30 : decode b_Na_compare 30 = .ok (.invokestatic 32, 3) := by decide +kernel
theorem d_Na_compare_33 : decode b_Na_compare 33 = .ok (.istore 5, 2) := by decide +kernel
theorem d_Na_compare_35 : decode b_Na_compare 35 = .ok (.iconst 1, 1) := by decide +kernel
theorem d_Na_compare_36 : decode b_Na_compare 36 = .ok (.istore 6, 2) := by decide +kernel
theorem d_Na_compare_38 : decode b_Na_compare 38 = .ok (.iload 6, 2) := by decide +kernel
theorem d_Na_compare_40 : decode b_Na_compare 40 = .ok (.iload 5, 2) := by decide +kernel
theorem d_Na_compare_42 : decode b_Na_compare 42 = .ok (.if_icmp .gt 42, 3) := by decide +kernel
theorem d_Na_compare_45 : decode b_Na_compare 45 = .ok (.aload_n 0, 1) := by decide +kernel
theorem d_Na_compare_46 : decode b_Na_compare 46 = .ok (.aload_n 0, 1) := by decide +kernel
theorem d_Na_compare_47 : decode b_Na_compare 47 = .ok (.getfield 9, 3) := by decide +kernel
theorem d_Na_compare_50 : decode b_Na_compare 50 = .ok (.iload_n 3, 1) := by decide +kernel
theorem d_Na_compare_51 : decode b_Na_compare 51 = .ok (.iload 6, 2) := by decide +kernel
theorem d_Na_compare_53 : decode b_Na_compare 53 = .ok (.isub, 1) := by decide +kernel
theorem d_Na_compare_54 : decode b_Na_compare 54 = .ok (.iaload, 1) := by decide +kernel
theorem d_Na_compare_55 : decode b_Na_compare 55 = .ok (.aload_n 0, 1) := by decide +kernel
theorem d_Na_compare_56 : decode b_Na_compare 56 = .ok (.getfield 15, 3) := by decide +kernel
theorem d_Na_compare_59 : decode b_Na_compare 59 = .ok (.iload 4, 2) := by decide +kernel
theorem d_Na_compare_61 : decode b_Na_compare 61 = .ok (.iload 6, 2) := by decide +kernel
theorem d_Na_compare_63 : decode b_Na_compare 63 = .ok (.isub, 1) := by decide +kernel
theorem d_Na_compare_64 : decode b_Na_compare 64 = .ok (.iaload, 1) := by decide +kernel
theorem d_Na_compare_65 : decode b_Na_compare 65 = .ok (.invokevirtual 38, 3) := by decide +kernel
theorem d_Na_compare_68 : decode b_Na_compare 68 = .ok (.istore 7, 2) := by decide +kernel
theorem d_Na_compare_70 : decode b_Na_compare 70 = .ok (.iload 7, 2) := by decide +kernel
theorem d_Na_compare_72 : decode b_Na_compare 72 = .ok (.ifCond .eq 6, 3) := by decide +kernel
theorem d_Na_compare_75 : decode b_Na_compare 75 = .ok (.iload 7, 2) := by decide +kernel
theorem d_Na_compare_77 : decode b_Na_compare 77 = .ok (.ireturn, 1) := by decide +kernel
theorem d_Na_compare_78 : decode b_Na_compare 78 = .ok (.iinc 6 1, 3) := by decide +kernel
theorem d_Na_compare_81 : decode b_Na_compare 81 = .ok (.goto (-43), 3) := by decide +kernel
theorem d_Na_compare_84 : decode b_Na_compare 84 = .ok (.iload_n 3, 1) := by decide +kernel
theorem d_Na_compare_85 : decode b_Na_compare 85 = .ok (.iload 4, 2) := by decide +kernel
theorem d_Na_compare_87 : decode b_Na_compare 87 = .ok (.invokestatic 41, 3) := by decide +kernel
theorem d_Na_compare_90 : decode b_Na_compare 90 = .ok (.ireturn, 1) := by decide +kernel
theorem d_Na_compareLabels_0 : decode b_Na_compareLabels 0 = .ok (.aload_n 0, 1) := by decide +kernel
theorem d_Na_compareLabels_1 : decode b_Na_compareLabels 1 = .ok (.getfield 18, 3) := by decide +kernel
theorem d_Na_compareLabels_4 : decode b_Na_compareLabels 4 = .ok (.iload_n 1, 1) := by decide +kernel
theorem d_Na_compareLabels_5 : decode b_Na_compareLabels 5 = .ok (.invokevirtual 22, 3) := by decide +kernel
theorem d_Na_compareLabels_8 : decode b_Na_compareLabels 8 = .ok (.istore_n 3, 1) := by decide +kernel
theorem d_Na_compareLabels_9 : decode b_Na_compareLabels 9 = .ok (.aload_n 0, 1) := by decide +kernel
theorem d_Na_compareLabels_10 : decode b_Na_compareLabels 10 = .ok (.getfield 18, 3) := by decide +kernel
theorem d_Na_compareLabels_13 : decode b_Na_compareLabels 13 = .ok (.iload_n 2, 1) := by decide +kernel
theorem d_Na_compareLabels_14 : decode b_Na_compareLabels 14 = .ok (.invokevirtual 22, 3) := by decide +kernel
theorem d_Na_compareLabels_17 : decode b_Na_compareLabels 17 = .ok (.istore 4, 2) := by decide +kernel
theorem d_Na_compareLabels_19 : decode b_Na_compareLabels 19 = .ok (.iload_n 3, 1) := by decide +kernel
theorem d_Na_compareLabels_20 : decode b_Na_compareLabels 20 = .ok (.iload 4, 2) := by decide +kernel
theorem d_Na_compareLabels_22 : decode b_Na_compareLabels 22 = .ok (.invokestatic 32, 3) := by decide +kernel
theorem d_Na_compareLabels_25 : decode b_Na_compareLabels 25 = .ok (.istore 5, 2) := by decide +kernel
theorem d_Na_compareLabels_27 : decode b_Na_compareLabels 27 = .ok (.iconst 1, 1) := by decide +kernel
theorem d_Na_compareLabels_28 : decode b_Na_compareLabels 28 = .ok (.istore 6, 2) := by decide +kernel
theorem d_Na_compareLabels_30 : decode b_Na_compareLabels 30 = .ok (.iload 6, 2) := by decide +kernel
theorem d_Na_compareLabels_32 : decode b_Na_compareLabels 32 = .ok (.iload 5, 2) := by decide +kernel
theorem d_Na_compareLabels_34 : decode b_Na_compareLabels 34 = .ok (.if_icmp .gt 50, 3) := by decide +kernel
theorem d_Na_compareLabels_37 : decode b_Na_compareLabels 37 = .ok (.aload_n 0, 1) := by decide +kernel
theorem d_Na_compareLabels_38 : decode b_Na_compareLabels 38 = .ok (.getfield 18, 3) := by decide +kernel
theorem d_Na_compareLabels_41 : decode b_Na_compareLabels 41 = .ok (.iload_n 1, 1) := by decide +kernel
theorem d_Na_compareLabels_42 : decode b_Na_compareLabels 42 = .ok (.iload 6, 2) := by decide +kernel
theorem d_Na_compareLabels_44 : decode b_Na_compareLabels 44 = .ok (.iadd, 1) := by decide +kernel
theorem d_Na_compareLabels_45 : decode b_Na_compareLabels 45 = .ok (.invokevirtual 22, 3) := by decide +kernel
theorem d_Na_compareLabels_48 : decode b_Na_compareLabels 48 = .ok (.invokestatic 44, 3) := by decide +kernel
theorem d_Na_compareLabels_51 : decode b_Na_compareLabels 51 = .ok (.aload_n 0, 1) := by decide +kernel
theorem d_Na_compareLabels_52 : decode b_Na_compareLabels 52 = .ok (.getfield 18, 3) := by decide +kernel
theorem d_Na_compareLabels_55 : decode b_Na_compareLabels 55 = .ok (.iload_n 2, 1) := by decide +kernel
theorem d_Na_compareLabels_56 : decode b_Na_compareLabels 56 = .ok (.iload 6, 2) := by decide +kernel
theorem d_Na_compareLabels_58 : decode b_Na_compareLabels 58 = .ok (.iadd, 1) := by decide +kernel
theorem d_Na_compareLabels_59 : decode b_Na_compareLabels 59 = .ok (.invokevirtual 22, 3) := by decide +kernel
theorem d_Na_compareLabels_62 : decode b_Na_compareLabels 62 = .ok (.invokestatic 44, 3) := by decide +kernel
theorem d_Na_compareLabels_65 : decode b_Na_compareLabels 65 = .ok (.invokestatic 41, 3) := by decide +kernel
theorem d_Na_compareLabels_68 : decode b_Na_compareLabels 68 = .ok (.istore 7, 2) := by decide +kernel
theorem d_Na_compareLabels_70 : decode b_Na_compareLabels 70 = .ok (.iload 7, 2) := by decide +kernel
theorem d_Na_compareLabels_72 : decode b_Na_compareLabels 72 = .ok (.ifCond .eq 6, 3) := by decide +kernel
theorem d_Na_compareLabels_75 : decode b_Na_compareLabels 75 = .ok (.iload 7, 2) := by decide +kernel
theorem d_Na_compareLabels_77 : decode b_Na_compareLabels 77 = .ok (.ireturn, 1) := by decide +kernel
theorem d_Na_compareLabels_78 : decode b_Na_compareLabels 78 = .ok (.iinc 6 1, 3) := by decide +kernel
theorem d_Na_compareLabels_81 : decode b_Na_compareLabels 81 = .ok (.goto (-51), 3) := by decide +kernel
theorem d_Na_compareLabels_84 : decode b_Na_compareLabels 84 = .ok (.iload_n 3, 1) := by decide +kernel
theorem d_Na_compareLabels_85 : decode b_Na_compareLabels 85 = .ok (.iload 4, 2) := by decide +kernel
theorem d_Na_compareLabels_87 : decode b_Na_compareLabels 87 = .ok (.invokestatic 41, 3) := by decide +kernel
theorem d_Na_compareLabels_90 : decode b_Na_compareLabels 90 = .ok (.ireturn, 1) := by decide +kernel
theorem d_Na_findLabels_0 : decode b_Na_findLabels 0 = .ok (.iload_n 1, 1) := by decide +kernel
theorem d_Na_findLabels_1 : decode b_Na_findLabels 1 = .ok (.istore_n 3, 1) := by decide +kernel
theorem d_Na_findLabels_2 : decode b_Na_findLabels 2 = .ok (.iconst 0, 1) := by decide +kernel
theorem d_Na_findLabels_3 : decode b_Na_findLabels 3 = .ok (.istore 4, 2) := by decide +kernel
theorem d_Na_findLabels_5 : decode b_Na_findLabels 5 = .ok (.iload 4, 2) := by decide +kernel
theorem d_Na_findLabels_7 : decode b_Na_findLabels 7 = .ok (.aload_n 2, 1) := by decide +kernel
theorem d_Na_findLabels_8 : decode b_Na_findLabels 8 = .ok (.arraylength, 1) := by decide +kernel
theorem d_Na_findLabels_9 : decode b_Na_findLabels 9 = .ok (.if_icmp .ge 32, 3) := by decide +kernel
theorem d_Na_findLabels_12 : decode b_Na_findLabels 12 = .ok (.aload_n 0, 1) := by decide +kernel
theorem d_Na_findLabels_13 : decode b_Na_findLabels 13 = .ok (.iload_n 3, 1) := by decide +kernel
theorem d_Na_findLabels_14 : decode b_Na_findLabels 14 = .ok (.invokevirtual 22, 3) := by decide +kernel
theorem d_Na_findLabels_17 : decode b_Na_findLabels 17 = .ok (.ifCond .eq 24, 3) := by decide +kernel
theorem d_Na_findLabels_20 : decode b_Na_findLabels 20 = .ok (.aload_n 2, 1) := by decide +kernel
theorem d_Na_findLabels_21 : decode b_Na_findLabels 21 = .ok (.iload 4, 2) := by decide +kernel
theorem d_Na_findLabels_23 : decode b_Na_findLabels 23 = .ok (.iload_n 3, 1) := by decide +kernel
theorem d_Na_findLabels_24 : decode b_Na_findLabels 24 = .ok (.iastore, 1) := by decide +kernel
theorem d_Na_findLabels_25 : decode b_Na_findLabels 25 = .ok (.iinc 4 1, 3) := by decide +kernel
theorem d_Na_findLabels_28 : decode b_Na_findLabels 28 = .ok (.iload_n 3, 1) := by decide +kernel
theorem d_Na_findLabels_29 : decode b_Na_findLabels 29 = .ok (.iconst 1, 1) := by decide +kernel
theorem d_Na_findLabels_30 : decode b_Na_findLabels 30 = .ok (.aload_n 0, 1) := by decide +kernel
theorem d_Na_findLabels_31 : decode b_Na_findLabels 31 = .ok (.iload_n 3, 1) := by decide +kernel
theorem d_Na_findLabels_32 : decode b_Na_findLabels 32 = .ok (.invokevirtual 22, 3) := by decide +kernel
theorem d_Na_findLabels_35 : decode b_Na_findLabels 35 = .ok (.iadd, 1) := by decide +kernel
theorem d_Na_findLabels_36 : decode b_Na_findLabels 36 = .ok (.iadd, 1) := by decide +kernel
theorem d_Na_findLabels_37 : decode b_Na_findLabels 37 = .ok (.istore_n 3, 1) := by decide +kernel
theorem d_Na_findLabels_38 : decode b_Na_findLabels 38 = .ok (.goto (-33), 3) := by decide +kernel
theorem d_Na_findLabels_41 : decode b_Na_findLabels 41 = .ok (.iload 4, 2) := by decide +kernel
theorem d_Na_findLabels_43 : decode b_Na_findLabels 43 = .ok (.ireturn, 1) := by decide +kernel
theorem d_Na_lowered_0 : decode b_Na_lowered 0 = .ok (.iload_n 0, 1) := by decide +kernel
theorem d_Na_lowered_1 : decode b_Na_lowered 1 = .ok (.bipush 65, 2) := by decide +kernel
theorem d_Na_lowered_3 : decode b_Na_lowered 3 = .ok (.if_icmp .lt 16, 3) := by decide +kernel
theorem d_Na_lowered_6 : decode b_Na_lowered 6 = .ok (.iload_n 0, 1) := by decide +kernel
theorem d_Na_lowered_7 : decode b_Na_lowered 7 = .ok (.bipush 90, 2) := by decide +kernel
theorem d_Na_lowered_9 : decode b_Na_lowered 9 = .ok (.if_icmp .gt 10, 3) := by decide +kernel
theorem d_Na_lowered_12 : decode b_Na_lowered 12 = .ok (.iload_n 0, 1) := by decide +kernel
theorem d_Na_lowered_13 : decode b_Na_lowered 13 = .ok (.bipush 32, 2) := by decide +kernel
theorem d_Na_lowered_15 : decode b_Na_lowered 15 = .ok (.iadd, 1) := by decide +kernel
theorem d_Na_lowered_16 : decode b_Na_lowered 16 = .ok (.goto 4, 3) := by decide +kernel
theorem d_Na_lowered_19 : decode b_Na_lowered 19 = .ok (.iload_n 0, 1) := by decide +kernel
theorem d_Na_lowered_20 : decode b_Na_lowered 20 = .ok (.ireturn, 1) := by decide +kernel
theorem d_Na_wayFrom_0 : decode b_Na_wayFrom 0 = .ok (.iload_n 0, 1) := by decide +kernel
theorem d_Na_wayFrom_1 : decode b_Na_wayFrom 1 = .ok (.iload_n 1, 1) := by decide +kernel
theorem d_Na_wayFrom_2 : decode b_Na_wayFrom 2 = .ok (.if_icmp .ne 5, 3) := by decide +kernel
theorem d_Na_wayFrom_5 : decode b_Na_wayFrom 5 = .ok (.iconst 0, 1) := by decide +kernel
theorem d_Na_wayFrom_6 : decode b_Na_wayFrom 6 = .ok (.ireturn, 1) := by decide +kernel
theorem d_Na_wayFrom_7 : decode b_Na_wayFrom 7 = .ok (.iload_n 0, 1) := by decide +kernel
theorem d_Na_wayFrom_8 : decode b_Na_wayFrom 8 = .ok (.iload_n 1, 1) := by decide +kernel
theorem d_Na_wayFrom_9 : decode b_Na_wayFrom 9 = .ok (.if_icmp .ge 7, 3) := by decide +kernel
theorem d_Na_wayFrom_12 : decode b_Na_wayFrom 12 = .ok (.iconst (-1), 1) := by decide +kernel
theorem d_Na_wayFrom_13 : decode b_Na_wayFrom 13 = .ok (.goto 4, 3) := by decide +kernel
theorem d_Na_wayFrom_16 : decode b_Na_wayFrom 16 = .ok (.iconst 1, 1) := by decide +kernel
theorem d_Na_wayFrom_17 : decode b_Na_wayFrom 17 = .ok (.ireturn, 1) := by decide +kernel
set_option maxHeartbeats 4000000 in
set_option maxRecDepth 100000 in
/-- Names.wayFrom -/
theorem m_Na_wayFrom (l : Launch) (D9 : va_G) (cB cI cJ cG : ClassId) (a : Nat → Nat) (O : Nat → Int64) (I : Nat → Int32) (F : Nat → Nat → Int32) (x y : Nat) (hx9 : x < 1000000) (hy9 : y < 1000000) : MC l D9 cB cI cJ cG a O y_Na_wayFrom b_Na_wayFrom 2 (some .int) 0 [.int (nI x), .int (nI y)] I F (fun v I' F' => v = some (.int (wy x y)) ∧ I = I' ∧ F = F') := by
  refine mc_of (by decide) (Nat.le_of_ble_eq_true rfl) ?_
  intro p e s m below meth c ls A0 Q C0 hP hD hA hS hl hret
  obtain ⟨hx, hb, hml, hr, hlocks, hown, hts, hK⟩ := id C0
  have hl : lv_has ls 2 [(0, .int (nI x)), (1, .int (nI y))] := hl
  refine lv_iload_n hx hb d_Na_wayFrom_0 rfl (lv_at hl 0 rfl) ?_
  refine lv_iload_n hx hb d_Na_wayFrom_1 rfl (lv_at hl 1 rfl) ?_
  refine lv_icmp_ne (tgt := 7) hx hb d_Na_wayFrom_2 (by decide) (fun c1 => ?_) (fun c1 => ?_)
  · have c1 : ¬ (x = y) := fun z9 => c1 ((nI_eq (a := x) (b := y) (by omega) (by omega)).mpr z9)
    refine lv_iload_n hx hb d_Na_wayFrom_7 rfl (lv_at hl 0 rfl) ?_
    refine lv_iload_n hx hb d_Na_wayFrom_8 rfl (lv_at hl 1 rfl) ?_
    refine lv_icmp_ge (tgt := 16) hx hb d_Na_wayFrom_9 (by decide) (fun c2 => ?_) (fun c2 => ?_)
    · have c2 : y ≤ x := (nI_leI (a := y) (b := x) (by omega) (by omega)).mp c2
      refine lv_iconst (v := 1) hx hb d_Na_wayFrom_16 (by decide) ?_
      refine lv_topq (y := nI 1) (rfl) ?_
      exact hret _ _ _ _ _ _ _ hS hP hD d_Na_wayFrom_17 nr_i (⟨by unfold wy; rw [if_neg (by omega), if_neg (by omega)]; rfl, rfl, rfl⟩)
    · have c2 : ¬ (y ≤ x) := fun z9 => c2 ((nI_leI (a := y) (b := x) (by omega) (by omega)).mpr z9)
      refine lv_iconst (v := -1) hx hb d_Na_wayFrom_12 (by decide) ?_
      refine lv_topq (y := (-1 : Int32)) rfl ?_
      refine lv_goto (tgt := 17) hx hb d_Na_wayFrom_13 (by decide) ?_
      exact hret _ _ _ _ _ _ _ hS hP hD d_Na_wayFrom_17 nr_i (⟨by unfold wy; rw [if_neg (by omega), if_pos (by omega)], rfl, rfl⟩)
  · have c1 : x = y := (nI_eq (a := x) (b := y) (by omega) (by omega)).mp c1
    refine lv_iconst (v := 0) hx hb d_Na_wayFrom_5 (by decide) ?_
    refine lv_topq (y := nI 0) (rfl) ?_
    exact hret _ _ _ _ _ _ _ hS hP hD d_Na_wayFrom_6 nr_i (⟨by unfold wy; rw [if_pos (by omega)]; rfl, rfl, rfl⟩)
set_option maxHeartbeats 4000000 in
set_option maxRecDepth 100000 in
/-- Names.lowered -/
theorem m_Na_lowered (l : Launch) (D9 : va_G) (cB cI cJ cG : ClassId) (a : Nat → Nat) (O : Nat → Int64) (I : Nat → Int32) (F : Nat → Nat → Int32) (x : Nat) (hx9 : x < 1000000) : MC l D9 cB cI cJ cG a O y_Na_lowered b_Na_lowered 1 (some .int) 0 [.int (nI x)] I F (fun v I' F' => v = some (.int (nI (lw x))) ∧ I = I' ∧ F = F') := by
  refine mc_of (by decide) (Nat.le_of_ble_eq_true rfl) ?_
  intro p e s m below meth c ls A0 Q C0 hP hD hA hS hl hret
  obtain ⟨hx, hb, hml, hr, hlocks, hown, hts, hK⟩ := id C0
  have hl : lv_has ls 1 [(0, .int (nI x))] := hl
  refine lv_iload_n hx hb d_Na_lowered_0 rfl (lv_at hl 0 rfl) ?_
  refine lv_bipush (v := 65) hx hb d_Na_lowered_1 (by decide) ?_
  refine lv_topq (y := nI 65) (rfl) ?_
  refine lv_icmp_lt (tgt := 19) hx hb d_Na_lowered_3 (by decide) (fun c1 => ?_) (fun c1 => ?_)
  · have c1 : x < 65 := (nI_ltI (a := x) (b := 65) (by omega) (by omega)).mp c1
    refine lv_iload_n hx hb d_Na_lowered_19 rfl (lv_at hl 0 rfl) ?_
    exact hret _ _ _ _ _ _ _ hS hP hD d_Na_lowered_20 nr_i (⟨by unfold lw; first | rw [if_pos (by omega)] | rw [if_neg (by omega)], rfl, rfl⟩)
  · have c1 : ¬ (x < 65) := fun z9 => c1 ((nI_ltI (a := x) (b := 65) (by omega) (by omega)).mpr z9)
    refine lv_iload_n hx hb d_Na_lowered_6 rfl (lv_at hl 0 rfl) ?_
    refine lv_bipush (v := 90) hx hb d_Na_lowered_7 (by decide) ?_
    refine lv_topq (y := nI 90) (rfl) ?_
    refine lv_icmp_gt (tgt := 19) hx hb d_Na_lowered_9 (by decide) (fun c2 => ?_) (fun c2 => ?_)
    · have c2 : 90 < x := (nI_ltI (a := 90) (b := x) (by omega) (by omega)).mp c2
      refine lv_iload_n hx hb d_Na_lowered_19 rfl (lv_at hl 0 rfl) ?_
      exact hret _ _ _ _ _ _ _ hS hP hD d_Na_lowered_20 nr_i (⟨by unfold lw; first | rw [if_pos (by omega)] | rw [if_neg (by omega)], rfl, rfl⟩)
    · have c2 : ¬ (90 < x) := fun z9 => c2 ((nI_ltI (a := 90) (b := x) (by omega) (by omega)).mpr z9)
      refine lv_iload_n hx hb d_Na_lowered_12 rfl (lv_at hl 0 rfl) ?_
      refine lv_bipush (v := 32) hx hb d_Na_lowered_13 (by decide) ?_
      refine lv_topq (y := nI 32) (rfl) ?_
      refine lv_iadd hx hb d_Na_lowered_15 ?_
      refine lv_topq (y := nI (x + 32)) (nI_add _ _) ?_
      refine lv_goto (tgt := 20) hx hb d_Na_lowered_16 (by decide) ?_
      exact hret _ _ _ _ _ _ _ hS hP hD d_Na_lowered_20 nr_i (⟨by unfold lw; first | rw [if_pos (by omega)] | rw [if_neg (by omega)], rfl, rfl⟩)
set_option maxHeartbeats 4000000 in
set_option maxRecDepth 100000 in
/-- Names.findLabels -/
theorem m_Na_findLabels_ls (l : Launch) (D9 : va_G) (cB cI cJ cG : ClassId) (a : Nat → Nat) (O : Nat → Int64) (I : Nat → Int32) (F : Nat → Nat → Int32) (G : List Nat) (hGl : G.length ≤ 65536) (hGB : BR 0 65536 (F 4) G) (k fr rt : Nat) (hN : isN G k fr rt) (hk : k ≤ 127) : MC l D9 cB cI cJ cG a O y_Na_findLabels b_Na_findLabels 5 (some .int) 1 [.ref (a 3), .int (nI fr), .ref (a 22)] I F (fun v I' F' => v = some (.int (nI k)) ∧ I = I' ∧ sm [22] F F' ∧ ∀ j, j < k → F' 22 j = nI (lb G fr j)) := by
  refine mc_of (by decide) (Nat.le_of_ble_eq_true rfl) ?_
  intro p e s m below meth c ls A0 Q C0 hP hD hA hS hl hret
  obtain ⟨hx, hb, hml, hr, hlocks, hown, hts, hK⟩ := id C0
  have hl : lv_has ls 5 [(0, .ref (a 3)), (1, .int (nI fr)), (2, .ref (a 22))] := hl
  refine lv_iload_n hx hb d_Na_findLabels_0 rfl (lv_at hl 1 rfl) ?_
  refine lv_istore_n (lv' := [(3, _), (0, _), (1, _), (2, _)]) hx hb d_Na_findLabels_1 rfl hl (by decide) rfl (fun ls hl => ?_)
  refine lv_iconst (v := 0) hx hb d_Na_findLabels_2 (by decide) ?_
  refine lv_topq (y := nI 0) (rfl) ?_
  refine lv_istore (lv' := [(4, _), (3, _), (0, _), (1, _), (2, _)]) hx hb d_Na_findLabels_3 hl (by decide) rfl (fun ls hl => ?_)
  have loop1 : ∀ (n9 : Nat) (i : Nat) (I9 : Nat → Int32) (F9 : Nat → Nat → Int32) (H : Heap) (locs : List Loc) (ls : Array Slot), (I = I9) → (sm [22] F F9) → (k - i = n9) → (i ≤ k) → (∀ j, j < i → F9 22 j = nI (lb G fr j)) → va_P D9 cls9 (WW a cB cI cJ cG I9 F9 O) H → va_D A0 (WW a cB cI cJ cG I9 F9 O) → va_S A0 s.heap H locs → lv_has ls 5 [(0, .ref (a 3)), (1, .int (nI fr)), (2, .ref (a 22)), (3, .int (nI (lb G fr i))), (4, .int (nI i))] → W p l e (rm9 1 0 0) s m ([.ref (a 3), .int (nI fr), .ref (a 22)] : List Value).toArray below meth c H locs 0 0 Q (F0 m 5 ls []) := by
    intro n9
    induction n9 using Nat.strongRecOn with
    | ind n9 ih =>
      intro i I9 F9 H locs ls hsI hsF hn9 hi hR hP hD hS hl
      subst hsI
      have hGB9 : BR 0 65536 (F9 4) G := BR_eq hGB (hsF 4 (by decide))
      have hNi := isN_lb hN i hi
      have hpi := isN_p hNi
      refine lv_iload hx hb d_Na_findLabels_5 (lv_at hl 4 rfl) ?_
      refine lv_aload_n hx hb d_Na_findLabels_7 rfl (lv_at hl 2 rfl) ?_
      refine va_alen (D := D9) hx hb hK hP 22 1 ww_22 rfl rfl d_Na_findLabels_8 ?_
      refine lv_topq (y := nI 127) (rfl) ?_
      refine lv_icmp_ge (tgt := 41) hx hb d_Na_findLabels_9 (by decide) (fun c1 => ?_) (fun c1 => ?_)
      · have c1 : 127 ≤ i := (nI_leI (a := 127) (b := i) (by omega) (by omega)).mp c1
        refine lv_iload hx hb d_Na_findLabels_41 (lv_at hl 4 rfl) ?_
        exact hret _ _ _ _ _ _ _ hS hP hD d_Na_findLabels_43 nr_i (⟨by rw [show i = k from by omega], rfl, (sm_mo hsF (by decide)), fun j hj => hR j (by omega)⟩)
      · have c1 : ¬ (127 ≤ i) := fun z9 => c1 ((nI_leI (a := 127) (b := i) (by omega) (by omega)).mpr z9)
        refine lv_aload_n hx hb d_Na_findLabels_12 rfl (lv_at hl 0 rfl) ?_
        refine lv_iload_n hx hb d_Na_findLabels_13 rfl (lv_at hl 3 rfl) ?_
        refine mw_cVN (ci := 0) (k := 3) C0 (m_By_atL_gb l D9 cB cI cJ cG a O _ _ G (lb G fr i) hGB9 hGl (by omega)) g_259 g_2 g_585 g_258 gs_By_at ⟨by decide +kernel, by decide +kernel, show Option.map (fun d => d.parameters.length) (parseMethodDescriptor y_By_at.desc) = some 1 by decide +kernel⟩ ⟨by decide, by decide⟩ rfl rfl hP hD hS hA rfl ww_3 hl.1 (Nat.le_of_ble_eq_true rfl) rfl d_Na_findLabels_14 ⟨by decide, by decide⟩ (fun v9 w9 H locs hq hP hD hS => ?_)
        obtain ⟨I2, F3, hw9, q4⟩ := hq
        subst hw9
        obtain ⟨rfl, rfl, rfl⟩ := q4
        refine lv_if_eq (tgt := 41) hx hb d_Na_findLabels_17 (by decide) (fun c5 => ?_) (fun c5 => ?_)
        · have c5 : tb G (lb G fr i) = 0 := (nI_eq (a := tb G (lb G fr i)) (b := 0) (by omega) (by omega)).mp c5
          have hik : i = k := by rcases Nat.eq_zero_or_pos (k - i) with z | z; omega; have := hpi.2.2.2 z; omega
          refine lv_iload hx hb d_Na_findLabels_41 (lv_at hl 4 rfl) ?_
          exact hret _ _ _ _ _ _ _ hS hP hD d_Na_findLabels_43 nr_i (⟨by rw [show i = k from by omega], rfl, (sm_mo hsF (by decide)), fun j hj => hR j (by omega)⟩)
        · have c5 : ¬ (tb G (lb G fr i) = 0) := fun z9 => c5 ((nI_eq (a := tb G (lb G fr i)) (b := 0) (by omega) (by omega)).mpr z9)
          have hik : i < k := by rcases Nat.eq_zero_or_pos (k - i) with z | z; have := hpi.2.2.1 z; omega; omega
          refine lv_aload_n hx hb d_Na_findLabels_20 rfl (lv_at hl 2 rfl) ?_
          refine lv_iload hx hb d_Na_findLabels_21 (lv_at hl 4 rfl) ?_
          refine lv_iload_n hx hb d_Na_findLabels_23 rfl (lv_at hl 3 rfl) ?_
          refine va_iast (D := D9) hx hb hK hP hD hS 22 1 ww_22 rfl (vp_in_nI (by omega) (by decide)) d_Na_findLabels_24 (fun H locs hP hD hS => ?_)
          obtain ⟨F6, aF6, sF6, hP, hD⟩ := fx (P := fun z => va_P D9 cls9 (WW a cB cI cJ cG _ z O) H ∧ va_D A0 (WW a cB cI cJ cG _ z O)) ⟨wpa_22 hP, wda_22 hD⟩
          rw [nI_clamp (by omega)] at aF6
          refine lv_iinc (lv' := [(4, .int (nI (i + 1))), (0, _), (1, _), (2, _), (3, _)]) hx hb d_Na_findLabels_25 hl (k := 4) rfl (nI_add _ 1) (by decide) rfl (fun ls hl => ?_)
          refine lv_iload_n hx hb d_Na_findLabels_28 rfl (lv_at hl 4 rfl) ?_
          refine lv_iconst (v := 1) hx hb d_Na_findLabels_29 (by decide) ?_
          refine lv_topq (y := nI 1) (rfl) ?_
          refine lv_aload_n hx hb d_Na_findLabels_30 rfl (lv_at hl 1 rfl) ?_
          refine lv_iload_n hx hb d_Na_findLabels_31 rfl (lv_at hl 4 rfl) ?_
          refine mw_cVN (ci := 0) (k := 3) C0 (m_By_atL_gb l D9 cB cI cJ cG a O _ _ G (lb G fr i) (BR_eq hGB9 (sF6 4 (by decide))) hGl (by omega)) g_259 g_2 g_585 g_258 gs_By_at ⟨by decide +kernel, by decide +kernel, show Option.map (fun d => d.parameters.length) (parseMethodDescriptor y_By_at.desc) = some 1 by decide +kernel⟩ ⟨by decide, by decide⟩ rfl rfl hP hD hS hA rfl ww_3 hl.1 (Nat.le_of_ble_eq_true rfl) rfl d_Na_findLabels_32 ⟨by decide, by decide⟩ (fun v9 w9 H locs hq hP hD hS => ?_)
          obtain ⟨I7, F8, hw9, q9⟩ := hq
          subst hw9
          obtain ⟨rfl, rfl, rfl⟩ := q9
          refine lv_iadd hx hb d_Na_findLabels_35 ?_
          refine lv_topq (y := nI (1 + (tb G (lb G fr i)))) (nI_add _ _) ?_
          refine lv_iadd hx hb d_Na_findLabels_36 ?_
          refine lv_topq (y := nI (lb G fr i + (1 + (tb G (lb G fr i))))) (nI_add _ _) ?_
          refine lv_istore_n (lv' := [(3, _), (4, _), (0, _), (1, _), (2, _)]) hx hb d_Na_findLabels_37 rfl hl (by decide) rfl (fun ls hl => ?_)
          have hnx : lb G fr i + (1 + tb G (lb G fr i)) = lb G fr (i + 1) := by show _ = lb G fr i + (tb G (lb G fr i) + 1); omega
          rw [hnx] at hl
          refine lv_goto (tgt := 5) hx hb d_Na_findLabels_38 (by decide) ?_
          exact ih _ (by omega) (i + 1) _ _ _ _ _ rfl (sm_tr (sm_mo hsF (by decide)) (sm_mo sF6 (by decide))) rfl (by omega) (fun j hj => by rw [aF6]; exact upd_lt (g := fun j => nI (lb G fr j)) hR rfl j hj) hP hD hS (lv_pk hl [2, 3, 4, 0, 1] rfl)
  exact loop1 _ 0 _ _ _ _ _ rfl sm_rf rfl (Nat.zero_le _) (fun j hj => by omega) hP hD hS (lv_pk hl [2, 3, 4, 1, 0] rfl)
set_option maxHeartbeats 4000000 in
set_option maxRecDepth 100000 in
/-- Names.findLabels -/
theorem m_Na_findLabels_lb (l : Launch) (D9 : va_G) (cB cI cJ cG : ClassId) (a : Nat → Nat) (O : Nat → Int64) (I : Nat → Int32) (F : Nat → Nat → Int32) (G : List Nat) (hGl : G.length ≤ 65536) (hGB : BR 0 65536 (F 4) G) (k fr rt : Nat) (hN : isN G k fr rt) (hk : k ≤ 127) : MC l D9 cB cI cJ cG a O y_Na_findLabels b_Na_findLabels 5 (some .int) 1 [.ref (a 3), .int (nI fr), .ref (a 31)] I F (fun v I' F' => v = some (.int (nI k)) ∧ I = I' ∧ sm [31] F F' ∧ ∀ j, j < k → F' 31 j = nI (lb G fr j)) := by
  refine mc_of (by decide) (Nat.le_of_ble_eq_true rfl) ?_
  intro p e s m below meth c ls A0 Q C0 hP hD hA hS hl hret
  obtain ⟨hx, hb, hml, hr, hlocks, hown, hts, hK⟩ := id C0
  have hl : lv_has ls 5 [(0, .ref (a 3)), (1, .int (nI fr)), (2, .ref (a 31))] := hl
  refine lv_iload_n hx hb d_Na_findLabels_0 rfl (lv_at hl 1 rfl) ?_
  refine lv_istore_n (lv' := [(3, _), (0, _), (1, _), (2, _)]) hx hb d_Na_findLabels_1 rfl hl (by decide) rfl (fun ls hl => ?_)
  refine lv_iconst (v := 0) hx hb d_Na_findLabels_2 (by decide) ?_
  refine lv_topq (y := nI 0) (rfl) ?_
  refine lv_istore (lv' := [(4, _), (3, _), (0, _), (1, _), (2, _)]) hx hb d_Na_findLabels_3 hl (by decide) rfl (fun ls hl => ?_)
  have loop1 : ∀ (n9 : Nat) (i : Nat) (I9 : Nat → Int32) (F9 : Nat → Nat → Int32) (H : Heap) (locs : List Loc) (ls : Array Slot), (I = I9) → (sm [31] F F9) → (k - i = n9) → (i ≤ k) → (∀ j, j < i → F9 31 j = nI (lb G fr j)) → va_P D9 cls9 (WW a cB cI cJ cG I9 F9 O) H → va_D A0 (WW a cB cI cJ cG I9 F9 O) → va_S A0 s.heap H locs → lv_has ls 5 [(0, .ref (a 3)), (1, .int (nI fr)), (2, .ref (a 31)), (3, .int (nI (lb G fr i))), (4, .int (nI i))] → W p l e (rm9 1 0 0) s m ([.ref (a 3), .int (nI fr), .ref (a 31)] : List Value).toArray below meth c H locs 0 0 Q (F0 m 5 ls []) := by
    intro n9
    induction n9 using Nat.strongRecOn with
    | ind n9 ih =>
      intro i I9 F9 H locs ls hsI hsF hn9 hi hR hP hD hS hl
      subst hsI
      have hGB9 : BR 0 65536 (F9 4) G := BR_eq hGB (hsF 4 (by decide))
      have hNi := isN_lb hN i hi
      have hpi := isN_p hNi
      refine lv_iload hx hb d_Na_findLabels_5 (lv_at hl 4 rfl) ?_
      refine lv_aload_n hx hb d_Na_findLabels_7 rfl (lv_at hl 2 rfl) ?_
      refine va_alen (D := D9) hx hb hK hP 31 1 ww_31 rfl rfl d_Na_findLabels_8 ?_
      refine lv_topq (y := nI 127) (rfl) ?_
      refine lv_icmp_ge (tgt := 41) hx hb d_Na_findLabels_9 (by decide) (fun c1 => ?_) (fun c1 => ?_)
      · have c1 : 127 ≤ i := (nI_leI (a := 127) (b := i) (by omega) (by omega)).mp c1
        refine lv_iload hx hb d_Na_findLabels_41 (lv_at hl 4 rfl) ?_
        exact hret _ _ _ _ _ _ _ hS hP hD d_Na_findLabels_43 nr_i (⟨by rw [show i = k from by omega], rfl, (sm_mo hsF (by decide)), fun j hj => hR j (by omega)⟩)
      · have c1 : ¬ (127 ≤ i) := fun z9 => c1 ((nI_leI (a := 127) (b := i) (by omega) (by omega)).mpr z9)
        refine lv_aload_n hx hb d_Na_findLabels_12 rfl (lv_at hl 0 rfl) ?_
        refine lv_iload_n hx hb d_Na_findLabels_13 rfl (lv_at hl 3 rfl) ?_
        refine mw_cVN (ci := 0) (k := 3) C0 (m_By_atL_gb l D9 cB cI cJ cG a O _ _ G (lb G fr i) hGB9 hGl (by omega)) g_259 g_2 g_585 g_258 gs_By_at ⟨by decide +kernel, by decide +kernel, show Option.map (fun d => d.parameters.length) (parseMethodDescriptor y_By_at.desc) = some 1 by decide +kernel⟩ ⟨by decide, by decide⟩ rfl rfl hP hD hS hA rfl ww_3 hl.1 (Nat.le_of_ble_eq_true rfl) rfl d_Na_findLabels_14 ⟨by decide, by decide⟩ (fun v9 w9 H locs hq hP hD hS => ?_)
        obtain ⟨I2, F3, hw9, q4⟩ := hq
        subst hw9
        obtain ⟨rfl, rfl, rfl⟩ := q4
        refine lv_if_eq (tgt := 41) hx hb d_Na_findLabels_17 (by decide) (fun c5 => ?_) (fun c5 => ?_)
        · have c5 : tb G (lb G fr i) = 0 := (nI_eq (a := tb G (lb G fr i)) (b := 0) (by omega) (by omega)).mp c5
          have hik : i = k := by rcases Nat.eq_zero_or_pos (k - i) with z | z; omega; have := hpi.2.2.2 z; omega
          refine lv_iload hx hb d_Na_findLabels_41 (lv_at hl 4 rfl) ?_
          exact hret _ _ _ _ _ _ _ hS hP hD d_Na_findLabels_43 nr_i (⟨by rw [show i = k from by omega], rfl, (sm_mo hsF (by decide)), fun j hj => hR j (by omega)⟩)
        · have c5 : ¬ (tb G (lb G fr i) = 0) := fun z9 => c5 ((nI_eq (a := tb G (lb G fr i)) (b := 0) (by omega) (by omega)).mpr z9)
          have hik : i < k := by rcases Nat.eq_zero_or_pos (k - i) with z | z; have := hpi.2.2.1 z; omega; omega
          refine lv_aload_n hx hb d_Na_findLabels_20 rfl (lv_at hl 2 rfl) ?_
          refine lv_iload hx hb d_Na_findLabels_21 (lv_at hl 4 rfl) ?_
          refine lv_iload_n hx hb d_Na_findLabels_23 rfl (lv_at hl 3 rfl) ?_
          refine va_iast (D := D9) hx hb hK hP hD hS 31 1 ww_31 rfl (vp_in_nI (by omega) (by decide)) d_Na_findLabels_24 (fun H locs hP hD hS => ?_)
          obtain ⟨F6, aF6, sF6, hP, hD⟩ := fx (P := fun z => va_P D9 cls9 (WW a cB cI cJ cG _ z O) H ∧ va_D A0 (WW a cB cI cJ cG _ z O)) ⟨wpa_31 hP, wda_31 hD⟩
          rw [nI_clamp (by omega)] at aF6
          refine lv_iinc (lv' := [(4, .int (nI (i + 1))), (0, _), (1, _), (2, _), (3, _)]) hx hb d_Na_findLabels_25 hl (k := 4) rfl (nI_add _ 1) (by decide) rfl (fun ls hl => ?_)
          refine lv_iload_n hx hb d_Na_findLabels_28 rfl (lv_at hl 4 rfl) ?_
          refine lv_iconst (v := 1) hx hb d_Na_findLabels_29 (by decide) ?_
          refine lv_topq (y := nI 1) (rfl) ?_
          refine lv_aload_n hx hb d_Na_findLabels_30 rfl (lv_at hl 1 rfl) ?_
          refine lv_iload_n hx hb d_Na_findLabels_31 rfl (lv_at hl 4 rfl) ?_
          refine mw_cVN (ci := 0) (k := 3) C0 (m_By_atL_gb l D9 cB cI cJ cG a O _ _ G (lb G fr i) (BR_eq hGB9 (sF6 4 (by decide))) hGl (by omega)) g_259 g_2 g_585 g_258 gs_By_at ⟨by decide +kernel, by decide +kernel, show Option.map (fun d => d.parameters.length) (parseMethodDescriptor y_By_at.desc) = some 1 by decide +kernel⟩ ⟨by decide, by decide⟩ rfl rfl hP hD hS hA rfl ww_3 hl.1 (Nat.le_of_ble_eq_true rfl) rfl d_Na_findLabels_32 ⟨by decide, by decide⟩ (fun v9 w9 H locs hq hP hD hS => ?_)
          obtain ⟨I7, F8, hw9, q9⟩ := hq
          subst hw9
          obtain ⟨rfl, rfl, rfl⟩ := q9
          refine lv_iadd hx hb d_Na_findLabels_35 ?_
          refine lv_topq (y := nI (1 + (tb G (lb G fr i)))) (nI_add _ _) ?_
          refine lv_iadd hx hb d_Na_findLabels_36 ?_
          refine lv_topq (y := nI (lb G fr i + (1 + (tb G (lb G fr i))))) (nI_add _ _) ?_
          refine lv_istore_n (lv' := [(3, _), (4, _), (0, _), (1, _), (2, _)]) hx hb d_Na_findLabels_37 rfl hl (by decide) rfl (fun ls hl => ?_)
          have hnx : lb G fr i + (1 + tb G (lb G fr i)) = lb G fr (i + 1) := by show _ = lb G fr i + (tb G (lb G fr i) + 1); omega
          rw [hnx] at hl
          refine lv_goto (tgt := 5) hx hb d_Na_findLabels_38 (by decide) ?_
          exact ih _ (by omega) (i + 1) _ _ _ _ _ rfl (sm_tr (sm_mo hsF (by decide)) (sm_mo sF6 (by decide))) rfl (by omega) (fun j hj => by rw [aF6]; exact upd_lt (g := fun j => nI (lb G fr j)) hR rfl j hj) hP hD hS (lv_pk hl [2, 3, 4, 0, 1] rfl)
  exact loop1 _ 0 _ _ _ _ _ rfl sm_rf rfl (Nat.zero_le _) (fun j hj => by omega) hP hD hS (lv_pk hl [2, 3, 4, 1, 0] rfl)
set_option maxHeartbeats 4000000 in
set_option maxRecDepth 100000 in
/-- Names.findLabels -/
theorem m_Na_findLabels_ob (l : Launch) (D9 : va_G) (cB cI cJ cG : ClassId) (a : Nat → Nat) (O : Nat → Int64) (I : Nat → Int32) (F : Nat → Nat → Int32) (G : List Nat) (hGl : G.length ≤ 65536) (hGB : BR 0 65536 (F 4) G) (k fr rt : Nat) (hN : isN G k fr rt) (hk : k ≤ 127) : MC l D9 cB cI cJ cG a O y_Na_findLabels b_Na_findLabels 5 (some .int) 1 [.ref (a 3), .int (nI fr), .ref (a 32)] I F (fun v I' F' => v = some (.int (nI k)) ∧ I = I' ∧ sm [32] F F' ∧ ∀ j, j < k → F' 32 j = nI (lb G fr j)) := by
  refine mc_of (by decide) (Nat.le_of_ble_eq_true rfl) ?_
  intro p e s m below meth c ls A0 Q C0 hP hD hA hS hl hret
  obtain ⟨hx, hb, hml, hr, hlocks, hown, hts, hK⟩ := id C0
  have hl : lv_has ls 5 [(0, .ref (a 3)), (1, .int (nI fr)), (2, .ref (a 32))] := hl
  refine lv_iload_n hx hb d_Na_findLabels_0 rfl (lv_at hl 1 rfl) ?_
  refine lv_istore_n (lv' := [(3, _), (0, _), (1, _), (2, _)]) hx hb d_Na_findLabels_1 rfl hl (by decide) rfl (fun ls hl => ?_)
  refine lv_iconst (v := 0) hx hb d_Na_findLabels_2 (by decide) ?_
  refine lv_topq (y := nI 0) (rfl) ?_
  refine lv_istore (lv' := [(4, _), (3, _), (0, _), (1, _), (2, _)]) hx hb d_Na_findLabels_3 hl (by decide) rfl (fun ls hl => ?_)
  have loop1 : ∀ (n9 : Nat) (i : Nat) (I9 : Nat → Int32) (F9 : Nat → Nat → Int32) (H : Heap) (locs : List Loc) (ls : Array Slot), (I = I9) → (sm [32] F F9) → (k - i = n9) → (i ≤ k) → (∀ j, j < i → F9 32 j = nI (lb G fr j)) → va_P D9 cls9 (WW a cB cI cJ cG I9 F9 O) H → va_D A0 (WW a cB cI cJ cG I9 F9 O) → va_S A0 s.heap H locs → lv_has ls 5 [(0, .ref (a 3)), (1, .int (nI fr)), (2, .ref (a 32)), (3, .int (nI (lb G fr i))), (4, .int (nI i))] → W p l e (rm9 1 0 0) s m ([.ref (a 3), .int (nI fr), .ref (a 32)] : List Value).toArray below meth c H locs 0 0 Q (F0 m 5 ls []) := by
    intro n9
    induction n9 using Nat.strongRecOn with
    | ind n9 ih =>
      intro i I9 F9 H locs ls hsI hsF hn9 hi hR hP hD hS hl
      subst hsI
      have hGB9 : BR 0 65536 (F9 4) G := BR_eq hGB (hsF 4 (by decide))
      have hNi := isN_lb hN i hi
      have hpi := isN_p hNi
      refine lv_iload hx hb d_Na_findLabels_5 (lv_at hl 4 rfl) ?_
      refine lv_aload_n hx hb d_Na_findLabels_7 rfl (lv_at hl 2 rfl) ?_
      refine va_alen (D := D9) hx hb hK hP 32 1 ww_32 rfl rfl d_Na_findLabels_8 ?_
      refine lv_topq (y := nI 127) (rfl) ?_
      refine lv_icmp_ge (tgt := 41) hx hb d_Na_findLabels_9 (by decide) (fun c1 => ?_) (fun c1 => ?_)
      · have c1 : 127 ≤ i := (nI_leI (a := 127) (b := i) (by omega) (by omega)).mp c1
        refine lv_iload hx hb d_Na_findLabels_41 (lv_at hl 4 rfl) ?_
        exact hret _ _ _ _ _ _ _ hS hP hD d_Na_findLabels_43 nr_i (⟨by rw [show i = k from by omega], rfl, (sm_mo hsF (by decide)), fun j hj => hR j (by omega)⟩)
      · have c1 : ¬ (127 ≤ i) := fun z9 => c1 ((nI_leI (a := 127) (b := i) (by omega) (by omega)).mpr z9)
        refine lv_aload_n hx hb d_Na_findLabels_12 rfl (lv_at hl 0 rfl) ?_
        refine lv_iload_n hx hb d_Na_findLabels_13 rfl (lv_at hl 3 rfl) ?_
        refine mw_cVN (ci := 0) (k := 3) C0 (m_By_atL_gb l D9 cB cI cJ cG a O _ _ G (lb G fr i) hGB9 hGl (by omega)) g_259 g_2 g_585 g_258 gs_By_at ⟨by decide +kernel, by decide +kernel, show Option.map (fun d => d.parameters.length) (parseMethodDescriptor y_By_at.desc) = some 1 by decide +kernel⟩ ⟨by decide, by decide⟩ rfl rfl hP hD hS hA rfl ww_3 hl.1 (Nat.le_of_ble_eq_true rfl) rfl d_Na_findLabels_14 ⟨by decide, by decide⟩ (fun v9 w9 H locs hq hP hD hS => ?_)
        obtain ⟨I2, F3, hw9, q4⟩ := hq
        subst hw9
        obtain ⟨rfl, rfl, rfl⟩ := q4
        refine lv_if_eq (tgt := 41) hx hb d_Na_findLabels_17 (by decide) (fun c5 => ?_) (fun c5 => ?_)
        · have c5 : tb G (lb G fr i) = 0 := (nI_eq (a := tb G (lb G fr i)) (b := 0) (by omega) (by omega)).mp c5
          have hik : i = k := by rcases Nat.eq_zero_or_pos (k - i) with z | z; omega; have := hpi.2.2.2 z; omega
          refine lv_iload hx hb d_Na_findLabels_41 (lv_at hl 4 rfl) ?_
          exact hret _ _ _ _ _ _ _ hS hP hD d_Na_findLabels_43 nr_i (⟨by rw [show i = k from by omega], rfl, (sm_mo hsF (by decide)), fun j hj => hR j (by omega)⟩)
        · have c5 : ¬ (tb G (lb G fr i) = 0) := fun z9 => c5 ((nI_eq (a := tb G (lb G fr i)) (b := 0) (by omega) (by omega)).mpr z9)
          have hik : i < k := by rcases Nat.eq_zero_or_pos (k - i) with z | z; have := hpi.2.2.1 z; omega; omega
          refine lv_aload_n hx hb d_Na_findLabels_20 rfl (lv_at hl 2 rfl) ?_
          refine lv_iload hx hb d_Na_findLabels_21 (lv_at hl 4 rfl) ?_
          refine lv_iload_n hx hb d_Na_findLabels_23 rfl (lv_at hl 3 rfl) ?_
          refine va_iast (D := D9) hx hb hK hP hD hS 32 1 ww_32 rfl (vp_in_nI (by omega) (by decide)) d_Na_findLabels_24 (fun H locs hP hD hS => ?_)
          obtain ⟨F6, aF6, sF6, hP, hD⟩ := fx (P := fun z => va_P D9 cls9 (WW a cB cI cJ cG _ z O) H ∧ va_D A0 (WW a cB cI cJ cG _ z O)) ⟨wpa_32 hP, wda_32 hD⟩
          rw [nI_clamp (by omega)] at aF6
          refine lv_iinc (lv' := [(4, .int (nI (i + 1))), (0, _), (1, _), (2, _), (3, _)]) hx hb d_Na_findLabels_25 hl (k := 4) rfl (nI_add _ 1) (by decide) rfl (fun ls hl => ?_)
          refine lv_iload_n hx hb d_Na_findLabels_28 rfl (lv_at hl 4 rfl) ?_
          refine lv_iconst (v := 1) hx hb d_Na_findLabels_29 (by decide) ?_
          refine lv_topq (y := nI 1) (rfl) ?_
          refine lv_aload_n hx hb d_Na_findLabels_30 rfl (lv_at hl 1 rfl) ?_
          refine lv_iload_n hx hb d_Na_findLabels_31 rfl (lv_at hl 4 rfl) ?_
          refine mw_cVN (ci := 0) (k := 3) C0 (m_By_atL_gb l D9 cB cI cJ cG a O _ _ G (lb G fr i) (BR_eq hGB9 (sF6 4 (by decide))) hGl (by omega)) g_259 g_2 g_585 g_258 gs_By_at ⟨by decide +kernel, by decide +kernel, show Option.map (fun d => d.parameters.length) (parseMethodDescriptor y_By_at.desc) = some 1 by decide +kernel⟩ ⟨by decide, by decide⟩ rfl rfl hP hD hS hA rfl ww_3 hl.1 (Nat.le_of_ble_eq_true rfl) rfl d_Na_findLabels_32 ⟨by decide, by decide⟩ (fun v9 w9 H locs hq hP hD hS => ?_)
          obtain ⟨I7, F8, hw9, q9⟩ := hq
          subst hw9
          obtain ⟨rfl, rfl, rfl⟩ := q9
          refine lv_iadd hx hb d_Na_findLabels_35 ?_
          refine lv_topq (y := nI (1 + (tb G (lb G fr i)))) (nI_add _ _) ?_
          refine lv_iadd hx hb d_Na_findLabels_36 ?_
          refine lv_topq (y := nI (lb G fr i + (1 + (tb G (lb G fr i))))) (nI_add _ _) ?_
          refine lv_istore_n (lv' := [(3, _), (4, _), (0, _), (1, _), (2, _)]) hx hb d_Na_findLabels_37 rfl hl (by decide) rfl (fun ls hl => ?_)
          have hnx : lb G fr i + (1 + tb G (lb G fr i)) = lb G fr (i + 1) := by show _ = lb G fr i + (tb G (lb G fr i) + 1); omega
          rw [hnx] at hl
          refine lv_goto (tgt := 5) hx hb d_Na_findLabels_38 (by decide) ?_
          exact ih _ (by omega) (i + 1) _ _ _ _ _ rfl (sm_tr (sm_mo hsF (by decide)) (sm_mo sF6 (by decide))) rfl (by omega) (fun j hj => by rw [aF6]; exact upd_lt (g := fun j => nI (lb G fr j)) hR rfl j hj) hP hD hS (lv_pk hl [2, 3, 4, 0, 1] rfl)
  exact loop1 _ 0 _ _ _ _ _ rfl sm_rf rfl (Nat.zero_le _) (fun j hj => by omega) hP hD hS (lv_pk hl [2, 3, 4, 1, 0] rfl)
set_option maxHeartbeats 4000000 in
set_option maxRecDepth 100000 in
/-- Names.compareLabels -/
theorem m_Na_compareLabels (l : Launch) (D9 : va_G) (cB cI cJ cG : ClassId) (a : Nat → Nat) (O : Nat → Int64) (I : Nat → Int32) (F : Nat → Nat → Int32) (G : List Nat) (hGl : G.length ≤ 65536) (hGB : BR 0 65536 (F 4) G) (p9 q9 : Nat) (hp : p9 < G.length) (hq : q9 < G.length) (hpe : p9 + tb G p9 < G.length) (hqe : q9 + tb G q9 < G.length) : MC l D9 cB cI cJ cG a O y_Na_compareLabels b_Na_compareLabels 8 (some .int) 1 [.ref (a 30), .int (nI p9), .int (nI q9)] I F (fun v I' F' => v = some (.int (cmpL G p9 q9)) ∧ I = I' ∧ F = F') := by
  refine mc_of (by decide) (Nat.le_of_ble_eq_true rfl) ?_
  intro p e s m below meth c ls A0 Q C0 hP hD hA hS hl hret
  obtain ⟨hx, hb, hml, hr, hlocks, hown, hts, hK⟩ := id C0
  have hl : lv_has ls 8 [(0, .ref (a 30)), (1, .int (nI p9)), (2, .int (nI q9))] := hl
  have hu1 : tb G p9 < 256 := BR_lt hGB hp (by omega) (by omega)
  have hu2 : tb G q9 < 256 := BR_lt hGB hq (by omega) (by omega)
  refine lv_aload_n hx hb d_Na_compareLabels_0 rfl (lv_at hl 0 rfl) ?_
  refine va_get (D := D9) (ci := 3) (C := R_Na) (T := F_Na) (N := 3) hx hb hts i_Na hown hK hP 30 ww_30 rfl 0 (by decide) (hts _ g_212) (fun _ h9 => h9) rfl d_Na_compareLabels_1 ?_
  refine lv_iload_n hx hb d_Na_compareLabels_4 rfl (lv_at hl 1 rfl) ?_
  refine mw_cVN (ci := 0) (k := 3) C0 (m_By_atL_gb l D9 cB cI cJ cG a O _ _ G p9 hGB hGl (by omega)) g_259 g_2 g_585 g_258 gs_By_at ⟨by decide +kernel, by decide +kernel, show Option.map (fun d => d.parameters.length) (parseMethodDescriptor y_By_at.desc) = some 1 by decide +kernel⟩ ⟨by decide, by decide⟩ rfl rfl hP hD hS hA rfl ww_3 hl.1 (Nat.le_of_ble_eq_true rfl) rfl d_Na_compareLabels_5 ⟨by decide, by decide⟩ (fun v9 w9 H locs hq hP hD hS => ?_)
  obtain ⟨I1, F2, hw9, q3⟩ := hq
  subst hw9
  obtain ⟨rfl, rfl, rfl⟩ := q3
  refine lv_istore_n (lv' := [(3, _), (0, _), (1, _), (2, _)]) hx hb d_Na_compareLabels_8 rfl hl (by decide) rfl (fun ls hl => ?_)
  refine lv_aload_n hx hb d_Na_compareLabels_9 rfl (lv_at hl 1 rfl) ?_
  refine va_get (D := D9) (ci := 3) (C := R_Na) (T := F_Na) (N := 3) hx hb hts i_Na hown hK hP 30 ww_30 rfl 0 (by decide) (hts _ g_212) (fun _ h9 => h9) rfl d_Na_compareLabels_10 ?_
  refine lv_iload_n hx hb d_Na_compareLabels_13 rfl (lv_at hl 3 rfl) ?_
  refine mw_cVN (ci := 0) (k := 3) C0 (m_By_atL_gb l D9 cB cI cJ cG a O _ _ G q9 hGB hGl (by omega)) g_259 g_2 g_585 g_258 gs_By_at ⟨by decide +kernel, by decide +kernel, show Option.map (fun d => d.parameters.length) (parseMethodDescriptor y_By_at.desc) = some 1 by decide +kernel⟩ ⟨by decide, by decide⟩ rfl rfl hP hD hS hA rfl ww_3 hl.1 (Nat.le_of_ble_eq_true rfl) rfl d_Na_compareLabels_14 ⟨by decide, by decide⟩ (fun v9 w9 H locs hq hP hD hS => ?_)
  obtain ⟨I4, F5, hw9, q6⟩ := hq
  subst hw9
  obtain ⟨rfl, rfl, rfl⟩ := q6
  refine lv_istore (lv' := [(4, _), (3, _), (0, _), (1, _), (2, _)]) hx hb d_Na_compareLabels_17 hl (by decide) rfl (fun ls hl => ?_)
  refine lv_iload_n hx hb d_Na_compareLabels_19 rfl (lv_at hl 1 rfl) ?_
  refine lv_iload hx hb d_Na_compareLabels_20 (lv_at hl 0 rfl) ?_
  refine va_mmin hx hb (by rw [hml]; exact hl.1.symm) hown (hts _ g_694) (hts _ g_302) (hts _ g_14) (hts _ g_303) (by decide) (by decide) (by decide) (by decide) d_Na_compareLabels_22 ?_
  refine lv_topq (y := nI (min (tb G p9) (tb G q9))) (mn_nI (by omega) (by omega)) ?_
  refine lv_istore (lv' := [(5, _), (4, _), (3, _), (0, _), (1, _), (2, _)]) hx hb d_Na_compareLabels_25 hl (by decide) rfl (fun ls hl => ?_)
  refine lv_iconst (v := 1) hx hb d_Na_compareLabels_27 (by decide) ?_
  refine lv_topq (y := nI 1) (rfl) ?_
  refine lv_istore (lv' := [(6, _), (5, _), (4, _), (3, _), (0, _), (1, _), (2, _)]) hx hb d_Na_compareLabels_28 hl (by decide) rfl (fun ls hl => ?_)
  have loop1 : ∀ (n9 : Nat) (i : Nat) (I9 : Nat → Int32) (F9 : Nat → Nat → Int32) (H : Heap) (locs : List Loc) (ls : Array Slot), (I = I9) → (F = F9) → (min (tb G p9) (tb G q9) + 1 - i = n9) → (1 ≤ i ∧ i ≤ min (tb G p9) (tb G q9) + 1) → (cmpL G p9 q9 = cl G p9 q9 (tb G p9) (tb G q9) (min (tb G p9) (tb G q9) + 1 - i) i) → va_P D9 cls9 (WW a cB cI cJ cG I9 F9 O) H → va_D A0 (WW a cB cI cJ cG I9 F9 O) → va_S A0 s.heap H locs → lv_has ls 8 [(0, .ref (a 30)), (1, .int (nI p9)), (2, .int (nI q9)), (3, .int (nI (tb G p9))), (4, .int (nI (tb G q9))), (5, .int (nI (min (tb G p9) (tb G q9)))), (6, .int (nI i))] → W p l e (rm9 1 0 0) s m ([.ref (a 30), .int (nI p9), .int (nI q9)] : List Value).toArray below meth c H locs 0 0 Q (F0 m 30 ls []) := by
    intro n9
    induction n9 using Nat.strongRecOn with
    | ind n9 ih =>
      intro i I9 F9 H locs ls hsI hsF hn9 hi hC hP hD hS hl
      subst hsI
      subst hsF
      refine lv_iload hx hb d_Na_compareLabels_30 (lv_at hl 6 rfl) ?_
      refine lv_iload hx hb d_Na_compareLabels_32 (lv_at hl 5 rfl) ?_
      refine lv_icmp_gt (tgt := 84) hx hb d_Na_compareLabels_34 (by decide) (fun c7 => ?_) (fun c7 => ?_)
      · have c7 : min (tb G p9) (tb G q9) < i := (nI_ltI (a := min (tb G p9) (tb G q9)) (b := i) (by omega) (by omega)).mp c7
        rw [show min (tb G p9) (tb G q9) + 1 - i = 0 from by omega] at hC
        refine lv_iload_n hx hb d_Na_compareLabels_84 rfl (lv_at hl 3 rfl) ?_
        refine lv_iload hx hb d_Na_compareLabels_85 (lv_at hl 4 rfl) ?_
        refine mw_cS C0 (m_Na_wayFrom l D9 cB cI cJ cG a O _ _ (tb G p9) (tb G q9) (by omega) (by omega)) g_704 g_7 g_702 g_703 ⟨by decide +kernel, by decide +kernel, show Option.map (fun d => d.parameters.length) (parseMethodDescriptor y_Na_wayFrom.desc) = some 2 by decide +kernel⟩ ⟨by decide, by decide⟩ rfl rfl hP hD hS hA hl.1 (Nat.le_of_ble_eq_true rfl) rfl d_Na_compareLabels_87 ⟨by decide, by decide⟩ (fun v9 w9 H locs hq hP hD hS => ?_)
        obtain ⟨I8, F9, hw9, q10⟩ := hq
        subst hw9
        obtain ⟨rfl, rfl, rfl⟩ := q10
        exact hret _ _ _ _ _ _ _ hS hP hD d_Na_compareLabels_90 nr_i (⟨by rw [hC]; rfl, rfl, rfl⟩)
      · have c7 : ¬ (min (tb G p9) (tb G q9) < i) := fun z9 => c7 ((nI_ltI (a := min (tb G p9) (tb G q9)) (b := i) (by omega) (by omega)).mpr z9)
        rw [show min (tb G p9) (tb G q9) + 1 - i = (min (tb G p9) (tb G q9) + 1 - (i + 1)) + 1 from by omega] at hC
        have hv1 : tb G (p9 + i) < 256 := BR_lt hGB (by omega) (by omega) (by omega)
        have hv2 : tb G (q9 + i) < 256 := BR_lt hGB (by omega) (by omega) (by omega)
        have hw1 := lw_lt hv1
        have hw2 := lw_lt hv2
        refine lv_aload_n hx hb d_Na_compareLabels_37 rfl (lv_at hl 0 rfl) ?_
        refine va_get (D := D9) (ci := 3) (C := R_Na) (T := F_Na) (N := 3) hx hb hts i_Na hown hK hP 30 ww_30 rfl 0 (by decide) (hts _ g_212) (fun _ h9 => h9) rfl d_Na_compareLabels_38 ?_
        refine lv_iload_n hx hb d_Na_compareLabels_41 rfl (lv_at hl 1 rfl) ?_
        refine lv_iload hx hb d_Na_compareLabels_42 (lv_at hl 6 rfl) ?_
        refine lv_iadd hx hb d_Na_compareLabels_44 ?_
        refine lv_topq (y := nI (p9 + i)) (nI_add _ _) ?_
        refine mw_cVN (ci := 0) (k := 3) C0 (m_By_atL_gb l D9 cB cI cJ cG a O _ _ G (p9 + i) hGB hGl (by omega)) g_259 g_2 g_585 g_258 gs_By_at ⟨by decide +kernel, by decide +kernel, show Option.map (fun d => d.parameters.length) (parseMethodDescriptor y_By_at.desc) = some 1 by decide +kernel⟩ ⟨by decide, by decide⟩ rfl rfl hP hD hS hA rfl ww_3 hl.1 (Nat.le_of_ble_eq_true rfl) rfl d_Na_compareLabels_45 ⟨by decide, by decide⟩ (fun v9 w9 H locs hq hP hD hS => ?_)
        obtain ⟨I11, F12, hw9, q13⟩ := hq
        subst hw9
        obtain ⟨rfl, rfl, rfl⟩ := q13
        refine mw_cS C0 (m_Na_lowered l D9 cB cI cJ cG a O _ _ (tb G (p9 + i)) (by omega)) g_701 g_7 g_699 g_700 ⟨by decide +kernel, by decide +kernel, show Option.map (fun d => d.parameters.length) (parseMethodDescriptor y_Na_lowered.desc) = some 1 by decide +kernel⟩ ⟨by decide, by decide⟩ rfl rfl hP hD hS hA hl.1 (Nat.le_of_ble_eq_true rfl) rfl d_Na_compareLabels_48 ⟨by decide, by decide⟩ (fun v9 w9 H locs hq hP hD hS => ?_)
        obtain ⟨I14, F15, hw9, q16⟩ := hq
        subst hw9
        obtain ⟨rfl, rfl, rfl⟩ := q16
        refine lv_aload_n hx hb d_Na_compareLabels_51 rfl (lv_at hl 0 rfl) ?_
        refine va_get (D := D9) (ci := 3) (C := R_Na) (T := F_Na) (N := 3) hx hb hts i_Na hown hK hP 30 ww_30 rfl 0 (by decide) (hts _ g_212) (fun _ h9 => h9) rfl d_Na_compareLabels_52 ?_
        refine lv_iload_n hx hb d_Na_compareLabels_55 rfl (lv_at hl 2 rfl) ?_
        refine lv_iload hx hb d_Na_compareLabels_56 (lv_at hl 6 rfl) ?_
        refine lv_iadd hx hb d_Na_compareLabels_58 ?_
        refine lv_topq (y := nI (q9 + i)) (nI_add _ _) ?_
        refine mw_cVN (ci := 0) (k := 3) C0 (m_By_atL_gb l D9 cB cI cJ cG a O _ _ G (q9 + i) hGB hGl (by omega)) g_259 g_2 g_585 g_258 gs_By_at ⟨by decide +kernel, by decide +kernel, show Option.map (fun d => d.parameters.length) (parseMethodDescriptor y_By_at.desc) = some 1 by decide +kernel⟩ ⟨by decide, by decide⟩ rfl rfl hP hD hS hA rfl ww_3 hl.1 (Nat.le_of_ble_eq_true rfl) rfl d_Na_compareLabels_59 ⟨by decide, by decide⟩ (fun v9 w9 H locs hq hP hD hS => ?_)
        obtain ⟨I17, F18, hw9, q19⟩ := hq
        subst hw9
        obtain ⟨rfl, rfl, rfl⟩ := q19
        refine mw_cS C0 (m_Na_lowered l D9 cB cI cJ cG a O _ _ (tb G (q9 + i)) (by omega)) g_701 g_7 g_699 g_700 ⟨by decide +kernel, by decide +kernel, show Option.map (fun d => d.parameters.length) (parseMethodDescriptor y_Na_lowered.desc) = some 1 by decide +kernel⟩ ⟨by decide, by decide⟩ rfl rfl hP hD hS hA hl.1 (Nat.le_of_ble_eq_true rfl) rfl d_Na_compareLabels_62 ⟨by decide, by decide⟩ (fun v9 w9 H locs hq hP hD hS => ?_)
        obtain ⟨I20, F21, hw9, q22⟩ := hq
        subst hw9
        obtain ⟨rfl, rfl, rfl⟩ := q22
        refine mw_cS C0 (m_Na_wayFrom l D9 cB cI cJ cG a O _ _ (lw (tb G (p9 + i))) (lw (tb G (q9 + i))) (by omega) (by omega)) g_704 g_7 g_702 g_703 ⟨by decide +kernel, by decide +kernel, show Option.map (fun d => d.parameters.length) (parseMethodDescriptor y_Na_wayFrom.desc) = some 2 by decide +kernel⟩ ⟨by decide, by decide⟩ rfl rfl hP hD hS hA hl.1 (Nat.le_of_ble_eq_true rfl) rfl d_Na_compareLabels_65 ⟨by decide, by decide⟩ (fun v9 w9 H locs hq hP hD hS => ?_)
        obtain ⟨I23, F24, hw9, q25⟩ := hq
        subst hw9
        obtain ⟨rfl, rfl, rfl⟩ := q25
        refine lv_istore (lv' := [(7, _), (0, _), (1, _), (2, _), (3, _), (4, _), (5, _), (6, _)]) hx hb d_Na_compareLabels_68 hl (by decide) rfl (fun ls hl => ?_)
        refine lv_iload hx hb d_Na_compareLabels_70 (lv_at hl 0 rfl) ?_
        refine lv_if_eq (tgt := 78) hx hb d_Na_compareLabels_72 (by decide) (fun c26 => ?_) (fun c26 => ?_)
        · have hC : cmpL G p9 q9 = cl G p9 q9 (tb G p9) (tb G q9) (min (tb G p9) (tb G q9) + 1 - (i + 1)) (i + 1) := by rw [hC]; exact if_pos c26
          refine lv_iinc (lv' := [(6, .int (nI (i + 1))), (7, _), (0, _), (1, _), (2, _), (3, _), (4, _), (5, _)]) hx hb d_Na_compareLabels_78 hl (k := 7) rfl (nI_add _ 1) (by decide) rfl (fun ls hl => ?_)
          refine lv_goto (tgt := 30) hx hb d_Na_compareLabels_81 (by decide) ?_
          exact ih _ (by omega) (i + 1) _ _ _ _ _ rfl rfl rfl ⟨by omega, by omega⟩ hC hP hD hS (lv_pk hl [2, 3, 4, 5, 6, 7, 0] rfl)
        · have hC : cmpL G p9 q9 = wy (lw (tb G (p9 + i))) (lw (tb G (q9 + i))) := by rw [hC]; exact if_neg c26
          refine lv_iload hx hb d_Na_compareLabels_75 (lv_at hl 0 rfl) ?_
          exact hret _ _ _ _ _ _ _ hS hP hD d_Na_compareLabels_77 nr_i (⟨by rw [hC], rfl, rfl⟩)
  exact loop1 _ 1 _ _ _ _ _ rfl rfl rfl ⟨by omega, by omega⟩ (by unfold cmpL; rw [show min (tb G p9) (tb G q9) + 1 - 1 = min (tb G p9) (tb G q9) from by omega]) hP hD hS (lv_pk hl [4, 5, 6, 3, 2, 1, 0] rfl)
set_option maxHeartbeats 4000000 in
set_option maxRecDepth 100000 in
/-- Names.compare -/
theorem m_Na_compare (l : Launch) (D9 : va_G) (cB cI cJ cG : ClassId) (a : Nat → Nat) (O : Nat → Int64) (I : Nat → Int32) (F : Nat → Nat → Int32) (G : List Nat) (hGl : G.length ≤ 65536) (hGB : BR 0 65536 (F 4) G) (k1 p1 r1 k2 p2 r2 : Nat) (hN1 : isN G k1 p1 r1) (hN2 : isN G k2 p2 r2) (hk1 : k1 ≤ 127) (hk2 : k2 ≤ 127) : MC l D9 cB cI cJ cG a O y_Na_compare b_Na_compare 8 (some .int) 2 [.ref (a 30), .int (nI p1), .int (nI p2)] I F (fun v I' F' => v = some (.int (cmpN G p1 k1 p2 k2)) ∧ I = I' ∧ sm [31, 32] F F') := by
  refine mc_of (by decide) (Nat.le_of_ble_eq_true rfl) ?_
  intro p e s m below meth c ls A0 Q C0 hP hD hA hS hl hret
  obtain ⟨hx, hb, hml, hr, hlocks, hown, hts, hK⟩ := id C0
  have hl : lv_has ls 8 [(0, .ref (a 30)), (1, .int (nI p1)), (2, .int (nI p2))] := hl
  refine lv_aload_n hx hb d_Na_compare_0 rfl (lv_at hl 0 rfl) ?_
  refine va_get (D := D9) (ci := 3) (C := R_Na) (T := F_Na) (N := 3) hx hb hts i_Na hown hK hP 30 ww_30 rfl 0 (by decide) (hts _ g_212) (fun _ h9 => h9) rfl d_Na_compare_1 ?_
  refine lv_iload_n hx hb d_Na_compare_4 rfl (lv_at hl 1 rfl) ?_
  refine lv_aload_n hx hb d_Na_compare_5 rfl (lv_at hl 0 rfl) ?_
  refine va_get (D := D9) (ci := 3) (C := R_Na) (T := F_Na) (N := 3) hx hb hts i_Na hown hK hP 30 ww_30 rfl 1 (by decide) (hts _ g_213) (fun _ h9 => h9) rfl d_Na_compare_6 ?_
  refine mw_cS C0 (m_Na_findLabels_lb l D9 cB cI cJ cG a O _ _ G hGl hGB k1 p1 r1 hN1 hk1) g_584 g_7 g_693 g_583 ⟨by decide +kernel, by decide +kernel, show Option.map (fun d => d.parameters.length) (parseMethodDescriptor y_Na_findLabels.desc) = some 3 by decide +kernel⟩ ⟨by decide, by decide⟩ rfl rfl hP hD hS hA hl.1 (Nat.le_of_ble_eq_true rfl) rfl d_Na_compare_9 ⟨by decide, by decide⟩ (fun v9 w9 H locs hq hP hD hS => ?_)
  obtain ⟨I1, F2, hw9, q3⟩ := hq
  subst hw9
  obtain ⟨rfl, rfl, sf1, hf1⟩ := q3
  refine lv_istore_n (lv' := [(3, _), (0, _), (1, _), (2, _)]) hx hb d_Na_compare_12 rfl hl (by decide) rfl (fun ls hl => ?_)
  refine lv_aload_n hx hb d_Na_compare_13 rfl (lv_at hl 1 rfl) ?_
  refine va_get (D := D9) (ci := 3) (C := R_Na) (T := F_Na) (N := 3) hx hb hts i_Na hown hK hP 30 ww_30 rfl 0 (by decide) (hts _ g_212) (fun _ h9 => h9) rfl d_Na_compare_14 ?_
  refine lv_iload_n hx hb d_Na_compare_17 rfl (lv_at hl 3 rfl) ?_
  refine lv_aload_n hx hb d_Na_compare_18 rfl (lv_at hl 1 rfl) ?_
  refine va_get (D := D9) (ci := 3) (C := R_Na) (T := F_Na) (N := 3) hx hb hts i_Na hown hK hP 30 ww_30 rfl 2 (by decide) (hts _ g_214) (fun _ h9 => h9) rfl d_Na_compare_19 ?_
  refine mw_cS C0 (m_Na_findLabels_ob l D9 cB cI cJ cG a O _ _ G hGl (BR_eq hGB (sf1 4 (by decide))) k2 p2 r2 hN2 hk2) g_584 g_7 g_693 g_583 ⟨by decide +kernel, by decide +kernel, show Option.map (fun d => d.parameters.length) (parseMethodDescriptor y_Na_findLabels.desc) = some 3 by decide +kernel⟩ ⟨by decide, by decide⟩ rfl rfl hP hD hS hA hl.1 (Nat.le_of_ble_eq_true rfl) rfl d_Na_compare_22 ⟨by decide, by decide⟩ (fun v9 w9 H locs hq hP hD hS => ?_)
  obtain ⟨I4, F5, hw9, q6⟩ := hq
  subst hw9
  obtain ⟨rfl, rfl, sf2, hf2⟩ := q6
  refine lv_istore (lv' := [(4, _), (3, _), (0, _), (1, _), (2, _)]) hx hb d_Na_compare_25 hl (by decide) rfl (fun ls hl => ?_)
  refine lv_iload_n hx hb d_Na_compare_27 rfl (lv_at hl 1 rfl) ?_
  refine lv_iload hx hb d_Na_compare_28 (lv_at hl 0 rfl) ?_
  refine va_mmin hx hb (by rw [hml]; exact hl.1.symm) hown (hts _ g_694) (hts _ g_302) (hts _ g_14) (hts _ g_303) (by decide) (by decide) (by decide) (by decide) d_Na_compare_30 ?_
  refine lv_topq (y := nI (min k1 k2)) (mn_nI (by omega) (by omega)) ?_
  refine lv_istore (lv' := [(5, _), (4, _), (3, _), (0, _), (1, _), (2, _)]) hx hb d_Na_compare_33 hl (by decide) rfl (fun ls hl => ?_)
  refine lv_iconst (v := 1) hx hb d_Na_compare_35 (by decide) ?_
  refine lv_topq (y := nI 1) (rfl) ?_
  refine lv_istore (lv' := [(6, _), (5, _), (4, _), (3, _), (0, _), (1, _), (2, _)]) hx hb d_Na_compare_36 hl (by decide) rfl (fun ls hl => ?_)
  have loop1 : ∀ (n9 : Nat) (i : Nat) (I9 : Nat → Int32) (F9 : Nat → Nat → Int32) (H : Heap) (locs : List Loc) (ls : Array Slot), (I = I9) → (sm [31, 32] F F9) → (min k1 k2 + 1 - i = n9) → (1 ≤ i ∧ i ≤ min k1 k2 + 1) → (cmpN G p1 k1 p2 k2 = cm G p1 k1 p2 k2 (min k1 k2 + 1 - i) i) → (∀ j, j < k1 → F9 31 j = nI (lb G p1 j)) → (∀ j, j < k2 → F9 32 j = nI (lb G p2 j)) → va_P D9 cls9 (WW a cB cI cJ cG I9 F9 O) H → va_D A0 (WW a cB cI cJ cG I9 F9 O) → va_S A0 s.heap H locs → lv_has ls 8 [(0, .ref (a 30)), (1, .int (nI p1)), (2, .int (nI p2)), (3, .int (nI k1)), (4, .int (nI k2)), (5, .int (nI (min k1 k2))), (6, .int (nI i))] → W p l e (rm9 2 0 0) s m ([.ref (a 30), .int (nI p1), .int (nI p2)] : List Value).toArray below meth c H locs 0 0 Q (F0 m 38 ls []) := by
    intro n9
    induction n9 using Nat.strongRecOn with
    | ind n9 ih =>
      intro i I9 F9 H locs ls hsI hsF hn9 hi hC h31 h32 hP hD hS hl
      subst hsI
      have hGB9 : BR 0 65536 (F9 4) G := BR_eq hGB (hsF 4 (by decide))
      refine lv_iload hx hb d_Na_compare_38 (lv_at hl 6 rfl) ?_
      refine lv_iload hx hb d_Na_compare_40 (lv_at hl 5 rfl) ?_
      refine lv_icmp_gt (tgt := 84) hx hb d_Na_compare_42 (by decide) (fun c7 => ?_) (fun c7 => ?_)
      · have c7 : min k1 k2 < i := (nI_ltI (a := min k1 k2) (b := i) (by omega) (by omega)).mp c7
        rw [show min k1 k2 + 1 - i = 0 from by omega] at hC
        refine lv_iload_n hx hb d_Na_compare_84 rfl (lv_at hl 3 rfl) ?_
        refine lv_iload hx hb d_Na_compare_85 (lv_at hl 4 rfl) ?_
        refine mw_cS C0 (m_Na_wayFrom l D9 cB cI cJ cG a O _ _ k1 k2 (by omega) (by omega)) g_704 g_7 g_702 g_703 ⟨by decide +kernel, by decide +kernel, show Option.map (fun d => d.parameters.length) (parseMethodDescriptor y_Na_wayFrom.desc) = some 2 by decide +kernel⟩ ⟨by decide, by decide⟩ rfl rfl hP hD hS hA hl.1 (Nat.le_of_ble_eq_true rfl) rfl d_Na_compare_87 ⟨by decide, by decide⟩ (fun v9 w9 H locs hq hP hD hS => ?_)
        obtain ⟨I8, F9, hw9, q10⟩ := hq
        subst hw9
        obtain ⟨rfl, rfl, rfl⟩ := q10
        exact hret _ _ _ _ _ _ _ hS hP hD d_Na_compare_90 nr_i (⟨by rw [hC]; rfl, rfl, (sm_mo hsF (by decide))⟩)
      · have c7 : ¬ (min k1 k2 < i) := fun z9 => c7 ((nI_ltI (a := min k1 k2) (b := i) (by omega) (by omega)).mpr z9)
        rw [show min k1 k2 + 1 - i = (min k1 k2 + 1 - (i + 1)) + 1 from by omega] at hC
        have hv1 := isN_lb hN1 (k1 - i) (by omega)
        have hw1 := isN_p hv1
        have hy1 := isN_in hv1 (by omega)
        have hv2 := isN_lb hN2 (k2 - i) (by omega)
        have hw2 := isN_p hv2
        have hy2 := isN_in hv2 (by omega)
        refine lv_aload_n hx hb d_Na_compare_45 rfl (lv_at hl 0 rfl) ?_
        refine lv_aload_n hx hb d_Na_compare_46 rfl (lv_at hl 0 rfl) ?_
        refine va_get (D := D9) (ci := 3) (C := R_Na) (T := F_Na) (N := 3) hx hb hts i_Na hown hK hP 30 ww_30 rfl 1 (by decide) (hts _ g_213) (fun _ h9 => h9) rfl d_Na_compare_47 ?_
        refine lv_iload_n hx hb d_Na_compare_50 rfl (lv_at hl 3 rfl) ?_
        refine lv_iload hx hb d_Na_compare_51 (lv_at hl 6 rfl) ?_
        refine lv_isub hx hb d_Na_compare_53 ?_
        refine lv_topq (y := nI (k1 - i)) (pk_sub (by omega)) ?_
        refine va_iald (D := D9) hx hb hK hP 31 1 ww_31 rfl (vp_in_nI (by omega) (by decide)) d_Na_compare_54 ?_
        refine lv_topq (y := nI (lb G p1 (k1 - i))) (by rw [nI_clamp (by omega)]; exact (h31 _ (by omega))) ?_
        refine lv_aload_n hx hb d_Na_compare_55 rfl (lv_at hl 0 rfl) ?_
        refine va_get (D := D9) (ci := 3) (C := R_Na) (T := F_Na) (N := 3) hx hb hts i_Na hown hK hP 30 ww_30 rfl 2 (by decide) (hts _ g_214) (fun _ h9 => h9) rfl d_Na_compare_56 ?_
        refine lv_iload hx hb d_Na_compare_59 (lv_at hl 4 rfl) ?_
        refine lv_iload hx hb d_Na_compare_61 (lv_at hl 6 rfl) ?_
        refine lv_isub hx hb d_Na_compare_63 ?_
        refine lv_topq (y := nI (k2 - i)) (pk_sub (by omega)) ?_
        refine va_iald (D := D9) hx hb hK hP 32 1 ww_32 rfl (vp_in_nI (by omega) (by decide)) d_Na_compare_64 ?_
        refine lv_topq (y := nI (lb G p2 (k2 - i))) (by rw [nI_clamp (by omega)]; exact (h32 _ (by omega))) ?_
        refine mw_cV (ci := 3) (k := 30) C0 (m_Na_compareLabels l D9 cB cI cJ cG a O _ _ G hGl hGB9 (lb G p1 (k1 - i)) (lb G p2 (k2 - i)) (by omega) (by omega) (by omega) (by omega)) g_698 g_7 g_695 g_697 gs_Na_compareLabels ⟨by decide +kernel, by decide +kernel, show Option.map (fun d => d.parameters.length) (parseMethodDescriptor y_Na_compareLabels.desc) = some 2 by decide +kernel⟩ ⟨by decide, by decide⟩ rfl rfl hP hD hS hA rfl ww_30 hl.1 (Nat.le_of_ble_eq_true rfl) rfl d_Na_compare_65 ⟨by decide, by decide⟩ (fun v9 w9 H locs hq hP hD hS => ?_)
        obtain ⟨I11, F12, hw9, q13⟩ := hq
        subst hw9
        obtain ⟨rfl, rfl, rfl⟩ := q13
        refine lv_istore (lv' := [(7, _), (0, _), (1, _), (2, _), (3, _), (4, _), (5, _), (6, _)]) hx hb d_Na_compare_68 hl (by decide) rfl (fun ls hl => ?_)
        refine lv_iload hx hb d_Na_compare_70 (lv_at hl 0 rfl) ?_
        refine lv_if_eq (tgt := 78) hx hb d_Na_compare_72 (by decide) (fun c14 => ?_) (fun c14 => ?_)
        · have hC : cmpN G p1 k1 p2 k2 = cm G p1 k1 p2 k2 (min k1 k2 + 1 - (i + 1)) (i + 1) := by rw [hC]; exact if_pos c14
          refine lv_iinc (lv' := [(6, .int (nI (i + 1))), (7, _), (0, _), (1, _), (2, _), (3, _), (4, _), (5, _)]) hx hb d_Na_compare_78 hl (k := 7) rfl (nI_add _ 1) (by decide) rfl (fun ls hl => ?_)
          refine lv_goto (tgt := 38) hx hb d_Na_compare_81 (by decide) ?_
          exact ih _ (by omega) (i + 1) _ _ _ _ _ rfl (sm_mo hsF (by decide)) rfl ⟨by omega, by omega⟩ hC h31 h32 hP hD hS (lv_pk hl [2, 3, 4, 5, 6, 7, 0] rfl)
        · have hC : cmpN G p1 k1 p2 k2 = cmpL G (lb G p1 (k1 - i)) (lb G p2 (k2 - i)) := by rw [hC]; exact if_neg c14
          refine lv_iload hx hb d_Na_compare_75 (lv_at hl 0 rfl) ?_
          exact hret _ _ _ _ _ _ _ hS hP hD d_Na_compare_77 nr_i (⟨by rw [hC], rfl, (sm_mo hsF (by decide))⟩)
  exact loop1 _ 1 _ _ _ _ _ rfl (sm_tr (sm_mo sf1 (by decide)) (sm_mo sf2 (by decide))) rfl ⟨by omega, by omega⟩ (by unfold cmpN; rw [show min k1 k2 + 1 - 1 = min k1 k2 from by omega]) (fun j hj => ((congrFun (sf2 31 (by decide)) _).trans (hf1 j hj))) hf2 hP hD hS (lv_pk hl [4, 5, 6, 3, 2, 1, 0] rfl)
