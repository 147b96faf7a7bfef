theorem g_26 : (Cond.instanceMethod ({ cls := "java/lang/Object", name := "<init>", desc := "()V" } : MethodName)) ∈ GT := gt_mem 26 (by decide +kernel) rfl
theorem g_27 : (Cond.code ({ cls := "java/lang/Object", name := "<init>", desc := "()V" } : MethodName) object_method_1_code (1 : Nat) (Option.none : Option FieldType)) ∈ GT := gt_mem 27 (by decide +kernel) rfl
theorem g_29 : (Cond.instantiable "WireMessages$Bytes" (2 : Nat)) ∈ GT := gt_mem 29 (by decide +kernel) rfl
theorem g_31 : (Cond.instanceMethod ({ cls := "WireMessages$Bytes", name := "<init>", desc := "()V" } : MethodName)) ∈ GT := gt_mem 31 (by decide +kernel) rfl
theorem g_32 : (Cond.code ({ cls := "WireMessages$Bytes", name := "<init>", desc := "()V" } : MethodName) prog_2_method_1_code (1 : Nat) (Option.none : Option FieldType)) ∈ GT := gt_mem 32 (by decide +kernel) rfl
theorem g_33 : (Cond.methodLink "WireMessages$Bytes" (3 : Nat) ({ cls := "java/lang/Object", name := "<init>", desc := "()V" } : MethodName)) ∈ GT := gt_mem 33 (by decide +kernel) rfl
theorem g_34 : (Cond.constant "WireMessages$Bytes" (9 : Nat) (65536 : Int32)) ∈ GT := gt_mem 34 (by decide +kernel) rfl
theorem g_46 : (Cond.arrayClass FieldType.byte) ∈ GT := gt_mem 46 (by decide +kernel) rfl
theorem g_52 : (Cond.methodLink "WireMessages$Gathered" (3 : Nat) ({ cls := "java/lang/Object", name := "<init>", desc := "()V" } : MethodName)) ∈ GT := gt_mem 52 (by decide +kernel) rfl
theorem g_53 : (Cond.classLink "WireMessages$Gathered" (9 : Nat) "WireMessages$Bytes") ∈ GT := gt_mem 53 (by decide +kernel) rfl
theorem g_54 : (Cond.methodLinkNest "WireMessages$Gathered" (11 : Nat) ({ cls := "WireMessages$Bytes", name := "<init>", desc := "()V" } : MethodName) "WireMessages") ∈ GT := gt_mem 54 (by decide +kernel) rfl
theorem g_55 : (Cond.classLink "WireMessages$Gathered" (37 : Nat) "[[I") ∈ GT := gt_mem 55 (by decide +kernel) rfl
theorem g_56 : (Cond.arrayOver (FieldType.array FieldType.int)) ∈ GT := gt_mem 56 (by decide +kernel) rfl
theorem g_57 : (Cond.fieldLink "WireMessages$Gathered" (12 : Nat) "WireMessages$Gathered" "bytes" "LWireMessages$Bytes;") ∈ GT := gt_mem 57 (by decide +kernel) rfl
theorem g_61 : (Cond.fieldLink "WireMessages$Gathered" (18 : Nat) "WireMessages$Gathered" "starts" "[I") ∈ GT := gt_mem 61 (by decide +kernel) rfl
theorem g_64 : (Cond.fieldLink "WireMessages$Gathered" (22 : Nat) "WireMessages$Gathered" "nameLengths" "[I") ∈ GT := gt_mem 64 (by decide +kernel) rfl
theorem g_67 : (Cond.fieldLink "WireMessages$Gathered" (25 : Nat) "WireMessages$Gathered" "dataLengths" "[I") ∈ GT := gt_mem 67 (by decide +kernel) rfl
theorem g_70 : (Cond.fieldLink "WireMessages$Gathered" (28 : Nat) "WireMessages$Gathered" "types" "[I") ∈ GT := gt_mem 70 (by decide +kernel) rfl
theorem g_73 : (Cond.fieldLink "WireMessages$Gathered" (31 : Nat) "WireMessages$Gathered" "kinds" "[I") ∈ GT := gt_mem 73 (by decide +kernel) rfl
theorem g_76 : (Cond.fieldLink "WireMessages$Gathered" (34 : Nat) "WireMessages$Gathered" "times" "[I") ∈ GT := gt_mem 76 (by decide +kernel) rfl
theorem g_79 : (Cond.fieldLink "WireMessages$Gathered" (39 : Nat) "WireMessages$Gathered" "rows" "[[I") ∈ GT := gt_mem 79 (by decide +kernel) rfl
theorem g_81 : (Cond.fieldLink "WireMessages$Gathered" (42 : Nat) "WireMessages$Gathered" "sizes" "[I") ∈ GT := gt_mem 81 (by decide +kernel) rfl
theorem g_113 : (Cond.arrayClass FieldType.int) ∈ GT := gt_mem 113 (by decide +kernel) rfl
theorem d_By_init_0 : decode b_By_init 0 = .ok (.aload_n 0, 1) := by decide +kernel
theorem d_By_init_1 : decode b_By_init 1 = .ok (.invokespecial 3, 3) := by decide +kernel
theorem d_By_init_4 : decode b_By_init 4 = .ok (.aload_n 0, 1) := by decide +kernel
theorem d_By_init_5 : decode b_By_init 5 = .ok (.ldc 9, 2) := by decide +kernel
theorem d_By_init_7 : decode b_By_init 7 = .ok (.newarray .byte, 2) := by decide +kernel
theorem d_By_init_9 : decode b_By_init 9 = .ok (.putfield 10, 3) := by decide +kernel
theorem d_By_init_12 : decode b_By_init 12 = .ok (.return_, 1) := by decide +kernel
theorem d_Ga_init_0 : decode b_Ga_init 0 = .ok (.aload_n 0, 1) := by decide +kernel
theorem d_Ga_init_1 : decode b_Ga_init 1 = .ok (.invokespecial 3, 3) := by decide +kernel
theorem d_Ga_init_4 : decode b_Ga_init 4 = .ok (.aload_n 0, 1) := by decide +kernel
theorem d_Ga_init_5 : decode b_Ga_init 5 = .ok (.new 9, 3) := by decide +kernel
theorem d_Ga_init_8 : decode b_Ga_init 8 = .ok (.dup, 1) := by decide +kernel
theorem d_Ga_init_9 : decode b_Ga_init 9 = .ok (.invokespecial 11, 3) := by decide +kernel
theorem d_Ga_init_12 : decode b_Ga_init 12 = .ok (.putfield 12, 3) := by decide +kernel
theorem d_Ga_init_15 : decode b_Ga_init 15 = .ok (.aload_n 0, 1) := by decide +kernel
theorem d_Ga_init_16 : decode b_Ga_init 16 = .ok (.sipush 1100, 3) := by decide +kernel
theorem d_Ga_init_19 : decode b_Ga_init 19 = .ok (.newarray .int, 2) := by decide +kernel
theorem d_Ga_init_21 : decode b_Ga_init 21 = .ok (.putfield 18, 3) := by decide +kernel
theorem d_Ga_init_24 : decode b_Ga_init 24 = .ok (.aload_n 0, 1) := by decide +kernel
theorem d_Ga_init_25 : decode b_Ga_init 25 = .ok (.sipush 1100, 3) := by decide +kernel
theorem d_Ga_init_28 : decode b_Ga_init 28 = .ok (.newarray .int, 2) := by decide +kernel
theorem d_Ga_init_30 : decode b_Ga_init 30 = .ok (.putfield 22, 3) := by decide +kernel
theorem d_Ga_init_33 : decode b_Ga_init 33 = .ok (.aload_n 0, 1) := by decide +kernel
theorem d_Ga_init_34 : decode b_Ga_init 34 = .ok (.sipush 1100, 3) := by decide +kernel
theorem d_Ga_init_37 : decode b_Ga_init 37 = .ok (.newarray .int, 2) := by decide +kernel
theorem d_Ga_init_39 : decode b_Ga_init 39 = .ok (.putfield 25, 3) := by decide +kernel
theorem d_Ga_init_42 : decode b_Ga_init 42 = .ok (.aload_n 0, 1) := by decide +kernel
theorem d_Ga_init_43 : decode b_Ga_init 43 = .ok (.sipush 1100, 3) := by decide +kernel
theorem d_Ga_init_46 : decode b_Ga_init 46 = .ok (.newarray .int, 2) := by decide +kernel
theorem d_Ga_init_48 : decode b_Ga_init 48 = .ok (.putfield 28, 3) := by decide +kernel
theorem d_Ga_init_51 : decode b_Ga_init 51 = .ok (.aload_n 0, 1) := by decide +kernel
theorem d_Ga_init_52 : decode b_Ga_init 52 = .ok (.sipush 1100, 3) := by decide +kernel
theorem d_Ga_init_55 : decode b_Ga_init 55 = .ok (.newarray .int, 2) := by decide +kernel
theorem d_Ga_init_57 : decode b_Ga_init 57 = .ok (.putfield 31, 3) := by decide +kernel
theorem d_Ga_init_60 : decode b_Ga_init 60 = .ok (.aload_n 0, 1) := by decide +kernel
theorem d_Ga_init_61 : decode b_Ga_init 61 = .ok (.sipush 1100, 3) := by decide +kernel
theorem d_Ga_init_64 : decode b_Ga_init 64 = .ok (.newarray .int, 2) := by decide +kernel
theorem d_Ga_init_66 : decode b_Ga_init 66 = .ok (.putfield 34, 3) := by decide +kernel
theorem d_Ga_init_69 : decode b_Ga_init 69 = .ok (.aload_n 0, 1) := by decide +kernel
theorem d_Ga_init_70 : decode b_Ga_init 70 = .ok (.iconst 4, 1) := by decide +kernel
theorem d_Ga_init_71 : decode b_Ga_init 71 = .ok (.sipush 1000, 3) := by decide +kernel
theorem d_Ga_init_74 : decode b_Ga_init 74 = .ok (.multianewarray 37 2, 4) := by decide +kernel
theorem d_Ga_init_78 : decode b_Ga_init 78 = .ok (.putfield 39, 3) := by decide +kernel
theorem d_Ga_init_81 : decode b_Ga_init 81 = .ok (.aload_n 0, 1) := by decide +kernel
theorem d_Ga_init_82 : decode b_Ga_init 82 = .ok (.iconst 4, 1) := by decide +kernel
theorem d_Ga_init_83 : decode b_Ga_init 83 = .ok (.newarray .int, 2) := by decide +kernel
theorem d_Ga_init_85 : decode b_Ga_init 85 = .ok (.putfield 42, 3) := by decide +kernel
theorem d_Ga_init_88 : decode b_Ga_init 88 = .ok (.return_, 1) := by decide +kernel
set_option maxHeartbeats 4000000 in
set_option maxRecDepth 100000 in
theorem c_By_init (l : Launch) (D9 : va_G) (cB cI cJ cG : ClassId) (b : Nat) : MW l D9 cls9 (ty9 cB cI cJ cG) y_By_init b_By_init 1 none (rm9 1 1 65536) [.ref b] [(b, .inr (0, [.null, .int 0]))] (fun v w2 => v = none ∧ ∃ r, w2 = [(b, .inr (0, [.ref r, .int 0])), (r, .inl (cB, 65536, .inl (fun _ => 0)))]) 1 65536 := by
  refine mw_of (by decide) (Nat.le_of_ble_eq_true rfl) ?_
  intro p e s m below meth c ls C0 hin hP hD hA hS hl
  obtain ⟨hx, hb, hml, hr, hlocks, hown, hts, hK⟩ := id C0
  have hl : lv_has ls 1 [(0, .ref b)] := hl
  refine lv_aload_n hx hb d_By_init_0 rfl (lv_at hl 0 rfl) ?_
  refine W.objInit hx hb hown (hts _ g_33) (hts _ g_26) (hts _ g_27) rfl (by rw [hml]; exact hl.1) rfl d_By_init_1 (Nat.le_of_ble_eq_true rfl) (Nat.le_of_ble_eq_true rfl) ?_
  refine W.eq (g2 := F0 m 4 ls []) rfl ?_
  refine lv_aload_n hx hb d_By_init_4 rfl (lv_at hl 0 rfl) ?_
  refine lv_ldc hx hb hown (hts _ g_34) d_By_init_5 ?_
  refine mw_newa (D := D9) (atype := .byte) (a0 := (65536, .inl (fun _ => 0))) (t := 0) (ty := .byte) hx hb (hts _ g_46) rfl (fun _ h => h) hK rfl hP hD hS hA (fun _ => rfl) (by decide) (by decide) (by decide) (by decide) (by decide) d_By_init_7 (fun q_r H hP hD hS => ?_)
  refine va_putF (D := D9) (ty := .array (.byte)) (ci := 0) (C := R_By) (T := F_By) (N := 2) hx hb hts i_By t_By t_By_ok n_By hown hK hP hD hS 0 rfl rfl 0 (by decide) (hts _ g_35) (fun _ h9 => h9) rfl hin rfl (by decide +kernel) rfl rfl (Nat.le_of_ble_eq_true rfl) d_By_init_9 (fun H locs hP hD hS => ?_)
  exact mw_vret hx hb hr hlocks hS hP hD (by decide) (by decide) d_By_init_12 (⟨rfl, q_r, rfl⟩)
set_option maxHeartbeats 4000000 in
set_option maxRecDepth 100000 in
theorem c_Ga_init (l : Launch) (D9 : va_G) (cB cI cJ cG : ClassId) (b : Nat) : MW l D9 cls9 (ty9 cB cI cJ cG) y_Ga_init b_Ga_init 1 none (rm9 2 14 76146) [.ref b] [(b, .inr (2, [.null, .null, .null, .null, .null, .null, .null, .null, .null, .int 0, .int 0]))] (fun v w2 => v = none ∧ ∃ gb gbr st nl dl ty ki ti rw sz, w2 = [(b, .inr (2, [.ref gb, .ref st, .ref nl, .ref dl, .ref ty, .ref ki, .ref ti, .ref rw, .ref sz, .int 0, .int 0])), (gb, .inr (0, [.ref gbr, .int 0])), (gbr, .inl (cB, 65536, .inl (fun _ => 0))), (st, .inl (cI, 1100, .inl (fun _ => 0))), (nl, .inl (cI, 1100, .inl (fun _ => 0))), (dl, .inl (cI, 1100, .inl (fun _ => 0))), (ty, .inl (cI, 1100, .inl (fun _ => 0))), (ki, .inl (cI, 1100, .inl (fun _ => 0))), (ti, .inl (cI, 1100, .inl (fun _ => 0))), (rw, .inl (cG, 4, .inr (.inr (.inr (.inr (fun i => if i < 4 then some (rw + 1 + i) else none)))))), (rw + 1, .inl (cI, 1000, .inl (fun _ => 0))), (rw + 2, .inl (cI, 1000, .inl (fun _ => 0))), (rw + 3, .inl (cI, 1000, .inl (fun _ => 0))), (rw + 4, .inl (cI, 1000, .inl (fun _ => 0))), (sz, .inl (cI, 4, .inl (fun _ => 0)))]) 14 76146 := by
  refine mw_of (by decide) (Nat.le_of_ble_eq_true rfl) ?_
  intro p e s m below meth c ls C0 hin hP hD hA hS hl
  obtain ⟨hx, hb, hml, hr, hlocks, hown, hts, hK⟩ := id C0
  have hl : lv_has ls 1 [(0, .ref b)] := hl
  refine lv_aload_n hx hb d_Ga_init_0 rfl (lv_at hl 0 rfl) ?_
  refine W.objInit hx hb hown (hts _ g_52) (hts _ g_26) (hts _ g_27) rfl (by rw [hml]; exact hl.1) rfl d_Ga_init_1 (Nat.le_of_ble_eq_true rfl) (Nat.le_of_ble_eq_true rfl) ?_
  refine W.eq (g2 := F0 m 4 ls []) rfl ?_
  refine lv_aload_n hx hb d_Ga_init_4 rfl (lv_at hl 0 rfl) ?_
  refine va_new (D := D9) (ci := 0) (fs := [.null, .int 0]) (C := R_By) (T := F_By) (N := 2) hx hb hts i_By t_By t_By_ok hown (hts _ g_53) (hts _ g_29) (hts _ g_2) hK hP hD hS hA rfl (fun j hj => by rcases (show j = 0 ∨ j = 1 by omega) with rfl | rfl <;> rfl) (by decide) (by decide) d_Ga_init_5 (fun q_gb H hP hD hS => ?_)
  refine lv_dup hx hb d_Ga_init_8 rfl ?_
  refine mf_cIN (wr := [_]) C0 (c_By_init l D9 cB cI cJ cG q_gb) g_32 g_2 g_54 g_31 rfl ⟨by decide +kernel, by decide +kernel, show Option.map (fun d => d.parameters.length) (parseMethodDescriptor y_By_init.desc) = some 0 by decide +kernel⟩ ⟨by decide, by decide⟩ rfl rfl hP hD hS hA [1] [0] rfl rfl (by decide) (by decide) (by decide) hl.1 (Nat.le_of_ble_eq_true rfl) rfl d_Ga_init_9 ⟨by decide, by decide⟩ (fun v9 w9 H locs hq hP hD hS => ?_)
  obtain ⟨rfl, q_gbr, hw9⟩ := hq
  rw [hw9] at hP hD
  refine va_putF (D := D9) (ty := .object "WireMessages$Bytes") (ci := 2) (C := R_Ga) (T := F_Ga) (N := 11) hx hb hts i_Ga t_Ga t_Ga_ok n_Ga hown hK hP hD hS 0 rfl rfl 0 (by decide) (hts _ g_57) (fun _ h9 => h9) rfl hin rfl (by decide +kernel) rfl rfl (Nat.le_of_ble_eq_true rfl) d_Ga_init_12 (fun H locs hP hD hS => ?_)
  refine lv_aload_n hx hb d_Ga_init_15 rfl (lv_at hl 0 rfl) ?_
  refine lv_sipush (v := 1100) hx hb d_Ga_init_16 (by decide) ?_
  refine mw_newa (D := D9) (atype := .int) (a0 := (1100, .inl (fun _ => 0))) (t := 1) (ty := .int) hx hb (hts _ g_113) rfl (fun _ h => h) hK rfl hP hD hS hA (fun _ => rfl) (by decide) (by decide) (by decide) (by decide) (by decide) d_Ga_init_19 (fun q_st H hP hD hS => ?_)
  refine va_putF (D := D9) (ty := .array (.int)) (ci := 2) (C := R_Ga) (T := F_Ga) (N := 11) hx hb hts i_Ga t_Ga t_Ga_ok n_Ga hown hK hP hD hS 0 rfl rfl 1 (by decide) (hts _ g_61) (fun _ h9 => h9) rfl hin rfl (by decide +kernel) rfl rfl (Nat.le_of_ble_eq_true rfl) d_Ga_init_21 (fun H locs hP hD hS => ?_)
  refine lv_aload_n hx hb d_Ga_init_24 rfl (lv_at hl 0 rfl) ?_
  refine lv_sipush (v := 1100) hx hb d_Ga_init_25 (by decide) ?_
  refine mw_newa (D := D9) (atype := .int) (a0 := (1100, .inl (fun _ => 0))) (t := 1) (ty := .int) hx hb (hts _ g_113) rfl (fun _ h => h) hK rfl hP hD hS hA (fun _ => rfl) (by decide) (by decide) (by decide) (by decide) (by decide) d_Ga_init_28 (fun q_nl H hP hD hS => ?_)
  refine va_putF (D := D9) (ty := .array (.int)) (ci := 2) (C := R_Ga) (T := F_Ga) (N := 11) hx hb hts i_Ga t_Ga t_Ga_ok n_Ga hown hK hP hD hS 0 rfl rfl 2 (by decide) (hts _ g_64) (fun _ h9 => h9) rfl hin rfl (by decide +kernel) rfl rfl (Nat.le_of_ble_eq_true rfl) d_Ga_init_30 (fun H locs hP hD hS => ?_)
  refine lv_aload_n hx hb d_Ga_init_33 rfl (lv_at hl 0 rfl) ?_
  refine lv_sipush (v := 1100) hx hb d_Ga_init_34 (by decide) ?_
  refine mw_newa (D := D9) (atype := .int) (a0 := (1100, .inl (fun _ => 0))) (t := 1) (ty := .int) hx hb (hts _ g_113) rfl (fun _ h => h) hK rfl hP hD hS hA (fun _ => rfl) (by decide) (by decide) (by decide) (by decide) (by decide) d_Ga_init_37 (fun q_dl H hP hD hS => ?_)
  refine va_putF (D := D9) (ty := .array (.int)) (ci := 2) (C := R_Ga) (T := F_Ga) (N := 11) hx hb hts i_Ga t_Ga t_Ga_ok n_Ga hown hK hP hD hS 0 rfl rfl 3 (by decide) (hts _ g_67) (fun _ h9 => h9) rfl hin rfl (by decide +kernel) rfl rfl (Nat.le_of_ble_eq_true rfl) d_Ga_init_39 (fun H locs hP hD hS => ?_)
  refine lv_aload_n hx hb d_Ga_init_42 rfl (lv_at hl 0 rfl) ?_
  refine lv_sipush (v := 1100) hx hb d_Ga_init_43 (by decide) ?_
  refine mw_newa (D := D9) (atype := .int) (a0 := (1100, .inl (fun _ => 0))) (t := 1) (ty := .int) hx hb (hts _ g_113) rfl (fun _ h => h) hK rfl hP hD hS hA (fun _ => rfl) (by decide) (by decide) (by decide) (by decide) (by decide) d_Ga_init_46 (fun q_ty H hP hD hS => ?_)
  refine va_putF (D := D9) (ty := .array (.int)) (ci := 2) (C := R_Ga) (T := F_Ga) (N := 11) hx hb hts i_Ga t_Ga t_Ga_ok n_Ga hown hK hP hD hS 0 rfl rfl 4 (by decide) (hts _ g_70) (fun _ h9 => h9) rfl hin rfl (by decide +kernel) rfl rfl (Nat.le_of_ble_eq_true rfl) d_Ga_init_48 (fun H locs hP hD hS => ?_)
  refine lv_aload_n hx hb d_Ga_init_51 rfl (lv_at hl 0 rfl) ?_
  refine lv_sipush (v := 1100) hx hb d_Ga_init_52 (by decide) ?_
  refine mw_newa (D := D9) (atype := .int) (a0 := (1100, .inl (fun _ => 0))) (t := 1) (ty := .int) hx hb (hts _ g_113) rfl (fun _ h => h) hK rfl hP hD hS hA (fun _ => rfl) (by decide) (by decide) (by decide) (by decide) (by decide) d_Ga_init_55 (fun q_ki H hP hD hS => ?_)
  refine va_putF (D := D9) (ty := .array (.int)) (ci := 2) (C := R_Ga) (T := F_Ga) (N := 11) hx hb hts i_Ga t_Ga t_Ga_ok n_Ga hown hK hP hD hS 0 rfl rfl 5 (by decide) (hts _ g_73) (fun _ h9 => h9) rfl hin rfl (by decide +kernel) rfl rfl (Nat.le_of_ble_eq_true rfl) d_Ga_init_57 (fun H locs hP hD hS => ?_)
  refine lv_aload_n hx hb d_Ga_init_60 rfl (lv_at hl 0 rfl) ?_
  refine lv_sipush (v := 1100) hx hb d_Ga_init_61 (by decide) ?_
  refine mw_newa (D := D9) (atype := .int) (a0 := (1100, .inl (fun _ => 0))) (t := 1) (ty := .int) hx hb (hts _ g_113) rfl (fun _ h => h) hK rfl hP hD hS hA (fun _ => rfl) (by decide) (by decide) (by decide) (by decide) (by decide) d_Ga_init_64 (fun q_ti H hP hD hS => ?_)
  refine va_putF (D := D9) (ty := .array (.int)) (ci := 2) (C := R_Ga) (T := F_Ga) (N := 11) hx hb hts i_Ga t_Ga t_Ga_ok n_Ga hown hK hP hD hS 0 rfl rfl 6 (by decide) (hts _ g_76) (fun _ h9 => h9) rfl hin rfl (by decide +kernel) rfl rfl (Nat.le_of_ble_eq_true rfl) d_Ga_init_66 (fun H locs hP hD hS => ?_)
  refine lv_aload_n hx hb d_Ga_init_69 rfl (lv_at hl 0 rfl) ?_
  refine lv_iconst (v := 4) hx hb d_Ga_init_70 (by decide) ?_
  refine lv_sipush (v := 1000) hx hb d_Ga_init_71 (by decide) ?_
  refine mw_mna (D := D9) (tG := 3) (tI := 1) hx hb hown (hts _ g_55) (hts _ g_56) (hts _ g_113) hK rfl rfl hP hD hS hA (by decide) (by decide) d_Ga_init_74 (fun q_rows H hP hD hS => ?_)
  refine va_putF (D := D9) (ty := .array (.array (.int))) (ci := 2) (C := R_Ga) (T := F_Ga) (N := 11) hx hb hts i_Ga t_Ga t_Ga_ok n_Ga hown hK hP hD hS 0 rfl rfl 7 (by decide) (hts _ g_79) (fun _ h9 => h9) rfl hin rfl (by decide +kernel) rfl rfl (Nat.le_of_ble_eq_true rfl) d_Ga_init_78 (fun H locs hP hD hS => ?_)
  refine lv_aload_n hx hb d_Ga_init_81 rfl (lv_at hl 0 rfl) ?_
  refine lv_iconst (v := 4) hx hb d_Ga_init_82 (by decide) ?_
  refine mw_newa (D := D9) (atype := .int) (a0 := (4, .inl (fun _ => 0))) (t := 1) (ty := .int) hx hb (hts _ g_113) rfl (fun _ h => h) hK rfl hP hD hS hA (fun _ => rfl) (by decide) (by decide) (by decide) (by decide) (by decide) d_Ga_init_83 (fun q_sz H hP hD hS => ?_)
  refine va_putF (D := D9) (ty := .array (.int)) (ci := 2) (C := R_Ga) (T := F_Ga) (N := 11) hx hb hts i_Ga t_Ga t_Ga_ok n_Ga hown hK hP hD hS 0 rfl rfl 8 (by decide) (hts _ g_81) (fun _ h9 => h9) rfl hin rfl (by decide +kernel) rfl rfl (Nat.le_of_ble_eq_true rfl) d_Ga_init_85 (fun H locs hP hD hS => ?_)
  exact mw_vret hx hb hr hlocks hS hP hD (by decide) (by decide) d_Ga_init_88 (⟨rfl, q_gb, q_gbr, q_st, q_nl, q_dl, q_ty, q_ki, q_ti, q_rows, q_sz, rfl⟩)
