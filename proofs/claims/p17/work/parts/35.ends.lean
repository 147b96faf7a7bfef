/-! THE ENDS OF NAMES THAT STAND IN THE MESSAGE -/
def lI (j : Nat) : Int32 := nI j - 1
theorem lI_s {j : Nat} (h : 0 < j) : lI j = nI (j - 1) := pk_sub (b := 1) h
theorem lI_0 : lI 0 = -1 := rfl
theorem lI_d (m : Nat) : nI m + Int32.ofInt (-1) = lI m := by
  cases m with
  | zero => rfl
  | succ n => rw [lI_s (by omega)]; exact pk_m1 n
theorem lI_lt {j q : Nat} (hj : j < 2 ^ 31) (hq : q < 2 ^ 31) : lI j < nI q ↔ j ≤ q := by
  rcases Nat.eq_zero_or_pos j with h | h
  · subst h
    refine ⟨fun _ => Nat.zero_le _, fun _ => ?_⟩
    rw [lI_0]
    exact Int32.lt_of_lt_of_le (show (-1 : Int32) < 0 by decide) (nI_pos' hq)
  · rw [lI_s h, nI_ltI (by omega) hq]; omega
def bk (m : Int32) : Nat := ((m ^^^ (m.toUInt32 >>> ((nI 12).toUInt32 &&& Int32.toUInt32 31)).toInt32) ^^^ (m.toUInt32 >>> ((nI 24).toUInt32 &&& Int32.toUInt32 31)).toInt32).toBitVec.toNat % 2 ^ 12
theorem bk_lt (m : Int32) : bk m < 4096 := Nat.mod_lt _ (by decide)
/-- one above the newest of a bucket, below j -/
def pv (mk : Nat → Int32) : Nat → Nat → Nat
  | 0, _ => 0
  | j + 1, b => if bk (mk j) = b then j + 1 else pv mk j b
theorem pv_le (mk : Nat → Int32) : ∀ j b, pv mk j b ≤ j
  | 0, b => Nat.le_refl _
  | j + 1, b => by unfold pv; split; omega; have := pv_le mk j b; omega
theorem pv_eq {mk mk' : Nat → Int32} : ∀ {j b}, (∀ i, i < j → mk' i = mk i) → pv mk' j b = pv mk j b
  | 0, b, h => rfl
  | j + 1, b, h => by
    unfold pv
    rw [h j (by omega), pv_eq (fun i hi => h i (by omega))]
theorem pv_p {mk : Nat → Int32} : ∀ {j b}, (0 < pv mk j b → bk (mk (pv mk j b - 1)) = b) ∧ ∀ i, pv mk j b ≤ i → i < j → bk (mk i) ≠ b
  | 0, b => ⟨fun h => absurd h (by unfold pv; omega), fun i _ hi => by omega⟩
  | j + 1, b => by
    by_cases h : bk (mk j) = b
    · have e : pv mk (j + 1) b = j + 1 := by unfold pv; rw [if_pos h]
      rw [e]
      exact ⟨fun _ => h, fun i h1 h2 => by omega⟩
    · have e : pv mk (j + 1) b = pv mk j b := by conv => lhs; unfold pv
                                                 rw [if_neg h]
      rw [e]
      refine ⟨pv_p.1, fun i h1 h2 => ?_⟩
      by_cases hi : i = j
      · rw [hi]; exact h
      · exact pv_p.2 i h1 (by omega)
def EnS (F : Nat → Nat → Int32) (n : Nat) : Prop := (∀ k, k < n → F 26 k = nI (pv (F 27) k (bk (F 27 k)))) ∧ ∀ b, b < 4096 → F 25 b = nI (pv (F 27) n b)
def eP (E : List (Nat × Nat)) (k : Nat) : Nat := (E.getD k (0, 0)).1
def eQ (E : List (Nat × Nat)) (k : Nat) : Nat := (E.getD k (0, 0)).2
def rt (G : List Nat) (p : Nat) : Nat := lb G p (nk 128 G p)
theorem rt_of {G : List Nat} {k p r : Nat} (h : isN G k p r) (hk : k ≤ 127) : rt G p = r := by unfold rt; rw [isN_nk h (by omega)]; exact isN_end h
def mk9 (G : List Nat) (p : Nat) : Int32 := mkN G p (rt G p)
def EnB (F : Nat → Nat → Int32) (G : List Nat) (E : List (Nat × Nat)) : Prop := ∀ k, k < E.length → F 28 k = nI (eP E k) ∧ F 29 k = nI (eQ E k) ∧ F 27 k = mk9 G (eQ E k)
def EnW (G : List Nat) (E : List (Nat × Nat)) : Prop := (∀ k, k < E.length → eP E k < 16384 ∧ ∃ kk r, isN G kk (eQ E k) r ∧ kk ≤ 127) ∧ (∀ i j, i < j → j < E.length → al 128 G (eQ E i) (eQ E j) = false) ∧ E.length ≤ 8192
def fnd (G : List Nat) (E : List (Nat × Nat)) (p : Nat) : Option Nat := (E.find? (fun e => al 128 G e.2 p)).map (fun e => e.1)
theorem eQ_l {E X : List (Nat × Nat)} {k : Nat} (h : k < E.length) : eQ (E ++ X) k = eQ E k ∧ eP (E ++ X) k = eP E k := by
  unfold eQ eP
  rw [List.getD_eq_getElem?_getD, List.getD_eq_getElem?_getD, List.getElem?_append_left h]
  exact ⟨rfl, rfl⟩
theorem eQ_n {E : List (Nat × Nat)} {x : Nat × Nat} : eQ (E ++ [x]) E.length = x.2 ∧ eP (E ++ [x]) E.length = x.1 := by
  unfold eQ eP
  rw [List.getD_eq_getElem?_getD, List.getElem?_append_right (Nat.le_refl _), Nat.sub_self]
  exact ⟨rfl, rfl⟩
theorem eQ_t {E : List (Nat × Nat)} {n k : Nat} (h : k < n) : eQ (E.take n) k = eQ E k ∧ eP (E.take n) k = eP E k := by
  unfold eQ eP
  rw [List.getD_eq_getElem?_getD, List.getD_eq_getElem?_getD, List.getElem?_take_of_lt h]
  exact ⟨rfl, rfl⟩
theorem fnd_none {G : List Nat} : ∀ {E : List (Nat × Nat)} {p : Nat}, (∀ k, k < E.length → al 128 G (eQ E k) p = false) → fnd G E p = none
  | [], p, _ => rfl
  | e :: E, p, h => by
    unfold fnd
    rw [List.find?_cons_of_neg (by have := h 0 (by simp); rw [show eQ (e :: E) 0 = e.2 from rfl] at this; rw [this]; decide)]
    exact fnd_none (E := E) (fun k hk => h (k + 1) (by simp; omega))
theorem fnd_some {G : List Nat} : ∀ {E : List (Nat × Nat)} {p k : Nat}, k < E.length → al 128 G (eQ E k) p = true → (∀ i, i < k → al 128 G (eQ E i) p = false) → fnd G E p = some (eP E k)
  | [], p, k, h, _, _ => by simp at h
  | e :: E, p, 0, _, h, _ => by unfold fnd; rw [List.find?_cons_of_pos (p := fun e : Nat × Nat => al 128 G e.2 p) (show al 128 G e.2 p = true from h)]; rfl
  | e :: E, p, k + 1, hk, h, hn => by
    unfold fnd
    rw [List.find?_cons_of_neg (by have := hn 0 (by omega); rw [show eQ (e :: E) 0 = e.2 from rfl] at this; rw [this]; decide)]
    exact fnd_some (E := E) (k := k) (by simp at hk; omega) h (fun i hi => hn (i + 1) (by omega))
theorem al_two {G : List Nat} {ka a ra kb b rb kc c rc : Nat} (ha : isN G ka a ra) (hb : isN G kb b rb) (hc : isN G kc c rc) (hkb : kb < 128) (hkc : kc < 128) (h1 : al 128 G a c = true) (h2 : al 128 G b c = true) : al 128 G a b = true := by
  have e1 := (al_raw (g := tb G) (fun _ _ => rfl) ha hc hkc).mpr h1
  have e2 := (al_raw (g := tb G) (fun _ _ => rfl) hb hc hkc).mpr h2
  have l2 := al_len hb hc h2
  have r1 := isN_r hb
  have r2 := isN_r hc
  exact (al_raw (g := tb G) (fun _ _ => rfl) ha hb hkb).mp (fun i hi => (e1 i (by omega)).trans (e2 i (by omega)).symm)
theorem EnS_sm {F F' : Nat → Nat → Int32} {n : Nat} (h : EnS F n) (e25 : F' 25 = F 25) (e26 : F' 26 = F 26) (e27 : F' 27 = F 27) : EnS F' n := by
  unfold EnS; rw [e25, e26, e27]; exact h
theorem EnB_sm {F F' : Nat → Nat → Int32} {G : List Nat} {E : List (Nat × Nat)} (h : EnB F G E) (e27 : F' 27 = F 27) (e28 : F' 28 = F 28) (e29 : F' 29 = F 29) : EnB F' G E := by
  unfold EnB; rw [e27, e28, e29]; exact h
theorem EnS_add {F F' : Nat → Nat → Int32} {n : Nat} {x : Int32} (h : EnS F n) (e27 : F' 27 = upd (F 27) n x) (e26 : F' 26 = upd (F 26) n (F 25 (bk x))) (e25 : F' 25 = upd (F 25) (bk x) (nI (n + 1))) : EnS F' (n + 1) := by
  have hp : ∀ j b, j ≤ n → pv (F' 27) j b = pv (F 27) j b := fun j b hj => pv_eq (fun i hi => by rw [e27, pk_un (by omega)])
  refine ⟨?_, ?_⟩
  · intro k hk
    by_cases hkn : k = n
    · subst hkn
      rw [e26, pk_us, hp k _ (Nat.le_refl _), e27, pk_us]
      exact h.2 _ (bk_lt _)
    · rw [e26, pk_un hkn, hp k _ (by omega), e27, pk_un hkn]
      exact h.1 k (by omega)
  · intro b hb
    unfold pv
    rw [hp n b (Nat.le_refl _), e25, e27, pk_us]
    by_cases hq : bk x = b
    · rw [if_pos hq, ← hq, pk_us]
    · rw [if_neg hq, pk_un (fun z => hq z.symm)]
      exact h.2 b hb
theorem EnB_add {F F' : Nat → Nat → Int32} {G : List Nat} {E : List (Nat × Nat)} {pl sr : Nat} (h : EnB F G E) (e27 : F' 27 = upd (F 27) E.length (mk9 G sr)) (e28 : F' 28 = upd (F 28) E.length (nI pl)) (e29 : F' 29 = upd (F 29) E.length (nI sr)) : EnB F' G (E ++ [(pl, sr)]) := by
  intro k hk
  rw [List.length_append, List.length_singleton] at hk
  by_cases hkn : k = E.length
  · subst hkn
    rw [e27, e28, e29, pk_us, pk_us, pk_us, eQ_n.1, eQ_n.2]
    exact ⟨rfl, rfl, rfl⟩
  · rw [e27, e28, e29, pk_un hkn, pk_un hkn, pk_un hkn, (eQ_l (by omega)).1, (eQ_l (by omega)).2]
    exact h k (by omega)
theorem EnB_take {F : Nat → Nat → Int32} {G : List Nat} {E : List (Nat × Nat)} {n : Nat} (h : EnB F G E) : EnB F G (E.take n) := by
  intro k hk
  rw [List.length_take] at hk
  rw [(eQ_t (by omega)).1, (eQ_t (by omega)).2]
  exact h k (by omega)
theorem EnW_take {G : List Nat} {E : List (Nat × Nat)} {n : Nat} (h : EnW G E) : EnW G (E.take n) := by
  refine ⟨?_, ?_, by rw [List.length_take]; have := h.2.2; omega⟩
  · intro k hk
    rw [List.length_take] at hk
    rw [(eQ_t (by omega)).1, (eQ_t (by omega)).2]
    exact h.1 k (by omega)
  · intro i j hi hj
    rw [List.length_take] at hj
    rw [(eQ_t (by omega)).1, (eQ_t (by omega)).1]
    exact h.2.1 i j hi (by omega)
theorem EnS_less {F F' : Nat → Nat → Int32} {i : Nat} (h : EnS F (i + 1)) (e27 : F' 27 = F 27) (e26 : F' 26 = F 26) (e25 : F' 25 = upd (F 25) (bk (F 27 i)) (nI (pv (F 27) i (bk (F 27 i))))) : EnS F' i := by
  refine ⟨?_, ?_⟩
  · intro k hk
    rw [e26, e27]; exact h.1 k (by omega)
  · intro b hb
    rw [e25, e27]
    by_cases hq : b = bk (F 27 i)
    · rw [hq, pk_us]
    · rw [pk_un hq, h.2 b hb]
      unfold pv
      rw [if_neg (fun z => hq z.symm)]
      cases i <;> rfl
theorem al_mk {G : List Nat} {ka a ra kb b rb : Nat} (ha : isN G ka a ra) (hka : ka ≤ 127) (hb : isN G kb b rb) (hkb : kb ≤ 127) (h : al 128 G a b = true) : mk9 G a = mk9 G b := by
  unfold mk9
  rw [rt_of ha hka, rt_of hb hkb]
  exact al_mark ha hb (by omega) h
theorem g_168 : (Cond.fieldLink "WireMessages$Ends" (31 : Nat) "WireMessages$Ends" "size" "I") ∈ GT := gt_mem 168 (by decide +kernel) rfl
theorem g_568 : (Cond.methodLink "WireMessages$Ends" (35 : Nat) ({ cls := "WireMessages$Ends", name := "bucketOf", desc := "(I)I" } : MethodName)) ∈ GT := gt_mem 568 (by decide +kernel) rfl
theorem g_569 : (Cond.static ({ cls := "WireMessages$Ends", name := "bucketOf", desc := "(I)I" } : MethodName)) ∈ GT := gt_mem 569 (by decide +kernel) rfl
theorem g_570 : (Cond.code ({ cls := "WireMessages$Ends", name := "bucketOf", desc := "(I)I" } : MethodName) prog_3_method_2_code (1 : Nat) (Option.some FieldType.int)) ∈ GT := gt_mem 570 (by decide +kernel) rfl
theorem g_571 : (Cond.methodLink "WireMessages$Ends" (39 : Nat) ({ cls := "java/lang/Math", name := "min", desc := "(II)I" } : MethodName)) ∈ GT := gt_mem 571 (by decide +kernel) rfl
theorem g_595 : (Cond.methodLink "WireMessages$Ends" (45 : Nat) ({ cls := "WireMessages$Ends", name := "equalBytes", desc := "(III)Z" } : MethodName)) ∈ GT := gt_mem 595 (by decide +kernel) rfl
theorem g_597 : (Cond.instanceMethod ({ cls := "WireMessages$Ends", name := "equalBytes", desc := "(III)Z" } : MethodName)) ∈ GT := gt_mem 597 (by decide +kernel) rfl
theorem g_598 : (Cond.code ({ cls := "WireMessages$Ends", name := "equalBytes", desc := "(III)Z" } : MethodName) prog_3_method_6_code (5 : Nat) (Option.some FieldType.boolean)) ∈ GT := gt_mem 598 (by decide +kernel) rfl
theorem g_599 : (Cond.methodLinkNest "WireMessages$Ends" (49 : Nat) ({ cls := "WireMessages$Bytes", name := "at", desc := "(I)I" } : MethodName) "WireMessages") ∈ GT := gt_mem 599 (by decide +kernel) rfl
theorem gs_En_equalBytes : Cond.selects R_En y_En_equalBytes y_En_equalBytes ∈ GT := gt_sel (q := (⟨"WireMessages$Ends", "equalBytes", "(III)Z"⟩, 7)) (by decide +kernel)
theorem d_En_add_0 : decode b_En_add 0 = .ok (.iload_n 3, 1) := by decide +kernel
theorem d_En_add_1 : decode b_En_add 1 = .ok (.sipush 16384, 3) := by decide +kernel
theorem d_En_add_4 : decode b_En_add 4 = .ok (.if_icmp .ge 13, 3) := by decide +kernel
theorem d_En_add_7 : decode b_En_add 7 = .ok (.aload_n 0, 1) := by decide +kernel
theorem d_En_add_8 : decode b_En_add 8 = .ok (.getfield 31, 3) := by decide +kernel
theorem d_En_add_11 : decode b_En_add 11 = .ok (.sipush 8192, 3) := by decide +kernel
theorem d_En_add_14 : decode b_En_add 14 = .ok (.if_icmp .lt 4, 3) := by decide +kernel
theorem d_En_add_17 : decode b_En_add 17 = .ok (.return_, 1) := by decide +kernel
theorem d_En_add_18 : decode b_En_add 18 = .ok (.iload_n 1, 1) := by decide +kernel
theorem d_En_add_19 : decode b_En_add 19 = .ok (.invokestatic 35, 3) := by decide +kernel
theorem d_En_add_22 : decode b_En_add 22 = .ok (.istore 4, 2) := by decide +kernel
theorem d_En_add_24 : decode b_En_add 24 = .ok (.aload_n 0, 1) := by decide +kernel
theorem d_En_add_25 : decode b_En_add 25 = .ok (.getfield 18, 3) := by decide +kernel
theorem d_En_add_28 : decode b_En_add 28 = .ok (.aload_n 0, 1) := by decide +kernel
theorem d_En_add_29 : decode b_En_add 29 = .ok (.getfield 31, 3) := by decide +kernel
theorem d_En_add_32 : decode b_En_add 32 = .ok (.iload_n 1, 1) := by decide +kernel
theorem d_En_add_33 : decode b_En_add 33 = .ok (.iastore, 1) := by decide +kernel
theorem d_En_add_34 : decode b_En_add 34 = .ok (.aload_n 0, 1) := by decide +kernel
theorem d_En_add_35 : decode b_En_add 35 = .ok (.getfield 21, 3) := by decide +kernel
theorem d_En_add_38 : decode b_En_add 38 = .ok (.aload_n 0, 1) := by decide +kernel
theorem d_En_add_39 : decode b_En_add 39 = .ok (.getfield 31, 3) := by decide +kernel
theorem d_En_add_42 : decode b_En_add 42 = .ok (.iload_n 3, 1) := by decide +kernel
theorem d_En_add_43 : decode b_En_add 43 = .ok (.iastore, 1) := by decide +kernel
theorem d_En_add_44 : decode b_En_add 44 = .ok (.aload_n 0, 1) := by decide +kernel
theorem d_En_add_45 : decode b_En_add 45 = .ok (.getfield 24, 3) := by decide +kernel
theorem d_En_add_48 : decode b_En_add 48 = .ok (.aload_n 0, 1) := by decide +kernel
theorem d_En_add_49 : decode b_En_add 49 = .ok (.getfield 31, 3) := by decide +kernel
theorem d_En_add_52 : decode b_En_add 52 = .ok (.iload_n 2, 1) := by decide +kernel
theorem d_En_add_53 : decode b_En_add 53 = .ok (.iastore, 1) := by decide +kernel
theorem d_En_add_54 : decode b_En_add 54 = .ok (.aload_n 0, 1) := by decide +kernel
theorem d_En_add_55 : decode b_En_add 55 = .ok (.getfield 15, 3) := by decide +kernel
theorem d_En_add_58 : decode b_En_add 58 = .ok (.aload_n 0, 1) := by decide +kernel
theorem d_En_add_59 : decode b_En_add 59 = .ok (.getfield 31, 3) := by decide +kernel
theorem d_En_add_62 : decode b_En_add 62 = .ok (.aload_n 0, 1) := by decide +kernel
theorem d_En_add_63 : decode b_En_add 63 = .ok (.getfield 11, 3) := by decide +kernel
theorem d_En_add_66 : decode b_En_add 66 = .ok (.iload 4, 2) := by decide +kernel
theorem d_En_add_68 : decode b_En_add 68 = .ok (.iaload, 1) := by decide +kernel
theorem d_En_add_69 : decode b_En_add 69 = .ok (.iastore, 1) := by decide +kernel
theorem d_En_add_70 : decode b_En_add 70 = .ok (.aload_n 0, 1) := by decide +kernel
theorem d_En_add_71 : decode b_En_add 71 = .ok (.dup, 1) := by decide +kernel
theorem d_En_add_72 : decode b_En_add 72 = .ok (.getfield 31, 3) := by decide +kernel
theorem d_En_add_75 : decode b_En_add 75 = .ok (.iconst 1, 1) := by decide +kernel
theorem d_En_add_76 : decode b_En_add 76 = .ok (.iadd, 1) := by decide +kernel
theorem d_En_add_77 : decode b_En_add 77 = .ok (.putfield 31, 3) := by decide +kernel
theorem d_En_add_80 : decode b_En_add 80 = .ok (.aload_n 0, 1) := by decide +kernel
theorem d_En_add_81 : decode b_En_add 81 = .ok (.getfield 11, 3) := by decide +kernel
theorem d_En_add_84 : decode b_En_add 84 = .ok (.iload 4, 2) := by decide +kernel
theorem d_En_add_86 : decode b_En_add 86 = .ok (.aload_n 0, 1) := by decide +kernel
theorem d_En_add_87 : decode b_En_add 87 = .ok (.getfield 31, 3) := by decide +kernel
theorem d_En_add_90 : decode b_En_add 90 = .ok (.iastore, 1) := by decide +kernel
theorem d_En_add_91 : decode b_En_add 91 = .ok (.return_, 1) := by decide +kernel
theorem d_En_bucketOf_0 : decode b_En_bucketOf 0 = .ok (.iload_n 0, 1) := by decide +kernel
theorem d_En_bucketOf_1 : decode b_En_bucketOf 1 = .ok (.iload_n 0, 1) := by decide +kernel
theorem d_En_bucketOf_2 : decode b_En_bucketOf 2 = .ok (.bipush 12, 2) := by decide +kernel
theorem d_En_bucketOf_4 : decode b_En_bucketOf 4 = .ok (.iushr, 1) := by decide +kernel
theorem d_En_bucketOf_5 : decode b_En_bucketOf 5 = .ok (.ixor, 1) := by decide +kernel
theorem d_En_bucketOf_6 : decode b_En_bucketOf 6 = .ok (.iload_n 0, 1) := by decide +kernel
theorem d_En_bucketOf_7 : decode b_En_bucketOf 7 = .ok (.bipush 24, 2) := by decide +kernel
theorem d_En_bucketOf_9 : decode b_En_bucketOf 9 = .ok (.iushr, 1) := by decide +kernel
theorem d_En_bucketOf_10 : decode b_En_bucketOf 10 = .ok (.ixor, 1) := by decide +kernel
theorem d_En_bucketOf_11 : decode b_En_bucketOf 11 = .ok (.sipush 4095, 3) := by decide +kernel
theorem d_En_bucketOf_14 : decode b_En_bucketOf 14 = .ok (.iand, 1) := by decide +kernel
theorem d_En_bucketOf_15 : decode b_En_bucketOf 15 = .ok (.ireturn, 1) := by decide +kernel
theorem d_En_equalBytes_0 : decode b_En_equalBytes 0 = .ok (.iconst 0, 1) := by decide +kernel
theorem d_En_equalBytes_1 : decode b_En_equalBytes 1 = .ok (.istore 4, 2) := by decide +kernel
theorem d_En_equalBytes_3 : decode b_En_equalBytes 3 = .ok (.iload 4, 2) := by decide +kernel
theorem d_En_equalBytes_5 : decode b_En_equalBytes 5 = .ok (.iload_n 3, 1) := by decide +kernel
theorem d_En_equalBytes_6 : decode b_En_equalBytes 6 = .ok (.if_icmp .ge 36, 3) := by decide +kernel
theorem d_En_equalBytes_9 : decode b_En_equalBytes 9 = .ok (.aload_n 0, 1) := by decide +kernel
theorem d_En_equalBytes_10 : decode b_En_equalBytes 10 = .ok (.getfield 27, 3) := by decide +kernel
theorem d_En_equalBytes_13 : decode b_En_equalBytes 13 = .ok (.iload_n 1, 1) := by decide +kernel
theorem d_En_equalBytes_14 : decode b_En_equalBytes 14 = .ok (.iload 4, 2) := by decide +kernel
theorem d_En_equalBytes_16 : decode b_En_equalBytes 16 = .ok (.iadd, 1) := by decide +kernel
theorem d_En_equalBytes_17 : decode b_En_equalBytes 17 = .ok (.invokevirtual 49, 3) := by decide +kernel
theorem d_En_equalBytes_20 : decode b_En_equalBytes 20 = .ok (.aload_n 0, 1) := by decide +kernel
theorem d_En_equalBytes_21 : decode b_En_equalBytes 21 = .ok (.getfield 27, 3) := by decide +kernel
theorem d_En_equalBytes_24 : decode b_En_equalBytes 24 = .ok (.iload_n 2, 1) := by decide +kernel
theorem d_En_equalBytes_25 : decode b_En_equalBytes 25 = .ok (.iload 4, 2) := by decide +kernel
theorem d_En_equalBytes_27 : decode b_En_equalBytes 27 = .ok (.iadd, 1) := by decide +kernel
theorem d_En_equalBytes_28 : decode b_En_equalBytes 28 = .ok (.invokevirtual 49, 3) := by decide +kernel
theorem d_En_equalBytes_31 : decode b_En_equalBytes 31 = .ok (.if_icmp .eq 5, 3) := by decide +kernel
theorem d_En_equalBytes_34 : decode b_En_equalBytes 34 = .ok (.iconst 0, 1) := by decide +kernel
theorem d_En_equalBytes_35 : decode b_En_equalBytes 35 = .ok (.ireturn, 1) := by decide +kernel
theorem d_En_equalBytes_36 : decode b_En_equalBytes 36 = .ok (.iinc 4 1, 3) := by decide +kernel
theorem d_En_equalBytes_39 : decode b_En_equalBytes 39 = .ok (.goto (-36), 3) := by decide +kernel
theorem d_En_equalBytes_42 : decode b_En_equalBytes 42 = .ok (.iconst 1, 1) := by decide +kernel
theorem d_En_equalBytes_43 : decode b_En_equalBytes 43 = .ok (.ireturn, 1) := by decide +kernel
theorem d_En_placeOf_0 : decode b_En_placeOf 0 = .ok (.aload_n 0, 1) := by decide +kernel
theorem d_En_placeOf_1 : decode b_En_placeOf 1 = .ok (.getfield 11, 3) := by decide +kernel
theorem d_En_placeOf_4 : decode b_En_placeOf 4 = .ok (.iload_n 1, 1) := by decide +kernel
theorem d_En_placeOf_5 : decode b_En_placeOf 5 = .ok (.invokestatic 35, 3) := by decide +kernel
theorem d_En_placeOf_8 : decode b_En_placeOf 8 = .ok (.iaload, 1) := by decide +kernel
theorem d_En_placeOf_9 : decode b_En_placeOf 9 = .ok (.iconst 1, 1) := by decide +kernel
theorem d_En_placeOf_10 : decode b_En_placeOf 10 = .ok (.isub, 1) := by decide +kernel
theorem d_En_placeOf_11 : decode b_En_placeOf 11 = .ok (.istore 4, 2) := by decide +kernel
theorem d_En_placeOf_13 : decode b_En_placeOf 13 = .ok (.iconst 0, 1) := by decide +kernel
theorem d_En_placeOf_14 : decode b_En_placeOf 14 = .ok (.istore 5, 2) := by decide +kernel
theorem d_En_placeOf_16 : decode b_En_placeOf 16 = .ok (.iload 5, 2) := by decide +kernel
theorem d_En_placeOf_18 : decode b_En_placeOf 18 = .ok (.sipush 8192, 3) := by decide +kernel
theorem d_En_placeOf_21 : decode b_En_placeOf 21 = .ok (.if_icmp .ge 60, 3) := by decide +kernel
theorem d_En_placeOf_24 : decode b_En_placeOf 24 = .ok (.iload 4, 2) := by decide +kernel
theorem d_En_placeOf_26 : decode b_En_placeOf 26 = .ok (.ifCond .lt 55, 3) := by decide +kernel
theorem d_En_placeOf_29 : decode b_En_placeOf 29 = .ok (.aload_n 0, 1) := by decide +kernel
theorem d_En_placeOf_30 : decode b_En_placeOf 30 = .ok (.getfield 18, 3) := by decide +kernel
theorem d_En_placeOf_33 : decode b_En_placeOf 33 = .ok (.iload 4, 2) := by decide +kernel
theorem d_En_placeOf_35 : decode b_En_placeOf 35 = .ok (.iaload, 1) := by decide +kernel
theorem d_En_placeOf_36 : decode b_En_placeOf 36 = .ok (.iload_n 1, 1) := by decide +kernel
theorem d_En_placeOf_37 : decode b_En_placeOf 37 = .ok (.if_icmp .ne 27, 3) := by decide +kernel
theorem d_En_placeOf_40 : decode b_En_placeOf 40 = .ok (.aload_n 0, 1) := by decide +kernel
theorem d_En_placeOf_41 : decode b_En_placeOf 41 = .ok (.aload_n 0, 1) := by decide +kernel
theorem d_En_placeOf_42 : decode b_En_placeOf 42 = .ok (.getfield 24, 3) := by decide +kernel
theorem d_En_placeOf_45 : decode b_En_placeOf 45 = .ok (.iload 4, 2) := by decide +kernel
theorem d_En_placeOf_47 : decode b_En_placeOf 47 = .ok (.iaload, 1) := by decide +kernel
theorem d_En_placeOf_48 : decode b_En_placeOf 48 = .ok (.iload_n 2, 1) := by decide +kernel
theorem d_En_placeOf_49 : decode b_En_placeOf 49 = .ok (.iload_n 3, 1) := by decide +kernel
theorem d_En_placeOf_50 : decode b_En_placeOf 50 = .ok (.invokevirtual 45, 3) := by decide +kernel
theorem d_En_placeOf_53 : decode b_En_placeOf 53 = .ok (.ifCond .eq 11, 3) := by decide +kernel
theorem d_En_placeOf_56 : decode b_En_placeOf 56 = .ok (.aload_n 0, 1) := by decide +kernel
theorem d_En_placeOf_57 : decode b_En_placeOf 57 = .ok (.getfield 21, 3) := by decide +kernel
theorem d_En_placeOf_60 : decode b_En_placeOf 60 = .ok (.iload 4, 2) := by decide +kernel
theorem d_En_placeOf_62 : decode b_En_placeOf 62 = .ok (.iaload, 1) := by decide +kernel
theorem d_En_placeOf_63 : decode b_En_placeOf 63 = .ok (.ireturn, 1) := by decide +kernel
theorem d_En_placeOf_64 : decode b_En_placeOf 64 = .ok (.aload_n 0, 1) := by decide +kernel
theorem d_En_placeOf_65 : decode b_En_placeOf 65 = .ok (.getfield 15, 3) := by decide +kernel
theorem d_En_placeOf_68 : decode b_En_placeOf 68 = .ok (.iload 4, 2) := by decide +kernel
theorem d_En_placeOf_70 : decode b_En_placeOf 70 = .ok (.iaload, 1) := by decide +kernel
theorem d_En_placeOf_71 : decode b_En_placeOf 71 = .ok (.iconst 1, 1) := by decide +kernel
theorem d_En_placeOf_72 : decode b_En_placeOf 72 = .ok (.isub, 1) := by decide +kernel
theorem d_En_placeOf_73 : decode b_En_placeOf 73 = .ok (.istore 4, 2) := by decide +kernel
theorem d_En_placeOf_75 : decode b_En_placeOf 75 = .ok (.iinc 5 1, 3) := by decide +kernel
theorem d_En_placeOf_78 : decode b_En_placeOf 78 = .ok (.goto (-62), 3) := by decide +kernel
theorem d_En_placeOf_81 : decode b_En_placeOf 81 = .ok (.iconst (-1), 1) := by decide +kernel
theorem d_En_placeOf_82 : decode b_En_placeOf 82 = .ok (.ireturn, 1) := by decide +kernel
theorem d_En_shrinkTo_0 : decode b_En_shrinkTo 0 = .ok (.aload_n 0, 1) := by decide +kernel
theorem d_En_shrinkTo_1 : decode b_En_shrinkTo 1 = .ok (.getfield 31, 3) := by decide +kernel
theorem d_En_shrinkTo_4 : decode b_En_shrinkTo 4 = .ok (.iconst 1, 1) := by decide +kernel
theorem d_En_shrinkTo_5 : decode b_En_shrinkTo 5 = .ok (.isub, 1) := by decide +kernel
theorem d_En_shrinkTo_6 : decode b_En_shrinkTo 6 = .ok (.istore_n 2, 1) := by decide +kernel
theorem d_En_shrinkTo_7 : decode b_En_shrinkTo 7 = .ok (.iload_n 2, 1) := by decide +kernel
theorem d_En_shrinkTo_8 : decode b_En_shrinkTo 8 = .ok (.iload_n 1, 1) := by decide +kernel
theorem d_En_shrinkTo_9 : decode b_En_shrinkTo 9 = .ok (.if_icmp .lt 29, 3) := by decide +kernel
theorem d_En_shrinkTo_12 : decode b_En_shrinkTo 12 = .ok (.aload_n 0, 1) := by decide +kernel
theorem d_En_shrinkTo_13 : decode b_En_shrinkTo 13 = .ok (.getfield 11, 3) := by decide +kernel
theorem d_En_shrinkTo_16 : decode b_En_shrinkTo 16 = .ok (.aload_n 0, 1) := by decide +kernel
theorem d_En_shrinkTo_17 : decode b_En_shrinkTo 17 = .ok (.getfield 18, 3) := by decide +kernel
theorem d_En_shrinkTo_20 : decode b_En_shrinkTo 20 = .ok (.iload_n 2, 1) := by decide +kernel
theorem d_En_shrinkTo_21 : decode b_En_shrinkTo 21 = .ok (.iaload, 1) := by decide +kernel
theorem d_En_shrinkTo_22 : decode b_En_shrinkTo 22 = .ok (.invokestatic 35, 3) := by decide +kernel
theorem d_En_shrinkTo_25 : decode b_En_shrinkTo 25 = .ok (.aload_n 0, 1) := by decide +kernel
theorem d_En_shrinkTo_26 : decode b_En_shrinkTo 26 = .ok (.getfield 15, 3) := by decide +kernel
theorem d_En_shrinkTo_29 : decode b_En_shrinkTo 29 = .ok (.iload_n 2, 1) := by decide +kernel
theorem d_En_shrinkTo_30 : decode b_En_shrinkTo 30 = .ok (.iaload, 1) := by decide +kernel
theorem d_En_shrinkTo_31 : decode b_En_shrinkTo 31 = .ok (.iastore, 1) := by decide +kernel
theorem d_En_shrinkTo_32 : decode b_En_shrinkTo 32 = .ok (.iinc 2 (-1), 3) := by decide +kernel
theorem d_En_shrinkTo_35 : decode b_En_shrinkTo 35 = .ok (.goto (-28), 3) := by decide +kernel
theorem d_En_shrinkTo_38 : decode b_En_shrinkTo 38 = .ok (.aload_n 0, 1) := by decide +kernel
theorem d_En_shrinkTo_39 : decode b_En_shrinkTo 39 = .ok (.aload_n 0, 1) := by decide +kernel
theorem d_En_shrinkTo_40 : decode b_En_shrinkTo 40 = .ok (.getfield 31, 3) := by decide +kernel
theorem d_En_shrinkTo_43 : decode b_En_shrinkTo 43 = .ok (.iload_n 1, 1) := by decide +kernel
theorem d_En_shrinkTo_44 : decode b_En_shrinkTo 44 = .ok (.invokestatic 39, 3) := by decide +kernel
theorem d_En_shrinkTo_47 : decode b_En_shrinkTo 47 = .ok (.putfield 31, 3) := by decide +kernel
theorem d_En_shrinkTo_50 : decode b_En_shrinkTo 50 = .ok (.return_, 1) := by decide +kernel
set_option maxHeartbeats 4000000 in
set_option maxRecDepth 100000 in
/-- Ends.bucketOf -/
theorem m_En_bucketOf (l : Launch) (D9 : va_G) (cB cI cJ cG : ClassId) (a : Nat → Nat) (O : Nat → Int64) (I : Nat → Int32) (F : Nat → Nat → Int32) (x : Int32) : MC l D9 cB cI cJ cG a O y_En_bucketOf b_En_bucketOf 1 (some .int) 0 [.int (x)] I F (fun v I' F' => v = some (.int (nI (bk x))) ∧ I = I' ∧ F = F') := by
  refine mc_of (by decide) (Nat.le_of_ble_eq_true rfl) ?_
  intro p e s m below meth c ls A0 Q C0 hP hD hA hS hl hret
  obtain ⟨hx, hb, hml, hr, hlocks, hown, hts, hK⟩ := id C0
  have hl : lv_has ls 1 [(0, .int (x))] := hl
  refine lv_iload_n hx hb d_En_bucketOf_0 rfl (lv_at hl 0 rfl) ?_
  refine lv_iload_n hx hb d_En_bucketOf_1 rfl (lv_at hl 0 rfl) ?_
  refine lv_bipush (v := 12) hx hb d_En_bucketOf_2 (by decide) ?_
  refine lv_topq (y := nI 12) (rfl) ?_
  refine lv_iushr hx hb d_En_bucketOf_4 rfl ?_
  refine lv_ixor hx hb d_En_bucketOf_5 ?_
  refine lv_iload_n hx hb d_En_bucketOf_6 rfl (lv_at hl 0 rfl) ?_
  refine lv_bipush (v := 24) hx hb d_En_bucketOf_7 (by decide) ?_
  refine lv_topq (y := nI 24) (rfl) ?_
  refine lv_iushr hx hb d_En_bucketOf_9 rfl ?_
  refine lv_ixor hx hb d_En_bucketOf_10 ?_
  refine lv_sipush (v := 4095) hx hb d_En_bucketOf_11 (by decide) ?_
  refine lv_topq (y := nI 4095) (rfl) ?_
  refine lv_iand hx hb d_En_bucketOf_14 ?_
  refine lv_topq (y := nI (bk x)) (pk_and _ 12 (by decide)) ?_
  exact hret _ _ _ _ _ _ _ hS hP hD d_En_bucketOf_15 nr_i (⟨rfl, rfl, rfl⟩)
set_option maxHeartbeats 4000000 in
set_option maxRecDepth 100000 in
/-- Ends.add -/
theorem m_En_add (l : Launch) (D9 : va_G) (cB cI cJ cG : ClassId) (a : Nat → Nat) (O : Nat → Int64) (I : Nat → Int32) (F : Nat → Nat → Int32) (G : List Nat) (E : List (Nat × Nat)) (sr pl : Nat) (hS9 : EnS F E.length) (hB9 : EnB F G E) (hsz : I 14 = nI E.length) (hcap : pl < 16384 → E.length < 8192) (hE8 : E.length ≤ 8192) (hpl : pl < 1000000) : MC l D9 cB cI cJ cG a O y_En_add b_En_add 5 (none) 1 [.ref (a 24), .int (mk9 G sr), .int (nI sr), .int (nI pl)] I F (fun v I' F' => (pl < 16384 ∧ v = none ∧ sm [14] I I' ∧ I' 14 = nI (E.length + 1) ∧ sm [25, 26, 27, 28, 29] F F' ∧ EnS F' (E.length + 1) ∧ EnB F' G (E ++ [(pl, sr)])) ∨ (¬ pl < 16384 ∧ v = none ∧ I = I' ∧ F = F')) := by
  refine mc_ofv (by decide) (Nat.le_of_ble_eq_true rfl) ?_
  intro p e s m below meth c ls A0 Q C0 hP hD hA hS hl hret
  obtain ⟨hx, hb, hml, hr, hlocks, hown, hts, hK⟩ := id C0
  have hl : lv_has ls 5 [(0, .ref (a 24)), (1, .int (mk9 G sr)), (2, .int (nI sr)), (3, .int (nI pl))] := hl
  refine lv_iload_n hx hb d_En_add_0 rfl (lv_at hl 3 rfl) ?_
  refine lv_sipush (v := 16384) hx hb d_En_add_1 (by decide) ?_
  refine lv_topq (y := nI 16384) (rfl) ?_
  refine lv_icmp_ge (tgt := 17) hx hb d_En_add_4 (by decide) (fun c1 => ?_) (fun c1 => ?_)
  · have c1 : 16384 ≤ pl := (nI_leI (a := 16384) (b := pl) (by omega) (by omega)).mp c1
    exact hret _ _ _ _ _ _ hS hP hD d_En_add_17 (Or.inr ⟨by omega, rfl, rfl, rfl⟩)
  · have c1 : ¬ (16384 ≤ pl) := fun z9 => c1 ((nI_leI (a := 16384) (b := pl) (by omega) (by omega)).mpr z9)
    refine lv_aload_n hx hb d_En_add_7 rfl (lv_at hl 0 rfl) ?_
    refine va_get (D := D9) (ci := 1) (C := R_En) (T := F_En) (N := 7) hx hb hts i_En hown hK hP 24 ww_24 rfl 6 (by decide) (hts _ g_168) (fun _ h9 => h9) rfl d_En_add_8 ?_
    refine lv_topq (y := nI E.length) (hsz) ?_
    refine lv_sipush (v := 8192) hx hb d_En_add_11 (by decide) ?_
    refine lv_topq (y := nI 8192) (rfl) ?_
    refine lv_icmp_lt (tgt := 18) hx hb d_En_add_14 (by decide) (fun c2 => ?_) (fun c2 => ?_)
    · have c2 : E.length < 8192 := (nI_ltI (a := E.length) (b := 8192) (by omega) (by omega)).mp c2
      refine lv_iload_n hx hb d_En_add_18 rfl (lv_at hl 1 rfl) ?_
      refine mw_cS C0 (m_En_bucketOf l D9 cB cI cJ cG a O _ _ (mk9 G sr)) g_570 g_6 g_568 g_569 ⟨by decide +kernel, by decide +kernel, show Option.map (fun d => d.parameters.length) (parseMethodDescriptor y_En_bucketOf.desc) = some 1 by decide +kernel⟩ ⟨by decide, by decide⟩ rfl rfl hP hD hS hA hl.1 (Nat.le_of_ble_eq_true rfl) rfl d_En_add_19 ⟨by decide, by decide⟩ (fun v9 w9 H locs hq hP hD hS => ?_)
      obtain ⟨I3, F4, hw9, q5⟩ := hq
      subst hw9
      obtain ⟨rfl, rfl, rfl⟩ := q5
      refine lv_istore (lv' := [(4, _), (0, _), (1, _), (2, _), (3, _)]) hx hb d_En_add_22 hl (by decide) rfl (fun ls hl => ?_)
      have hbk := bk_lt (mk9 G sr)
      refine lv_aload_n hx hb d_En_add_24 rfl (lv_at hl 1 rfl) ?_
      refine va_get (D := D9) (ci := 1) (C := R_En) (T := F_En) (N := 7) hx hb hts i_En hown hK hP 24 ww_24 rfl 3 (by decide) (hts _ g_165) (fun _ h9 => h9) rfl d_En_add_25 ?_
      refine lv_aload_n hx hb d_En_add_28 rfl (lv_at hl 1 rfl) ?_
      refine va_get (D := D9) (ci := 1) (C := R_En) (T := F_En) (N := 7) hx hb hts i_En hown hK hP 24 ww_24 rfl 6 (by decide) (hts _ g_168) (fun _ h9 => h9) rfl d_En_add_29 ?_
      refine lv_topq (y := nI E.length) (hsz) ?_
      refine lv_iload_n hx hb d_En_add_32 rfl (lv_at hl 2 rfl) ?_
      refine va_iast (D := D9) hx hb hK hP hD hS 27 1 ww_27 rfl (vp_in_nI (by omega) (by decide)) d_En_add_33 (fun H locs hP hD hS => ?_)
      obtain ⟨F6, aF6, sF6, hP, hD⟩ := fx (P := fun z => va_P D9 cls9 (WW a cB cI cJ cG _ z O) H ∧ va_D A0 (WW a cB cI cJ cG _ z O)) ⟨wpa_27 hP, wda_27 hD⟩
      rw [nI_clamp (by omega)] at aF6
      refine lv_aload_n hx hb d_En_add_34 rfl (lv_at hl 1 rfl) ?_
      refine va_get (D := D9) (ci := 1) (C := R_En) (T := F_En) (N := 7) hx hb hts i_En hown hK hP 24 ww_24 rfl 4 (by decide) (hts _ g_166) (fun _ h9 => h9) rfl d_En_add_35 ?_
      refine lv_aload_n hx hb d_En_add_38 rfl (lv_at hl 1 rfl) ?_
      refine va_get (D := D9) (ci := 1) (C := R_En) (T := F_En) (N := 7) hx hb hts i_En hown hK hP 24 ww_24 rfl 6 (by decide) (hts _ g_168) (fun _ h9 => h9) rfl d_En_add_39 ?_
      refine lv_topq (y := nI E.length) (hsz) ?_
      refine lv_iload_n hx hb d_En_add_42 rfl (lv_at hl 4 rfl) ?_
      refine va_iast (D := D9) hx hb hK hP hD hS 28 1 ww_28 rfl (vp_in_nI (by omega) (by decide)) d_En_add_43 (fun H locs hP hD hS => ?_)
      obtain ⟨F7, aF7, sF7, hP, hD⟩ := fx (P := fun z => va_P D9 cls9 (WW a cB cI cJ cG _ z O) H ∧ va_D A0 (WW a cB cI cJ cG _ z O)) ⟨wpa_28 hP, wda_28 hD⟩
      rw [nI_clamp (by omega)] at aF7
      rw [(sF6 28 (by decide))] at aF7
      refine lv_aload_n hx hb d_En_add_44 rfl (lv_at hl 1 rfl) ?_
      refine va_get (D := D9) (ci := 1) (C := R_En) (T := F_En) (N := 7) hx hb hts i_En hown hK hP 24 ww_24 rfl 5 (by decide) (hts _ g_167) (fun _ h9 => h9) rfl d_En_add_45 ?_
      refine lv_aload_n hx hb d_En_add_48 rfl (lv_at hl 1 rfl) ?_
      refine va_get (D := D9) (ci := 1) (C := R_En) (T := F_En) (N := 7) hx hb hts i_En hown hK hP 24 ww_24 rfl 6 (by decide) (hts _ g_168) (fun _ h9 => h9) rfl d_En_add_49 ?_
      refine lv_topq (y := nI E.length) (hsz) ?_
      refine lv_iload_n hx hb d_En_add_52 rfl (lv_at hl 3 rfl) ?_
      refine va_iast (D := D9) hx hb hK hP hD hS 29 1 ww_29 rfl (vp_in_nI (by omega) (by decide)) d_En_add_53 (fun H locs hP hD hS => ?_)
      obtain ⟨F8, aF8, sF8, hP, hD⟩ := fx (P := fun z => va_P D9 cls9 (WW a cB cI cJ cG _ z O) H ∧ va_D A0 (WW a cB cI cJ cG _ z O)) ⟨wpa_29 hP, wda_29 hD⟩
      rw [nI_clamp (by omega)] at aF8
      rw [((sF7 29 (by decide)).trans (sF6 29 (by decide)))] at aF8
      refine lv_aload_n hx hb d_En_add_54 rfl (lv_at hl 1 rfl) ?_
      refine va_get (D := D9) (ci := 1) (C := R_En) (T := F_En) (N := 7) hx hb hts i_En hown hK hP 24 ww_24 rfl 2 (by decide) (hts _ g_164) (fun _ h9 => h9) rfl d_En_add_55 ?_
      refine lv_aload_n hx hb d_En_add_58 rfl (lv_at hl 1 rfl) ?_
      refine va_get (D := D9) (ci := 1) (C := R_En) (T := F_En) (N := 7) hx hb hts i_En hown hK hP 24 ww_24 rfl 6 (by decide) (hts _ g_168) (fun _ h9 => h9) rfl d_En_add_59 ?_
      refine lv_topq (y := nI E.length) (hsz) ?_
      refine lv_aload_n hx hb d_En_add_62 rfl (lv_at hl 1 rfl) ?_
      refine va_get (D := D9) (ci := 1) (C := R_En) (T := F_En) (N := 7) hx hb hts i_En hown hK hP 24 ww_24 rfl 1 (by decide) (hts _ g_163) (fun _ h9 => h9) rfl d_En_add_63 ?_
      refine lv_iload hx hb d_En_add_66 (lv_at hl 0 rfl) ?_
      refine va_iald (D := D9) hx hb hK hP 25 1 ww_25 rfl (vp_in_nI (by omega) (by decide)) d_En_add_68 ?_
      refine lv_topq (y := F 25 (bk (mk9 G sr))) (by rw [nI_clamp (by omega)]; exact ((congrFun (sF8 25 (by decide)) _).trans ((congrFun (sF7 25 (by decide)) _).trans ((congrFun (sF6 25 (by decide)) _).trans rfl)))) ?_
      refine va_iast (D := D9) hx hb hK hP hD hS 26 1 ww_26 rfl (vp_in_nI (by omega) (by decide)) d_En_add_69 (fun H locs hP hD hS => ?_)
      obtain ⟨F9, aF9, sF9, hP, hD⟩ := fx (P := fun z => va_P D9 cls9 (WW a cB cI cJ cG _ z O) H ∧ va_D A0 (WW a cB cI cJ cG _ z O)) ⟨wpa_26 hP, wda_26 hD⟩
      rw [nI_clamp (by omega)] at aF9
      rw [((sF8 26 (by decide)).trans ((sF7 26 (by decide)).trans (sF6 26 (by decide))))] at aF9
      refine lv_aload_n hx hb d_En_add_70 rfl (lv_at hl 1 rfl) ?_
      refine lv_dup hx hb d_En_add_71 rfl ?_
      refine va_get (D := D9) (ci := 1) (C := R_En) (T := F_En) (N := 7) hx hb hts i_En hown hK hP 24 ww_24 rfl 6 (by decide) (hts _ g_168) (fun _ h9 => h9) rfl d_En_add_72 ?_
      refine lv_topq (y := nI E.length) (hsz) ?_
      refine lv_iconst (v := 1) hx hb d_En_add_75 (by decide) ?_
      refine lv_topq (y := nI 1) (rfl) ?_
      refine lv_iadd hx hb d_En_add_76 ?_
      refine lv_topq (y := nI (E.length + 1)) (nI_add _ _) ?_
      refine va_put (D := D9) (ty := .int) (ci := 1) (C := R_En) (T := F_En) (N := 7) hx hb hts i_En t_En t_En_ok n_En hown hK hP hD hS 24 ww_24 rfl 6 (by decide) (hts _ g_168) (fun _ h9 => h9) rfl (by decide +kernel) rfl rfl (Nat.le_of_ble_eq_true rfl) d_En_add_77 (fun H locs hP hD hS => ?_)
      obtain ⟨I10, aI10, sI10, hP, hD⟩ := fx (P := fun z => va_P D9 cls9 (WW a cB cI cJ cG z _ O) H ∧ va_D A0 (WW a cB cI cJ cG z _ O)) ⟨wp_14 hP, wd_14 hD⟩
      refine lv_aload_n hx hb d_En_add_80 rfl (lv_at hl 1 rfl) ?_
      refine va_get (D := D9) (ci := 1) (C := R_En) (T := F_En) (N := 7) hx hb hts i_En hown hK hP 24 ww_24 rfl 1 (by decide) (hts _ g_163) (fun _ h9 => h9) rfl d_En_add_81 ?_
      refine lv_iload hx hb d_En_add_84 (lv_at hl 0 rfl) ?_
      refine lv_aload_n hx hb d_En_add_86 rfl (lv_at hl 1 rfl) ?_
      refine va_get (D := D9) (ci := 1) (C := R_En) (T := F_En) (N := 7) hx hb hts i_En hown hK hP 24 ww_24 rfl 6 (by decide) (hts _ g_168) (fun _ h9 => h9) rfl d_En_add_87 ?_
      refine lv_topq (y := nI (E.length + 1)) (aI10) ?_
      refine va_iast (D := D9) hx hb hK hP hD hS 25 1 ww_25 rfl (vp_in_nI (by omega) (by decide)) d_En_add_90 (fun H locs hP hD hS => ?_)
      obtain ⟨F11, aF11, sF11, hP, hD⟩ := fx (P := fun z => va_P D9 cls9 (WW a cB cI cJ cG _ z O) H ∧ va_D A0 (WW a cB cI cJ cG _ z O)) ⟨wpa_25 hP, wda_25 hD⟩
      rw [nI_clamp (by omega)] at aF11
      rw [((sF9 25 (by decide)).trans ((sF8 25 (by decide)).trans ((sF7 25 (by decide)).trans (sF6 25 (by decide)))))] at aF11
      exact hret _ _ _ _ _ _ hS hP hD d_En_add_91 (Or.inl ⟨by omega, rfl, (sm_mo sI10 (by decide)), aI10, (sm_tr (sm_tr (sm_tr (sm_tr (sm_mo sF6 (by decide)) (sm_mo sF7 (by decide))) (sm_mo sF8 (by decide))) (sm_mo sF9 (by decide))) (sm_mo sF11 (by decide))), EnS_add hS9 (((sF11 27 (by decide)).trans ((sF9 27 (by decide)).trans ((sF8 27 (by decide)).trans (sF7 27 (by decide))))).trans aF6) ((sF11 26 (by decide)).trans aF9) aF11, EnB_add hB9 (((sF11 27 (by decide)).trans ((sF9 27 (by decide)).trans ((sF8 27 (by decide)).trans (sF7 27 (by decide))))).trans aF6) (((sF11 28 (by decide)).trans ((sF9 28 (by decide)).trans (sF8 28 (by decide)))).trans aF7) (((sF11 29 (by decide)).trans (sF9 29 (by decide))).trans aF8)⟩)
    · have c2 : ¬ (E.length < 8192) := fun z9 => c2 ((nI_ltI (a := E.length) (b := 8192) (by omega) (by omega)).mpr z9)
      exfalso; omega
set_option maxHeartbeats 4000000 in
set_option maxRecDepth 100000 in
/-- Ends.shrinkTo -/
theorem m_En_shrinkTo (l : Launch) (D9 : va_G) (cB cI cJ cG : ClassId) (a : Nat → Nat) (O : Nat → Int64) (I : Nat → Int32) (F : Nat → Nat → Int32) (n q : Nat) (hS9 : EnS F n) (hsz : I 14 = nI n) (hn8 : n ≤ 8192) (hq8 : q ≤ 8192) : MC l D9 cB cI cJ cG a O y_En_shrinkTo b_En_shrinkTo 3 (none) 1 [.ref (a 24), .int (nI q)] I F (fun v I' F' => v = none ∧ sm [14] I I' ∧ I' 14 = nI (min n q) ∧ sm [25] F F' ∧ EnS F' (min n q)) := by
  refine mc_ofv (by decide) (Nat.le_of_ble_eq_true rfl) ?_
  intro p e s m below meth c ls A0 Q C0 hP hD hA hS hl hret
  obtain ⟨hx, hb, hml, hr, hlocks, hown, hts, hK⟩ := id C0
  have hl : lv_has ls 3 [(0, .ref (a 24)), (1, .int (nI q))] := hl
  refine lv_aload_n hx hb d_En_shrinkTo_0 rfl (lv_at hl 0 rfl) ?_
  refine va_get (D := D9) (ci := 1) (C := R_En) (T := F_En) (N := 7) hx hb hts i_En hown hK hP 24 ww_24 rfl 6 (by decide) (hts _ g_168) (fun _ h9 => h9) rfl d_En_shrinkTo_1 ?_
  refine lv_topq (y := nI n) (hsz) ?_
  refine lv_iconst (v := 1) hx hb d_En_shrinkTo_4 (by decide) ?_
  refine lv_topq (y := nI 1) (rfl) ?_
  refine lv_isub hx hb d_En_shrinkTo_5 ?_
  refine lv_topq (y := lI n) (rfl) ?_
  refine lv_istore_n (lv' := [(2, _), (0, _), (1, _)]) hx hb d_En_shrinkTo_6 rfl hl (by decide) rfl (fun ls hl => ?_)
  have loop1 : ∀ (n9 : Nat) (j : Nat) (I9 : Nat → Int32) (F9 : Nat → Nat → Int32) (H : Heap) (locs : List Loc) (ls : Array Slot), (I = I9) → (sm [25] F F9) → (j = n9) → (j ≤ n ∧ min n q ≤ j) → (EnS F9 j) → va_P D9 cls9 (WW a cB cI cJ cG I9 F9 O) H → va_D A0 (WW a cB cI cJ cG I9 F9 O) → va_S A0 s.heap H locs → lv_has ls 3 [(0, .ref (a 24)), (1, .int (nI q)), (2, .int (lI j))] → W p l e (rm9 1 0 0) s m ([.ref (a 24), .int (nI q)] : List Value).toArray below meth c H locs 0 0 Q (F0 m 7 ls []) := by
    intro n9
    induction n9 using Nat.strongRecOn with
    | ind n9 ih =>
      intro j I9 F9 H locs ls hsI hsF hn9 hj hE hP hD hS hl
      subst hsI
      refine lv_iload_n hx hb d_En_shrinkTo_7 rfl (lv_at hl 2 rfl) ?_
      refine lv_iload_n hx hb d_En_shrinkTo_8 rfl (lv_at hl 1 rfl) ?_
      refine lv_icmp_lt (tgt := 38) hx hb d_En_shrinkTo_9 (by decide) (fun c1 => ?_) (fun c1 => ?_)
      · have hz := (lI_lt (by omega) (by omega)).mp c1
        have hjn : j = min n q := by omega
        refine lv_aload_n hx hb d_En_shrinkTo_38 rfl (lv_at hl 0 rfl) ?_
        refine lv_aload_n hx hb d_En_shrinkTo_39 rfl (lv_at hl 0 rfl) ?_
        refine va_get (D := D9) (ci := 1) (C := R_En) (T := F_En) (N := 7) hx hb hts i_En hown hK hP 24 ww_24 rfl 6 (by decide) (hts _ g_168) (fun _ h9 => h9) rfl d_En_shrinkTo_40 ?_
        refine lv_topq (y := nI n) (hsz) ?_
        refine lv_iload_n hx hb d_En_shrinkTo_43 rfl (lv_at hl 1 rfl) ?_
        refine va_mmin hx hb (by rw [hml]; exact hl.1.symm) hown (hts _ g_571) (hts _ g_302) (hts _ g_14) (hts _ g_303) (by decide) (Nat.le_of_ble_eq_true rfl) (by decide) (by decide) d_En_shrinkTo_44 ?_
        refine lv_topq (y := nI (min n q)) (mn_nI (by omega) (by omega)) ?_
        refine va_put (D := D9) (ty := .int) (ci := 1) (C := R_En) (T := F_En) (N := 7) hx hb hts i_En t_En t_En_ok n_En hown hK hP hD hS 24 ww_24 rfl 6 (by decide) (hts _ g_168) (fun _ h9 => h9) rfl (by decide +kernel) rfl rfl (Nat.le_of_ble_eq_true rfl) d_En_shrinkTo_47 (fun H locs hP hD hS => ?_)
        obtain ⟨I2, aI2, sI2, hP, hD⟩ := fx (P := fun z => va_P D9 cls9 (WW a cB cI cJ cG z _ O) H ∧ va_D A0 (WW a cB cI cJ cG z _ O)) ⟨wp_14 hP, wd_14 hD⟩
        exact hret _ _ _ _ _ _ hS hP hD d_En_shrinkTo_50 (⟨rfl, (sm_mo sI2 (by decide)), aI2, (sm_mo hsF (by decide)), by rw [← hjn]; exact hE⟩)
      · have hz : ¬ j ≤ q := fun z9 => c1 ((lI_lt (by omega) (by omega)).mpr z9)
        obtain ⟨i, rfl⟩ : ∃ i, j = i + 1 := ⟨j - 1, by omega⟩
        rw [lI_s (by omega), Nat.add_sub_cancel] at hl
        have hbk := bk_lt (F9 27 i)
        refine lv_aload_n hx hb d_En_shrinkTo_12 rfl (lv_at hl 0 rfl) ?_
        refine va_get (D := D9) (ci := 1) (C := R_En) (T := F_En) (N := 7) hx hb hts i_En hown hK hP 24 ww_24 rfl 1 (by decide) (hts _ g_163) (fun _ h9 => h9) rfl d_En_shrinkTo_13 ?_
        refine lv_aload_n hx hb d_En_shrinkTo_16 rfl (lv_at hl 0 rfl) ?_
        refine va_get (D := D9) (ci := 1) (C := R_En) (T := F_En) (N := 7) hx hb hts i_En hown hK hP 24 ww_24 rfl 3 (by decide) (hts _ g_165) (fun _ h9 => h9) rfl d_En_shrinkTo_17 ?_
        refine lv_iload_n hx hb d_En_shrinkTo_20 rfl (lv_at hl 2 rfl) ?_
        refine va_iald (D := D9) hx hb hK hP 27 1 ww_27 rfl (vp_in_nI (by omega) (by decide)) d_En_shrinkTo_21 ?_
        refine lv_topq (y := F9 27 i) ((by rw [nI_clamp (by omega)])) ?_
        refine mw_cS C0 (m_En_bucketOf l D9 cB cI cJ cG a O _ _ (F9 27 i)) g_570 g_6 g_568 g_569 ⟨by decide +kernel, by decide +kernel, show Option.map (fun d => d.parameters.length) (parseMethodDescriptor y_En_bucketOf.desc) = some 1 by decide +kernel⟩ ⟨by decide, by decide⟩ rfl rfl hP hD hS hA hl.1 (Nat.le_of_ble_eq_true rfl) rfl d_En_shrinkTo_22 ⟨by decide, by decide⟩ (fun v9 w9 H locs hq hP hD hS => ?_)
        obtain ⟨I3, F4, hw9, q5⟩ := hq
        subst hw9
        obtain ⟨rfl, rfl, rfl⟩ := q5
        refine lv_aload_n hx hb d_En_shrinkTo_25 rfl (lv_at hl 0 rfl) ?_
        refine va_get (D := D9) (ci := 1) (C := R_En) (T := F_En) (N := 7) hx hb hts i_En hown hK hP 24 ww_24 rfl 2 (by decide) (hts _ g_164) (fun _ h9 => h9) rfl d_En_shrinkTo_26 ?_
        refine lv_iload_n hx hb d_En_shrinkTo_29 rfl (lv_at hl 2 rfl) ?_
        refine va_iald (D := D9) hx hb hK hP 26 1 ww_26 rfl (vp_in_nI (by omega) (by decide)) d_En_shrinkTo_30 ?_
        refine lv_topq (y := nI (pv (F9 27) i (bk (F9 27 i)))) (by rw [nI_clamp (by omega)]; exact (hE.1 i (by omega))) ?_
        refine va_iast (D := D9) hx hb hK hP hD hS 25 1 ww_25 rfl (vp_in_nI (by omega) (by decide)) d_En_shrinkTo_31 (fun H locs hP hD hS => ?_)
        obtain ⟨F6, aF6, sF6, hP, hD⟩ := fx (P := fun z => va_P D9 cls9 (WW a cB cI cJ cG _ z O) H ∧ va_D A0 (WW a cB cI cJ cG _ z O)) ⟨wpa_25 hP, wda_25 hD⟩
        rw [nI_clamp (by omega)] at aF6
        refine lv_iinc (lv' := [(2, .int (lI i)), (0, _), (1, _)]) hx hb d_En_shrinkTo_32 hl (k := 2) rfl (lI_d _) (by decide) rfl (fun ls hl => ?_)
        refine lv_goto (tgt := 7) hx hb d_En_shrinkTo_35 (by decide) ?_
        exact ih _ (by omega) i _ _ _ _ _ rfl (sm_tr (sm_mo hsF (by decide)) (sm_mo sF6 (by decide))) rfl ⟨by omega, by omega⟩ (EnS_less hE (sF6 27 (by decide)) (sF6 26 (by decide)) aF6) hP hD hS (lv_pk hl [1, 2, 0] rfl)
  exact loop1 _ n _ _ _ _ _ rfl sm_rf rfl ⟨Nat.le_refl _, by omega⟩ hS9 hP hD hS (lv_pk hl [1, 2, 0] rfl)
set_option maxHeartbeats 4000000 in
set_option maxRecDepth 100000 in
/-- Ends.equalBytes -/
theorem m_En_equalBytes (l : Launch) (D9 : va_G) (cB cI cJ cG : ClassId) (a : Nat → Nat) (O : Nat → Int64) (I : Nat → Int32) (F : Nat → Nat → Int32) (p9 q9 n : Nat) (h1 : p9 < 1000000) (h2 : q9 < 1000000) (h3 : n < 1000000) : MC l D9 cB cI cJ cG a O y_En_equalBytes b_En_equalBytes 5 (some .boolean) 1 [.ref (a 24), .int (nI p9), .int (nI q9), .int (nI n)] I F (fun v I' F' => ((∀ j, j < n → bn (F 4) (p9 + j) = bn (F 4) (q9 + j)) ∧ v = some (.int (nI 1)) ∧ I = I' ∧ F = F') ∨ (¬ (∀ j, j < n → bn (F 4) (p9 + j) = bn (F 4) (q9 + j)) ∧ v = some (.int (nI 0)) ∧ I = I' ∧ F = F')) := by
  refine mc_of (by decide) (Nat.le_of_ble_eq_true rfl) ?_
  intro p e s m below meth c ls A0 Q C0 hP hD hA hS hl hret
  obtain ⟨hx, hb, hml, hr, hlocks, hown, hts, hK⟩ := id C0
  have hl : lv_has ls 5 [(0, .ref (a 24)), (1, .int (nI p9)), (2, .int (nI q9)), (3, .int (nI n))] := hl
  refine lv_iconst (v := 0) hx hb d_En_equalBytes_0 (by decide) ?_
  refine lv_topq (y := nI 0) (rfl) ?_
  refine lv_istore (lv' := [(4, _), (0, _), (1, _), (2, _), (3, _)]) hx hb d_En_equalBytes_1 hl (by decide) rfl (fun ls hl => ?_)
  have loop1 : ∀ (n9 : Nat) (i : Nat) (I9 : Nat → Int32) (F9 : Nat → Nat → Int32) (H : Heap) (locs : List Loc) (ls : Array Slot), (I = I9) → (F = F9) → (n - i = n9) → (i ≤ n) → (∀ j, j < i → bn (F 4) (p9 + j) = bn (F 4) (q9 + j)) → va_P D9 cls9 (WW a cB cI cJ cG I9 F9 O) H → va_D A0 (WW a cB cI cJ cG I9 F9 O) → va_S A0 s.heap H locs → lv_has ls 5 [(0, .ref (a 24)), (1, .int (nI p9)), (2, .int (nI q9)), (3, .int (nI n)), (4, .int (nI i))] → W p l e (rm9 1 0 0) s m ([.ref (a 24), .int (nI p9), .int (nI q9), .int (nI n)] : List Value).toArray below meth c H locs 0 0 Q (F0 m 3 ls []) := by
    intro n9
    induction n9 using Nat.strongRecOn with
    | ind n9 ih =>
      intro i I9 F9 H locs ls hsI hsF hn9 hi hE hP hD hS hl
      subst hsI
      subst hsF
      refine lv_iload hx hb d_En_equalBytes_3 (lv_at hl 4 rfl) ?_
      refine lv_iload_n hx hb d_En_equalBytes_5 rfl (lv_at hl 3 rfl) ?_
      refine lv_icmp_ge (tgt := 42) hx hb d_En_equalBytes_6 (by decide) (fun c1 => ?_) (fun c1 => ?_)
      · have c1 : n ≤ i := (nI_leI (a := n) (b := i) (by omega) (by omega)).mp c1
        refine lv_iconst (v := 1) hx hb d_En_equalBytes_42 (by decide) ?_
        refine lv_topq (y := nI 1) (rfl) ?_
        exact hret _ _ _ _ _ _ _ hS hP hD d_En_equalBytes_43 (nr_z (Or.inr rfl)) (Or.inl ⟨fun j hj => hE j (by omega), rfl, rfl, rfl⟩)
      · have c1 : ¬ (n ≤ i) := fun z9 => c1 ((nI_leI (a := n) (b := i) (by omega) (by omega)).mpr z9)
        refine lv_aload_n hx hb d_En_equalBytes_9 rfl (lv_at hl 0 rfl) ?_
        refine va_get (D := D9) (ci := 1) (C := R_En) (T := F_En) (N := 7) hx hb hts i_En hown hK hP 24 ww_24 rfl 0 (by decide) (hts _ g_162) (fun _ h9 => h9) rfl d_En_equalBytes_10 ?_
        refine lv_iload_n hx hb d_En_equalBytes_13 rfl (lv_at hl 1 rfl) ?_
        refine lv_iload hx hb d_En_equalBytes_14 (lv_at hl 4 rfl) ?_
        refine lv_iadd hx hb d_En_equalBytes_16 ?_
        refine lv_topq (y := nI (p9 + i)) (nI_add _ _) ?_
        refine mw_cVN (ci := 0) (k := 3) C0 (m_By_at_gb l D9 cB cI cJ cG a O _ _ (nI (p9 + i))) g_259 g_2 g_599 g_258 gs_By_at ⟨by decide +kernel, by decide +kernel, show Option.map (fun d => d.parameters.length) (parseMethodDescriptor y_By_at.desc) = some 1 by decide +kernel⟩ ⟨by decide, by decide⟩ rfl rfl hP hD hS hA rfl ww_3 hl.1 (Nat.le_of_ble_eq_true rfl) rfl d_En_equalBytes_17 ⟨by decide, by decide⟩ (fun v9 w9 H locs hq hP hD hS => ?_)
        obtain ⟨I2, F3, hw9, q4⟩ := hq
        subst hw9
        obtain ⟨rfl, rfl, rfl⟩ := q4
        refine lv_topq (y := nI (bn (F 4) (p9 + i))) (bt_bn (by omega)) ?_
        refine lv_aload_n hx hb d_En_equalBytes_20 rfl (lv_at hl 0 rfl) ?_
        refine va_get (D := D9) (ci := 1) (C := R_En) (T := F_En) (N := 7) hx hb hts i_En hown hK hP 24 ww_24 rfl 0 (by decide) (hts _ g_162) (fun _ h9 => h9) rfl d_En_equalBytes_21 ?_
        refine lv_iload_n hx hb d_En_equalBytes_24 rfl (lv_at hl 2 rfl) ?_
        refine lv_iload hx hb d_En_equalBytes_25 (lv_at hl 4 rfl) ?_
        refine lv_iadd hx hb d_En_equalBytes_27 ?_
        refine lv_topq (y := nI (q9 + i)) (nI_add _ _) ?_
        refine mw_cVN (ci := 0) (k := 3) C0 (m_By_at_gb l D9 cB cI cJ cG a O _ _ (nI (q9 + i))) g_259 g_2 g_599 g_258 gs_By_at ⟨by decide +kernel, by decide +kernel, show Option.map (fun d => d.parameters.length) (parseMethodDescriptor y_By_at.desc) = some 1 by decide +kernel⟩ ⟨by decide, by decide⟩ rfl rfl hP hD hS hA rfl ww_3 hl.1 (Nat.le_of_ble_eq_true rfl) rfl d_En_equalBytes_28 ⟨by decide, by decide⟩ (fun v9 w9 H locs hq hP hD hS => ?_)
        obtain ⟨I5, F6, hw9, q7⟩ := hq
        subst hw9
        obtain ⟨rfl, rfl, rfl⟩ := q7
        refine lv_topq (y := nI (bn (F 4) (q9 + i))) (bt_bn (by omega)) ?_
        have hy1 := bn_lt (F 4) (p9 + i)
        have hy2 := bn_lt (F 4) (q9 + i)
        refine lv_icmp_eq (tgt := 36) hx hb d_En_equalBytes_31 (by decide) (fun c8 => ?_) (fun c8 => ?_)
        · have c8 : bn (F 4) (p9 + i) = bn (F 4) (q9 + i) := (nI_eq (a := bn (F 4) (p9 + i)) (b := bn (F 4) (q9 + i)) (by omega) (by omega)).mp c8
          refine lv_iinc (lv' := [(4, .int (nI (i + 1))), (0, _), (1, _), (2, _), (3, _)]) hx hb d_En_equalBytes_36 hl (k := 4) rfl (nI_add _ 1) (by decide) rfl (fun ls hl => ?_)
          refine lv_goto (tgt := 3) hx hb d_En_equalBytes_39 (by decide) ?_
          exact ih _ (by omega) (i + 1) _ _ _ _ _ rfl rfl rfl (by omega) (fun j hj => by rcases Nat.lt_or_eq_of_le (Nat.le_of_lt_succ hj) with z | z; exact hE j z; rw [z]; assumption) hP hD hS (lv_pk hl [1, 2, 3, 4, 0] rfl)
        · have c8 : ¬ (bn (F 4) (p9 + i) = bn (F 4) (q9 + i)) := fun z9 => c8 ((nI_eq (a := bn (F 4) (p9 + i)) (b := bn (F 4) (q9 + i)) (by omega) (by omega)).mpr z9)
          refine lv_iconst (v := 0) hx hb d_En_equalBytes_34 (by decide) ?_
          refine lv_topq (y := nI 0) (rfl) ?_
          exact hret _ _ _ _ _ _ _ hS hP hD d_En_equalBytes_35 (nr_z (Or.inl rfl)) (Or.inr ⟨fun z9 => absurd (z9 i (by omega)) (by assumption), rfl, rfl, rfl⟩)
  exact loop1 _ 0 _ _ _ _ _ rfl rfl rfl (Nat.zero_le _) (fun j hj => by omega) hP hD hS (lv_pk hl [1, 2, 3, 4, 0] rfl)
set_option maxHeartbeats 4000000 in
set_option maxRecDepth 100000 in
/-- Ends.placeOf -/
theorem m_En_placeOf (l : Launch) (D9 : va_G) (cB cI cJ cG : ClassId) (a : Nat → Nat) (O : Nat → Int64) (I : Nat → Int32) (F : Nat → Nat → Int32) (G : List Nat) (hGl : G.length ≤ 65536) (hGB : BR 0 65536 (F 4) G) (E : List (Nat × Nat)) (kN fr rt9 : Nat) (hN : isN G kN fr rt9) (hkN : kN ≤ 127) (hS9 : EnS F E.length) (hB9 : EnB F G E) (hW : EnW G E) : MC l D9 cB cI cJ cG a O y_En_placeOf b_En_placeOf 6 (some .int) 2 [.ref (a 24), .int (mk9 G fr), .int (nI fr), .int (nI (rt9 + 1 - fr))] I F (fun v I' F' => (∃ pl, fnd G E fr = some pl ∧ pl < 16384 ∧ v = some (.int (nI pl)) ∧ I = I' ∧ F = F') ∨ (fnd G E fr = none ∧ v = some (.int (-1)) ∧ I = I' ∧ F = F')) := by
  refine mc_of (by decide) (Nat.le_of_ble_eq_true rfl) ?_
  intro p e s m below meth c ls A0 Q C0 hP hD hA hS hl hret
  obtain ⟨hx, hb, hml, hr, hlocks, hown, hts, hK⟩ := id C0
  have hl : lv_has ls 6 [(0, .ref (a 24)), (1, .int (mk9 G fr)), (2, .int (nI fr)), (3, .int (nI (rt9 + 1 - fr)))] := hl
  have hE8 := hW.2.2
  have hpN := isN_p hN
  have hrN := isN_r hN
  have hmk : ∀ i, i < E.length → al 128 G (eQ E i) fr = true → bk (F 27 i) = bk (mk9 G fr) := fun i hi hq => by obtain ⟨-, k2, r2, v2, v3⟩ := hW.1 i hi; rw [(hB9 i hi).2.2, al_mk v2 v3 hN hkN hq]
  refine lv_aload_n hx hb d_En_placeOf_0 rfl (lv_at hl 0 rfl) ?_
  refine va_get (D := D9) (ci := 1) (C := R_En) (T := F_En) (N := 7) hx hb hts i_En hown hK hP 24 ww_24 rfl 1 (by decide) (hts _ g_163) (fun _ h9 => h9) rfl d_En_placeOf_1 ?_
  refine lv_iload_n hx hb d_En_placeOf_4 rfl (lv_at hl 1 rfl) ?_
  refine mw_cS C0 (m_En_bucketOf l D9 cB cI cJ cG a O _ _ (mk9 G fr)) g_570 g_6 g_568 g_569 ⟨by decide +kernel, by decide +kernel, show Option.map (fun d => d.parameters.length) (parseMethodDescriptor y_En_bucketOf.desc) = some 1 by decide +kernel⟩ ⟨by decide, by decide⟩ rfl rfl hP hD hS hA hl.1 (Nat.le_of_ble_eq_true rfl) rfl d_En_placeOf_5 ⟨by decide, by decide⟩ (fun v9 w9 H locs hq hP hD hS => ?_)
  obtain ⟨I1, F2, hw9, q3⟩ := hq
  subst hw9
  obtain ⟨rfl, rfl, rfl⟩ := q3
  have hbk9 := bk_lt (mk9 G fr)
  refine va_iald (D := D9) hx hb hK hP 25 1 ww_25 rfl (vp_in_nI (bk_lt _) (by decide)) d_En_placeOf_8 ?_
  refine lv_topq (y := nI (pv (F 27) E.length (bk (mk9 G fr)))) (by rw [nI_clamp (by omega)]; exact (hS9.2 _ (bk_lt _))) ?_
  refine lv_iconst (v := 1) hx hb d_En_placeOf_9 (by decide) ?_
  refine lv_topq (y := nI 1) (rfl) ?_
  refine lv_isub hx hb d_En_placeOf_10 ?_
  refine lv_topq (y := lI (pv (F 27) E.length (bk (mk9 G fr)))) (rfl) ?_
  refine lv_istore (lv' := [(4, _), (0, _), (1, _), (2, _), (3, _)]) hx hb d_En_placeOf_11 hl (by decide) rfl (fun ls hl => ?_)
  refine lv_iconst (v := 0) hx hb d_En_placeOf_13 (by decide) ?_
  refine lv_topq (y := nI 0) (rfl) ?_
  refine lv_istore (lv' := [(5, _), (4, _), (0, _), (1, _), (2, _), (3, _)]) hx hb d_En_placeOf_14 hl (by decide) rfl (fun ls hl => ?_)
  have loop1 : ∀ (n9 : Nat) (j : Nat) (st9 : Nat) (I9 : Nat → Int32) (F9 : Nat → Nat → Int32) (H : Heap) (locs : List Loc) (ls : Array Slot), (I = I9) → (F = F9) → (j = n9) → (st9 + j ≤ E.length) → (0 < j → bk (F 27 (j - 1)) = bk (mk9 G fr)) → (∀ i, j ≤ i → i < E.length → al 128 G (eQ E i) fr = false) → va_P D9 cls9 (WW a cB cI cJ cG I9 F9 O) H → va_D A0 (WW a cB cI cJ cG I9 F9 O) → va_S A0 s.heap H locs → lv_has ls 6 [(0, .ref (a 24)), (1, .int (mk9 G fr)), (2, .int (nI fr)), (3, .int (nI (rt9 + 1 - fr))), (4, .int (lI j)), (5, .int (nI st9))] → W p l e (rm9 2 0 0) s m ([.ref (a 24), .int (mk9 G fr), .int (nI fr), .int (nI (rt9 + 1 - fr))] : List Value).toArray below meth c H locs 0 0 Q (F0 m 16 ls []) := by
    intro n9
    induction n9 using Nat.strongRecOn with
    | ind n9 ih =>
      intro j st9 I9 F9 H locs ls hsI hsF hn9 hj hjb hno hP hD hS hl
      subst hsI
      subst hsF
      refine lv_iload hx hb d_En_placeOf_16 (lv_at hl 5 rfl) ?_
      refine lv_sipush (v := 8192) hx hb d_En_placeOf_18 (by decide) ?_
      refine lv_topq (y := nI 8192) (rfl) ?_
      refine lv_icmp_ge (tgt := 81) hx hb d_En_placeOf_21 (by decide) (fun c4 => ?_) (fun c4 => ?_)
      · have c4 : 8192 ≤ st9 := (nI_leI (a := 8192) (b := st9) (by omega) (by omega)).mp c4
        have hj0 : j = 0 := by omega
        subst hj0
        refine lv_iconst (v := -1) hx hb d_En_placeOf_81 (by decide) ?_
        refine lv_topq (y := (-1 : Int32)) rfl ?_
        exact hret _ _ _ _ _ _ _ hS hP hD d_En_placeOf_82 nr_i (Or.inr ⟨fnd_none (fun k hk => hno k (Nat.zero_le _) hk), rfl, rfl, rfl⟩)
      · have c4 : ¬ (8192 ≤ st9) := fun z9 => c4 ((nI_leI (a := 8192) (b := st9) (by omega) (by omega)).mpr z9)
        refine lv_iload hx hb d_En_placeOf_24 (lv_at hl 4 rfl) ?_
        refine lv_if_lt (tgt := 81) hx hb d_En_placeOf_26 (by decide) (fun c5 => ?_) (fun c5 => ?_)
        · have hz := lI_lt (j := j) (q := 0) (by omega) (by decide)
          have hj0 : j = 0 := by have := hz.mp c5; omega
          subst hj0
          refine lv_iconst (v := -1) hx hb d_En_placeOf_81 (by decide) ?_
          refine lv_topq (y := (-1 : Int32)) rfl ?_
          exact hret _ _ _ _ _ _ _ hS hP hD d_En_placeOf_82 nr_i (Or.inr ⟨fnd_none (fun k hk => hno k (Nat.zero_le _) hk), rfl, rfl, rfl⟩)
        · have hz := lI_lt (j := j) (q := 0) (by omega) (by decide)
          obtain ⟨k, rfl⟩ : ∃ k, j = k + 1 := ⟨j - 1, by rcases Nat.eq_zero_or_pos j with z | z; exact absurd (hz.mpr (by omega)) c5; omega⟩
          rw [lI_s (by omega), Nat.add_sub_cancel] at hl
          have hkE : k < E.length := by omega
          obtain ⟨b1, b2, b3⟩ := hB9 k hkE
          obtain ⟨w1, kk, rr, w2, w3⟩ := hW.1 k hkE
          have w4 := isN_p w2
          have hjb : bk (F 27 k) = bk (mk9 G fr) := hjb (by omega)
          have hraw := al_raw (g := bn (F 4)) (fun i hi => BR_bn hGB hi hGl) w2 hN (show kN < 128 by omega)
          refine lv_aload_n hx hb d_En_placeOf_29 rfl (lv_at hl 0 rfl) ?_
          refine va_get (D := D9) (ci := 1) (C := R_En) (T := F_En) (N := 7) hx hb hts i_En hown hK hP 24 ww_24 rfl 3 (by decide) (hts _ g_165) (fun _ h9 => h9) rfl d_En_placeOf_30 ?_
          refine lv_iload hx hb d_En_placeOf_33 (lv_at hl 4 rfl) ?_
          refine va_iald (D := D9) hx hb hK hP 27 1 ww_27 rfl (vp_in_nI (by omega) (by decide)) d_En_placeOf_35 ?_
          refine lv_topq (y := mk9 G (eQ E k)) (by rw [nI_clamp (by omega)]; exact b3) ?_
          refine lv_iload_n hx hb d_En_placeOf_36 rfl (lv_at hl 1 rfl) ?_
          refine lv_icmp_ne (tgt := 64) hx hb d_En_placeOf_37 (by decide) (fun c6 => ?_) (fun c6 => ?_)
          · have hna : al 128 G (eQ E k) fr = false := by cases hq : al 128 G (eQ E k) fr with | false => rfl | true => exact absurd (al_mk w2 w3 hN hkN hq) c6
            refine lv_aload_n hx hb d_En_placeOf_64 rfl (lv_at hl 0 rfl) ?_
            refine va_get (D := D9) (ci := 1) (C := R_En) (T := F_En) (N := 7) hx hb hts i_En hown hK hP 24 ww_24 rfl 2 (by decide) (hts _ g_164) (fun _ h9 => h9) rfl d_En_placeOf_65 ?_
            refine lv_iload hx hb d_En_placeOf_68 (lv_at hl 4 rfl) ?_
            refine va_iald (D := D9) hx hb hK hP 26 1 ww_26 rfl (vp_in_nI (by omega) (by decide)) d_En_placeOf_70 ?_
            refine lv_topq (y := nI (pv (F 27) k (bk (F 27 k)))) (by rw [nI_clamp (by omega)]; exact (hS9.1 k hkE)) ?_
            refine lv_iconst (v := 1) hx hb d_En_placeOf_71 (by decide) ?_
            refine lv_topq (y := nI 1) (rfl) ?_
            refine lv_isub hx hb d_En_placeOf_72 ?_
            refine lv_topq (y := lI (pv (F 27) k (bk (F 27 k)))) (rfl) ?_
            refine lv_istore (lv' := [(4, _), (0, _), (1, _), (2, _), (3, _), (5, _)]) hx hb d_En_placeOf_73 hl (by decide) rfl (fun ls hl => ?_)
            refine lv_iinc (lv' := [(5, .int (nI (st9 + 1))), (4, _), (0, _), (1, _), (2, _), (3, _)]) hx hb d_En_placeOf_75 hl (k := 5) rfl (nI_add _ 1) (by decide) rfl (fun ls hl => ?_)
            refine lv_goto (tgt := 16) hx hb d_En_placeOf_78 (by decide) ?_
            have hple := pv_le (F 27) k (bk (F 27 k))
            exact ih _ (by omega) (pv (F 27) k (bk (F 27 k))) (st9 + 1) _ _ _ _ _ rfl rfl rfl (by omega) (by rw [hjb]; exact pv_p.1) (fun i h1 h2 => (Nat.lt_trichotomy i k).elim (fun z => by cases hq : al 128 G (eQ E i) fr with | false => rfl | true => exact absurd ((hmk i h2 hq).trans hjb.symm) (pv_p.2 i h1 z)) (fun z => z.elim (fun z => by rw [z]; exact hna) (fun z => hno i (by omega) h2))) hP hD hS (lv_pk hl [2, 3, 4, 5, 1, 0] rfl)
          · refine lv_aload_n hx hb d_En_placeOf_40 rfl (lv_at hl 0 rfl) ?_
            refine lv_aload_n hx hb d_En_placeOf_41 rfl (lv_at hl 0 rfl) ?_
            refine va_get (D := D9) (ci := 1) (C := R_En) (T := F_En) (N := 7) hx hb hts i_En hown hK hP 24 ww_24 rfl 5 (by decide) (hts _ g_167) (fun _ h9 => h9) rfl d_En_placeOf_42 ?_
            refine lv_iload hx hb d_En_placeOf_45 (lv_at hl 4 rfl) ?_
            refine va_iald (D := D9) hx hb hK hP 29 1 ww_29 rfl (vp_in_nI (by omega) (by decide)) d_En_placeOf_47 ?_
            refine lv_topq (y := nI (eQ E k)) (by rw [nI_clamp (by omega)]; exact b2) ?_
            refine lv_iload_n hx hb d_En_placeOf_48 rfl (lv_at hl 2 rfl) ?_
            refine lv_iload_n hx hb d_En_placeOf_49 rfl (lv_at hl 3 rfl) ?_
            refine mw_cV (ci := 1) (k := 24) C0 (m_En_equalBytes l D9 cB cI cJ cG a O _ _ (eQ E k) fr (rt9 + 1 - fr) (by omega) (by omega) (by omega)) g_598 g_6 g_595 g_597 gs_En_equalBytes ⟨by decide +kernel, by decide +kernel, show Option.map (fun d => d.parameters.length) (parseMethodDescriptor y_En_equalBytes.desc) = some 3 by decide +kernel⟩ ⟨by decide, by decide⟩ rfl rfl hP hD hS hA rfl ww_24 hl.1 (Nat.le_of_ble_eq_true rfl) rfl d_En_placeOf_50 ⟨by decide, by decide⟩ (fun v9 w9 H locs hq hP hD hS => ?_)
            obtain ⟨I7, F8, hw9, q9⟩ := hq
            subst hw9
            rcases q9 with ⟨hq9, rfl, rfl, rfl⟩ | ⟨hq9, rfl, rfl, rfl⟩
            · have hal := hraw.mp hq9
              refine lv_if_eq (tgt := 64) hx hb d_En_placeOf_53 (by decide) (fun c10 => ?_) (fun c10 => ?_)
              · exact absurd c10 (by decide)
              · refine lv_aload_n hx hb d_En_placeOf_56 rfl (lv_at hl 0 rfl) ?_
                refine va_get (D := D9) (ci := 1) (C := R_En) (T := F_En) (N := 7) hx hb hts i_En hown hK hP 24 ww_24 rfl 4 (by decide) (hts _ g_166) (fun _ h9 => h9) rfl d_En_placeOf_57 ?_
                refine lv_iload hx hb d_En_placeOf_60 (lv_at hl 4 rfl) ?_
                refine va_iald (D := D9) hx hb hK hP 28 1 ww_28 rfl (vp_in_nI (by omega) (by decide)) d_En_placeOf_62 ?_
                refine lv_topq (y := nI (eP E k)) (by rw [nI_clamp (by omega)]; exact b1) ?_
                exact hret _ _ _ _ _ _ _ hS hP hD d_En_placeOf_63 nr_i (Or.inl ⟨eP E k, fnd_some hkE hal (fun i hi => by cases hq : al 128 G (eQ E i) fr with | false => rfl | true => obtain ⟨-, k2, r2, v2, v3⟩ := hW.1 i (by omega); exact absurd (al_two v2 w2 hN (by omega) (by omega) hq hal) (by rw [hW.2.1 i k hi hkE]; decide)), w1, rfl, rfl, rfl⟩)
            · have hna : al 128 G (eQ E k) fr = false := by cases hq : al 128 G (eQ E k) fr with | false => rfl | true => exact absurd (hraw.mpr hq) hq9
              refine lv_if_eq (tgt := 64) hx hb d_En_placeOf_53 (by decide) (fun c11 => ?_) (fun c11 => ?_)
              · refine lv_aload_n hx hb d_En_placeOf_64 rfl (lv_at hl 0 rfl) ?_
                refine va_get (D := D9) (ci := 1) (C := R_En) (T := F_En) (N := 7) hx hb hts i_En hown hK hP 24 ww_24 rfl 2 (by decide) (hts _ g_164) (fun _ h9 => h9) rfl d_En_placeOf_65 ?_
                refine lv_iload hx hb d_En_placeOf_68 (lv_at hl 4 rfl) ?_
                refine va_iald (D := D9) hx hb hK hP 26 1 ww_26 rfl (vp_in_nI (by omega) (by decide)) d_En_placeOf_70 ?_
                refine lv_topq (y := nI (pv (F 27) k (bk (F 27 k)))) (by rw [nI_clamp (by omega)]; exact (hS9.1 k hkE)) ?_
                refine lv_iconst (v := 1) hx hb d_En_placeOf_71 (by decide) ?_
                refine lv_topq (y := nI 1) (rfl) ?_
                refine lv_isub hx hb d_En_placeOf_72 ?_
                refine lv_topq (y := lI (pv (F 27) k (bk (F 27 k)))) (rfl) ?_
                refine lv_istore (lv' := [(4, _), (0, _), (1, _), (2, _), (3, _), (5, _)]) hx hb d_En_placeOf_73 hl (by decide) rfl (fun ls hl => ?_)
                refine lv_iinc (lv' := [(5, .int (nI (st9 + 1))), (4, _), (0, _), (1, _), (2, _), (3, _)]) hx hb d_En_placeOf_75 hl (k := 5) rfl (nI_add _ 1) (by decide) rfl (fun ls hl => ?_)
                refine lv_goto (tgt := 16) hx hb d_En_placeOf_78 (by decide) ?_
                have hple := pv_le (F 27) k (bk (F 27 k))
                exact ih _ (by omega) (pv (F 27) k (bk (F 27 k))) (st9 + 1) _ _ _ _ _ rfl rfl rfl (by omega) (by rw [hjb]; exact pv_p.1) (fun i h1 h2 => (Nat.lt_trichotomy i k).elim (fun z => by cases hq : al 128 G (eQ E i) fr with | false => rfl | true => exact absurd ((hmk i h2 hq).trans hjb.symm) (pv_p.2 i h1 z)) (fun z => z.elim (fun z => by rw [z]; exact hna) (fun z => hno i (by omega) h2))) hP hD hS (lv_pk hl [2, 3, 4, 5, 1, 0] rfl)
              · exact absurd c11 (by decide)
  exact loop1 _ (pv (F 27) E.length (bk (mk9 G fr))) 0 _ _ _ _ _ rfl rfl rfl (by have := pv_le (F 27) E.length (bk (mk9 G fr)); omega) pv_p.1 (fun i h1 h2 => by cases hq : al 128 G (eQ E i) fr with | false => rfl | true => exact absurd (hmk i h2 hq) (pv_p.2 i h1 h2)) hP hD hS (lv_pk hl [2, 3, 4, 5, 1, 0] rfl)
