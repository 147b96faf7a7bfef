/-! THE WHOLE MESSAGE -/
theorem BR_12 {f : Nat → Int32} (h : sb_Fit f) : ∃ X : List Nat, X.length = 12 ∧ BR 0 65536 f X := by
  refine ⟨(List.range 12).map (fun i => ub (f i)), by simp, h, ?_⟩
  intro i b hb _ _
  rw [List.getElem?_map] at hb
  obtain ⟨j, h1, h2⟩ := Option.map_eq_some_iff.mp hb
  obtain ⟨h3, h4⟩ := List.getElem?_eq_some_iff.mp h1
  rw [List.getElem_range] at h4
  rw [h4]; exact h2
def wIt (es : List En9) (lim : Nat) : Nat → WS9
  | 0 => ([], [], 0, false, mu3 (fil 3 es), 0)
  | s + 1 => wSec es lim s (wIt es lim s)
def wCn (es : List En9) (lim i : Nat) : Nat := (wIt es lim (i + 1)).2.2.2.2.2
/-- the written message -/
def hd9 (a b c0 c1 c2 c3 : Nat) : List Nat := b2 a ++ (b2 b ++ (b2 c0 ++ (b2 c1 ++ (b2 c2 ++ b2 c3))))
def wFl (es : List En9) (fg lim : Nat) : Nat := if (wIt es lim 4).2.2.2.1 = true then fg ||| 512 else fg
def wMs (es : List En9) (id fg lim : Nat) : List Nat := hd9 id (wFl es fg lim) (wCn es lim 0) (wCn es lim 1) (wCn es lim 2) (wCn es lim 3) ++ (wIt es lim 4).1
theorem cn_take_le {s : Nat} {es : List En9} {a b : Nat} (h : a ≤ b) : cn s (es.take a) ≤ cn s (es.take b) := by
  have h3 : es.take b = es.take a ++ (es.take b).drop a := by
    conv => lhs; rw [← List.take_append_drop a (es.take b)]
    rw [List.take_take, Nat.min_eq_left h]
  rw [h3, cn_app]; omega
theorem wR_to {es : List En9} {lim s k r r0 : Nat} {e : En9} {st : WS9} (h : ix s k es = some r) (he : es[r]? = some e) (hs : eS e = s) (hc : cn s (es.take r0) = k) (hr0 : r0 ≤ es.length) : r0 ≤ r ∧ cn s (es.take (r + 1)) = k + 1 ∧ wR es lim s (es.length - r0) r0 st = wR es lim s (es.length - (r + 1)) (r + 1) (wSt es lim s r e st) := by
  obtain ⟨e', a1, a2, a3⟩ := ix_some h
  have hlt := (ix_lt h).1
  have h1 : cn s (es.take (r + 1)) = k + 1 := by rw [take_get he, cn_app, cn_one, if_pos hs, a3]
  have h2 : r0 ≤ r := by
    rcases Nat.lt_or_ge r r0 with z | z
    · have := cn_take_le (s := s) (es := es) (show r + 1 ≤ r0 by omega); omega
    · exact z
  refine ⟨h2, h1, ?_⟩
  rw [wR_skip (d := r - r0) (by rw [show r0 + (r - r0) = r by omega, a3, hc]) (by omega) (Nat.le_refl _), show r0 + (r - r0) = r by omega, show es.length - r0 - (r - r0) = (es.length - (r + 1)) + 1 by omega, wR_at he, if_pos hs]
theorem wR_fin {es : List En9} {lim s r0 : Nat} {st : WS9} (hc : cn s (es.take r0) = cn s es) (hr0 : r0 ≤ es.length) : wR es lim s (es.length - r0) r0 st = st := by
  rw [wR_skip (d := es.length - r0) (by rw [show r0 + (es.length - r0) = es.length by omega, List.take_length, hc]) (by omega) (Nat.le_refl _)]
  exact wR_end (by omega)
def stl (e : En9) (still : Nat) : Nat := if mst e = true then still - (11 + (eD e).length) else still
theorem wSt_skip {es : List En9} {lim s r : Nat} {e : En9} {B : List Nat} {E : List (Nat × Nat)} {pt still n : Nat} (h : mst e = false) : wSt es lim s r e (B, E, pt, true, still, n) = (B, E, pt, true, still, n) := by
  unfold wSt; simp [h]
theorem wSt_ok {es : List En9} {lim s r : Nat} {e : En9} {B : List Nat} {E : List (Nat × Nat)} {pt still n : Nat} {cut : Bool} (h : cut = false ∨ mst e = true) (hl : 12 + (wE (fl es) (of9 es r) e B E pt).1.length + stl e still ≤ lim) : wSt es lim s r e (B, E, pt, cut, still, n) = ((wE (fl es) (of9 es r) e B E pt).1, (wE (fl es) (of9 es r) e B E pt).2.1, (wE (fl es) (of9 es r) e B E pt).2.2, cut, stl e still, n + 1) := by
  have hc : ¬ (cut = true ∧ mst e = false) := by rcases h with h | h <;> rw [h] <;> simp
  unfold wSt; unfold stl at hl ⊢
  simp only
  rw [if_neg hc, if_pos hl]
theorem wSt_no {es : List En9} {lim s r : Nat} {e : En9} {B : List Nat} {E : List (Nat × Nat)} {pt still n : Nat} {cut : Bool} (h : cut = false ∨ mst e = true) (hl : ¬ 12 + (wE (fl es) (of9 es r) e B E pt).1.length + stl e still ≤ lim) : wSt es lim s r e (B, E, pt, cut, still, n) = (B, E, pt, cut || decide (s < 3), stl e still, n) := by
  have hc : ¬ (cut = true ∧ mst e = false) := by rcases h with h | h <;> rw [h] <;> simp
  unfold wSt; unfold stl at hl ⊢
  simp only
  rw [if_neg hc, if_neg hl]
theorem mu3_drop {L : List En9} {k : Nat} {e : En9} (h : L[k]? = some e) : mu3 (L.drop k) = (if eT e = 41 then 11 + (eD e).length else 0) + mu3 (L.drop (k + 1)) := by
  obtain ⟨h1, h2⟩ := List.getElem?_eq_some_iff.mp h
  rw [List.drop_eq_getElem_cons h1, h2]; rfl
theorem stl_ok {es : List En9} {sc k still : Nat} {e : En9} (hs : eS e = sc) (h4 : sc < 4) (hf : (fil sc es)[k]? = some e) (h : (sc = 3 → still = mu3 ((fil 3 es).drop k)) ∧ (sc < 3 → still = mu3 (fil 3 es))) : (sc = 3 → stl e still = mu3 ((fil 3 es).drop (k + 1))) ∧ (sc < 3 → stl e still = mu3 (fil 3 es)) ∧ (mst e = true → stl e still + (11 + (eD e).length) = still) ∧ stl e still ≤ still := by
  unfold stl
  by_cases h3 : sc = 3
  · have hf3 : (fil 3 es)[k]? = some e := by rw [← h3]; exact hf
    have hd := mu3_drop hf3
    have h0 := h.1 h3
    have hm : mst e = decide (eT e = 41) := by unfold mst; rw [hs, h3]; simp
    by_cases ht : eT e = 41
    · rw [if_pos ht] at hd
      have hmt : mst e = true := by rw [hm]; simp [ht]
      rw [if_pos hmt]
      exact ⟨fun _ => by omega, fun z => by omega, fun _ => by omega, by omega⟩
    · rw [if_neg ht] at hd
      have hmt : mst e = false := by rw [hm]; simp [ht]
      rw [hmt, if_neg (by decide)]
      exact ⟨fun _ => by omega, fun z => by omega, fun z => absurd z (by decide), by omega⟩
  · have hm : mst e = false := by unfold mst; rw [hs]; simp [h3]
    rw [hm, if_neg (by decide)]
    exact ⟨fun z => absurd z h3, h.2, fun z => absurd z (by decide), Nat.le_refl _⟩
theorem set_X {X B : List Nat} {i v : Nat} (h : i < X.length) : (X ++ B).set i v = X.set i v ++ B := List.set_append_left _ _ h
def hX9 (es : List En9) (lim sc : Nat) (X : List Nat) : Prop := ∀ i, i < sc → X[4 + 2 * i]? = some (wCn es lim i / 256 % 256) ∧ X[4 + 2 * i + 1]? = some (wCn es lim i % 256)
theorem hX_step {es : List En9} {lim sc : Nat} {X : List Nat} (h : hX9 es lim sc X) (hX : X.length = 12) (h4 : sc < 4) : hX9 es lim (sc + 1) ((X.set (4 + 2 * sc) (wCn es lim sc / 256 % 256)).set (4 + 2 * sc + 1) (wCn es lim sc % 256)) := by
  intro i hi
  by_cases hs : i = sc
  · subst hs
    rw [List.getElem?_set_ne (by omega), List.getElem?_set_self (by omega), List.getElem?_set_self (by rw [List.length_set]; omega)]
    exact ⟨rfl, rfl⟩
  · rw [List.getElem?_set_ne (by omega), List.getElem?_set_ne (by omega), List.getElem?_set_ne (by omega), List.getElem?_set_ne (by omega)]
    exact h i (by omega)
theorem hX_end {es : List En9} {lim a b : Nat} {X : List Nat} (h : hX9 es lim 4 X) (hX : X.length = 12) : (((X.set 0 (a / 256 % 256)).set (0 + 1) (a % 256)).set 2 (b / 256 % 256)).set (2 + 1) (b % 256) = hd9 a b (wCn es lim 0) (wCn es lim 1) (wCn es lim 2) (wCn es lim 3) := by
  apply List.ext_getElem?
  intro i
  have h0 := h 0 (by decide)
  have h1 := h 1 (by decide)
  have h2 := h 2 (by decide)
  have h3 := h 3 (by decide)
  rcases (show i = 0 ∨ i = 1 ∨ i = 2 ∨ i = 3 ∨ 4 ≤ i by omega) with rfl | rfl | rfl | rfl | hi
  · rw [List.getElem?_set_ne (by omega), List.getElem?_set_ne (by omega), List.getElem?_set_ne (by omega), List.getElem?_set_self (by omega)]; rfl
  · rw [List.getElem?_set_ne (by omega), List.getElem?_set_ne (by omega), List.getElem?_set_self (by rw [List.length_set]; omega)]; rfl
  · rw [List.getElem?_set_ne (by omega), List.getElem?_set_self (by rw [List.length_set, List.length_set]; omega)]; rfl
  · rw [List.getElem?_set_self (by rw [List.length_set, List.length_set, List.length_set]; omega)]; rfl
  · rw [List.getElem?_set_ne (by omega), List.getElem?_set_ne (by omega), List.getElem?_set_ne (by omega), List.getElem?_set_ne (by omega)]
    rcases (show i = 4 ∨ i = 5 ∨ i = 6 ∨ i = 7 ∨ i = 8 ∨ i = 9 ∨ i = 10 ∨ i = 11 ∨ 12 ≤ i by omega) with rfl | rfl | rfl | rfl | rfl | rfl | rfl | rfl | hj
    · rw [h0.1]; rfl
    · rw [h0.2]; rfl
    · rw [h1.1]; rfl
    · rw [h1.2]; rfl
    · rw [h2.1]; rfl
    · rw [h2.2]; rfl
    · rw [h3.1]; rfl
    · rw [h3.2]; rfl
    · rw [List.getElem?_eq_none (by omega), List.getElem?_eq_none (by show 12 ≤ i; exact hj)]
theorem g_80 : (Cond.fieldLinkNest "WireMessages$Writer" (61 : Nat) "WireMessages$Gathered" "rows" "[[I" "WireMessages") ∈ GT := gt_mem 80 (by decide +kernel) rfl
theorem g_82 : (Cond.fieldLinkNest "WireMessages$Writer" (58 : Nat) "WireMessages$Gathered" "sizes" "[I" "WireMessages") ∈ GT := gt_mem 82 (by decide +kernel) rfl
theorem g_85 : (Cond.fieldLinkNest "WireMessages$Writer" (81 : Nat) "WireMessages$Gathered" "id" "I" "WireMessages") ∈ GT := gt_mem 85 (by decide +kernel) rfl
theorem g_88 : (Cond.fieldLinkNest "WireMessages$Writer" (84 : Nat) "WireMessages$Gathered" "flags" "I" "WireMessages") ∈ GT := gt_mem 88 (by decide +kernel) rfl
theorem g_534 : (Cond.instanceMethod ({ cls := "WireMessages$Gathered", name := "bytesNeverLeftOut", desc := "()I" } : MethodName)) ∈ GT := gt_mem 534 (by decide +kernel) rfl
theorem g_535 : (Cond.code ({ cls := "WireMessages$Gathered", name := "bytesNeverLeftOut", desc := "()I" } : MethodName) prog_4_method_9_code (4 : Nat) (Option.some FieldType.int)) ∈ GT := gt_mem 535 (by decide +kernel) rfl
theorem g_563 : (Cond.methodLinkNest "WireMessages$Writer" (43 : Nat) ({ cls := "WireMessages$Gathered", name := "bytesNeverLeftOut", desc := "()I" } : MethodName) "WireMessages") ∈ GT := gt_mem 563 (by decide +kernel) rfl
theorem g_572 : (Cond.methodLinkNest "WireMessages$Writer" (65 : Nat) ({ cls := "WireMessages$Gathered", name := "isNeverLeftOut", desc := "(II)Z" } : MethodName) "WireMessages") ∈ GT := gt_mem 572 (by decide +kernel) rfl
theorem g_573 : (Cond.methodLinkNest "WireMessages$Writer" (69 : Nat) ({ cls := "WireMessages$Gathered", name := "lengthUnderRoot", desc := "(I)I" } : MethodName) "WireMessages") ∈ GT := gt_mem 573 (by decide +kernel) rfl
theorem g_574 : (Cond.methodLink "WireMessages$Writer" (73 : Nat) ({ cls := "WireMessages$Writer", name := "putIfFits", desc := "(III)Z" } : MethodName)) ∈ GT := gt_mem 574 (by decide +kernel) rfl
theorem g_576 : (Cond.instanceMethod ({ cls := "WireMessages$Writer", name := "putIfFits", desc := "(III)Z" } : MethodName)) ∈ GT := gt_mem 576 (by decide +kernel) rfl
theorem g_577 : (Cond.code ({ cls := "WireMessages$Writer", name := "putIfFits", desc := "(III)Z" } : MethodName) prog_8_method_3_code (7 : Nat) (Option.some FieldType.boolean)) ∈ GT := gt_mem 577 (by decide +kernel) rfl
theorem gs_Ga_bytesNeverLeftOut : Cond.selects R_Ga y_Ga_bytesNeverLeftOut y_Ga_bytesNeverLeftOut ∈ GT := gt_sel (q := (⟨"WireMessages$Gathered", "bytesNeverLeftOut", "()I"⟩, 11)) (by decide +kernel)
theorem gs_Wr_putIfFits : Cond.selects R_Wr y_Wr_putIfFits y_Wr_putIfFits ∈ GT := gt_sel (q := (⟨"WireMessages$Writer", "putIfFits", "(III)Z"⟩, 6)) (by decide +kernel)
theorem d_Wr_compose_0 : decode b_Wr_compose 0 = .ok (.aload_n 0, 1) := by decide +kernel
theorem d_Wr_compose_1 : decode b_Wr_compose 1 = .ok (.getfield 25, 3) := by decide +kernel
theorem d_Wr_compose_4 : decode b_Wr_compose 4 = .ok (.invokevirtual 43, 3) := by decide +kernel
theorem d_Wr_compose_7 : decode b_Wr_compose 7 = .ok (.istore_n 2, 1) := by decide +kernel
theorem d_Wr_compose_8 : decode b_Wr_compose 8 = .ok (.iconst 0, 1) := by decide +kernel
theorem d_Wr_compose_9 : decode b_Wr_compose 9 = .ok (.istore_n 3, 1) := by decide +kernel
theorem d_Wr_compose_10 : decode b_Wr_compose 10 = .ok (.aload_n 0, 1) := by decide +kernel
theorem d_Wr_compose_11 : decode b_Wr_compose 11 = .ok (.getfield 12, 3) := by decide +kernel
theorem d_Wr_compose_14 : decode b_Wr_compose 14 = .ok (.bipush 12, 2) := by decide +kernel
theorem d_Wr_compose_16 : decode b_Wr_compose 16 = .ok (.putfield 47, 3) := by decide +kernel
theorem d_Wr_compose_19 : decode b_Wr_compose 19 = .ok (.aload_n 0, 1) := by decide +kernel
theorem d_Wr_compose_20 : decode b_Wr_compose 20 = .ok (.iconst 0, 1) := by decide +kernel
theorem d_Wr_compose_21 : decode b_Wr_compose 21 = .ok (.putfield 51, 3) := by decide +kernel
theorem d_Wr_compose_24 : decode b_Wr_compose 24 = .ok (.aload_n 0, 1) := by decide +kernel
theorem d_Wr_compose_25 : decode b_Wr_compose 25 = .ok (.getfield 39, 3) := by decide +kernel
theorem d_Wr_compose_28 : decode b_Wr_compose 28 = .ok (.iconst 0, 1) := by decide +kernel
theorem d_Wr_compose_29 : decode b_Wr_compose 29 = .ok (.invokevirtual 54, 3) := by decide +kernel
theorem d_Wr_compose_32 : decode b_Wr_compose 32 = .ok (.iconst 0, 1) := by decide +kernel
theorem d_Wr_compose_33 : decode b_Wr_compose 33 = .ok (.istore 4, 2) := by decide +kernel
theorem d_Wr_compose_35 : decode b_Wr_compose 35 = .ok (.iload 4, 2) := by decide +kernel
theorem d_Wr_compose_37 : decode b_Wr_compose 37 = .ok (.iconst 4, 1) := by decide +kernel
theorem d_Wr_compose_38 : decode b_Wr_compose 38 = .ok (.if_icmp .ge 144, 3) := by decide +kernel
theorem d_Wr_compose_41 : decode b_Wr_compose 41 = .ok (.iconst 0, 1) := by decide +kernel
theorem d_Wr_compose_42 : decode b_Wr_compose 42 = .ok (.istore 5, 2) := by decide +kernel
theorem d_Wr_compose_44 : decode b_Wr_compose 44 = .ok (.iconst 0, 1) := by decide +kernel
theorem d_Wr_compose_45 : decode b_Wr_compose 45 = .ok (.istore 6, 2) := by decide +kernel
theorem d_Wr_compose_47 : decode b_Wr_compose 47 = .ok (.iload 6, 2) := by decide +kernel
theorem d_Wr_compose_49 : decode b_Wr_compose 49 = .ok (.aload_n 0, 1) := by decide +kernel
theorem d_Wr_compose_50 : decode b_Wr_compose 50 = .ok (.getfield 25, 3) := by decide +kernel
theorem d_Wr_compose_53 : decode b_Wr_compose 53 = .ok (.getfield 58, 3) := by decide +kernel
theorem d_Wr_compose_56 : decode b_Wr_compose 56 = .ok (.iload 4, 2) := by decide +kernel
theorem d_Wr_compose_58 : decode b_Wr_compose 58 = .ok (.iaload, 1) := by decide +kernel
theorem d_Wr_compose_59 : decode b_Wr_compose 59 = .ok (.if_icmp .ge 102, 3) := by decide +kernel
theorem d_Wr_compose_62 : decode b_Wr_compose 62 = .ok (.aload_n 0, 1) := by decide +kernel
theorem d_Wr_compose_63 : decode b_Wr_compose 63 = .ok (.getfield 25, 3) := by decide +kernel
theorem d_Wr_compose_66 : decode b_Wr_compose 66 = .ok (.getfield 61, 3) := by decide +kernel
theorem d_Wr_compose_69 : decode b_Wr_compose 69 = .ok (.iload 4, 2) := by decide +kernel
theorem d_Wr_compose_71 : decode b_Wr_compose 71 = .ok (.aaload, 1) := by decide +kernel
theorem d_Wr_compose_72 : decode b_Wr_compose 72 = .ok (.iload 6, 2) := by decide +kernel
theorem d_Wr_compose_74 : decode b_Wr_compose 74 = .ok (.iaload, 1) := by decide +kernel
theorem d_Wr_compose_75 : decode b_Wr_compose 75 = .ok (.istore 7, 2) := by decide +kernel
theorem d_Wr_compose_77 : decode b_Wr_compose 77 = .ok (.aload_n 0, 1) := by decide +kernel
theorem d_Wr_compose_78 : decode b_Wr_compose 78 = .ok (.getfield 25, 3) := by decide +kernel
theorem d_Wr_compose_81 : decode b_Wr_compose 81 = .ok (.iload 4, 2) := by decide +kernel
theorem d_Wr_compose_83 : decode b_Wr_compose 83 = .ok (.iload 7, 2) := by decide +kernel
theorem d_Wr_compose_85 : decode b_Wr_compose 85 = .ok (.invokevirtual 65, 3) := by decide +kernel
theorem d_Wr_compose_88 : decode b_Wr_compose 88 = .ok (.istore 8, 2) := by decide +kernel
theorem d_Wr_compose_90 : decode b_Wr_compose 90 = .ok (.iload 8, 2) := by decide +kernel
theorem d_Wr_compose_92 : decode b_Wr_compose 92 = .ok (.ifCond .eq 15, 3) := by decide +kernel
theorem d_Wr_compose_95 : decode b_Wr_compose 95 = .ok (.iload_n 2, 1) := by decide +kernel
theorem d_Wr_compose_96 : decode b_Wr_compose 96 = .ok (.aload_n 0, 1) := by decide +kernel
theorem d_Wr_compose_97 : decode b_Wr_compose 97 = .ok (.getfield 25, 3) := by decide +kernel
theorem d_Wr_compose_100 : decode b_Wr_compose 100 = .ok (.iload 7, 2) := by decide +kernel
theorem d_Wr_compose_102 : decode b_Wr_compose 102 = .ok (.invokevirtual 69, 3) := by decide +kernel
theorem d_Wr_compose_105 : decode b_Wr_compose 105 = .ok (.isub, 1) := by decide +kernel
theorem d_Wr_compose_106 : decode b_Wr_compose 106 = .ok (.istore_n 2, 1) := by decide +kernel
theorem d_Wr_compose_107 : decode b_Wr_compose 107 = .ok (.iload_n 3, 1) := by decide +kernel
theorem d_Wr_compose_108 : decode b_Wr_compose 108 = .ok (.ifCond .eq 11, 3) := by decide +kernel
theorem d_Wr_compose_111 : decode b_Wr_compose 111 = .ok (.iload 8, 2) := by decide +kernel
theorem d_Wr_compose_113 : decode b_Wr_compose 113 = .ok (.ifCond .ne 6, 3) := by decide +kernel
theorem d_Wr_compose_116 : decode b_Wr_compose 116 = .ok (.goto 39, 3) := by decide +kernel
theorem d_Wr_compose_119 : decode b_Wr_compose 119 = .ok (.aload_n 0, 1) := by decide +kernel
theorem d_Wr_compose_120 : decode b_Wr_compose 120 = .ok (.iload 4, 2) := by decide +kernel
theorem d_Wr_compose_122 : decode b_Wr_compose 122 = .ok (.iload 7, 2) := by decide +kernel
theorem d_Wr_compose_124 : decode b_Wr_compose 124 = .ok (.iload_n 1, 1) := by decide +kernel
theorem d_Wr_compose_125 : decode b_Wr_compose 125 = .ok (.iload_n 2, 1) := by decide +kernel
theorem d_Wr_compose_126 : decode b_Wr_compose 126 = .ok (.isub, 1) := by decide +kernel
theorem d_Wr_compose_127 : decode b_Wr_compose 127 = .ok (.invokevirtual 73, 3) := by decide +kernel
theorem d_Wr_compose_130 : decode b_Wr_compose 130 = .ok (.ifCond .eq 9, 3) := by decide +kernel
theorem d_Wr_compose_133 : decode b_Wr_compose 133 = .ok (.iinc 5 1, 3) := by decide +kernel
theorem d_Wr_compose_136 : decode b_Wr_compose 136 = .ok (.goto 19, 3) := by decide +kernel
theorem d_Wr_compose_139 : decode b_Wr_compose 139 = .ok (.iload_n 3, 1) := by decide +kernel
theorem d_Wr_compose_140 : decode b_Wr_compose 140 = .ok (.ifCond .ne 9, 3) := by decide +kernel
theorem d_Wr_compose_143 : decode b_Wr_compose 143 = .ok (.iload 4, 2) := by decide +kernel
theorem d_Wr_compose_145 : decode b_Wr_compose 145 = .ok (.iconst 3, 1) := by decide +kernel
theorem d_Wr_compose_146 : decode b_Wr_compose 146 = .ok (.if_icmp .ge 7, 3) := by decide +kernel
theorem d_Wr_compose_149 : decode b_Wr_compose 149 = .ok (.iconst 1, 1) := by decide +kernel
theorem d_Wr_compose_150 : decode b_Wr_compose 150 = .ok (.goto 4, 3) := by decide +kernel
theorem d_Wr_compose_153 : decode b_Wr_compose 153 = .ok (.iconst 0, 1) := by decide +kernel
theorem d_Wr_compose_154 : decode b_Wr_compose 154 = .ok (.istore_n 3, 1) := by decide +kernel
theorem d_Wr_compose_155 : decode b_Wr_compose 155 = .ok (.iinc 6 1, 3) := by decide +kernel
theorem d_Wr_compose_158 : decode b_Wr_compose 158 = .ok (.goto (-111), 3) := by decide +kernel
theorem d_Wr_compose_161 : decode b_Wr_compose 161 = .ok (.aload_n 0, 1) := by decide +kernel
theorem d_Wr_compose_162 : decode b_Wr_compose 162 = .ok (.getfield 12, 3) := by decide +kernel
theorem d_Wr_compose_165 : decode b_Wr_compose 165 = .ok (.iconst 4, 1) := by decide +kernel
theorem d_Wr_compose_166 : decode b_Wr_compose 166 = .ok (.iconst 2, 1) := by decide +kernel
theorem d_Wr_compose_167 : decode b_Wr_compose 167 = .ok (.iload 4, 2) := by decide +kernel
theorem d_Wr_compose_169 : decode b_Wr_compose 169 = .ok (.imul, 1) := by decide +kernel
theorem d_Wr_compose_170 : decode b_Wr_compose 170 = .ok (.iadd, 1) := by decide +kernel
theorem d_Wr_compose_171 : decode b_Wr_compose 171 = .ok (.iload 5, 2) := by decide +kernel
theorem d_Wr_compose_173 : decode b_Wr_compose 173 = .ok (.invokevirtual 77, 3) := by decide +kernel
theorem d_Wr_compose_176 : decode b_Wr_compose 176 = .ok (.iinc 4 1, 3) := by decide +kernel
theorem d_Wr_compose_179 : decode b_Wr_compose 179 = .ok (.goto (-144), 3) := by decide +kernel
theorem d_Wr_compose_182 : decode b_Wr_compose 182 = .ok (.aload_n 0, 1) := by decide +kernel
theorem d_Wr_compose_183 : decode b_Wr_compose 183 = .ok (.getfield 12, 3) := by decide +kernel
theorem d_Wr_compose_186 : decode b_Wr_compose 186 = .ok (.iconst 0, 1) := by decide +kernel
theorem d_Wr_compose_187 : decode b_Wr_compose 187 = .ok (.aload_n 0, 1) := by decide +kernel
theorem d_Wr_compose_188 : decode b_Wr_compose 188 = .ok (.getfield 25, 3) := by decide +kernel
theorem d_Wr_compose_191 : decode b_Wr_compose 191 = .ok (.getfield 81, 3) := by decide +kernel
theorem d_Wr_compose_194 : decode b_Wr_compose 194 = .ok (.invokevirtual 77, 3) := by decide +kernel
theorem d_Wr_compose_197 : decode b_Wr_compose 197 = .ok (.aload_n 0, 1) := by decide +kernel
theorem d_Wr_compose_198 : decode b_Wr_compose 198 = .ok (.getfield 12, 3) := by decide +kernel
theorem d_Wr_compose_201 : decode b_Wr_compose 201 = .ok (.iconst 2, 1) := by decide +kernel
theorem d_Wr_compose_202 : decode b_Wr_compose 202 = .ok (.iload_n 3, 1) := by decide +kernel
theorem d_Wr_compose_203 : decode b_Wr_compose 203 = .ok (.ifCond .eq 17, 3) := by decide +kernel
theorem d_Wr_compose_206 : decode b_Wr_compose 206 = .ok (.aload_n 0, 1) := by decide +kernel
theorem d_Wr_compose_207 : decode b_Wr_compose 207 = .ok (.getfield 25, 3) := by decide +kernel
theorem d_Wr_compose_210 : decode b_Wr_compose 210 = .ok (.getfield 84, 3) := by decide +kernel
theorem d_Wr_compose_213 : decode b_Wr_compose 213 = .ok (.sipush 512, 3) := by decide +kernel
theorem d_Wr_compose_216 : decode b_Wr_compose 216 = .ok (.ior, 1) := by decide +kernel
theorem d_Wr_compose_217 : decode b_Wr_compose 217 = .ok (.goto 10, 3) := by decide +kernel
theorem d_Wr_compose_220 : decode b_Wr_compose 220 = .ok (.aload_n 0, 1) := by decide +kernel
theorem d_Wr_compose_221 : decode b_Wr_compose 221 = .ok (.getfield 25, 3) := by decide +kernel
theorem d_Wr_compose_224 : decode b_Wr_compose 224 = .ok (.getfield 84, 3) := by decide +kernel
theorem d_Wr_compose_227 : decode b_Wr_compose 227 = .ok (.invokevirtual 77, 3) := by decide +kernel
theorem d_Wr_compose_230 : decode b_Wr_compose 230 = .ok (.return_, 1) := by decide +kernel
set_option maxHeartbeats 4000000 in
set_option maxRecDepth 100000 in
/-- Writer.compose -/
theorem m_Wr_compose (l : Launch) (D9 : va_G) (cB cI cJ cG : ClassId) (a : Nat → Nat) (O : Nat → Int64) (I : Nat → Int32) (F : Nat → Nat → Int32) (es : List En9) (id9 fg lim n0 : Nat) (hG : GaR F es) (hO : okE es) (hEk : ∀ r e, es[r]? = some e → eOk (fl es) (of9 es r) e) (h11 : I 11 = nI id9) (h12 : I 12 = nI fg) (hid : id9 < 65536) (hfg : fg < 65536) (hF21 : sb_Fit (F 21)) (hS9 : EnS F n0) (h14 : I 14 = nI n0) (hn0 : n0 ≤ 8192) (hlim : 12 + mu3 (fil 3 es) ≤ lim) (hlm : lim ≤ 65535) : MC l D9 cB cI cJ cG a O y_Wr_compose b_Wr_compose 9 (none) 6 [.ref (a 18), .int (nI lim)] I F (fun v I' F' => v = none ∧ sm [10, 13, 14] I I' ∧ I' 13 = nI (wMs es id9 fg lim).length ∧ I' 10 = nI (wIt es lim 4).2.2.1 ∧ sm [21, 22, 23, 25, 26, 27, 28, 29] F F' ∧ BR 0 65536 (F' 21) (wMs es id9 fg lim) ∧ (wMs es id9 fg lim).length ≤ lim ∧ ∃ n, n ≤ 8192 ∧ I' 14 = nI n ∧ EnS F' n) := by
  refine mc_ofv (by decide) (Nat.le_of_ble_eq_true rfl) ?_
  intro p e s m below meth c ls A0 Q C0 hP hD hA hS hl hret
  obtain ⟨hx, hb, hml, hr, hlocks, hown, hts, hK⟩ := id C0
  have hl : lv_has ls 9 [(0, .ref (a 18)), (1, .int (nI lim))] := hl
  have k0 := hO.1; have k1 := hO.2.1; have k2 := hO.2.2.1
  have hmb := mu3_bd hO
  have hln := okE_len hO
  refine lv_aload_n hx hb d_Wr_compose_0 rfl (lv_at hl 0 rfl) ?_
  refine va_get (D := D9) (ci := 5) (C := R_Wr) (T := F_Wr) (N := 6) hx hb hts i_Wr hown hK hP 18 ww_18 rfl 0 (by decide) (hts _ g_185) (fun _ h9 => h9) rfl d_Wr_compose_1 ?_
  refine mw_cVN (ci := 2) (k := 19) C0 (m_Ga_bytesNeverLeftOut l D9 cB cI cJ cG a O _ _ es hG hO) g_535 g_3 g_563 g_534 gs_Ga_bytesNeverLeftOut ⟨by decide +kernel, by decide +kernel, show Option.map (fun d => d.parameters.length) (parseMethodDescriptor y_Ga_bytesNeverLeftOut.desc) = some 0 by decide +kernel⟩ ⟨by decide, by decide⟩ rfl rfl hP hD hS hA rfl ww_19 hl.1 (Nat.le_of_ble_eq_true rfl) rfl d_Wr_compose_4 ⟨by decide, by decide⟩ (fun v9 w9 H locs hq hP hD hS => ?_)
  obtain ⟨I1, F2, hw9, q3⟩ := hq
  subst hw9
  obtain ⟨rfl, rfl, rfl⟩ := q3
  refine lv_istore_n (lv' := [(2, _), (0, _), (1, _)]) hx hb d_Wr_compose_7 rfl hl (by decide) rfl (fun ls hl => ?_)
  refine lv_iconst (v := 0) hx hb d_Wr_compose_8 (by decide) ?_
  refine lv_topq (y := nI 0) (rfl) ?_
  refine lv_istore_n (lv' := [(3, _), (2, _), (0, _), (1, _)]) hx hb d_Wr_compose_9 rfl hl (by decide) rfl (fun ls hl => ?_)
  refine lv_aload_n hx hb d_Wr_compose_10 rfl (lv_at hl 2 rfl) ?_
  refine va_get (D := D9) (ci := 5) (C := R_Wr) (T := F_Wr) (N := 6) hx hb hts i_Wr hown hK hP 18 ww_18 rfl 1 (by decide) (hts _ g_186) (fun _ h9 => h9) rfl d_Wr_compose_11 ?_
  refine lv_bipush (v := 12) hx hb d_Wr_compose_14 (by decide) ?_
  refine lv_topq (y := nI 12) (rfl) ?_
  refine va_putN (D := D9) (ty := .int) (ci := 0) (C := R_By) (T := F_By) (N := 2) hx hb hts i_By t_By t_By_ok n_By hown hK hP hD hS 20 ww_20 rfl 1 (by decide) (hts _ g_38) (fun _ h9 => h9) rfl (by decide +kernel) rfl rfl (Nat.le_of_ble_eq_true rfl) d_Wr_compose_16 (fun H locs hP hD hS => ?_)
  obtain ⟨I4, aI4, sI4, hP, hD⟩ := fx (P := fun z => va_P D9 cls9 (WW a cB cI cJ cG z _ O) H ∧ va_D A0 (WW a cB cI cJ cG z _ O)) ⟨wp_13 hP, wd_13 hD⟩
  refine lv_aload_n hx hb d_Wr_compose_19 rfl (lv_at hl 2 rfl) ?_
  refine lv_iconst (v := 0) hx hb d_Wr_compose_20 (by decide) ?_
  refine lv_topq (y := nI 0) (rfl) ?_
  refine va_put (D := D9) (ty := .int) (ci := 5) (C := R_Wr) (T := F_Wr) (N := 6) hx hb hts i_Wr t_Wr t_Wr_ok n_Wr hown hK hP hD hS 18 ww_18 rfl 5 (by decide) (hts _ g_191) (fun _ h9 => h9) rfl (by decide +kernel) rfl rfl (Nat.le_of_ble_eq_true rfl) d_Wr_compose_21 (fun H locs hP hD hS => ?_)
  obtain ⟨I5, aI5, sI5, hP, hD⟩ := fx (P := fun z => va_P D9 cls9 (WW a cB cI cJ cG z _ O) H ∧ va_D A0 (WW a cB cI cJ cG z _ O)) ⟨wp_10 hP, wd_10 hD⟩
  refine lv_aload_n hx hb d_Wr_compose_24 rfl (lv_at hl 2 rfl) ?_
  refine va_get (D := D9) (ci := 5) (C := R_Wr) (T := F_Wr) (N := 6) hx hb hts i_Wr hown hK hP 18 ww_18 rfl 2 (by decide) (hts _ g_188) (fun _ h9 => h9) rfl d_Wr_compose_25 ?_
  refine lv_iconst (v := 0) hx hb d_Wr_compose_28 (by decide) ?_
  refine lv_topq (y := nI 0) (rfl) ?_
  refine mw_cVN (ci := 1) (k := 24) C0 (m_En_shrinkTo l D9 cB cI cJ cG a O _ _ n0 0 hS9 ((sI5 14 (by decide)).trans ((sI4 14 (by decide)).trans h14)) hn0 (by decide)) g_567 g_6 g_564 g_566 gs_En_shrinkTo ⟨by decide +kernel, by decide +kernel, show Option.map (fun d => d.parameters.length) (parseMethodDescriptor y_En_shrinkTo.desc) = some 1 by decide +kernel⟩ ⟨by decide, by decide⟩ rfl rfl hP hD hS hA rfl ww_24 hl.1 (Nat.le_of_ble_eq_true rfl) rfl d_Wr_compose_29 ⟨by decide, by decide⟩ (fun v9 w9 H locs hq hP hD hS => ?_)
  obtain ⟨I6, F7, hw9, q8⟩ := hq
  subst hw9
  obtain ⟨rfl, ssh, y14, ssF, yS⟩ := q8
  rw [Nat.min_eq_right (Nat.zero_le _)] at y14 yS
  refine lv_iconst (v := 0) hx hb d_Wr_compose_32 (by decide) ?_
  refine lv_topq (y := nI 0) (rfl) ?_
  refine lv_istore (lv' := [(4, _), (3, _), (2, _), (0, _), (1, _)]) hx hb d_Wr_compose_33 hl (by decide) rfl (fun ls hl => ?_)
  obtain ⟨X0, hX0, hBX0⟩ := BR_12 hF21
  have loopS : ∀ (n9 : Nat) (sc : Nat) (X : List Nat) (B : List Nat) (E : List (Nat × Nat)) (pt : Nat) (cut : Bool) (still : Nat) (n : Nat) (I9 : Nat → Int32) (F9 : Nat → Nat → Int32) (H : Heap) (locs : List Loc) (ls : Array Slot), (sm [10, 13, 14] I I9) → (sm [21, 22, 23, 25, 26, 27, 28, 29] F F9) → (4 - sc = n9) → (sc ≤ 4) → (X.length = 12) → (hX9 es lim sc X) → (wIt es lim sc = (B, E, pt, cut, still, n)) → (sc ≤ 3 → still = mu3 (fil 3 es)) → (12 + B.length + still ≤ lim) → (BR 0 65536 (F9 21) (X ++ B)) → (I9 13 = nI (12 + B.length)) → (EnS F9 E.length) → (EnB F9 (fl es) E) → (I9 14 = nI E.length) → (wW (fl es) B E) → (I9 10 = nI pt) → va_P D9 cls9 (WW a cB cI cJ cG I9 F9 O) H → va_D A0 (WW a cB cI cJ cG I9 F9 O) → va_S A0 s.heap H locs → lv_has ls 9 [(0, .ref (a 18)), (1, .int (nI lim)), (2, .int (nI still)), (3, .int (bI cut)), (4, .int (nI sc))] → W p l e (rm9 6 0 0) s m ([.ref (a 18), .int (nI lim)] : List Value).toArray below meth c H locs 0 0 Q (F0 m 35 ls []) := by
    intro n9
    induction n9 using Nat.strongRecOn with
    | ind n9 ih =>
      intro sc X B E pt cut still n I9 F9 H locs ls hsI hsF hn9 hsc hX hH hst hsl hfit hM h13 hS2 hB2 h142 hW h10 hP hD hS hl
      have hG9 : GaR F9 es := GaR_sm (M := [21, 22, 23, 25, 26, 27, 28, 29]) hG hsF (by decide) (BR_eq hG.2.2 (hsF 4 (by decide))) hO
      refine lv_iload hx hb d_Wr_compose_35 (lv_at hl 4 rfl) ?_
      refine lv_iconst (v := 4) hx hb d_Wr_compose_37 (by decide) ?_
      refine lv_topq (y := nI 4) (rfl) ?_
      refine lv_icmp_ge (tgt := 182) hx hb d_Wr_compose_38 (by decide) (fun c9 => ?_) (fun c9 => ?_)
      · have c9 : 4 ≤ sc := (nI_leI (a := 4) (b := sc) (by omega) (by omega)).mp c9
        obtain rfl : sc = 4 := by omega
        refine lv_aload_n hx hb d_Wr_compose_182 rfl (lv_at hl 0 rfl) ?_
        refine va_get (D := D9) (ci := 5) (C := R_Wr) (T := F_Wr) (N := 6) hx hb hts i_Wr hown hK hP 18 ww_18 rfl 1 (by decide) (hts _ g_186) (fun _ h9 => h9) rfl d_Wr_compose_183 ?_
        refine lv_iconst (v := 0) hx hb d_Wr_compose_186 (by decide) ?_
        refine lv_topq (y := nI 0) (rfl) ?_
        refine lv_aload_n hx hb d_Wr_compose_187 rfl (lv_at hl 0 rfl) ?_
        refine va_get (D := D9) (ci := 5) (C := R_Wr) (T := F_Wr) (N := 6) hx hb hts i_Wr hown hK hP 18 ww_18 rfl 0 (by decide) (hts _ g_185) (fun _ h9 => h9) rfl d_Wr_compose_188 ?_
        refine va_getN (D := D9) (ci := 2) (C := R_Ga) (T := F_Ga) (N := 11) hx hb hts i_Ga hown hK hP 19 ww_19 rfl 9 (by decide) (hts _ g_85) (fun _ h9 => h9) rfl d_Wr_compose_191 ?_
        refine lv_topq (y := nI id9) (((hsI 11 (by decide)).trans h11)) ?_
        refine mw_cVN (ci := 0) (k := 20) C0 (m_By_setTwoL_ms l D9 cB cI cJ cG a O _ _ (X ++ B) 0 0 (nI id9) hM (by omega)) g_619 g_2 g_616 g_618 gs_By_setTwo ⟨by decide +kernel, by decide +kernel, show Option.map (fun d => d.parameters.length) (parseMethodDescriptor y_By_setTwo.desc) = some 2 by decide +kernel⟩ ⟨by decide, by decide⟩ rfl rfl hP hD hS hA rfl ww_20 hl.1 (Nat.le_of_ble_eq_true rfl) rfl d_Wr_compose_194 ⟨by decide, by decide⟩ (fun v9 w9 H locs hq hP hD hS => ?_)
        obtain ⟨I10, F11, hw9, q12⟩ := hq
        subst hw9
        obtain ⟨rfl, rfl, ss1, ys1⟩ := q12
        rw [un_nI (by omega), set_X (by omega), set_X (by rw [List.length_set]; omega)] at ys1
        refine lv_aload_n hx hb d_Wr_compose_197 rfl (lv_at hl 0 rfl) ?_
        refine va_get (D := D9) (ci := 5) (C := R_Wr) (T := F_Wr) (N := 6) hx hb hts i_Wr hown hK hP 18 ww_18 rfl 1 (by decide) (hts _ g_186) (fun _ h9 => h9) rfl d_Wr_compose_198 ?_
        refine lv_iconst (v := 2) hx hb d_Wr_compose_201 (by decide) ?_
        refine lv_topq (y := nI 2) (rfl) ?_
        refine lv_iload_n hx hb d_Wr_compose_202 rfl (lv_at hl 3 rfl) ?_
        refine lv_if_eq (tgt := 220) hx hb d_Wr_compose_203 (by decide) (fun c13 => ?_) (fun c13 => ?_)
        · have c13 : cut = false := bI_f c13
          refine lv_aload_n hx hb d_Wr_compose_220 rfl (lv_at hl 0 rfl) ?_
          refine va_get (D := D9) (ci := 5) (C := R_Wr) (T := F_Wr) (N := 6) hx hb hts i_Wr hown hK hP 18 ww_18 rfl 0 (by decide) (hts _ g_185) (fun _ h9 => h9) rfl d_Wr_compose_221 ?_
          refine va_getN (D := D9) (ci := 2) (C := R_Ga) (T := F_Ga) (N := 11) hx hb hts i_Ga hown hK hP 19 ww_19 rfl 10 (by decide) (hts _ g_88) (fun _ h9 => h9) rfl d_Wr_compose_224 ?_
          refine lv_topq (y := nI fg) (((hsI 12 (by decide)).trans h12)) ?_
          refine mw_cVN (ci := 0) (k := 20) C0 (m_By_setTwoL_ms l D9 cB cI cJ cG a O _ _ (((X.set 0 (id9 / 256 % 256)).set (0 + 1) (id9 % 256)) ++ B) 0 2 (nI (fg)) ys1 (by omega)) g_619 g_2 g_616 g_618 gs_By_setTwo ⟨by decide +kernel, by decide +kernel, show Option.map (fun d => d.parameters.length) (parseMethodDescriptor y_By_setTwo.desc) = some 2 by decide +kernel⟩ ⟨by decide, by decide⟩ rfl rfl hP hD hS hA rfl ww_20 hl.1 (Nat.le_of_ble_eq_true rfl) rfl d_Wr_compose_227 ⟨by decide, by decide⟩ (fun v9 w9 H locs hq hP hD hS => ?_)
          obtain ⟨I14, F15, hw9, q16⟩ := hq
          subst hw9
          obtain ⟨rfl, rfl, ss2, ys2⟩ := q16
          have hor : fg < 65536 := hfg
          have hff : wFl es fg lim = fg := by unfold wFl; rw [hst]; simp only; rw [if_neg (by rw [c13]; decide)]
          rw [un_nI (by omega), set_X (by simp only [List.length_set]; omega), set_X (by simp only [List.length_set]; omega), hX_end hH hX, ← hff] at ys2
          exact hret _ _ _ _ _ _ hS hP hD d_Wr_compose_230 (by have hmm : wMs es id9 fg lim = hd9 id9 (wFl es fg lim) (wCn es lim 0) (wCn es lim 1) (wCn es lim 2) (wCn es lim 3) ++ B := (by unfold wMs; rw [hst]); have hml9 : (wMs es id9 fg lim).length = 12 + B.length := (by rw [hmm, List.length_append]; rfl); rw [hml9, hmm]; exact ⟨rfl, (sm_mo hsI (by decide)), h13, by rw [hst]; exact h10, (sm_tr (sm_tr (sm_mo hsF (by decide)) (sm_mo ss1 (by decide))) (sm_mo ss2 (by decide))), ys2, by omega, E.length, hW.1.2.2, h142, EnS_sm hS2 ((ss2 25 (by decide)).trans (ss1 25 (by decide))) ((ss2 26 (by decide)).trans (ss1 26 (by decide))) ((ss2 27 (by decide)).trans (ss1 27 (by decide)))⟩)
        · have c13 : cut = true := bI_t c13
          refine lv_aload_n hx hb d_Wr_compose_206 rfl (lv_at hl 0 rfl) ?_
          refine va_get (D := D9) (ci := 5) (C := R_Wr) (T := F_Wr) (N := 6) hx hb hts i_Wr hown hK hP 18 ww_18 rfl 0 (by decide) (hts _ g_185) (fun _ h9 => h9) rfl d_Wr_compose_207 ?_
          refine va_getN (D := D9) (ci := 2) (C := R_Ga) (T := F_Ga) (N := 11) hx hb hts i_Ga hown hK hP 19 ww_19 rfl 10 (by decide) (hts _ g_88) (fun _ h9 => h9) rfl d_Wr_compose_210 ?_
          refine lv_topq (y := nI fg) (((hsI 12 (by decide)).trans h12)) ?_
          refine lv_sipush (v := 512) hx hb d_Wr_compose_213 (by decide) ?_
          refine lv_topq (y := nI 512) (rfl) ?_
          refine lv_ior hx hb d_Wr_compose_216 ?_
          refine lv_topq (y := nI (fg ||| 512)) (nI_or (by omega) (by omega)) ?_
          refine lv_goto (tgt := 227) hx hb d_Wr_compose_217 (by decide) ?_
          refine mw_cVN (ci := 0) (k := 20) C0 (m_By_setTwoL_ms l D9 cB cI cJ cG a O _ _ (((X.set 0 (id9 / 256 % 256)).set (0 + 1) (id9 % 256)) ++ B) 0 2 (nI (fg ||| 512)) ys1 (by omega)) g_619 g_2 g_616 g_618 gs_By_setTwo ⟨by decide +kernel, by decide +kernel, show Option.map (fun d => d.parameters.length) (parseMethodDescriptor y_By_setTwo.desc) = some 2 by decide +kernel⟩ ⟨by decide, by decide⟩ rfl rfl hP hD hS hA rfl ww_20 hl.1 (Nat.le_of_ble_eq_true rfl) rfl d_Wr_compose_227 ⟨by decide, by decide⟩ (fun v9 w9 H locs hq hP hD hS => ?_)
          obtain ⟨I17, F18, hw9, q19⟩ := hq
          subst hw9
          obtain ⟨rfl, rfl, ss2, ys2⟩ := q19
          have hor : fg ||| 512 < 65536 := Nat.or_lt_two_pow (n := 16) hfg (by decide)
          have hff : wFl es fg lim = fg ||| 512 := by unfold wFl; rw [hst]; simp only; rw [if_pos (by exact c13)]
          rw [un_nI (by omega), set_X (by simp only [List.length_set]; omega), set_X (by simp only [List.length_set]; omega), hX_end hH hX, ← hff] at ys2
          exact hret _ _ _ _ _ _ hS hP hD d_Wr_compose_230 (by have hmm : wMs es id9 fg lim = hd9 id9 (wFl es fg lim) (wCn es lim 0) (wCn es lim 1) (wCn es lim 2) (wCn es lim 3) ++ B := (by unfold wMs; rw [hst]); have hml9 : (wMs es id9 fg lim).length = 12 + B.length := (by rw [hmm, List.length_append]; rfl); rw [hml9, hmm]; exact ⟨rfl, (sm_mo hsI (by decide)), h13, by rw [hst]; exact h10, (sm_tr (sm_tr (sm_mo hsF (by decide)) (sm_mo ss1 (by decide))) (sm_mo ss2 (by decide))), ys2, by omega, E.length, hW.1.2.2, h142, EnS_sm hS2 ((ss2 25 (by decide)).trans (ss1 25 (by decide))) ((ss2 26 (by decide)).trans (ss1 26 (by decide))) ((ss2 27 (by decide)).trans (ss1 27 (by decide)))⟩)
      · have c9 : ¬ (4 ≤ sc) := fun z9 => c9 ((nI_leI (a := 4) (b := sc) (by omega) (by omega)).mpr z9)
        have hcs : cn sc es ≤ 1000 := by rcases lt4 (show sc < 4 by omega) with z | z | z | z <;> rw [z] <;> omega
        have hsc4 : sc < 4 := by omega
        refine lv_iconst (v := 0) hx hb d_Wr_compose_41 (by decide) ?_
        refine lv_topq (y := nI 0) (rfl) ?_
        refine lv_istore (lv' := [(5, _), (0, _), (1, _), (2, _), (3, _), (4, _)]) hx hb d_Wr_compose_42 hl (by decide) rfl (fun ls hl => ?_)
        refine lv_iconst (v := 0) hx hb d_Wr_compose_44 (by decide) ?_
        refine lv_topq (y := nI 0) (rfl) ?_
        refine lv_istore (lv' := [(6, _), (5, _), (0, _), (1, _), (2, _), (3, _), (4, _)]) hx hb d_Wr_compose_45 hl (by decide) rfl (fun ls hl => ?_)
        have loopK : ∀ (ni : Nat) (k : Nat) (r0 : Nat) (B2 : List Nat) (E2 : List (Nat × Nat)) (p2 : Nat) (ct2 : Bool) (st2 : Nat) (n2 : Nat) (Ii : Nat → Int32) (Fi : Nat → Nat → Int32) (H : Heap) (locs : List Loc) (ls : Array Slot), (sm [10, 13, 14] I Ii) → (sm [21, 22, 23, 25, 26, 27, 28, 29] F Fi) → (cn sc es - k = ni) → (k ≤ cn sc es) → (r0 ≤ es.length) → (cn sc (es.take r0) = k) → (wIt es lim (sc + 1) = wR es lim sc (es.length - r0) r0 (B2, E2, p2, ct2, st2, n2)) → ((sc = 3 → st2 = mu3 ((fil 3 es).drop k)) ∧ (sc < 3 → st2 = mu3 (fil 3 es))) → (12 + B2.length + st2 ≤ lim) → (n2 ≤ k) → (BR 0 65536 (Fi 21) (X ++ B2)) → (Ii 13 = nI (12 + B2.length)) → (EnS Fi E2.length) → (EnB Fi (fl es) E2) → (Ii 14 = nI E2.length) → (wW (fl es) B2 E2) → (Ii 10 = nI p2) → va_P D9 cls9 (WW a cB cI cJ cG Ii Fi O) H → va_D A0 (WW a cB cI cJ cG Ii Fi O) → va_S A0 s.heap H locs → lv_has ls 9 [(0, .ref (a 18)), (1, .int (nI lim)), (2, .int (nI st2)), (3, .int (bI ct2)), (4, .int (nI sc)), (5, .int (nI n2)), (6, .int (nI k))] → W p l e (rm9 6 0 0) s m ([.ref (a 18), .int (nI lim)] : List Value).toArray below meth c H locs 0 0 Q (F0 m 47 ls []) := by
          intro ni
          induction ni using Nat.strongRecOn with
          | ind ni ihi =>
            intro k r0 B2 E2 p2 ct2 st2 n2 Ii Fi H locs ls hsIi hsFi hni hk hr0 hcr hR hsl2 hfi2 hn2 hMi h13i hS2i hB2i h142i hWi h10i hP hD hS hl
            have hGi : GaR Fi es := GaR_sm (M := [21, 22, 23, 25, 26, 27, 28, 29]) hG hsFi (by decide) (BR_eq hG.2.2 (hsFi 4 (by decide))) hO
            refine lv_iload hx hb d_Wr_compose_47 (lv_at hl 6 rfl) ?_
            refine lv_aload_n hx hb d_Wr_compose_49 rfl (lv_at hl 0 rfl) ?_
            refine va_get (D := D9) (ci := 5) (C := R_Wr) (T := F_Wr) (N := 6) hx hb hts i_Wr hown hK hP 18 ww_18 rfl 0 (by decide) (hts _ g_185) (fun _ h9 => h9) rfl d_Wr_compose_50 ?_
            refine va_getN (D := D9) (ci := 2) (C := R_Ga) (T := F_Ga) (N := 11) hx hb hts i_Ga hown hK hP 19 ww_19 rfl 8 (by decide) (hts _ g_82) (fun _ h9 => h9) rfl d_Wr_compose_53 ?_
            refine lv_iload hx hb d_Wr_compose_56 (lv_at hl 4 rfl) ?_
            refine va_iald (D := D9) hx hb hK hP 16 1 ww_16 rfl (vp_in_nI (by omega) (by decide)) d_Wr_compose_58 ?_
            refine lv_topq (y := nI (cn sc es)) (by rw [nI_clamp (by omega)]; exact (hGi.2.1 sc hsc4)) ?_
            refine lv_icmp_ge (tgt := 161) hx hb d_Wr_compose_59 (by decide) (fun c20 => ?_) (fun c20 => ?_)
            · have c20 : cn sc es ≤ k := (nI_leI (a := cn sc es) (b := k) (by omega) (by omega)).mp c20
              have hke : k = cn sc es := by omega
              rw [wR_fin (by omega) hr0] at hR
              refine lv_aload_n hx hb d_Wr_compose_161 rfl (lv_at hl 0 rfl) ?_
              refine va_get (D := D9) (ci := 5) (C := R_Wr) (T := F_Wr) (N := 6) hx hb hts i_Wr hown hK hP 18 ww_18 rfl 1 (by decide) (hts _ g_186) (fun _ h9 => h9) rfl d_Wr_compose_162 ?_
              refine lv_iconst (v := 4) hx hb d_Wr_compose_165 (by decide) ?_
              refine lv_topq (y := nI 4) (rfl) ?_
              refine lv_iconst (v := 2) hx hb d_Wr_compose_166 (by decide) ?_
              refine lv_topq (y := nI 2) (rfl) ?_
              refine lv_iload hx hb d_Wr_compose_167 (lv_at hl 4 rfl) ?_
              refine lv_imul hx hb d_Wr_compose_169 ?_
              refine lv_topq (y := nI (2 * sc)) (pk_mul _ _) ?_
              refine lv_iadd hx hb d_Wr_compose_170 ?_
              refine lv_topq (y := nI (4 + (2 * sc))) (nI_add _ _) ?_
              refine lv_iload hx hb d_Wr_compose_171 (lv_at hl 5 rfl) ?_
              refine mw_cVN (ci := 0) (k := 20) C0 (m_By_setTwoL_ms l D9 cB cI cJ cG a O _ _ (X ++ B2) 0 (4 + 2 * sc) (nI n2) hMi (by omega)) g_619 g_2 g_616 g_618 gs_By_setTwo ⟨by decide +kernel, by decide +kernel, show Option.map (fun d => d.parameters.length) (parseMethodDescriptor y_By_setTwo.desc) = some 2 by decide +kernel⟩ ⟨by decide, by decide⟩ rfl rfl hP hD hS hA rfl ww_20 hl.1 (Nat.le_of_ble_eq_true rfl) rfl d_Wr_compose_173 ⟨by decide, by decide⟩ (fun v9 w9 H locs hq hP hD hS => ?_)
              obtain ⟨I21, F22, hw9, q23⟩ := hq
              subst hw9
              obtain ⟨rfl, rfl, sst, yst⟩ := q23
              have hcn9 : wCn es lim sc = n2 := by unfold wCn; rw [hR]
              rw [un_nI (by omega), ← hcn9, set_X (by omega), set_X (by rw [List.length_set]; omega)] at yst
              refine lv_iinc (lv' := [(4, .int (nI (sc + 1))), (0, _), (1, _), (2, _), (3, _), (5, _), (6, _)]) hx hb d_Wr_compose_176 hl (k := 4) rfl (nI_add _ 1) (by decide) rfl (fun ls hl => ?_)
              refine lv_goto (tgt := 35) hx hb d_Wr_compose_179 (by decide) ?_
              exact ih _ (by omega) (sc + 1) ((X.set (4 + 2 * sc) (wCn es lim sc / 256 % 256)).set (4 + 2 * sc + 1) (wCn es lim sc % 256)) B2 E2 p2 ct2 st2 n2 _ _ _ _ _ (sm_mo hsIi (by decide)) (sm_tr (sm_mo hsFi (by decide)) (sm_mo sst (by decide))) rfl (by omega) (by rw [List.length_set, List.length_set]; exact hX) (hX_step hH hX hsc4) hR (fun z => hsl2.2 (by omega)) hfi2 yst h13i (EnS_sm hS2i (sst 25 (by decide)) (sst 26 (by decide)) (sst 27 (by decide))) (EnB_sm hB2i (sst 27 (by decide)) (sst 28 (by decide)) (sst 29 (by decide))) h142i hWi h10i hP hD hS (lv_pk hl [1, 2, 3, 4, 0] rfl)
            · have c20 : ¬ (cn sc es ≤ k) := fun z9 => c20 ((nI_leI (a := cn sc es) (b := k) (by omega) (by omega)).mpr z9)
              obtain ⟨r9, e9, g1, g2, g3, g4, g5, g6⟩ := GaR_row hGi (show k < cn sc es by omega)
              obtain ⟨t1, t2, t3⟩ := wR_to (lim := lim) (st := (B2, E2, p2, ct2, st2, n2)) g1 g2 g3 hcr hr0
              rw [t3] at hR
              obtain ⟨q1, q2, q3, q4⟩ := stl_ok g3 hsc4 g4 hsl2
              have hek := hEk r9 e9 g2
              have hwk := wE_ok (pt := p2) hek hWi
              obtain ⟨k1, ⟨Xk, k2, k3⟩, -, k5⟩ := hwk
              have k6 : (wE (fl es) (of9 es r9) e9 B2 E2 p2).1.length = B2.length + Xk.length := (congrArg List.length k2).trans List.length_append
              refine lv_aload_n hx hb d_Wr_compose_62 rfl (lv_at hl 0 rfl) ?_
              refine va_get (D := D9) (ci := 5) (C := R_Wr) (T := F_Wr) (N := 6) hx hb hts i_Wr hown hK hP 18 ww_18 rfl 0 (by decide) (hts _ g_185) (fun _ h9 => h9) rfl d_Wr_compose_63 ?_
              refine va_getN (D := D9) (ci := 2) (C := R_Ga) (T := F_Ga) (N := 11) hx hb hts i_Ga hown hK hP 19 ww_19 rfl 7 (by decide) (hts _ g_80) (fun _ h9 => h9) rfl d_Wr_compose_66 ?_
              refine lv_iload hx hb d_Wr_compose_69 (lv_at hl 4 rfl) ?_
              refine va_aldG (D := D9) hx hb hK hP 11 3 ww_11 rfl (vp_in_nI (by omega) (by decide)) d_Wr_compose_71 ?_
              rw [nI_clamp (by omega), va_rf4 hsc4]
              refine lv_iload hx hb d_Wr_compose_72 (lv_at hl 6 rfl) ?_
              refine va_iald (D := D9) hx hb hK hP (12 + sc) 1 (ww_row hsc4) rfl (vp_in_nI (show k < 1000 by omega) (by decide)) d_Wr_compose_74 ?_
              refine lv_topq (y := nI r9) (by rw [nI_clamp (by omega)]; exact g5) ?_
              refine lv_istore (lv' := [(7, _), (0, _), (1, _), (2, _), (3, _), (4, _), (5, _), (6, _)]) hx hb d_Wr_compose_75 hl (by decide) rfl (fun ls hl => ?_)
              refine lv_aload_n hx hb d_Wr_compose_77 rfl (lv_at hl 1 rfl) ?_
              refine va_get (D := D9) (ci := 5) (C := R_Wr) (T := F_Wr) (N := 6) hx hb hts i_Wr hown hK hP 18 ww_18 rfl 0 (by decide) (hts _ g_185) (fun _ h9 => h9) rfl d_Wr_compose_78 ?_
              refine lv_iload hx hb d_Wr_compose_81 (lv_at hl 5 rfl) ?_
              refine lv_iload hx hb d_Wr_compose_83 (lv_at hl 0 rfl) ?_
              refine mw_cVN (ci := 2) (k := 19) C0 (m_Ga_isNeverLeftOut l D9 cB cI cJ cG a O _ _ es r9 e9 g2 hGi hO sc hsc4) g_539 g_3 g_572 g_538 gs_Ga_isNeverLeftOut ⟨by decide +kernel, by decide +kernel, show Option.map (fun d => d.parameters.length) (parseMethodDescriptor y_Ga_isNeverLeftOut.desc) = some 2 by decide +kernel⟩ ⟨by decide, by decide⟩ rfl rfl hP hD hS hA rfl ww_19 hl.1 (Nat.le_of_ble_eq_true rfl) rfl d_Wr_compose_85 ⟨by decide, by decide⟩ (fun v9 w9 H locs hq hP hD hS => ?_)
              obtain ⟨I24, F25, hw9, q26⟩ := hq
              subst hw9
              obtain ⟨rfl, rfl, rfl⟩ := q26
              refine lv_topq (y := bI (mst e9)) (by unfold mst; rw [g3]) ?_
              refine lv_istore (lv' := [(8, _), (7, _), (0, _), (1, _), (2, _), (3, _), (4, _), (5, _), (6, _)]) hx hb d_Wr_compose_88 hl (by decide) rfl (fun ls hl => ?_)
              refine lv_iload hx hb d_Wr_compose_90 (lv_at hl 0 rfl) ?_
              refine lv_if_eq (tgt := 107) hx hb d_Wr_compose_92 (by decide) (fun c27 => ?_) (fun c27 => ?_)
              · have c27 : mst e9 = false := bI_f c27
                have hsx : stl e9 st2 = st2 := by unfold stl; rw [if_neg (by rw [c27]; decide)]
                refine lv_iload_n hx hb d_Wr_compose_107 rfl (lv_at hl 5 rfl) ?_
                refine lv_if_eq (tgt := 119) hx hb d_Wr_compose_108 (by decide) (fun c28 => ?_) (fun c28 => ?_)
                · have c28 : ct2 = false := bI_f c28
                  refine lv_aload_n hx hb d_Wr_compose_119 rfl (lv_at hl 2 rfl) ?_
                  refine lv_iload hx hb d_Wr_compose_120 (lv_at hl 6 rfl) ?_
                  refine lv_iload hx hb d_Wr_compose_122 (lv_at hl 1 rfl) ?_
                  refine lv_iload_n hx hb d_Wr_compose_124 rfl (lv_at hl 3 rfl) ?_
                  refine lv_iload_n hx hb d_Wr_compose_125 rfl (lv_at hl 4 rfl) ?_
                  refine lv_isub hx hb d_Wr_compose_126 ?_
                  refine lv_topq (y := nI (lim - st2)) (pk_sub (by omega)) ?_
                  refine mw_cV (ci := 5) (k := 18) C0 (m_Wr_putIfFits l D9 cB cI cJ cG a O _ _ es r9 e9 g2 hGi hO X B2 E2 p2 hX hMi h13i (by omega) hS2i hB2i h142i hWi h10i sc (lim - st2) g3 (by omega) hek) g_577 g_5 g_574 g_576 gs_Wr_putIfFits ⟨by decide +kernel, by decide +kernel, show Option.map (fun d => d.parameters.length) (parseMethodDescriptor y_Wr_putIfFits.desc) = some 3 by decide +kernel⟩ ⟨by decide, by decide⟩ rfl rfl hP hD hS hA rfl ww_18 hl.1 (Nat.le_of_ble_eq_true rfl) rfl d_Wr_compose_127 ⟨by decide, by decide⟩ (fun v9 w9 H locs hq hP hD hS => ?_)
                  obtain ⟨I29, F30, hw9, q31⟩ := hq
                  subst hw9
                  rcases q31 with ⟨f1, rfl, f2, f3, f4, f5, f6, f7, f8, f9⟩ | ⟨f1, rfl, f2, f3, f4, f5, f6, f7, f8, f9⟩
                  · rw [wSt_ok (Or.inl c28) (by omega)] at hR
                    refine lv_if_eq (tgt := 139) hx hb d_Wr_compose_130 (by decide) (fun c32 => ?_) (fun c32 => ?_)
                    · exact absurd c32 (by decide)
                    · refine lv_iinc (lv' := [(5, .int (nI (n2 + 1))), (8, _), (7, _), (0, _), (1, _), (2, _), (3, _), (4, _), (6, _)]) hx hb d_Wr_compose_133 hl (k := 7) rfl (nI_add _ 1) (by decide) rfl (fun ls hl => ?_)
                      refine lv_goto (tgt := 155) hx hb d_Wr_compose_136 (by decide) ?_
                      refine lv_iinc (lv' := [(6, .int (nI (k + 1))), (5, _), (8, _), (7, _), (0, _), (1, _), (2, _), (3, _), (4, _)]) hx hb d_Wr_compose_155 hl (k := 8) rfl (nI_add _ 1) (by decide) rfl (fun ls hl => ?_)
                      refine lv_goto (tgt := 47) hx hb d_Wr_compose_158 (by decide) ?_
                      rw [hsx] at hR q1 q2
                      exact ihi _ (by omega) (k + 1) (r9 + 1) (wE (fl es) (of9 es r9) e9 B2 E2 p2).1 (wE (fl es) (of9 es r9) e9 B2 E2 p2).2.1 (wE (fl es) (of9 es r9) e9 B2 E2 p2).2.2 ct2 st2 (n2 + 1) _ _ _ _ _ (sm_tr (sm_mo hsIi (by decide)) (sm_mo f2 (by decide))) (sm_tr (sm_mo hsFi (by decide)) (sm_mo f6 (by decide))) rfl (by omega) (by omega) t2 hR ⟨q1, q2⟩ (by omega) (by omega) f7 f3 f8 f9 f4 k1 f5 hP hD hS (lv_pk hl [4, 5, 6, 7, 8, 1, 0] rfl)
                  · rw [wSt_no (Or.inl c28) (by omega)] at hR
                    refine lv_if_eq (tgt := 139) hx hb d_Wr_compose_130 (by decide) (fun c33 => ?_) (fun c33 => ?_)
                    · refine lv_iload_n hx hb d_Wr_compose_139 rfl (lv_at hl 5 rfl) ?_
                      refine lv_topq (y := nI 0) (by rw [c28]; rfl) ?_
                      refine lv_if_ne (tgt := 149) hx hb d_Wr_compose_140 (by decide) (fun c34 => ?_) (fun c34 => ?_)
                      · exact absurd c34 (by decide)
                      · refine lv_iload hx hb d_Wr_compose_143 (lv_at hl 6 rfl) ?_
                        refine lv_iconst (v := 3) hx hb d_Wr_compose_145 (by decide) ?_
                        refine lv_topq (y := nI 3) (rfl) ?_
                        refine lv_icmp_ge (tgt := 153) hx hb d_Wr_compose_146 (by decide) (fun c35 => ?_) (fun c35 => ?_)
                        · have c35 : 3 ≤ sc := (nI_leI (a := 3) (b := sc) (by omega) (by omega)).mp c35
                          refine lv_iconst (v := 0) hx hb d_Wr_compose_153 (by decide) ?_
                          refine lv_topq (y := nI 0) (rfl) ?_
                          refine lv_istore_n (lv' := [(3, _), (8, _), (7, _), (0, _), (1, _), (2, _), (4, _), (5, _), (6, _)]) hx hb d_Wr_compose_154 rfl hl (by decide) rfl (fun ls hl => ?_)
                          refine lv_iinc (lv' := [(6, .int (nI (k + 1))), (3, _), (8, _), (7, _), (0, _), (1, _), (2, _), (4, _), (5, _)]) hx hb d_Wr_compose_155 hl (k := 8) rfl (nI_add _ 1) (by decide) rfl (fun ls hl => ?_)
                          refine lv_goto (tgt := 47) hx hb d_Wr_compose_158 (by decide) ?_
                          rw [hsx] at hR q1 q2
                          have hcv : (ct2 || decide (sc < 3)) = false := by rw [c28]; simp <;> omega
                          rw [hcv] at hR
                          exact ihi _ (by omega) (k + 1) (r9 + 1) B2 E2 p2 false st2 n2 _ _ _ _ _ (sm_tr (sm_mo hsIi (by decide)) (sm_mo f2 (by decide))) (sm_tr (sm_mo hsFi (by decide)) (sm_mo f6 (by decide))) rfl (by omega) (by omega) t2 hR ⟨q1, q2⟩ (by omega) (by omega) f7 f3 f8 f9 f4 hWi f5 hP hD hS (lv_pk hl [4, 5, 6, 1, 7, 8, 0] rfl)
                        · have c35 : ¬ (3 ≤ sc) := fun z9 => c35 ((nI_leI (a := 3) (b := sc) (by omega) (by omega)).mpr z9)
                          refine lv_iconst (v := 1) hx hb d_Wr_compose_149 (by decide) ?_
                          refine lv_topq (y := nI 1) (rfl) ?_
                          refine lv_goto (tgt := 154) hx hb d_Wr_compose_150 (by decide) ?_
                          refine lv_istore_n (lv' := [(3, _), (8, _), (7, _), (0, _), (1, _), (2, _), (4, _), (5, _), (6, _)]) hx hb d_Wr_compose_154 rfl hl (by decide) rfl (fun ls hl => ?_)
                          refine lv_iinc (lv' := [(6, .int (nI (k + 1))), (3, _), (8, _), (7, _), (0, _), (1, _), (2, _), (4, _), (5, _)]) hx hb d_Wr_compose_155 hl (k := 8) rfl (nI_add _ 1) (by decide) rfl (fun ls hl => ?_)
                          refine lv_goto (tgt := 47) hx hb d_Wr_compose_158 (by decide) ?_
                          rw [hsx] at hR q1 q2
                          have hcv : (ct2 || decide (sc < 3)) = true := by rw [c28]; simp <;> omega
                          rw [hcv] at hR
                          exact ihi _ (by omega) (k + 1) (r9 + 1) B2 E2 p2 true st2 n2 _ _ _ _ _ (sm_tr (sm_mo hsIi (by decide)) (sm_mo f2 (by decide))) (sm_tr (sm_mo hsFi (by decide)) (sm_mo f6 (by decide))) rfl (by omega) (by omega) t2 hR ⟨q1, q2⟩ (by omega) (by omega) f7 f3 f8 f9 f4 hWi f5 hP hD hS (lv_pk hl [4, 5, 6, 1, 7, 8, 0] rfl)
                    · exact absurd c33 (by decide)
                · have c28 : ct2 = true := bI_t c28
                  refine lv_iload hx hb d_Wr_compose_111 (lv_at hl 0 rfl) ?_
                  refine lv_topq (y := nI 0) (by rw [c27]; rfl) ?_
                  refine lv_if_ne (tgt := 119) hx hb d_Wr_compose_113 (by decide) (fun c36 => ?_) (fun c36 => ?_)
                  · exact absurd c36 (by decide)
                  · refine lv_goto (tgt := 155) hx hb d_Wr_compose_116 (by decide) ?_
                    refine lv_iinc (lv' := [(6, .int (nI (k + 1))), (8, _), (7, _), (0, _), (1, _), (2, _), (3, _), (4, _), (5, _)]) hx hb d_Wr_compose_155 hl (k := 8) rfl (nI_add _ 1) (by decide) rfl (fun ls hl => ?_)
                    refine lv_goto (tgt := 47) hx hb d_Wr_compose_158 (by decide) ?_
                    subst c28
                    rw [wSt_skip c27] at hR
                    rw [hsx] at q1 q2
                    exact ihi _ (by omega) (k + 1) (r9 + 1) B2 E2 p2 true st2 n2 _ _ _ _ _ (sm_mo hsIi (by decide)) (sm_mo hsFi (by decide)) rfl (by omega) (by omega) t2 hR ⟨q1, q2⟩ hfi2 (by omega) hMi h13i hS2i hB2i h142i hWi h10i hP hD hS (lv_pk hl [3, 4, 5, 6, 7, 8, 0] rfl)
              · have c27 : mst e9 = true := bI_t c27
                have hsy := q3 c27
                refine lv_iload_n hx hb d_Wr_compose_95 rfl (lv_at hl 4 rfl) ?_
                refine lv_aload_n hx hb d_Wr_compose_96 rfl (lv_at hl 2 rfl) ?_
                refine va_get (D := D9) (ci := 5) (C := R_Wr) (T := F_Wr) (N := 6) hx hb hts i_Wr hown hK hP 18 ww_18 rfl 0 (by decide) (hts _ g_185) (fun _ h9 => h9) rfl d_Wr_compose_97 ?_
                refine lv_iload hx hb d_Wr_compose_100 (lv_at hl 1 rfl) ?_
                refine mw_cVN (ci := 2) (k := 19) C0 (m_Ga_lengthUnderRoot l D9 cB cI cJ cG a O _ _ es r9 e9 g2 hGi hO) g_543 g_3 g_573 g_542 gs_Ga_lengthUnderRoot ⟨by decide +kernel, by decide +kernel, show Option.map (fun d => d.parameters.length) (parseMethodDescriptor y_Ga_lengthUnderRoot.desc) = some 1 by decide +kernel⟩ ⟨by decide, by decide⟩ rfl rfl hP hD hS hA rfl ww_19 hl.1 (Nat.le_of_ble_eq_true rfl) rfl d_Wr_compose_102 ⟨by decide, by decide⟩ (fun v9 w9 H locs hq hP hD hS => ?_)
                obtain ⟨I37, F38, hw9, q39⟩ := hq
                subst hw9
                obtain ⟨rfl, rfl, rfl⟩ := q39
                refine lv_isub hx hb d_Wr_compose_105 ?_
                refine lv_topq (y := nI (stl e9 st2)) ((pk_sub (by omega)).trans (congrArg nI (by omega))) ?_
                refine lv_istore_n (lv' := [(2, _), (8, _), (7, _), (0, _), (1, _), (3, _), (4, _), (5, _), (6, _)]) hx hb d_Wr_compose_106 rfl hl (by decide) rfl (fun ls hl => ?_)
                refine lv_iload_n hx hb d_Wr_compose_107 rfl (lv_at hl 5 rfl) ?_
                refine lv_if_eq (tgt := 119) hx hb d_Wr_compose_108 (by decide) (fun c40 => ?_) (fun c40 => ?_)
                · have c40 : ct2 = false := bI_f c40
                  refine lv_aload_n hx hb d_Wr_compose_119 rfl (lv_at hl 3 rfl) ?_
                  refine lv_iload hx hb d_Wr_compose_120 (lv_at hl 6 rfl) ?_
                  refine lv_iload hx hb d_Wr_compose_122 (lv_at hl 2 rfl) ?_
                  refine lv_iload_n hx hb d_Wr_compose_124 rfl (lv_at hl 4 rfl) ?_
                  refine lv_iload_n hx hb d_Wr_compose_125 rfl (lv_at hl 0 rfl) ?_
                  refine lv_isub hx hb d_Wr_compose_126 ?_
                  refine lv_topq (y := nI (lim - (stl e9 st2))) (pk_sub (by omega)) ?_
                  refine mw_cV (ci := 5) (k := 18) C0 (m_Wr_putIfFits l D9 cB cI cJ cG a O _ _ es r9 e9 g2 hGi hO X B2 E2 p2 hX hMi h13i (by omega) hS2i hB2i h142i hWi h10i sc (lim - (stl e9 st2)) g3 (by omega) hek) g_577 g_5 g_574 g_576 gs_Wr_putIfFits ⟨by decide +kernel, by decide +kernel, show Option.map (fun d => d.parameters.length) (parseMethodDescriptor y_Wr_putIfFits.desc) = some 3 by decide +kernel⟩ ⟨by decide, by decide⟩ rfl rfl hP hD hS hA rfl ww_18 hl.1 (Nat.le_of_ble_eq_true rfl) rfl d_Wr_compose_127 ⟨by decide, by decide⟩ (fun v9 w9 H locs hq hP hD hS => ?_)
                  obtain ⟨I41, F42, hw9, q43⟩ := hq
                  subst hw9
                  rcases q43 with ⟨f1, rfl, f2, f3, f4, f5, f6, f7, f8, f9⟩ | ⟨f1, rfl, f2, f3, f4, f5, f6, f7, f8, f9⟩
                  · rw [wSt_ok (Or.inr c27) (by omega)] at hR
                    refine lv_if_eq (tgt := 139) hx hb d_Wr_compose_130 (by decide) (fun c44 => ?_) (fun c44 => ?_)
                    · exact absurd c44 (by decide)
                    · refine lv_iinc (lv' := [(5, .int (nI (n2 + 1))), (2, _), (8, _), (7, _), (0, _), (1, _), (3, _), (4, _), (6, _)]) hx hb d_Wr_compose_133 hl (k := 7) rfl (nI_add _ 1) (by decide) rfl (fun ls hl => ?_)
                      refine lv_goto (tgt := 155) hx hb d_Wr_compose_136 (by decide) ?_
                      refine lv_iinc (lv' := [(6, .int (nI (k + 1))), (5, _), (2, _), (8, _), (7, _), (0, _), (1, _), (3, _), (4, _)]) hx hb d_Wr_compose_155 hl (k := 8) rfl (nI_add _ 1) (by decide) rfl (fun ls hl => ?_)
                      refine lv_goto (tgt := 47) hx hb d_Wr_compose_158 (by decide) ?_
                      exact ihi _ (by omega) (k + 1) (r9 + 1) (wE (fl es) (of9 es r9) e9 B2 E2 p2).1 (wE (fl es) (of9 es r9) e9 B2 E2 p2).2.1 (wE (fl es) (of9 es r9) e9 B2 E2 p2).2.2 ct2 (stl e9 st2) (n2 + 1) _ _ _ _ _ (sm_tr (sm_mo hsIi (by decide)) (sm_mo f2 (by decide))) (sm_tr (sm_mo hsFi (by decide)) (sm_mo f6 (by decide))) rfl (by omega) (by omega) t2 hR ⟨q1, q2⟩ (by omega) (by omega) f7 f3 f8 f9 f4 k1 f5 hP hD hS (lv_pk hl [5, 6, 2, 7, 8, 1, 0] rfl)
                  · exfalso
                    have k7 := k5 (by unfold mst at c27; simpa using c27)
                    omega
                · have c40 : ct2 = true := bI_t c40
                  refine lv_iload hx hb d_Wr_compose_111 (lv_at hl 1 rfl) ?_
                  refine lv_topq (y := nI 1) (by rw [c27]; rfl) ?_
                  refine lv_if_ne (tgt := 119) hx hb d_Wr_compose_113 (by decide) (fun c45 => ?_) (fun c45 => ?_)
                  · refine lv_aload_n hx hb d_Wr_compose_119 rfl (lv_at hl 3 rfl) ?_
                    refine lv_iload hx hb d_Wr_compose_120 (lv_at hl 6 rfl) ?_
                    refine lv_iload hx hb d_Wr_compose_122 (lv_at hl 2 rfl) ?_
                    refine lv_iload_n hx hb d_Wr_compose_124 rfl (lv_at hl 4 rfl) ?_
                    refine lv_iload_n hx hb d_Wr_compose_125 rfl (lv_at hl 0 rfl) ?_
                    refine lv_isub hx hb d_Wr_compose_126 ?_
                    refine lv_topq (y := nI (lim - (stl e9 st2))) (pk_sub (by omega)) ?_
                    refine mw_cV (ci := 5) (k := 18) C0 (m_Wr_putIfFits l D9 cB cI cJ cG a O _ _ es r9 e9 g2 hGi hO X B2 E2 p2 hX hMi h13i (by omega) hS2i hB2i h142i hWi h10i sc (lim - (stl e9 st2)) g3 (by omega) hek) g_577 g_5 g_574 g_576 gs_Wr_putIfFits ⟨by decide +kernel, by decide +kernel, show Option.map (fun d => d.parameters.length) (parseMethodDescriptor y_Wr_putIfFits.desc) = some 3 by decide +kernel⟩ ⟨by decide, by decide⟩ rfl rfl hP hD hS hA rfl ww_18 hl.1 (Nat.le_of_ble_eq_true rfl) rfl d_Wr_compose_127 ⟨by decide, by decide⟩ (fun v9 w9 H locs hq hP hD hS => ?_)
                    obtain ⟨I46, F47, hw9, q48⟩ := hq
                    subst hw9
                    rcases q48 with ⟨f1, rfl, f2, f3, f4, f5, f6, f7, f8, f9⟩ | ⟨f1, rfl, f2, f3, f4, f5, f6, f7, f8, f9⟩
                    · rw [wSt_ok (Or.inr c27) (by omega)] at hR
                      refine lv_if_eq (tgt := 139) hx hb d_Wr_compose_130 (by decide) (fun c49 => ?_) (fun c49 => ?_)
                      · exact absurd c49 (by decide)
                      · refine lv_iinc (lv' := [(5, .int (nI (n2 + 1))), (2, _), (8, _), (7, _), (0, _), (1, _), (3, _), (4, _), (6, _)]) hx hb d_Wr_compose_133 hl (k := 7) rfl (nI_add _ 1) (by decide) rfl (fun ls hl => ?_)
                        refine lv_goto (tgt := 155) hx hb d_Wr_compose_136 (by decide) ?_
                        refine lv_iinc (lv' := [(6, .int (nI (k + 1))), (5, _), (2, _), (8, _), (7, _), (0, _), (1, _), (3, _), (4, _)]) hx hb d_Wr_compose_155 hl (k := 8) rfl (nI_add _ 1) (by decide) rfl (fun ls hl => ?_)
                        refine lv_goto (tgt := 47) hx hb d_Wr_compose_158 (by decide) ?_
                        exact ihi _ (by omega) (k + 1) (r9 + 1) (wE (fl es) (of9 es r9) e9 B2 E2 p2).1 (wE (fl es) (of9 es r9) e9 B2 E2 p2).2.1 (wE (fl es) (of9 es r9) e9 B2 E2 p2).2.2 ct2 (stl e9 st2) (n2 + 1) _ _ _ _ _ (sm_tr (sm_mo hsIi (by decide)) (sm_mo f2 (by decide))) (sm_tr (sm_mo hsFi (by decide)) (sm_mo f6 (by decide))) rfl (by omega) (by omega) t2 hR ⟨q1, q2⟩ (by omega) (by omega) f7 f3 f8 f9 f4 k1 f5 hP hD hS (lv_pk hl [5, 6, 2, 7, 8, 1, 0] rfl)
                    · exfalso
                      have k7 := k5 (by unfold mst at c27; simpa using c27)
                      omega
                  · exact absurd c45 (by decide)
        exact loopK _ 0 0 B E pt cut still 0 _ _ _ _ _ (sm_mo hsI (by decide)) (sm_mo hsF (by decide)) rfl (Nat.zero_le _) (Nat.zero_le _) rfl (by show wSec es lim sc (wIt es lim sc) = _; rw [hst]; rfl) ⟨fun z => by rw [List.drop_zero]; exact hsl (by omega), fun z => hsl (by omega)⟩ hfit (Nat.le_refl _) hM h13 hS2 hB2 h142 hW h10 hP hD hS (lv_pk hl [2, 3, 4, 5, 6, 1, 0] rfl)
  exact loopS _ 0 X0 [] [] 0 false (mu3 (fil 3 es)) 0 _ _ _ _ _ (sm_tr (sm_tr (sm_mo sI4 (by decide)) (sm_mo sI5 (by decide))) (sm_mo ssh (by decide))) (sm_mo ssF (by decide)) rfl (by decide) hX0 (fun i hi => by omega) rfl (fun _ => rfl) (by simpa using hlim) (by rw [List.append_nil]; exact (BR_eq hBX0 (ssF 21 (by decide)))) ((ssh 13 (by decide)).trans ((sI5 13 (by decide)).trans aI4)) yS (fun k hk => by simp at hk) y14 ⟨⟨fun k hk => by simp at hk, fun i j _ hj => by simp at hj, by decide⟩, by decide⟩ ((ssh 10 (by decide)).trans aI5) hP hD hS (lv_pk hl [3, 4, 2, 1, 0] rfl)
