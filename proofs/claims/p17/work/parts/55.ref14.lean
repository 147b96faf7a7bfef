theorem BR_hdr {n : Nat} {f f' : Nat → Int32} {H X B : List Nat} (h : BR 0 n f' H) (hH : H.length = 12) (hX : X.length = 12) (hB : BR 0 n f (X ++ B)) (hf : ∀ j, 12 ≤ j → f' j = f j) : BR 0 n f' (H ++ B) := by
  refine ⟨h.1, ?_⟩
  intro i b hb hc hn
  by_cases hi : i < 12
  · rw [List.getElem?_append_left (by omega)] at hb
    exact h.2 i b hb hc hn
  · rw [List.getElem?_append_right (by omega), hH] at hb
    rw [hf i (by omega)]
    exact hB.2 i b (by rw [List.getElem?_append_right (by omega), hX]; exact hb) hc hn
theorem MeR_pre {F : Nat → Nat → Int32} {E Z : List (Nat × Nat)} (h : MeR F (E ++ Z)) : MeR F E := by
  intro k hk
  have := h k (by rw [List.length_append]; omega)
  rw [(eQ_l hk).1, (eQ_l hk).2] at this
  exact this
theorem fil_drop {es : List En9} {k : Nat} {e : En9} (h : es[k]? = some e) : mu3 (fil 3 (es.drop k)) = (if mst e = true then 11 + (eD e).length else 0) + mu3 (fil 3 (es.drop (k + 1))) := by
  obtain ⟨h1, h2⟩ := List.getElem?_eq_some_iff.mp h
  rw [List.drop_eq_getElem_cons h1, h2]
  unfold fil mst
  rw [List.filter_cons]
  by_cases h3 : eS e = 3
  · simp [h3, mu3]
  · simp [h3]
theorem stl_ok2 {es : List En9} {sc k still : Nat} {e : En9} (h4 : sc < 4) (he : es[k]? = some e) (h : (sc = 3 → still = mu3 (fil 3 (es.drop k))) ∧ (sc < 3 → still = mu3 (fil 3 es))) : (eS e = sc → (sc = 3 → stl e still = mu3 (fil 3 (es.drop (k + 1)))) ∧ (sc < 3 → stl e still = mu3 (fil 3 es)) ∧ (mst e = true → stl e still + (11 + (eD e).length) = still) ∧ stl e still ≤ still) ∧ (eS e ≠ sc → (sc = 3 → still = mu3 (fil 3 (es.drop (k + 1)))) ∧ (sc < 3 → still = mu3 (fil 3 es))) := by
  have hd := fil_drop he
  unfold stl
  constructor
  · intro hs
    by_cases h3 : sc = 3
    · have h0 := h.1 h3
      by_cases hm : mst e = true
      · rw [if_pos hm] at hd ⊢
        exact ⟨fun _ => by omega, fun z => by omega, fun _ => by omega, by omega⟩
      · rw [if_neg hm] at hd ⊢
        exact ⟨fun _ => by omega, fun z => by omega, fun z => absurd z hm, by omega⟩
    · have hm : ¬ mst e = true := by unfold mst; rw [hs]; simp [h3]
      rw [if_neg hm]
      exact ⟨fun z => absurd z h3, h.2, fun z => absurd z hm, Nat.le_refl _⟩
  · intro hs
    refine ⟨fun h3 => ?_, h.2⟩
    have h0 := h.1 h3
    have hm : ¬ mst e = true := by unfold mst; simp; intro z; omega
    rw [if_neg hm] at hd
    omega
theorem BR_12b {f : Nat → Int32} (h : sb_Fit f) : ∃ X : List Nat, X.length = 12 ∧ BR 0 131200 f X := by
  obtain ⟨X, h1, h2⟩ := BR_12 h
  exact ⟨X, h1, h2.1, fun i b hb hc _ => h2.2 i b hb hc (by have := (List.getElem?_eq_some_iff.mp hb).1; omega)⟩
theorem wSt_n {es : List En9} {lim s r : Nat} {e : En9} {st : WS9} : (wSt es lim s r e st).2.2.2.2.2 ≤ st.2.2.2.2.2 + 1 := by
  obtain ⟨B, E, pt, cut, still, n⟩ := st
  unfold wSt
  simp only
  split
  · exact Nat.le_succ _
  · split <;> split <;> first | exact Nat.le_refl _ | exact Nat.le_succ _
theorem wR_n {es : List En9} {lim s : Nat} : ∀ {f r : Nat} {st : WS9}, (wR es lim s f r st).2.2.2.2.2 ≤ st.2.2.2.2.2 + f
  | 0, r, st => Nat.le_refl _
  | f + 1, r, st => by
    cases he : es[r]? with
    | none => unfold wR; rw [he]; exact Nat.le_add_right _ _
    | some e9 =>
      rw [wR_at he]
      have h1 := wR_n (es := es) (lim := lim) (s := s) (f := f) (r := r + 1) (st := if eS e9 = s then wSt es lim s r e9 st else st)
      by_cases h2 : eS e9 = s
      · rw [if_pos h2] at h1 ⊢
        have := wSt_n (es := es) (lim := lim) (s := s) (r := r) (e := e9) (st := st)
        omega
      · rw [if_neg h2] at h1 ⊢
        omega
theorem wCn_lt {es : List En9} {lim : Nat} (hO : okE es) (i : Nat) : wCn es lim i < 65536 := by
  have h1 := okE_len hO
  have h2 : wCn es lim i ≤ 0 + es.length := wR_n (st := ((wIt es lim i).1, (wIt es lim i).2.1, (wIt es lim i).2.2.1, (wIt es lim i).2.2.2.1, (wIt es lim i).2.2.2.2.1, 0))
  omega
theorem g_907 : (Cond.methodLink "WireMessagesModel" (183 : Nat) ({ cls := "WireMessagesModel", name := "must", desc := "(I)Z" } : MethodName)) ∈ GT := gt_mem 907 (by decide +kernel) rfl
theorem g_909 : (Cond.instanceMethod ({ cls := "WireMessagesModel", name := "must", desc := "(I)Z" } : MethodName)) ∈ GT := gt_mem 909 (by decide +kernel) rfl
theorem g_910 : (Cond.code ({ cls := "WireMessagesModel", name := "must", desc := "(I)Z" } : MethodName) prog_10_method_33_code (2 : Nat) (Option.some FieldType.boolean)) ∈ GT := gt_mem 910 (by decide +kernel) rfl
theorem g_911 : (Cond.methodLink "WireMessagesModel" (187 : Nat) ({ cls := "WireMessagesModel", name := "putEntry", desc := "(I)V" } : MethodName)) ∈ GT := gt_mem 911 (by decide +kernel) rfl
theorem g_913 : (Cond.instanceMethod ({ cls := "WireMessagesModel", name := "putEntry", desc := "(I)V" } : MethodName)) ∈ GT := gt_mem 913 (by decide +kernel) rfl
theorem g_914 : (Cond.code ({ cls := "WireMessagesModel", name := "putEntry", desc := "(I)V" } : MethodName) prog_10_method_32_code (4 : Nat) (Option.none : Option FieldType)) ∈ GT := gt_mem 914 (by decide +kernel) rfl
theorem gs_Mo_must : Cond.selects R_Mo y_Mo_must y_Mo_must ∈ GT := gt_sel (q := (⟨"WireMessagesModel", "must", "(I)Z"⟩, 30)) (by decide +kernel)
theorem gs_Mo_putEntry : Cond.selects R_Mo y_Mo_putEntry y_Mo_putEntry ∈ GT := gt_sel (q := (⟨"WireMessagesModel", "putEntry", "(I)V"⟩, 30)) (by decide +kernel)
theorem d_Mo_write_0 : decode b_Mo_write 0 = .ok (.aload_n 0, 1) := by decide +kernel
theorem d_Mo_write_1 : decode b_Mo_write 1 = .ok (.iconst 0, 1) := by decide +kernel
theorem d_Mo_write_2 : decode b_Mo_write 2 = .ok (.putfield 61, 3) := by decide +kernel
theorem d_Mo_write_5 : decode b_Mo_write 5 = .ok (.iload_n 1, 1) := by decide +kernel
theorem d_Mo_write_6 : decode b_Mo_write 6 = .ok (.bipush 12, 2) := by decide +kernel
theorem d_Mo_write_8 : decode b_Mo_write 8 = .ok (.if_icmp .lt 9, 3) := by decide +kernel
theorem d_Mo_write_11 : decode b_Mo_write 11 = .ok (.iload_n 1, 1) := by decide +kernel
theorem d_Mo_write_12 : decode b_Mo_write 12 = .ok (.ldc 141, 2) := by decide +kernel
theorem d_Mo_write_14 : decode b_Mo_write 14 = .ok (.if_icmp .le 9, 3) := by decide +kernel
theorem d_Mo_write_17 : decode b_Mo_write 17 = .ok (.aload_n 0, 1) := by decide +kernel
theorem d_Mo_write_18 : decode b_Mo_write 18 = .ok (.iconst 1, 1) := by decide +kernel
theorem d_Mo_write_19 : decode b_Mo_write 19 = .ok (.invokevirtual 138, 3) := by decide +kernel
theorem d_Mo_write_22 : decode b_Mo_write 22 = .ok (.ireturn, 1) := by decide +kernel
theorem d_Mo_write_23 : decode b_Mo_write 23 = .ok (.iconst 0, 1) := by decide +kernel
theorem d_Mo_write_24 : decode b_Mo_write 24 = .ok (.istore_n 2, 1) := by decide +kernel
theorem d_Mo_write_25 : decode b_Mo_write 25 = .ok (.iconst 0, 1) := by decide +kernel
theorem d_Mo_write_26 : decode b_Mo_write 26 = .ok (.istore_n 3, 1) := by decide +kernel
theorem d_Mo_write_27 : decode b_Mo_write 27 = .ok (.iload_n 3, 1) := by decide +kernel
theorem d_Mo_write_28 : decode b_Mo_write 28 = .ok (.aload_n 0, 1) := by decide +kernel
theorem d_Mo_write_29 : decode b_Mo_write 29 = .ok (.getfield 67, 3) := by decide +kernel
theorem d_Mo_write_32 : decode b_Mo_write 32 = .ok (.if_icmp .ge 29, 3) := by decide +kernel
theorem d_Mo_write_35 : decode b_Mo_write 35 = .ok (.aload_n 0, 1) := by decide +kernel
theorem d_Mo_write_36 : decode b_Mo_write 36 = .ok (.iload_n 3, 1) := by decide +kernel
theorem d_Mo_write_37 : decode b_Mo_write 37 = .ok (.invokevirtual 183, 3) := by decide +kernel
theorem d_Mo_write_40 : decode b_Mo_write 40 = .ok (.ifCond .eq 15, 3) := by decide +kernel
theorem d_Mo_write_43 : decode b_Mo_write 43 = .ok (.iload_n 2, 1) := by decide +kernel
theorem d_Mo_write_44 : decode b_Mo_write 44 = .ok (.bipush 11, 2) := by decide +kernel
theorem d_Mo_write_46 : decode b_Mo_write 46 = .ok (.aload_n 0, 1) := by decide +kernel
theorem d_Mo_write_47 : decode b_Mo_write 47 = .ok (.getfield 40, 3) := by decide +kernel
theorem d_Mo_write_50 : decode b_Mo_write 50 = .ok (.iload_n 3, 1) := by decide +kernel
theorem d_Mo_write_51 : decode b_Mo_write 51 = .ok (.iaload, 1) := by decide +kernel
theorem d_Mo_write_52 : decode b_Mo_write 52 = .ok (.iadd, 1) := by decide +kernel
theorem d_Mo_write_53 : decode b_Mo_write 53 = .ok (.iadd, 1) := by decide +kernel
theorem d_Mo_write_54 : decode b_Mo_write 54 = .ok (.istore_n 2, 1) := by decide +kernel
theorem d_Mo_write_55 : decode b_Mo_write 55 = .ok (.iinc 3 1, 3) := by decide +kernel
theorem d_Mo_write_58 : decode b_Mo_write 58 = .ok (.goto (-31), 3) := by decide +kernel
theorem d_Mo_write_61 : decode b_Mo_write 61 = .ok (.bipush 12, 2) := by decide +kernel
theorem d_Mo_write_63 : decode b_Mo_write 63 = .ok (.iload_n 2, 1) := by decide +kernel
theorem d_Mo_write_64 : decode b_Mo_write 64 = .ok (.iadd, 1) := by decide +kernel
theorem d_Mo_write_65 : decode b_Mo_write 65 = .ok (.iload_n 1, 1) := by decide +kernel
theorem d_Mo_write_66 : decode b_Mo_write 66 = .ok (.if_icmp .le 9, 3) := by decide +kernel
theorem d_Mo_write_69 : decode b_Mo_write 69 = .ok (.aload_n 0, 1) := by decide +kernel
theorem d_Mo_write_70 : decode b_Mo_write 70 = .ok (.iconst 2, 1) := by decide +kernel
theorem d_Mo_write_71 : decode b_Mo_write 71 = .ok (.invokevirtual 138, 3) := by decide +kernel
theorem d_Mo_write_74 : decode b_Mo_write 74 = .ok (.ireturn, 1) := by decide +kernel
theorem d_Mo_write_75 : decode b_Mo_write 75 = .ok (.aload_n 0, 1) := by decide +kernel
theorem d_Mo_write_76 : decode b_Mo_write 76 = .ok (.bipush 12, 2) := by decide +kernel
theorem d_Mo_write_78 : decode b_Mo_write 78 = .ok (.putfield 153, 3) := by decide +kernel
theorem d_Mo_write_81 : decode b_Mo_write 81 = .ok (.aload_n 0, 1) := by decide +kernel
theorem d_Mo_write_82 : decode b_Mo_write 82 = .ok (.iconst 0, 1) := by decide +kernel
theorem d_Mo_write_83 : decode b_Mo_write 83 = .ok (.putfield 159, 3) := by decide +kernel
theorem d_Mo_write_86 : decode b_Mo_write 86 = .ok (.aload_n 0, 1) := by decide +kernel
theorem d_Mo_write_87 : decode b_Mo_write 87 = .ok (.iconst 0, 1) := by decide +kernel
theorem d_Mo_write_88 : decode b_Mo_write 88 = .ok (.putfield 173, 3) := by decide +kernel
theorem d_Mo_write_91 : decode b_Mo_write 91 = .ok (.iconst 0, 1) := by decide +kernel
theorem d_Mo_write_92 : decode b_Mo_write 92 = .ok (.istore_n 3, 1) := by decide +kernel
theorem d_Mo_write_93 : decode b_Mo_write 93 = .ok (.aload_n 0, 1) := by decide +kernel
theorem d_Mo_write_94 : decode b_Mo_write 94 = .ok (.getfield 58, 3) := by decide +kernel
theorem d_Mo_write_97 : decode b_Mo_write 97 = .ok (.astore 4, 2) := by decide +kernel
theorem d_Mo_write_99 : decode b_Mo_write 99 = .ok (.iconst 0, 1) := by decide +kernel
theorem d_Mo_write_100 : decode b_Mo_write 100 = .ok (.istore 5, 2) := by decide +kernel
theorem d_Mo_write_102 : decode b_Mo_write 102 = .ok (.iload 5, 2) := by decide +kernel
theorem d_Mo_write_104 : decode b_Mo_write 104 = .ok (.iconst 4, 1) := by decide +kernel
theorem d_Mo_write_105 : decode b_Mo_write 105 = .ok (.if_icmp .ge 164, 3) := by decide +kernel
theorem d_Mo_write_108 : decode b_Mo_write 108 = .ok (.aload 4, 2) := by decide +kernel
theorem d_Mo_write_110 : decode b_Mo_write 110 = .ok (.iload 5, 2) := by decide +kernel
theorem d_Mo_write_112 : decode b_Mo_write 112 = .ok (.iconst 0, 1) := by decide +kernel
theorem d_Mo_write_113 : decode b_Mo_write 113 = .ok (.iastore, 1) := by decide +kernel
theorem d_Mo_write_114 : decode b_Mo_write 114 = .ok (.iconst 0, 1) := by decide +kernel
theorem d_Mo_write_115 : decode b_Mo_write 115 = .ok (.istore 6, 2) := by decide +kernel
theorem d_Mo_write_117 : decode b_Mo_write 117 = .ok (.iload 6, 2) := by decide +kernel
theorem d_Mo_write_119 : decode b_Mo_write 119 = .ok (.aload_n 0, 1) := by decide +kernel
theorem d_Mo_write_120 : decode b_Mo_write 120 = .ok (.getfield 67, 3) := by decide +kernel
theorem d_Mo_write_123 : decode b_Mo_write 123 = .ok (.if_icmp .ge 140, 3) := by decide +kernel
theorem d_Mo_write_126 : decode b_Mo_write 126 = .ok (.aload_n 0, 1) := by decide +kernel
theorem d_Mo_write_127 : decode b_Mo_write 127 = .ok (.getfield 18, 3) := by decide +kernel
theorem d_Mo_write_130 : decode b_Mo_write 130 = .ok (.iload 6, 2) := by decide +kernel
theorem d_Mo_write_132 : decode b_Mo_write 132 = .ok (.iaload, 1) := by decide +kernel
theorem d_Mo_write_133 : decode b_Mo_write 133 = .ok (.iload 5, 2) := by decide +kernel
theorem d_Mo_write_135 : decode b_Mo_write 135 = .ok (.if_icmp .ne 122, 3) := by decide +kernel
theorem d_Mo_write_138 : decode b_Mo_write 138 = .ok (.iload_n 3, 1) := by decide +kernel
theorem d_Mo_write_139 : decode b_Mo_write 139 = .ok (.ifCond .eq 15, 3) := by decide +kernel
theorem d_Mo_write_142 : decode b_Mo_write 142 = .ok (.aload_n 0, 1) := by decide +kernel
theorem d_Mo_write_143 : decode b_Mo_write 143 = .ok (.iload 6, 2) := by decide +kernel
theorem d_Mo_write_145 : decode b_Mo_write 145 = .ok (.invokevirtual 183, 3) := by decide +kernel
theorem d_Mo_write_148 : decode b_Mo_write 148 = .ok (.ifCond .ne 6, 3) := by decide +kernel
theorem d_Mo_write_151 : decode b_Mo_write 151 = .ok (.goto 106, 3) := by decide +kernel
theorem d_Mo_write_154 : decode b_Mo_write 154 = .ok (.aload_n 0, 1) := by decide +kernel
theorem d_Mo_write_155 : decode b_Mo_write 155 = .ok (.getfield 153, 3) := by decide +kernel
theorem d_Mo_write_158 : decode b_Mo_write 158 = .ok (.istore 7, 2) := by decide +kernel
theorem d_Mo_write_160 : decode b_Mo_write 160 = .ok (.aload_n 0, 1) := by decide +kernel
theorem d_Mo_write_161 : decode b_Mo_write 161 = .ok (.getfield 159, 3) := by decide +kernel
theorem d_Mo_write_164 : decode b_Mo_write 164 = .ok (.istore 8, 2) := by decide +kernel
theorem d_Mo_write_166 : decode b_Mo_write 166 = .ok (.aload_n 0, 1) := by decide +kernel
theorem d_Mo_write_167 : decode b_Mo_write 167 = .ok (.getfield 173, 3) := by decide +kernel
theorem d_Mo_write_170 : decode b_Mo_write 170 = .ok (.istore 9, 2) := by decide +kernel
theorem d_Mo_write_172 : decode b_Mo_write 172 = .ok (.aload_n 0, 1) := by decide +kernel
theorem d_Mo_write_173 : decode b_Mo_write 173 = .ok (.iload 6, 2) := by decide +kernel
theorem d_Mo_write_175 : decode b_Mo_write 175 = .ok (.invokevirtual 183, 3) := by decide +kernel
theorem d_Mo_write_178 : decode b_Mo_write 178 = .ok (.ifCond .eq 16, 3) := by decide +kernel
theorem d_Mo_write_181 : decode b_Mo_write 181 = .ok (.iload_n 2, 1) := by decide +kernel
theorem d_Mo_write_182 : decode b_Mo_write 182 = .ok (.bipush 11, 2) := by decide +kernel
theorem d_Mo_write_184 : decode b_Mo_write 184 = .ok (.aload_n 0, 1) := by decide +kernel
theorem d_Mo_write_185 : decode b_Mo_write 185 = .ok (.getfield 40, 3) := by decide +kernel
theorem d_Mo_write_188 : decode b_Mo_write 188 = .ok (.iload 6, 2) := by decide +kernel
theorem d_Mo_write_190 : decode b_Mo_write 190 = .ok (.iaload, 1) := by decide +kernel
theorem d_Mo_write_191 : decode b_Mo_write 191 = .ok (.iadd, 1) := by decide +kernel
theorem d_Mo_write_192 : decode b_Mo_write 192 = .ok (.isub, 1) := by decide +kernel
theorem d_Mo_write_193 : decode b_Mo_write 193 = .ok (.istore_n 2, 1) := by decide +kernel
theorem d_Mo_write_194 : decode b_Mo_write 194 = .ok (.aload_n 0, 1) := by decide +kernel
theorem d_Mo_write_195 : decode b_Mo_write 195 = .ok (.iload 6, 2) := by decide +kernel
theorem d_Mo_write_197 : decode b_Mo_write 197 = .ok (.invokevirtual 187, 3) := by decide +kernel
theorem d_Mo_write_200 : decode b_Mo_write 200 = .ok (.aload_n 0, 1) := by decide +kernel
theorem d_Mo_write_201 : decode b_Mo_write 201 = .ok (.getfield 153, 3) := by decide +kernel
theorem d_Mo_write_204 : decode b_Mo_write 204 = .ok (.iload_n 2, 1) := by decide +kernel
theorem d_Mo_write_205 : decode b_Mo_write 205 = .ok (.iadd, 1) := by decide +kernel
theorem d_Mo_write_206 : decode b_Mo_write 206 = .ok (.iload_n 1, 1) := by decide +kernel
theorem d_Mo_write_207 : decode b_Mo_write 207 = .ok (.if_icmp .le 41, 3) := by decide +kernel
theorem d_Mo_write_210 : decode b_Mo_write 210 = .ok (.aload_n 0, 1) := by decide +kernel
theorem d_Mo_write_211 : decode b_Mo_write 211 = .ok (.iload 6, 2) := by decide +kernel
theorem d_Mo_write_213 : decode b_Mo_write 213 = .ok (.invokevirtual 183, 3) := by decide +kernel
theorem d_Mo_write_216 : decode b_Mo_write 216 = .ok (.ifCond .ne 32, 3) := by decide +kernel
theorem d_Mo_write_219 : decode b_Mo_write 219 = .ok (.aload_n 0, 1) := by decide +kernel
theorem d_Mo_write_220 : decode b_Mo_write 220 = .ok (.iload 7, 2) := by decide +kernel
theorem d_Mo_write_222 : decode b_Mo_write 222 = .ok (.putfield 153, 3) := by decide +kernel
theorem d_Mo_write_225 : decode b_Mo_write 225 = .ok (.aload_n 0, 1) := by decide +kernel
theorem d_Mo_write_226 : decode b_Mo_write 226 = .ok (.iload 8, 2) := by decide +kernel
theorem d_Mo_write_228 : decode b_Mo_write 228 = .ok (.putfield 159, 3) := by decide +kernel
theorem d_Mo_write_231 : decode b_Mo_write 231 = .ok (.aload_n 0, 1) := by decide +kernel
theorem d_Mo_write_232 : decode b_Mo_write 232 = .ok (.iload 9, 2) := by decide +kernel
theorem d_Mo_write_234 : decode b_Mo_write 234 = .ok (.putfield 173, 3) := by decide +kernel
theorem d_Mo_write_237 : decode b_Mo_write 237 = .ok (.iload 5, 2) := by decide +kernel
theorem d_Mo_write_239 : decode b_Mo_write 239 = .ok (.iconst 3, 1) := by decide +kernel
theorem d_Mo_write_240 : decode b_Mo_write 240 = .ok (.if_icmp .ge 17, 3) := by decide +kernel
theorem d_Mo_write_243 : decode b_Mo_write 243 = .ok (.iconst 1, 1) := by decide +kernel
theorem d_Mo_write_244 : decode b_Mo_write 244 = .ok (.istore_n 3, 1) := by decide +kernel
theorem d_Mo_write_245 : decode b_Mo_write 245 = .ok (.goto 12, 3) := by decide +kernel
theorem d_Mo_write_248 : decode b_Mo_write 248 = .ok (.aload 4, 2) := by decide +kernel
theorem d_Mo_write_250 : decode b_Mo_write 250 = .ok (.iload 5, 2) := by decide +kernel
theorem d_Mo_write_252 : decode b_Mo_write 252 = .ok (.dup2, 1) := by decide +kernel
theorem d_Mo_write_253 : decode b_Mo_write 253 = .ok (.iaload, 1) := by decide +kernel
theorem d_Mo_write_254 : decode b_Mo_write 254 = .ok (.iconst 1, 1) := by decide +kernel
theorem d_Mo_write_255 : decode b_Mo_write 255 = .ok (.iadd, 1) := by decide +kernel
theorem d_Mo_write_256 : decode b_Mo_write 256 = .ok (.iastore, 1) := by decide +kernel
theorem d_Mo_write_257 : decode b_Mo_write 257 = .ok (.iinc 6 1, 3) := by decide +kernel
theorem d_Mo_write_260 : decode b_Mo_write 260 = .ok (.goto (-143), 3) := by decide +kernel
theorem d_Mo_write_263 : decode b_Mo_write 263 = .ok (.iinc 5 1, 3) := by decide +kernel
theorem d_Mo_write_266 : decode b_Mo_write 266 = .ok (.goto (-164), 3) := by decide +kernel
theorem d_Mo_write_269 : decode b_Mo_write 269 = .ok (.aload_n 0, 1) := by decide +kernel
theorem d_Mo_write_270 : decode b_Mo_write 270 = .ok (.getfield 153, 3) := by decide +kernel
theorem d_Mo_write_273 : decode b_Mo_write 273 = .ok (.istore 5, 2) := by decide +kernel
theorem d_Mo_write_275 : decode b_Mo_write 275 = .ok (.aload_n 0, 1) := by decide +kernel
theorem d_Mo_write_276 : decode b_Mo_write 276 = .ok (.iconst 0, 1) := by decide +kernel
theorem d_Mo_write_277 : decode b_Mo_write 277 = .ok (.putfield 153, 3) := by decide +kernel
theorem d_Mo_write_280 : decode b_Mo_write 280 = .ok (.aload_n 0, 1) := by decide +kernel
theorem d_Mo_write_281 : decode b_Mo_write 281 = .ok (.aload_n 0, 1) := by decide +kernel
theorem d_Mo_write_282 : decode b_Mo_write 282 = .ok (.getfield 70, 3) := by decide +kernel
theorem d_Mo_write_285 : decode b_Mo_write 285 = .ok (.invokevirtual 170, 3) := by decide +kernel
theorem d_Mo_write_288 : decode b_Mo_write 288 = .ok (.aload_n 0, 1) := by decide +kernel
theorem d_Mo_write_289 : decode b_Mo_write 289 = .ok (.iload_n 3, 1) := by decide +kernel
theorem d_Mo_write_290 : decode b_Mo_write 290 = .ok (.ifCond .eq 14, 3) := by decide +kernel
theorem d_Mo_write_293 : decode b_Mo_write 293 = .ok (.aload_n 0, 1) := by decide +kernel
theorem d_Mo_write_294 : decode b_Mo_write 294 = .ok (.getfield 73, 3) := by decide +kernel
theorem d_Mo_write_297 : decode b_Mo_write 297 = .ok (.sipush 512, 3) := by decide +kernel
theorem d_Mo_write_300 : decode b_Mo_write 300 = .ok (.ior, 1) := by decide +kernel
theorem d_Mo_write_301 : decode b_Mo_write 301 = .ok (.goto 7, 3) := by decide +kernel
theorem d_Mo_write_304 : decode b_Mo_write 304 = .ok (.aload_n 0, 1) := by decide +kernel
theorem d_Mo_write_305 : decode b_Mo_write 305 = .ok (.getfield 73, 3) := by decide +kernel
theorem d_Mo_write_308 : decode b_Mo_write 308 = .ok (.invokevirtual 170, 3) := by decide +kernel
theorem d_Mo_write_311 : decode b_Mo_write 311 = .ok (.iconst 0, 1) := by decide +kernel
theorem d_Mo_write_312 : decode b_Mo_write 312 = .ok (.istore 6, 2) := by decide +kernel
theorem d_Mo_write_314 : decode b_Mo_write 314 = .ok (.iload 6, 2) := by decide +kernel
theorem d_Mo_write_316 : decode b_Mo_write 316 = .ok (.iconst 4, 1) := by decide +kernel
theorem d_Mo_write_317 : decode b_Mo_write 317 = .ok (.if_icmp .ge 18, 3) := by decide +kernel
theorem d_Mo_write_320 : decode b_Mo_write 320 = .ok (.aload_n 0, 1) := by decide +kernel
theorem d_Mo_write_321 : decode b_Mo_write 321 = .ok (.aload 4, 2) := by decide +kernel
theorem d_Mo_write_323 : decode b_Mo_write 323 = .ok (.iload 6, 2) := by decide +kernel
theorem d_Mo_write_325 : decode b_Mo_write 325 = .ok (.iaload, 1) := by decide +kernel
theorem d_Mo_write_326 : decode b_Mo_write 326 = .ok (.invokevirtual 170, 3) := by decide +kernel
theorem d_Mo_write_329 : decode b_Mo_write 329 = .ok (.iinc 6 1, 3) := by decide +kernel
theorem d_Mo_write_332 : decode b_Mo_write 332 = .ok (.goto (-18), 3) := by decide +kernel
theorem d_Mo_write_335 : decode b_Mo_write 335 = .ok (.aload_n 0, 1) := by decide +kernel
theorem d_Mo_write_336 : decode b_Mo_write 336 = .ok (.iload 5, 2) := by decide +kernel
theorem d_Mo_write_338 : decode b_Mo_write 338 = .ok (.putfield 153, 3) := by decide +kernel
theorem d_Mo_write_341 : decode b_Mo_write 341 = .ok (.aload_n 0, 1) := by decide +kernel
theorem d_Mo_write_342 : decode b_Mo_write 342 = .ok (.getfield 153, 3) := by decide +kernel
theorem d_Mo_write_345 : decode b_Mo_write 345 = .ok (.ireturn, 1) := by decide +kernel
set_option maxHeartbeats 4000000 in
set_option maxRecDepth 100000 in
/-- the reference: put -/
theorem m_Mo_putX (l : Launch) (D9 : va_G) (cB cI cJ cG : ClassId) (a : Nat → Nat) (O : Nat → Int64) (I : Nat → Int32) (F : Nat → Nat → Int32) (L : List Nat) (x : Int32) (hBL : BR 0 131200 (F 44) L) (hLl : I 28 = nI L.length) (hLb : L.length < 131200) : MC l D9 cB cI cJ cG a O y_Mo_put b_Mo_put 2 (none) 0 [.ref (a 33), .int (x)] I F (fun v I' F' => v = none ∧ sm [28] I I' ∧ I' 28 = nI (L.length + 1) ∧ sm [44] F F' ∧ BR 0 131200 (F' 44) (L ++ [ub x]) ∧ ∀ j, L.length + 1 ≤ j → F' 44 j = F 44 j) := by
  refine mc_ofv (by decide) (Nat.le_of_ble_eq_true rfl) ?_
  intro p e s m below meth c ls A0 Q C0 hP hD hA hS hl hret
  obtain ⟨hx, hb, hml, hr, hlocks, hown, hts, hK⟩ := id C0
  have hl : lv_has ls 2 [(0, .ref (a 33)), (1, .int (x))] := hl
  refine lv_aload_n hx hb d_Mo_put_0 rfl (lv_at hl 0 rfl) ?_
  refine va_get (D := D9) (ci := 7) (C := R_Mo) (T := F_Mo) (N := 30) hx hb hts i_Mo hown hK hP 33 ww_33 rfl 23 (by decide) (hts _ g_745) (fun _ h9 => h9) rfl d_Mo_put_1 ?_
  refine lv_aload_n hx hb d_Mo_put_4 rfl (lv_at hl 0 rfl) ?_
  refine va_get (D := D9) (ci := 7) (C := R_Mo) (T := F_Mo) (N := 30) hx hb hts i_Mo hown hK hP 33 ww_33 rfl 24 (by decide) (hts _ g_746) (fun _ h9 => h9) rfl d_Mo_put_5 ?_
  refine lv_topq (y := nI L.length) (hLl) ?_
  refine lv_iload_n hx hb d_Mo_put_8 rfl (lv_at hl 1 rfl) ?_
  refine lv_i2b hx hb d_Mo_put_9 rfl ?_
  refine va_bast (D := D9) hx hb hK hP hD hS 44 0 ww_44 rfl (vp_in_nI (by omega) (by decide)) d_Mo_put_10 (fun H locs hP hD hS => ?_)
  obtain ⟨F1, aF1, sF1, hP, hD⟩ := fx (P := fun z => va_P D9 cls9 (WW a cB cI cJ cG _ z O) H ∧ va_D A0 (WW a cB cI cJ cG _ z O)) ⟨wpa_44 hP, wda_44 hD⟩
  rw [nI_clamp (by omega)] at aF1
  refine lv_aload_n hx hb d_Mo_put_11 rfl (lv_at hl 0 rfl) ?_
  refine lv_dup hx hb d_Mo_put_12 rfl ?_
  refine va_get (D := D9) (ci := 7) (C := R_Mo) (T := F_Mo) (N := 30) hx hb hts i_Mo hown hK hP 33 ww_33 rfl 24 (by decide) (hts _ g_746) (fun _ h9 => h9) rfl d_Mo_put_13 ?_
  refine lv_topq (y := nI L.length) (hLl) ?_
  refine lv_iconst (v := 1) hx hb d_Mo_put_16 (by decide) ?_
  refine lv_topq (y := nI 1) (rfl) ?_
  refine lv_iadd hx hb d_Mo_put_17 ?_
  refine lv_topq (y := nI (L.length + 1)) (nI_add _ _) ?_
  refine va_put (D := D9) (ty := .int) (ci := 7) (C := R_Mo) (T := F_Mo) (N := 30) hx hb hts i_Mo t_Mo t_Mo_ok n_Mo hown hK hP hD hS 33 ww_33 rfl 24 (by decide) (hts _ g_746) (fun _ h9 => h9) rfl (by decide +kernel) rfl rfl (Nat.le_of_ble_eq_true rfl) d_Mo_put_18 (fun H locs hP hD hS => ?_)
  obtain ⟨I2, aI2, sI2, hP, hD⟩ := fx (P := fun z => va_P D9 cls9 (WW a cB cI cJ cG z _ O) H ∧ va_D A0 (WW a cB cI cJ cG z _ O)) ⟨wp_28 hP, wd_28 hD⟩
  exact hret _ _ _ _ _ _ hS hP hD d_Mo_put_21 (⟨rfl, (sm_mo sI2 (by decide)), aI2, (sm_mo sF1 (by decide)), BR_eq (BR_putb hBL rfl rfl) aF1, fun j hj => by rw [aF1, pk_un (by omega)]⟩)
set_option maxHeartbeats 4000000 in
set_option maxRecDepth 100000 in
/-- the reference: putTwo -/
theorem m_Mo_putTwoX (l : Launch) (D9 : va_G) (cB cI cJ cG : ClassId) (a : Nat → Nat) (O : Nat → Int64) (I : Nat → Int32) (F : Nat → Nat → Int32) (L : List Nat) (x : Int32) (hBL : BR 0 131200 (F 44) L) (hLl : I 28 = nI L.length) (hLb : L.length < 131199) : MC l D9 cB cI cJ cG a O y_Mo_putTwo b_Mo_putTwo 2 (none) 1 [.ref (a 33), .int (x)] I F (fun v I' F' => v = none ∧ sm [28] I I' ∧ I' 28 = nI (L.length + 2) ∧ sm [44] F F' ∧ BR 0 131200 (F' 44) (L ++ b2 (un x)) ∧ ∀ j, L.length + 2 ≤ j → F' 44 j = F 44 j) := by
  refine mc_ofv (by decide) (Nat.le_of_ble_eq_true rfl) ?_
  intro p e s m below meth c ls A0 Q C0 hP hD hA hS hl hret
  obtain ⟨hx, hb, hml, hr, hlocks, hown, hts, hK⟩ := id C0
  have hl : lv_has ls 2 [(0, .ref (a 33)), (1, .int (x))] := hl
  refine lv_aload_n hx hb d_Mo_putTwo_0 rfl (lv_at hl 0 rfl) ?_
  refine lv_iload_n hx hb d_Mo_putTwo_1 rfl (lv_at hl 1 rfl) ?_
  refine lv_bipush (v := 8) hx hb d_Mo_putTwo_2 (by decide) ?_
  refine lv_topq (y := nI 8) (rfl) ?_
  refine lv_ishr hx hb d_Mo_putTwo_4 ?_
  refine lv_topq (y := x >>> (nI 8 &&& 31)) (rfl) ?_
  refine mw_cV (ci := 7) (k := 33) C0 (m_Mo_putX l D9 cB cI cJ cG a O _ _ L (x >>> (nI 8 &&& 31)) hBL hLl (by omega)) g_930 g_8 g_927 g_929 gs_Mo_put ⟨by decide +kernel, by decide +kernel, show Option.map (fun d => d.parameters.length) (parseMethodDescriptor y_Mo_put.desc) = some 1 by decide +kernel⟩ ⟨by decide, by decide⟩ rfl rfl hP hD hS hA rfl ww_33 hl.1 (Nat.le_of_ble_eq_true rfl) rfl d_Mo_putTwo_5 ⟨by decide, by decide⟩ (fun v9 w9 H locs hq hP hD hS => ?_)
  obtain ⟨I1, F2, hw9, q3⟩ := hq
  subst hw9
  obtain ⟨rfl, spa, za, sqa, wa, fa⟩ := q3
  refine lv_aload_n hx hb d_Mo_putTwo_8 rfl (lv_at hl 0 rfl) ?_
  refine lv_iload_n hx hb d_Mo_putTwo_9 rfl (lv_at hl 1 rfl) ?_
  refine mw_cV (ci := 7) (k := 33) C0 (m_Mo_putX l D9 cB cI cJ cG a O _ _ (L ++ [ub (x >>> (nI 8 &&& 31))]) x wa (za.trans (congrArg nI (by simp))) (by rw [List.length_append, List.length_singleton]; omega)) g_930 g_8 g_927 g_929 gs_Mo_put ⟨by decide +kernel, by decide +kernel, show Option.map (fun d => d.parameters.length) (parseMethodDescriptor y_Mo_put.desc) = some 1 by decide +kernel⟩ ⟨by decide, by decide⟩ rfl rfl hP hD hS hA rfl ww_33 hl.1 (Nat.le_of_ble_eq_true rfl) rfl d_Mo_putTwo_10 ⟨by decide, by decide⟩ (fun v9 w9 H locs hq hP hD hS => ?_)
  obtain ⟨I4, F5, hw9, q6⟩ := hq
  subst hw9
  obtain ⟨rfl, spb, zb, sqb, wb, fb⟩ := q6
  exact hret _ _ _ _ _ _ hS hP hD d_Mo_putTwo_13 (⟨rfl, (sm_tr (sm_mo spa (by decide)) (sm_mo spb (by decide))), (zb.trans (congrArg nI (by simp))), (sm_tr (sm_mo sqa (by decide)) (sm_mo sqb (by decide))), (by have z9 := wb; rw [ub_s8, List.append_assoc] at z9; exact z9), fun j hj => (fb j (by rw [List.length_append, List.length_singleton]; omega)).trans (fa j (by omega))⟩)
set_option maxHeartbeats 4000000 in
set_option maxRecDepth 100000 in
/-- the reference: write -/
theorem m_Mo_write (l : Launch) (D9 : va_G) (cB cI cJ cG : ClassId) (a : Nat → Nat) (O : Nat → Int64) (I : Nat → Int32) (F : Nat → Nat → Int32) (es : List En9) (hR : MoR F es) (h18 : I 18 = nI es.length) (hO : okE es) (x : Int32) (id9 fg : Nat) (hEk : ∀ r e, es[r]? = some e → eOk (fl es) (of9 es r) e) (h19 : I 19 = nI id9) (h20 : I 20 = nI fg) (hid : id9 < 65536) (hfg : fg < 65536) (hF44 : sb_Fit (F 44)) : MC l D9 cB cI cJ cG a O y_Mo_write b_Mo_write 10 (some .int) 5 [.ref (a 33), .int (x)] I F (fun v I' F' => ((∀ lim : Nat, 12 ≤ lim → lim ≤ 65535 → x ≠ nI lim) ∧ (∃ u : Int32, v = some (.int u)) ∧ sm [15] I I' ∧ I' 15 = nI 1 ∧ F = F') ∨ (∃ lim : Nat, 12 ≤ lim ∧ lim ≤ 65535 ∧ x = nI lim ∧ ((lim < 12 + mu3 (fil 3 es) ∧ (∃ u : Int32, v = some (.int u)) ∧ sm [15] I I' ∧ I' 15 = nI 2 ∧ F = F') ∨ (12 + mu3 (fil 3 es) ≤ lim ∧ v = some (.int (nI (wMs es id9 fg lim).length)) ∧ sm [15, 28, 29, 30] I I' ∧ I' 15 = nI 0 ∧ I' 28 = nI (wMs es id9 fg lim).length ∧ I' 29 = nI (wIt es lim 4).2.2.1 ∧ sm [44, 45, 46, 47] F F' ∧ BR 0 131200 (F' 44) (wMs es id9 fg lim))))) := by
  refine mc_of (by decide) (Nat.le_of_ble_eq_true rfl) ?_
  intro p e s m below meth c ls A0 Q C0 hP hD hA hS hl hret
  obtain ⟨hx, hb, hml, hr, hlocks, hown, hts, hK⟩ := id C0
  have hl : lv_has ls 10 [(0, .ref (a 33)), (1, .int (x))] := hl
  have k0 := hO.1; have k1 := hO.2.1; have k2 := hO.2.2.1
  have hmb := mu3_bd hO
  have hln := okE_len hO
  rcases pk_ix x (n := 65536) (by decide) with h9 | h9 | ⟨lim, hlim, rfl⟩
  · have hbad : ∀ lim : Nat, 12 ≤ lim → lim ≤ 65535 → x ≠ nI lim := fun lim _ h2 z9 => by rw [z9] at h9; exact nI_pos (by omega) h9
    refine lv_aload_n hx hb d_Mo_write_0 rfl (lv_at hl 0 rfl) ?_
    refine lv_iconst (v := 0) hx hb d_Mo_write_1 (by decide) ?_
    refine lv_topq (y := nI 0) (rfl) ?_
    refine va_put (D := D9) (ty := .int) (ci := 7) (C := R_Mo) (T := F_Mo) (N := 30) hx hb hts i_Mo t_Mo t_Mo_ok n_Mo hown hK hP hD hS 33 ww_33 rfl 0 (by decide) (hts _ g_722) (fun _ h9 => h9) rfl (by decide +kernel) rfl rfl (Nat.le_of_ble_eq_true rfl) d_Mo_write_2 (fun H locs hP hD hS => ?_)
    obtain ⟨I1, aI1, sI1, hP, hD⟩ := fx (P := fun z => va_P D9 cls9 (WW a cB cI cJ cG z _ O) H ∧ va_D A0 (WW a cB cI cJ cG z _ O)) ⟨wp_15 hP, wd_15 hD⟩
    refine lv_iload_n hx hb d_Mo_write_5 rfl (lv_at hl 1 rfl) ?_
    refine lv_bipush (v := 12) hx hb d_Mo_write_6 (by decide) ?_
    refine lv_topq (y := nI 12) (rfl) ?_
    refine lv_icmp_lt (tgt := 17) hx hb d_Mo_write_8 (by decide) (fun c2 => ?_) (fun c2 => ?_)
    · refine lv_aload_n hx hb d_Mo_write_17 rfl (lv_at hl 0 rfl) ?_
      refine lv_iconst (v := 1) hx hb d_Mo_write_18 (by decide) ?_
      refine lv_topq (y := nI 1) (rfl) ?_
      refine mw_cV (ci := 7) (k := 33) C0 (m_Mo_fail l D9 cB cI cJ cG a O _ _ (nI 1)) g_873 g_8 g_870 g_872 gs_Mo_fail ⟨by decide +kernel, by decide +kernel, show Option.map (fun d => d.parameters.length) (parseMethodDescriptor y_Mo_fail.desc) = some 1 by decide +kernel⟩ ⟨by decide, by decide⟩ rfl rfl hP hD hS hA rfl ww_33 hl.1 (Nat.le_of_ble_eq_true rfl) rfl d_Mo_write_19 ⟨by decide, by decide⟩ (fun v9 w9 H locs hq hP hD hS => ?_)
      obtain ⟨I3, F4, hw9, q5⟩ := hq
      subst hw9
      obtain ⟨rfl, sI3, zI3, rfl⟩ := q5
      exact hret _ _ _ _ _ _ _ hS hP hD d_Mo_write_22 nr_i (Or.inl ⟨hbad, ⟨_, rfl⟩, (sm_tr (sm_mo sI1 (by decide)) (sm_mo sI3 (by decide))), zI3, rfl⟩)
    · exact absurd (Int32.lt_trans h9 (show (0 : Int32) < nI 12 by decide)) c2
  · have hbad : ∀ lim : Nat, 12 ≤ lim → lim ≤ 65535 → x ≠ nI lim := fun lim _ h2 z9 => by rw [z9] at h9; exact nI_ge (b := 65536) (by omega) (by decide) h9
    refine lv_aload_n hx hb d_Mo_write_0 rfl (lv_at hl 0 rfl) ?_
    refine lv_iconst (v := 0) hx hb d_Mo_write_1 (by decide) ?_
    refine lv_topq (y := nI 0) (rfl) ?_
    refine va_put (D := D9) (ty := .int) (ci := 7) (C := R_Mo) (T := F_Mo) (N := 30) hx hb hts i_Mo t_Mo t_Mo_ok n_Mo hown hK hP hD hS 33 ww_33 rfl 0 (by decide) (hts _ g_722) (fun _ h9 => h9) rfl (by decide +kernel) rfl rfl (Nat.le_of_ble_eq_true rfl) d_Mo_write_2 (fun H locs hP hD hS => ?_)
    obtain ⟨I6, aI6, sI6, hP, hD⟩ := fx (P := fun z => va_P D9 cls9 (WW a cB cI cJ cG z _ O) H ∧ va_D A0 (WW a cB cI cJ cG z _ O)) ⟨wp_15 hP, wd_15 hD⟩
    refine lv_iload_n hx hb d_Mo_write_5 rfl (lv_at hl 1 rfl) ?_
    refine lv_bipush (v := 12) hx hb d_Mo_write_6 (by decide) ?_
    refine lv_topq (y := nI 12) (rfl) ?_
    refine lv_icmp_lt (tgt := 17) hx hb d_Mo_write_8 (by decide) (fun c7 => ?_) (fun c7 => ?_)
    · exact absurd (Int32.lt_of_le_of_lt (Int32.le_trans (show nI 12 ≤ nI 65536 by decide) h9) c7) (by simp)
    · refine lv_iload_n hx hb d_Mo_write_11 rfl (lv_at hl 1 rfl) ?_
      refine lv_ldc hx hb hown (hts _ g_882) d_Mo_write_12 ?_
      refine lv_topq (y := nI 65535) (rfl) ?_
      refine lv_icmp_le (tgt := 23) hx hb d_Mo_write_14 (by decide) (fun c8 => ?_) (fun c8 => ?_)
      · exact absurd (Int32.lt_of_le_of_lt c8 (show nI 65535 < nI 65536 by decide)) (Int32.not_lt.mpr h9)
      · refine lv_aload_n hx hb d_Mo_write_17 rfl (lv_at hl 0 rfl) ?_
        refine lv_iconst (v := 1) hx hb d_Mo_write_18 (by decide) ?_
        refine lv_topq (y := nI 1) (rfl) ?_
        refine mw_cV (ci := 7) (k := 33) C0 (m_Mo_fail l D9 cB cI cJ cG a O _ _ (nI 1)) g_873 g_8 g_870 g_872 gs_Mo_fail ⟨by decide +kernel, by decide +kernel, show Option.map (fun d => d.parameters.length) (parseMethodDescriptor y_Mo_fail.desc) = some 1 by decide +kernel⟩ ⟨by decide, by decide⟩ rfl rfl hP hD hS hA rfl ww_33 hl.1 (Nat.le_of_ble_eq_true rfl) rfl d_Mo_write_19 ⟨by decide, by decide⟩ (fun v9 w9 H locs hq hP hD hS => ?_)
        obtain ⟨I9, F10, hw9, q11⟩ := hq
        subst hw9
        obtain ⟨rfl, sI9, zI9, rfl⟩ := q11
        exact hret _ _ _ _ _ _ _ hS hP hD d_Mo_write_22 nr_i (Or.inl ⟨hbad, ⟨_, rfl⟩, (sm_tr (sm_mo sI6 (by decide)) (sm_mo sI9 (by decide))), zI9, rfl⟩)
  · refine lv_aload_n hx hb d_Mo_write_0 rfl (lv_at hl 0 rfl) ?_
    refine lv_iconst (v := 0) hx hb d_Mo_write_1 (by decide) ?_
    refine lv_topq (y := nI 0) (rfl) ?_
    refine va_put (D := D9) (ty := .int) (ci := 7) (C := R_Mo) (T := F_Mo) (N := 30) hx hb hts i_Mo t_Mo t_Mo_ok n_Mo hown hK hP hD hS 33 ww_33 rfl 0 (by decide) (hts _ g_722) (fun _ h9 => h9) rfl (by decide +kernel) rfl rfl (Nat.le_of_ble_eq_true rfl) d_Mo_write_2 (fun H locs hP hD hS => ?_)
    obtain ⟨I12, aI12, sI12, hP, hD⟩ := fx (P := fun z => va_P D9 cls9 (WW a cB cI cJ cG z _ O) H ∧ va_D A0 (WW a cB cI cJ cG z _ O)) ⟨wp_15 hP, wd_15 hD⟩
    refine lv_iload_n hx hb d_Mo_write_5 rfl (lv_at hl 1 rfl) ?_
    refine lv_bipush (v := 12) hx hb d_Mo_write_6 (by decide) ?_
    refine lv_topq (y := nI 12) (rfl) ?_
    refine lv_icmp_lt (tgt := 17) hx hb d_Mo_write_8 (by decide) (fun c13 => ?_) (fun c13 => ?_)
    · have c13 : lim < 12 := (nI_ltI (a := lim) (b := 12) (by omega) (by omega)).mp c13
      have hbad : ∀ l9 : Nat, 12 ≤ l9 → l9 ≤ 65535 → nI lim ≠ nI l9 := fun l9 h1 h2 z9 => by have := (nI_eq (a := lim) (b := l9) (by omega) (by omega)).mp z9; omega
      refine lv_aload_n hx hb d_Mo_write_17 rfl (lv_at hl 0 rfl) ?_
      refine lv_iconst (v := 1) hx hb d_Mo_write_18 (by decide) ?_
      refine lv_topq (y := nI 1) (rfl) ?_
      refine mw_cV (ci := 7) (k := 33) C0 (m_Mo_fail l D9 cB cI cJ cG a O _ _ (nI 1)) g_873 g_8 g_870 g_872 gs_Mo_fail ⟨by decide +kernel, by decide +kernel, show Option.map (fun d => d.parameters.length) (parseMethodDescriptor y_Mo_fail.desc) = some 1 by decide +kernel⟩ ⟨by decide, by decide⟩ rfl rfl hP hD hS hA rfl ww_33 hl.1 (Nat.le_of_ble_eq_true rfl) rfl d_Mo_write_19 ⟨by decide, by decide⟩ (fun v9 w9 H locs hq hP hD hS => ?_)
      obtain ⟨I14, F15, hw9, q16⟩ := hq
      subst hw9
      obtain ⟨rfl, sI14, zI14, rfl⟩ := q16
      exact hret _ _ _ _ _ _ _ hS hP hD d_Mo_write_22 nr_i (Or.inl ⟨hbad, ⟨_, rfl⟩, (sm_tr (sm_mo sI12 (by decide)) (sm_mo sI14 (by decide))), zI14, rfl⟩)
    · have c13 : ¬ (lim < 12) := fun z9 => c13 ((nI_ltI (a := lim) (b := 12) (by omega) (by omega)).mpr z9)
      refine lv_iload_n hx hb d_Mo_write_11 rfl (lv_at hl 1 rfl) ?_
      refine lv_ldc hx hb hown (hts _ g_882) d_Mo_write_12 ?_
      refine lv_topq (y := nI 65535) (rfl) ?_
      refine lv_icmp_le (tgt := 23) hx hb d_Mo_write_14 (by decide) (fun c17 => ?_) (fun c17 => ?_)
      · have c17 : lim ≤ 65535 := (nI_leI (a := lim) (b := 65535) (by omega) (by omega)).mp c17
        refine lv_iconst (v := 0) hx hb d_Mo_write_23 (by decide) ?_
        refine lv_topq (y := nI 0) (rfl) ?_
        refine lv_istore_n (lv' := [(2, _), (0, _), (1, _)]) hx hb d_Mo_write_24 rfl hl (by decide) rfl (fun ls hl => ?_)
        refine lv_iconst (v := 0) hx hb d_Mo_write_25 (by decide) ?_
        refine lv_topq (y := nI 0) (rfl) ?_
        refine lv_istore_n (lv' := [(3, _), (2, _), (0, _), (1, _)]) hx hb d_Mo_write_26 rfl hl (by decide) rfl (fun ls hl => ?_)
        have loopA : ∀ (nc : Nat) (k : Nat) (H : Heap) (locs : List Loc) (ls : Array Slot), (es.length - k = nc) → (k ≤ es.length) → va_P D9 cls9 (WW a cB cI cJ cG I12 F O) H → va_D A0 (WW a cB cI cJ cG I12 F O) → va_S A0 s.heap H locs → lv_has ls 10 [(0, .ref (a 33)), (1, .int (nI lim)), (2, .int (nI (mu3 (fil 3 (es.take k))))), (3, .int (nI k))] → W p l e (rm9 5 0 0) s m ([.ref (a 33), .int (nI lim)] : List Value).toArray below meth c H locs 0 0 Q (F0 m 27 ls []) := by
          intro nc
          induction nc using Nat.strongRecOn with
          | ind nc ihc =>
            intro k H locs ls hnc hk hP hD hS hl
            refine lv_iload_n hx hb d_Mo_write_27 rfl (lv_at hl 3 rfl) ?_
            refine lv_aload_n hx hb d_Mo_write_28 rfl (lv_at hl 0 rfl) ?_
            refine va_get (D := D9) (ci := 7) (C := R_Mo) (T := F_Mo) (N := 30) hx hb hts i_Mo hown hK hP 33 ww_33 rfl 5 (by decide) (hts _ g_727) (fun _ h9 => h9) rfl d_Mo_write_29 ?_
            refine lv_topq (y := nI es.length) (((sI12 18 (by decide)).trans h18)) ?_
            refine lv_icmp_ge (tgt := 61) hx hb d_Mo_write_32 (by decide) (fun c18 => ?_) (fun c18 => ?_)
            · have c18 : es.length ≤ k := (nI_leI (a := es.length) (b := k) (by omega) (by omega)).mp c18
              have hke : k = es.length := by omega
              rw [hke, List.take_length] at hl
              refine lv_bipush (v := 12) hx hb d_Mo_write_61 (by decide) ?_
              refine lv_topq (y := nI 12) (rfl) ?_
              refine lv_iload_n hx hb d_Mo_write_63 rfl (lv_at hl 2 rfl) ?_
              refine lv_iadd hx hb d_Mo_write_64 ?_
              refine lv_topq (y := nI (12 + (mu3 (fil 3 es)))) (nI_add _ _) ?_
              refine lv_iload_n hx hb d_Mo_write_65 rfl (lv_at hl 1 rfl) ?_
              refine lv_icmp_le (tgt := 75) hx hb d_Mo_write_66 (by decide) (fun c19 => ?_) (fun c19 => ?_)
              · have c19 : 12 + (mu3 (fil 3 es)) ≤ lim := (nI_leI (a := 12 + (mu3 (fil 3 es))) (b := lim) (by omega) (by omega)).mp c19
                refine lv_aload_n hx hb d_Mo_write_75 rfl (lv_at hl 0 rfl) ?_
                refine lv_bipush (v := 12) hx hb d_Mo_write_76 (by decide) ?_
                refine lv_topq (y := nI 12) (rfl) ?_
                refine va_put (D := D9) (ty := .int) (ci := 7) (C := R_Mo) (T := F_Mo) (N := 30) hx hb hts i_Mo t_Mo t_Mo_ok n_Mo hown hK hP hD hS 33 ww_33 rfl 24 (by decide) (hts _ g_746) (fun _ h9 => h9) rfl (by decide +kernel) rfl rfl (Nat.le_of_ble_eq_true rfl) d_Mo_write_78 (fun H locs hP hD hS => ?_)
                obtain ⟨I20, aI20, sI20, hP, hD⟩ := fx (P := fun z => va_P D9 cls9 (WW a cB cI cJ cG z _ O) H ∧ va_D A0 (WW a cB cI cJ cG z _ O)) ⟨wp_28 hP, wd_28 hD⟩
                refine lv_aload_n hx hb d_Mo_write_81 rfl (lv_at hl 0 rfl) ?_
                refine lv_iconst (v := 0) hx hb d_Mo_write_82 (by decide) ?_
                refine lv_topq (y := nI 0) (rfl) ?_
                refine va_put (D := D9) (ty := .int) (ci := 7) (C := R_Mo) (T := F_Mo) (N := 30) hx hb hts i_Mo t_Mo t_Mo_ok n_Mo hown hK hP hD hS 33 ww_33 rfl 28 (by decide) (hts _ g_750) (fun _ h9 => h9) rfl (by decide +kernel) rfl rfl (Nat.le_of_ble_eq_true rfl) d_Mo_write_83 (fun H locs hP hD hS => ?_)
                obtain ⟨I21, aI21, sI21, hP, hD⟩ := fx (P := fun z => va_P D9 cls9 (WW a cB cI cJ cG z _ O) H ∧ va_D A0 (WW a cB cI cJ cG z _ O)) ⟨wp_30 hP, wd_30 hD⟩
                refine lv_aload_n hx hb d_Mo_write_86 rfl (lv_at hl 0 rfl) ?_
                refine lv_iconst (v := 0) hx hb d_Mo_write_87 (by decide) ?_
                refine lv_topq (y := nI 0) (rfl) ?_
                refine va_put (D := D9) (ty := .int) (ci := 7) (C := R_Mo) (T := F_Mo) (N := 30) hx hb hts i_Mo t_Mo t_Mo_ok n_Mo hown hK hP hD hS 33 ww_33 rfl 25 (by decide) (hts _ g_747) (fun _ h9 => h9) rfl (by decide +kernel) rfl rfl (Nat.le_of_ble_eq_true rfl) d_Mo_write_88 (fun H locs hP hD hS => ?_)
                obtain ⟨I22, aI22, sI22, hP, hD⟩ := fx (P := fun z => va_P D9 cls9 (WW a cB cI cJ cG z _ O) H ∧ va_D A0 (WW a cB cI cJ cG z _ O)) ⟨wp_29 hP, wd_29 hD⟩
                refine lv_iconst (v := 0) hx hb d_Mo_write_91 (by decide) ?_
                refine lv_topq (y := nI 0) (rfl) ?_
                refine lv_istore_n (lv' := [(3, _), (0, _), (1, _), (2, _)]) hx hb d_Mo_write_92 rfl hl (by decide) rfl (fun ls hl => ?_)
                refine lv_aload_n hx hb d_Mo_write_93 rfl (lv_at hl 1 rfl) ?_
                refine va_get (D := D9) (ci := 7) (C := R_Mo) (T := F_Mo) (N := 30) hx hb hts i_Mo hown hK hP 33 ww_33 rfl 29 (by decide) (hts _ g_751) (fun _ h9 => h9) rfl d_Mo_write_94 ?_
                refine lv_astore (lv' := [(4, _), (3, _), (0, _), (1, _), (2, _)]) hx hb d_Mo_write_97 hl (by decide) rfl (fun ls hl => ?_)
                refine lv_iconst (v := 0) hx hb d_Mo_write_99 (by decide) ?_
                refine lv_topq (y := nI 0) (rfl) ?_
                refine lv_istore (lv' := [(5, _), (4, _), (3, _), (0, _), (1, _), (2, _)]) hx hb d_Mo_write_100 hl (by decide) rfl (fun ls hl => ?_)
                obtain ⟨X, hX, hBX⟩ := BR_12b hF44
                have loopS : ∀ (ns : Nat) (sc : Nat) (B : List Nat) (E : List (Nat × Nat)) (pt : Nat) (cut : Bool) (still : Nat) (n : Nat) (Is : Nat → Int32) (Fs : Nat → Nat → Int32) (H : Heap) (locs : List Loc) (ls : Array Slot), (sm [28, 29, 30] I22 Is) → (sm [44, 45, 46, 47] F Fs) → (4 - sc = ns) → (sc ≤ 4) → (∀ i, i < sc → Fs 47 i = nI (wCn es lim i)) → (wIt es lim sc = (B, E, pt, cut, still, n)) → (sc ≤ 3 → still = mu3 (fil 3 es)) → (12 + B.length + still ≤ lim) → (BR 0 131200 (Fs 44) (X ++ B)) → (Is 28 = nI (12 + B.length)) → (MeR Fs E) → (Is 30 = nI E.length) → (wW (fl es) B E) → (Is 29 = nI pt) → va_P D9 cls9 (WW a cB cI cJ cG Is Fs O) H → va_D A0 (WW a cB cI cJ cG Is Fs O) → va_S A0 s.heap H locs → lv_has ls 10 [(0, .ref (a 33)), (1, .int (nI lim)), (2, .int (nI still)), (3, .int (bI cut)), (4, .ref (a 47)), (5, .int (nI sc))] → W p l e (rm9 5 0 0) s m ([.ref (a 33), .int (nI lim)] : List Value).toArray below meth c H locs 0 0 Q (F0 m 102 ls []) := by
                  intro ns
                  induction ns using Nat.strongRecOn with
                  | ind ns ihs =>
                    intro sc B E pt cut still n Is Fs H locs ls hsIs hsFs hns hsc hcn hst hsl hfit hM k28 hE2 k30 hW k29 hP hD hS hl
                    refine lv_iload hx hb d_Mo_write_102 (lv_at hl 5 rfl) ?_
                    refine lv_iconst (v := 4) hx hb d_Mo_write_104 (by decide) ?_
                    refine lv_topq (y := nI 4) (rfl) ?_
                    refine lv_icmp_ge (tgt := 269) hx hb d_Mo_write_105 (by decide) (fun c23 => ?_) (fun c23 => ?_)
                    · have c23 : 4 ≤ sc := (nI_leI (a := 4) (b := sc) (by omega) (by omega)).mp c23
                      have hs4 : sc = 4 := by omega
                      rw [hs4] at hst hcn
                      refine lv_aload_n hx hb d_Mo_write_269 rfl (lv_at hl 0 rfl) ?_
                      refine va_get (D := D9) (ci := 7) (C := R_Mo) (T := F_Mo) (N := 30) hx hb hts i_Mo hown hK hP 33 ww_33 rfl 24 (by decide) (hts _ g_746) (fun _ h9 => h9) rfl d_Mo_write_270 ?_
                      refine lv_topq (y := nI (12 + B.length)) (k28) ?_
                      refine lv_istore (lv' := [(5, _), (0, _), (1, _), (2, _), (3, _), (4, _)]) hx hb d_Mo_write_273 hl (by decide) rfl (fun ls hl => ?_)
                      refine lv_aload_n hx hb d_Mo_write_275 rfl (lv_at hl 1 rfl) ?_
                      refine lv_iconst (v := 0) hx hb d_Mo_write_276 (by decide) ?_
                      refine lv_topq (y := nI 0) (rfl) ?_
                      refine va_put (D := D9) (ty := .int) (ci := 7) (C := R_Mo) (T := F_Mo) (N := 30) hx hb hts i_Mo t_Mo t_Mo_ok n_Mo hown hK hP hD hS 33 ww_33 rfl 24 (by decide) (hts _ g_746) (fun _ h9 => h9) rfl (by decide +kernel) rfl rfl (Nat.le_of_ble_eq_true rfl) d_Mo_write_277 (fun H locs hP hD hS => ?_)
                      obtain ⟨I24, aI24, sI24, hP, hD⟩ := fx (P := fun z => va_P D9 cls9 (WW a cB cI cJ cG z _ O) H ∧ va_D A0 (WW a cB cI cJ cG z _ O)) ⟨wp_28 hP, wd_28 hD⟩
                      refine lv_aload_n hx hb d_Mo_write_280 rfl (lv_at hl 1 rfl) ?_
                      refine lv_aload_n hx hb d_Mo_write_281 rfl (lv_at hl 1 rfl) ?_
                      refine va_get (D := D9) (ci := 7) (C := R_Mo) (T := F_Mo) (N := 30) hx hb hts i_Mo hown hK hP 33 ww_33 rfl 6 (by decide) (hts _ g_728) (fun _ h9 => h9) rfl d_Mo_write_282 ?_
                      refine lv_topq (y := nI id9) (((sI24 19 (by decide)).trans ((hsIs 19 (by decide)).trans ((sI22 19 (by decide)).trans ((sI21 19 (by decide)).trans ((sI20 19 (by decide)).trans ((sI12 19 (by decide)).trans h19))))))) ?_
                      refine mw_cV (ci := 7) (k := 33) C0 (m_Mo_putTwoX l D9 cB cI cJ cG a O _ _ (([] : List Nat)) (nI id9) (BR_nil hM.1) aI24 (by decide)) g_935 g_8 g_932 g_934 gs_Mo_putTwo ⟨by decide +kernel, by decide +kernel, show Option.map (fun d => d.parameters.length) (parseMethodDescriptor y_Mo_putTwo.desc) = some 1 by decide +kernel⟩ ⟨by decide, by decide⟩ rfl rfl hP hD hS hA rfl ww_33 hl.1 (Nat.le_of_ble_eq_true rfl) rfl d_Mo_write_285 ⟨by decide, by decide⟩ (fun v9 w9 H locs hq hP hD hS => ?_)
                      obtain ⟨I25, F26, hw9, q27⟩ := hq
                      subst hw9
                      obtain ⟨rfl, sh0, zh0, sg0, wh0, fh0⟩ := q27
                      rw [un_nI (by omega)] at wh0
                      rw [List.nil_append] at wh0
                      refine lv_aload_n hx hb d_Mo_write_288 rfl (lv_at hl 1 rfl) ?_
                      refine lv_iload_n hx hb d_Mo_write_289 rfl (lv_at hl 4 rfl) ?_
                      refine lv_if_eq (tgt := 304) hx hb d_Mo_write_290 (by decide) (fun c28 => ?_) (fun c28 => ?_)
                      · have c28 : cut = false := bI_f c28
                        have hor : fg < 65536 := hfg
                        have hff : wFl es fg lim = fg := by unfold wFl; rw [hst]; simp only; rw [if_neg (by rw [c28]; decide)]
                        have hcl0 : wCn es lim 0 < 65536 := wCn_lt hO 0
                        have hcl1 : wCn es lim 1 < 65536 := wCn_lt hO 1
                        have hcl2 : wCn es lim 2 < 65536 := wCn_lt hO 2
                        have hcl3 : wCn es lim 3 < 65536 := wCn_lt hO 3
                        refine lv_aload_n hx hb d_Mo_write_304 rfl (lv_at hl 1 rfl) ?_
                        refine va_get (D := D9) (ci := 7) (C := R_Mo) (T := F_Mo) (N := 30) hx hb hts i_Mo hown hK hP 33 ww_33 rfl 7 (by decide) (hts _ g_729) (fun _ h9 => h9) rfl d_Mo_write_305 ?_
                        refine lv_topq (y := nI fg) (((sh0 20 (by decide)).trans ((sI24 20 (by decide)).trans ((hsIs 20 (by decide)).trans ((sI22 20 (by decide)).trans ((sI21 20 (by decide)).trans ((sI20 20 (by decide)).trans ((sI12 20 (by decide)).trans h20)))))))) ?_
                        refine mw_cV (ci := 7) (k := 33) C0 (m_Mo_putTwoX l D9 cB cI cJ cG a O _ _ (b2 id9) (nI fg) wh0 zh0 (by show 2 < _; decide)) g_935 g_8 g_932 g_934 gs_Mo_putTwo ⟨by decide +kernel, by decide +kernel, show Option.map (fun d => d.parameters.length) (parseMethodDescriptor y_Mo_putTwo.desc) = some 1 by decide +kernel⟩ ⟨by decide, by decide⟩ rfl rfl hP hD hS hA rfl ww_33 hl.1 (Nat.le_of_ble_eq_true rfl) rfl d_Mo_write_308 ⟨by decide, by decide⟩ (fun v9 w9 H locs hq hP hD hS => ?_)
                        obtain ⟨I29, F30, hw9, q31⟩ := hq
                        subst hw9
                        obtain ⟨rfl, sh1, zh1, sg1, wh1, fh1⟩ := q31
                        rw [un_nI (by omega)] at wh1
                        refine lv_iconst (v := 0) hx hb d_Mo_write_311 (by decide) ?_
                        refine lv_topq (y := nI 0) (rfl) ?_
                        refine lv_istore (lv' := [(6, _), (5, _), (0, _), (1, _), (2, _), (3, _), (4, _)]) hx hb d_Mo_write_312 hl (by decide) rfl (fun ls hl => ?_)
                        refine lv_iload hx hb d_Mo_write_314 (lv_at hl 0 rfl) ?_
                        refine lv_iconst (v := 4) hx hb d_Mo_write_316 (by decide) ?_
                        refine lv_topq (y := nI 4) (rfl) ?_
                        refine lv_icmp_ge (tgt := 335) hx hb d_Mo_write_317 (by decide) (fun c32 => ?_) (fun c32 => ?_)
                        · exact absurd c32 (by decide)
                        · refine lv_aload_n hx hb d_Mo_write_320 rfl (lv_at hl 2 rfl) ?_
                          refine lv_aload hx hb d_Mo_write_321 (lv_at hl 6 rfl) ?_
                          refine lv_iload hx hb d_Mo_write_323 (lv_at hl 0 rfl) ?_
                          refine va_iald (D := D9) hx hb hK hP 47 1 ww_47 rfl (vp_in_nI (by omega) (by decide)) d_Mo_write_325 ?_
                          refine lv_topq (y := nI (wCn es lim 0)) (by rw [nI_clamp (by omega)]; exact ((congrFun (sg1 47 (by decide)) _).trans ((congrFun (sg0 47 (by decide)) _).trans (hcn 0 (by decide))))) ?_
                          refine mw_cV (ci := 7) (k := 33) C0 (m_Mo_putTwoX l D9 cB cI cJ cG a O _ _ (b2 id9 ++ b2 fg) (nI (wCn es lim 0)) wh1 zh1 (by show 4 < _; decide)) g_935 g_8 g_932 g_934 gs_Mo_putTwo ⟨by decide +kernel, by decide +kernel, show Option.map (fun d => d.parameters.length) (parseMethodDescriptor y_Mo_putTwo.desc) = some 1 by decide +kernel⟩ ⟨by decide, by decide⟩ rfl rfl hP hD hS hA rfl ww_33 hl.1 (Nat.le_of_ble_eq_true rfl) rfl d_Mo_write_326 ⟨by decide, by decide⟩ (fun v9 w9 H locs hq hP hD hS => ?_)
                          obtain ⟨I33, F34, hw9, q35⟩ := hq
                          subst hw9
                          obtain ⟨rfl, sh2, zh2, sg2, wh2, fh2⟩ := q35
                          rw [un_nI (by omega)] at wh2
                          refine lv_iinc (lv' := [(6, .int (nI 1)), (5, _), (0, _), (1, _), (2, _), (3, _), (4, _)]) hx hb d_Mo_write_329 hl (k := 0) rfl rfl (by decide) rfl (fun ls hl => ?_)
                          refine lv_goto (tgt := 314) hx hb d_Mo_write_332 (by decide) ?_
                          refine lv_iload hx hb d_Mo_write_314 (lv_at hl 0 rfl) ?_
                          refine lv_iconst (v := 4) hx hb d_Mo_write_316 (by decide) ?_
                          refine lv_topq (y := nI 4) (rfl) ?_
                          refine lv_icmp_ge (tgt := 335) hx hb d_Mo_write_317 (by decide) (fun c36 => ?_) (fun c36 => ?_)
                          · exact absurd c36 (by decide)
                          · refine lv_aload_n hx hb d_Mo_write_320 rfl (lv_at hl 2 rfl) ?_
                            refine lv_aload hx hb d_Mo_write_321 (lv_at hl 6 rfl) ?_
                            refine lv_iload hx hb d_Mo_write_323 (lv_at hl 0 rfl) ?_
                            refine va_iald (D := D9) hx hb hK hP 47 1 ww_47 rfl (vp_in_nI (by omega) (by decide)) d_Mo_write_325 ?_
                            refine lv_topq (y := nI (wCn es lim 1)) (by rw [nI_clamp (by omega)]; exact ((congrFun (sg2 47 (by decide)) _).trans ((congrFun (sg1 47 (by decide)) _).trans ((congrFun (sg0 47 (by decide)) _).trans (hcn 1 (by decide)))))) ?_
                            refine mw_cV (ci := 7) (k := 33) C0 (m_Mo_putTwoX l D9 cB cI cJ cG a O _ _ (b2 id9 ++ b2 fg ++ b2 (wCn es lim 0)) (nI (wCn es lim 1)) wh2 zh2 (by show 6 < _; decide)) g_935 g_8 g_932 g_934 gs_Mo_putTwo ⟨by decide +kernel, by decide +kernel, show Option.map (fun d => d.parameters.length) (parseMethodDescriptor y_Mo_putTwo.desc) = some 1 by decide +kernel⟩ ⟨by decide, by decide⟩ rfl rfl hP hD hS hA rfl ww_33 hl.1 (Nat.le_of_ble_eq_true rfl) rfl d_Mo_write_326 ⟨by decide, by decide⟩ (fun v9 w9 H locs hq hP hD hS => ?_)
                            obtain ⟨I37, F38, hw9, q39⟩ := hq
                            subst hw9
                            obtain ⟨rfl, sh3, zh3, sg3, wh3, fh3⟩ := q39
                            rw [un_nI (by omega)] at wh3
                            refine lv_iinc (lv' := [(6, .int (nI 2)), (5, _), (0, _), (1, _), (2, _), (3, _), (4, _)]) hx hb d_Mo_write_329 hl (k := 0) rfl rfl (by decide) rfl (fun ls hl => ?_)
                            refine lv_goto (tgt := 314) hx hb d_Mo_write_332 (by decide) ?_
                            refine lv_iload hx hb d_Mo_write_314 (lv_at hl 0 rfl) ?_
                            refine lv_iconst (v := 4) hx hb d_Mo_write_316 (by decide) ?_
                            refine lv_topq (y := nI 4) (rfl) ?_
                            refine lv_icmp_ge (tgt := 335) hx hb d_Mo_write_317 (by decide) (fun c40 => ?_) (fun c40 => ?_)
                            · exact absurd c40 (by decide)
                            · refine lv_aload_n hx hb d_Mo_write_320 rfl (lv_at hl 2 rfl) ?_
                              refine lv_aload hx hb d_Mo_write_321 (lv_at hl 6 rfl) ?_
                              refine lv_iload hx hb d_Mo_write_323 (lv_at hl 0 rfl) ?_
                              refine va_iald (D := D9) hx hb hK hP 47 1 ww_47 rfl (vp_in_nI (by omega) (by decide)) d_Mo_write_325 ?_
                              refine lv_topq (y := nI (wCn es lim 2)) (by rw [nI_clamp (by omega)]; exact ((congrFun (sg3 47 (by decide)) _).trans ((congrFun (sg2 47 (by decide)) _).trans ((congrFun (sg1 47 (by decide)) _).trans ((congrFun (sg0 47 (by decide)) _).trans (hcn 2 (by decide))))))) ?_
                              refine mw_cV (ci := 7) (k := 33) C0 (m_Mo_putTwoX l D9 cB cI cJ cG a O _ _ (b2 id9 ++ b2 fg ++ b2 (wCn es lim 0) ++ b2 (wCn es lim 1)) (nI (wCn es lim 2)) wh3 zh3 (by show 8 < _; decide)) g_935 g_8 g_932 g_934 gs_Mo_putTwo ⟨by decide +kernel, by decide +kernel, show Option.map (fun d => d.parameters.length) (parseMethodDescriptor y_Mo_putTwo.desc) = some 1 by decide +kernel⟩ ⟨by decide, by decide⟩ rfl rfl hP hD hS hA rfl ww_33 hl.1 (Nat.le_of_ble_eq_true rfl) rfl d_Mo_write_326 ⟨by decide, by decide⟩ (fun v9 w9 H locs hq hP hD hS => ?_)
                              obtain ⟨I41, F42, hw9, q43⟩ := hq
                              subst hw9
                              obtain ⟨rfl, sh4, zh4, sg4, wh4, fh4⟩ := q43
                              rw [un_nI (by omega)] at wh4
                              refine lv_iinc (lv' := [(6, .int (nI 3)), (5, _), (0, _), (1, _), (2, _), (3, _), (4, _)]) hx hb d_Mo_write_329 hl (k := 0) rfl rfl (by decide) rfl (fun ls hl => ?_)
                              refine lv_goto (tgt := 314) hx hb d_Mo_write_332 (by decide) ?_
                              refine lv_iload hx hb d_Mo_write_314 (lv_at hl 0 rfl) ?_
                              refine lv_iconst (v := 4) hx hb d_Mo_write_316 (by decide) ?_
                              refine lv_topq (y := nI 4) (rfl) ?_
                              refine lv_icmp_ge (tgt := 335) hx hb d_Mo_write_317 (by decide) (fun c44 => ?_) (fun c44 => ?_)
                              · exact absurd c44 (by decide)
                              · refine lv_aload_n hx hb d_Mo_write_320 rfl (lv_at hl 2 rfl) ?_
                                refine lv_aload hx hb d_Mo_write_321 (lv_at hl 6 rfl) ?_
                                refine lv_iload hx hb d_Mo_write_323 (lv_at hl 0 rfl) ?_
                                refine va_iald (D := D9) hx hb hK hP 47 1 ww_47 rfl (vp_in_nI (by omega) (by decide)) d_Mo_write_325 ?_
                                refine lv_topq (y := nI (wCn es lim 3)) (by rw [nI_clamp (by omega)]; exact ((congrFun (sg4 47 (by decide)) _).trans ((congrFun (sg3 47 (by decide)) _).trans ((congrFun (sg2 47 (by decide)) _).trans ((congrFun (sg1 47 (by decide)) _).trans ((congrFun (sg0 47 (by decide)) _).trans (hcn 3 (by decide)))))))) ?_
                                refine mw_cV (ci := 7) (k := 33) C0 (m_Mo_putTwoX l D9 cB cI cJ cG a O _ _ (b2 id9 ++ b2 fg ++ b2 (wCn es lim 0) ++ b2 (wCn es lim 1) ++ b2 (wCn es lim 2)) (nI (wCn es lim 3)) wh4 zh4 (by show 10 < _; decide)) g_935 g_8 g_932 g_934 gs_Mo_putTwo ⟨by decide +kernel, by decide +kernel, show Option.map (fun d => d.parameters.length) (parseMethodDescriptor y_Mo_putTwo.desc) = some 1 by decide +kernel⟩ ⟨by decide, by decide⟩ rfl rfl hP hD hS hA rfl ww_33 hl.1 (Nat.le_of_ble_eq_true rfl) rfl d_Mo_write_326 ⟨by decide, by decide⟩ (fun v9 w9 H locs hq hP hD hS => ?_)
                                obtain ⟨I45, F46, hw9, q47⟩ := hq
                                subst hw9
                                obtain ⟨rfl, sh5, zh5, sg5, wh5, fh5⟩ := q47
                                rw [un_nI (by omega)] at wh5
                                refine lv_iinc (lv' := [(6, .int (nI 4)), (5, _), (0, _), (1, _), (2, _), (3, _), (4, _)]) hx hb d_Mo_write_329 hl (k := 0) rfl rfl (by decide) rfl (fun ls hl => ?_)
                                refine lv_goto (tgt := 314) hx hb d_Mo_write_332 (by decide) ?_
                                refine lv_iload hx hb d_Mo_write_314 (lv_at hl 0 rfl) ?_
                                refine lv_iconst (v := 4) hx hb d_Mo_write_316 (by decide) ?_
                                refine lv_topq (y := nI 4) (rfl) ?_
                                refine lv_icmp_ge (tgt := 335) hx hb d_Mo_write_317 (by decide) (fun c48 => ?_) (fun c48 => ?_)
                                · refine lv_aload_n hx hb d_Mo_write_335 rfl (lv_at hl 2 rfl) ?_
                                  refine lv_iload hx hb d_Mo_write_336 (lv_at hl 1 rfl) ?_
                                  refine va_put (D := D9) (ty := .int) (ci := 7) (C := R_Mo) (T := F_Mo) (N := 30) hx hb hts i_Mo t_Mo t_Mo_ok n_Mo hown hK hP hD hS 33 ww_33 rfl 24 (by decide) (hts _ g_746) (fun _ h9 => h9) rfl (by decide +kernel) rfl rfl (Nat.le_of_ble_eq_true rfl) d_Mo_write_338 (fun H locs hP hD hS => ?_)
                                  obtain ⟨I49, aI49, sI49, hP, hD⟩ := fx (P := fun z => va_P D9 cls9 (WW a cB cI cJ cG z _ O) H ∧ va_D A0 (WW a cB cI cJ cG z _ O)) ⟨wp_28 hP, wd_28 hD⟩
                                  refine lv_aload_n hx hb d_Mo_write_341 rfl (lv_at hl 2 rfl) ?_
                                  refine va_get (D := D9) (ci := 7) (C := R_Mo) (T := F_Mo) (N := 30) hx hb hts i_Mo hown hK hP 33 ww_33 rfl 24 (by decide) (hts _ g_746) (fun _ h9 => h9) rfl d_Mo_write_342 ?_
                                  refine lv_topq (y := nI (12 + B.length)) (aI49) ?_
                                  have hHd : b2 id9 ++ b2 fg ++ b2 (wCn es lim 0) ++ b2 (wCn es lim 1) ++ b2 (wCn es lim 2) ++ b2 (wCn es lim 3) = hd9 id9 (wFl es fg lim) (wCn es lim 0) (wCn es lim 1) (wCn es lim 2) (wCn es lim 3) := by rw [hff]; unfold hd9; simp only [List.append_assoc]
                                  have hfr : ∀ j, 12 ≤ j → F46 44 j = Fs 44 j := fun j hj => by rw [fh5 j (by exact hj), fh4 j (by show 10 ≤ j; omega), fh3 j (by show 8 ≤ j; omega), fh2 j (by show 6 ≤ j; omega), fh1 j (by show 4 ≤ j; omega), fh0 j (by show 2 ≤ j; omega)]
                                  have hfin := BR_hdr wh5 rfl hX hM hfr
                                  rw [hHd] at hfin
                                  have hmm : wMs es id9 fg lim = hd9 id9 (wFl es fg lim) (wCn es lim 0) (wCn es lim 1) (wCn es lim 2) (wCn es lim 3) ++ B := by unfold wMs; rw [hst]
                                  have hml9 : (wMs es id9 fg lim).length = 12 + B.length := by rw [hmm, List.length_append]; rfl
                                  exact hret _ _ _ _ _ _ _ hS hP hD d_Mo_write_345 nr_i (Or.inr ⟨lim, by omega, by omega, rfl, Or.inr ⟨by omega, by rw [hml9], (sm_tr (sm_tr (sm_tr (sm_tr (sm_tr (sm_tr (sm_tr (sm_tr (sm_tr (sm_tr (sm_tr (sm_tr (sm_mo sI12 (by decide)) (sm_mo sI20 (by decide))) (sm_mo sI21 (by decide))) (sm_mo sI22 (by decide))) (sm_mo hsIs (by decide))) (sm_mo sI24 (by decide))) (sm_mo sh0 (by decide))) (sm_mo sh1 (by decide))) (sm_mo sh2 (by decide))) (sm_mo sh3 (by decide))) (sm_mo sh4 (by decide))) (sm_mo sh5 (by decide))) (sm_mo sI49 (by decide))), ((sI49 15 (by decide)).trans ((sh5 15 (by decide)).trans ((sh4 15 (by decide)).trans ((sh3 15 (by decide)).trans ((sh2 15 (by decide)).trans ((sh1 15 (by decide)).trans ((sh0 15 (by decide)).trans ((sI24 15 (by decide)).trans ((hsIs 15 (by decide)).trans ((sI22 15 (by decide)).trans ((sI21 15 (by decide)).trans ((sI20 15 (by decide)).trans aI12)))))))))))), (aI49).trans (congrArg nI hml9.symm), by rw [hst]; exact ((sI49 29 (by decide)).trans ((sh5 29 (by decide)).trans ((sh4 29 (by decide)).trans ((sh3 29 (by decide)).trans ((sh2 29 (by decide)).trans ((sh1 29 (by decide)).trans ((sh0 29 (by decide)).trans ((sI24 29 (by decide)).trans k29)))))))), (sm_tr (sm_tr (sm_tr (sm_tr (sm_tr (sm_tr (sm_mo hsFs (by decide)) (sm_mo sg0 (by decide))) (sm_mo sg1 (by decide))) (sm_mo sg2 (by decide))) (sm_mo sg3 (by decide))) (sm_mo sg4 (by decide))) (sm_mo sg5 (by decide))), by rw [hmm]; exact hfin⟩⟩)
                                · exact absurd c48 (by decide)
                      · have c28 : cut = true := bI_t c28
                        have hor : fg ||| 512 < 65536 := Nat.or_lt_two_pow (n := 16) hfg (by decide)
                        have hff : wFl es fg lim = fg ||| 512 := by unfold wFl; rw [hst]; simp only; rw [if_pos c28]
                        have hcl0 : wCn es lim 0 < 65536 := wCn_lt hO 0
                        have hcl1 : wCn es lim 1 < 65536 := wCn_lt hO 1
                        have hcl2 : wCn es lim 2 < 65536 := wCn_lt hO 2
                        have hcl3 : wCn es lim 3 < 65536 := wCn_lt hO 3
                        refine lv_aload_n hx hb d_Mo_write_293 rfl (lv_at hl 1 rfl) ?_
                        refine va_get (D := D9) (ci := 7) (C := R_Mo) (T := F_Mo) (N := 30) hx hb hts i_Mo hown hK hP 33 ww_33 rfl 7 (by decide) (hts _ g_729) (fun _ h9 => h9) rfl d_Mo_write_294 ?_
                        refine lv_topq (y := nI fg) (((sh0 20 (by decide)).trans ((sI24 20 (by decide)).trans ((hsIs 20 (by decide)).trans ((sI22 20 (by decide)).trans ((sI21 20 (by decide)).trans ((sI20 20 (by decide)).trans ((sI12 20 (by decide)).trans h20)))))))) ?_
                        refine lv_sipush (v := 512) hx hb d_Mo_write_297 (by decide) ?_
                        refine lv_topq (y := nI 512) (rfl) ?_
                        refine lv_ior hx hb d_Mo_write_300 ?_
                        refine lv_topq (y := nI (fg ||| 512)) (nI_or (by omega) (by omega)) ?_
                        refine lv_goto (tgt := 308) hx hb d_Mo_write_301 (by decide) ?_
                        refine mw_cV (ci := 7) (k := 33) C0 (m_Mo_putTwoX l D9 cB cI cJ cG a O _ _ (b2 id9) (nI (fg ||| 512)) wh0 zh0 (by show 2 < _; decide)) g_935 g_8 g_932 g_934 gs_Mo_putTwo ⟨by decide +kernel, by decide +kernel, show Option.map (fun d => d.parameters.length) (parseMethodDescriptor y_Mo_putTwo.desc) = some 1 by decide +kernel⟩ ⟨by decide, by decide⟩ rfl rfl hP hD hS hA rfl ww_33 hl.1 (Nat.le_of_ble_eq_true rfl) rfl d_Mo_write_308 ⟨by decide, by decide⟩ (fun v9 w9 H locs hq hP hD hS => ?_)
                        obtain ⟨I50, F51, hw9, q52⟩ := hq
                        subst hw9
                        obtain ⟨rfl, sh1, zh1, sg1, wh1, fh1⟩ := q52
                        rw [un_nI (by omega)] at wh1
                        refine lv_iconst (v := 0) hx hb d_Mo_write_311 (by decide) ?_
                        refine lv_topq (y := nI 0) (rfl) ?_
                        refine lv_istore (lv' := [(6, _), (5, _), (0, _), (1, _), (2, _), (3, _), (4, _)]) hx hb d_Mo_write_312 hl (by decide) rfl (fun ls hl => ?_)
                        refine lv_iload hx hb d_Mo_write_314 (lv_at hl 0 rfl) ?_
                        refine lv_iconst (v := 4) hx hb d_Mo_write_316 (by decide) ?_
                        refine lv_topq (y := nI 4) (rfl) ?_
                        refine lv_icmp_ge (tgt := 335) hx hb d_Mo_write_317 (by decide) (fun c53 => ?_) (fun c53 => ?_)
                        · exact absurd c53 (by decide)
                        · refine lv_aload_n hx hb d_Mo_write_320 rfl (lv_at hl 2 rfl) ?_
                          refine lv_aload hx hb d_Mo_write_321 (lv_at hl 6 rfl) ?_
                          refine lv_iload hx hb d_Mo_write_323 (lv_at hl 0 rfl) ?_
                          refine va_iald (D := D9) hx hb hK hP 47 1 ww_47 rfl (vp_in_nI (by omega) (by decide)) d_Mo_write_325 ?_
                          refine lv_topq (y := nI (wCn es lim 0)) (by rw [nI_clamp (by omega)]; exact ((congrFun (sg1 47 (by decide)) _).trans ((congrFun (sg0 47 (by decide)) _).trans (hcn 0 (by decide))))) ?_
                          refine mw_cV (ci := 7) (k := 33) C0 (m_Mo_putTwoX l D9 cB cI cJ cG a O _ _ (b2 id9 ++ b2 (fg ||| 512)) (nI (wCn es lim 0)) wh1 zh1 (by show 4 < _; decide)) g_935 g_8 g_932 g_934 gs_Mo_putTwo ⟨by decide +kernel, by decide +kernel, show Option.map (fun d => d.parameters.length) (parseMethodDescriptor y_Mo_putTwo.desc) = some 1 by decide +kernel⟩ ⟨by decide, by decide⟩ rfl rfl hP hD hS hA rfl ww_33 hl.1 (Nat.le_of_ble_eq_true rfl) rfl d_Mo_write_326 ⟨by decide, by decide⟩ (fun v9 w9 H locs hq hP hD hS => ?_)
                          obtain ⟨I54, F55, hw9, q56⟩ := hq
                          subst hw9
                          obtain ⟨rfl, sh2, zh2, sg2, wh2, fh2⟩ := q56
                          rw [un_nI (by omega)] at wh2
                          refine lv_iinc (lv' := [(6, .int (nI 1)), (5, _), (0, _), (1, _), (2, _), (3, _), (4, _)]) hx hb d_Mo_write_329 hl (k := 0) rfl rfl (by decide) rfl (fun ls hl => ?_)
                          refine lv_goto (tgt := 314) hx hb d_Mo_write_332 (by decide) ?_
                          refine lv_iload hx hb d_Mo_write_314 (lv_at hl 0 rfl) ?_
                          refine lv_iconst (v := 4) hx hb d_Mo_write_316 (by decide) ?_
                          refine lv_topq (y := nI 4) (rfl) ?_
                          refine lv_icmp_ge (tgt := 335) hx hb d_Mo_write_317 (by decide) (fun c57 => ?_) (fun c57 => ?_)
                          · exact absurd c57 (by decide)
                          · refine lv_aload_n hx hb d_Mo_write_320 rfl (lv_at hl 2 rfl) ?_
                            refine lv_aload hx hb d_Mo_write_321 (lv_at hl 6 rfl) ?_
                            refine lv_iload hx hb d_Mo_write_323 (lv_at hl 0 rfl) ?_
                            refine va_iald (D := D9) hx hb hK hP 47 1 ww_47 rfl (vp_in_nI (by omega) (by decide)) d_Mo_write_325 ?_
                            refine lv_topq (y := nI (wCn es lim 1)) (by rw [nI_clamp (by omega)]; exact ((congrFun (sg2 47 (by decide)) _).trans ((congrFun (sg1 47 (by decide)) _).trans ((congrFun (sg0 47 (by decide)) _).trans (hcn 1 (by decide)))))) ?_
                            refine mw_cV (ci := 7) (k := 33) C0 (m_Mo_putTwoX l D9 cB cI cJ cG a O _ _ (b2 id9 ++ b2 (fg ||| 512) ++ b2 (wCn es lim 0)) (nI (wCn es lim 1)) wh2 zh2 (by show 6 < _; decide)) g_935 g_8 g_932 g_934 gs_Mo_putTwo ⟨by decide +kernel, by decide +kernel, show Option.map (fun d => d.parameters.length) (parseMethodDescriptor y_Mo_putTwo.desc) = some 1 by decide +kernel⟩ ⟨by decide, by decide⟩ rfl rfl hP hD hS hA rfl ww_33 hl.1 (Nat.le_of_ble_eq_true rfl) rfl d_Mo_write_326 ⟨by decide, by decide⟩ (fun v9 w9 H locs hq hP hD hS => ?_)
                            obtain ⟨I58, F59, hw9, q60⟩ := hq
                            subst hw9
                            obtain ⟨rfl, sh3, zh3, sg3, wh3, fh3⟩ := q60
                            rw [un_nI (by omega)] at wh3
                            refine lv_iinc (lv' := [(6, .int (nI 2)), (5, _), (0, _), (1, _), (2, _), (3, _), (4, _)]) hx hb d_Mo_write_329 hl (k := 0) rfl rfl (by decide) rfl (fun ls hl => ?_)
                            refine lv_goto (tgt := 314) hx hb d_Mo_write_332 (by decide) ?_
                            refine lv_iload hx hb d_Mo_write_314 (lv_at hl 0 rfl) ?_
                            refine lv_iconst (v := 4) hx hb d_Mo_write_316 (by decide) ?_
                            refine lv_topq (y := nI 4) (rfl) ?_
                            refine lv_icmp_ge (tgt := 335) hx hb d_Mo_write_317 (by decide) (fun c61 => ?_) (fun c61 => ?_)
                            · exact absurd c61 (by decide)
                            · refine lv_aload_n hx hb d_Mo_write_320 rfl (lv_at hl 2 rfl) ?_
                              refine lv_aload hx hb d_Mo_write_321 (lv_at hl 6 rfl) ?_
                              refine lv_iload hx hb d_Mo_write_323 (lv_at hl 0 rfl) ?_
                              refine va_iald (D := D9) hx hb hK hP 47 1 ww_47 rfl (vp_in_nI (by omega) (by decide)) d_Mo_write_325 ?_
                              refine lv_topq (y := nI (wCn es lim 2)) (by rw [nI_clamp (by omega)]; exact ((congrFun (sg3 47 (by decide)) _).trans ((congrFun (sg2 47 (by decide)) _).trans ((congrFun (sg1 47 (by decide)) _).trans ((congrFun (sg0 47 (by decide)) _).trans (hcn 2 (by decide))))))) ?_
                              refine mw_cV (ci := 7) (k := 33) C0 (m_Mo_putTwoX l D9 cB cI cJ cG a O _ _ (b2 id9 ++ b2 (fg ||| 512) ++ b2 (wCn es lim 0) ++ b2 (wCn es lim 1)) (nI (wCn es lim 2)) wh3 zh3 (by show 8 < _; decide)) g_935 g_8 g_932 g_934 gs_Mo_putTwo ⟨by decide +kernel, by decide +kernel, show Option.map (fun d => d.parameters.length) (parseMethodDescriptor y_Mo_putTwo.desc) = some 1 by decide +kernel⟩ ⟨by decide, by decide⟩ rfl rfl hP hD hS hA rfl ww_33 hl.1 (Nat.le_of_ble_eq_true rfl) rfl d_Mo_write_326 ⟨by decide, by decide⟩ (fun v9 w9 H locs hq hP hD hS => ?_)
                              obtain ⟨I62, F63, hw9, q64⟩ := hq
                              subst hw9
                              obtain ⟨rfl, sh4, zh4, sg4, wh4, fh4⟩ := q64
                              rw [un_nI (by omega)] at wh4
                              refine lv_iinc (lv' := [(6, .int (nI 3)), (5, _), (0, _), (1, _), (2, _), (3, _), (4, _)]) hx hb d_Mo_write_329 hl (k := 0) rfl rfl (by decide) rfl (fun ls hl => ?_)
                              refine lv_goto (tgt := 314) hx hb d_Mo_write_332 (by decide) ?_
                              refine lv_iload hx hb d_Mo_write_314 (lv_at hl 0 rfl) ?_
                              refine lv_iconst (v := 4) hx hb d_Mo_write_316 (by decide) ?_
                              refine lv_topq (y := nI 4) (rfl) ?_
                              refine lv_icmp_ge (tgt := 335) hx hb d_Mo_write_317 (by decide) (fun c65 => ?_) (fun c65 => ?_)
                              · exact absurd c65 (by decide)
                              · refine lv_aload_n hx hb d_Mo_write_320 rfl (lv_at hl 2 rfl) ?_
                                refine lv_aload hx hb d_Mo_write_321 (lv_at hl 6 rfl) ?_
                                refine lv_iload hx hb d_Mo_write_323 (lv_at hl 0 rfl) ?_
                                refine va_iald (D := D9) hx hb hK hP 47 1 ww_47 rfl (vp_in_nI (by omega) (by decide)) d_Mo_write_325 ?_
                                refine lv_topq (y := nI (wCn es lim 3)) (by rw [nI_clamp (by omega)]; exact ((congrFun (sg4 47 (by decide)) _).trans ((congrFun (sg3 47 (by decide)) _).trans ((congrFun (sg2 47 (by decide)) _).trans ((congrFun (sg1 47 (by decide)) _).trans ((congrFun (sg0 47 (by decide)) _).trans (hcn 3 (by decide)))))))) ?_
                                refine mw_cV (ci := 7) (k := 33) C0 (m_Mo_putTwoX l D9 cB cI cJ cG a O _ _ (b2 id9 ++ b2 (fg ||| 512) ++ b2 (wCn es lim 0) ++ b2 (wCn es lim 1) ++ b2 (wCn es lim 2)) (nI (wCn es lim 3)) wh4 zh4 (by show 10 < _; decide)) g_935 g_8 g_932 g_934 gs_Mo_putTwo ⟨by decide +kernel, by decide +kernel, show Option.map (fun d => d.parameters.length) (parseMethodDescriptor y_Mo_putTwo.desc) = some 1 by decide +kernel⟩ ⟨by decide, by decide⟩ rfl rfl hP hD hS hA rfl ww_33 hl.1 (Nat.le_of_ble_eq_true rfl) rfl d_Mo_write_326 ⟨by decide, by decide⟩ (fun v9 w9 H locs hq hP hD hS => ?_)
                                obtain ⟨I66, F67, hw9, q68⟩ := hq
                                subst hw9
                                obtain ⟨rfl, sh5, zh5, sg5, wh5, fh5⟩ := q68
                                rw [un_nI (by omega)] at wh5
                                refine lv_iinc (lv' := [(6, .int (nI 4)), (5, _), (0, _), (1, _), (2, _), (3, _), (4, _)]) hx hb d_Mo_write_329 hl (k := 0) rfl rfl (by decide) rfl (fun ls hl => ?_)
                                refine lv_goto (tgt := 314) hx hb d_Mo_write_332 (by decide) ?_
                                refine lv_iload hx hb d_Mo_write_314 (lv_at hl 0 rfl) ?_
                                refine lv_iconst (v := 4) hx hb d_Mo_write_316 (by decide) ?_
                                refine lv_topq (y := nI 4) (rfl) ?_
                                refine lv_icmp_ge (tgt := 335) hx hb d_Mo_write_317 (by decide) (fun c69 => ?_) (fun c69 => ?_)
                                · refine lv_aload_n hx hb d_Mo_write_335 rfl (lv_at hl 2 rfl) ?_
                                  refine lv_iload hx hb d_Mo_write_336 (lv_at hl 1 rfl) ?_
                                  refine va_put (D := D9) (ty := .int) (ci := 7) (C := R_Mo) (T := F_Mo) (N := 30) hx hb hts i_Mo t_Mo t_Mo_ok n_Mo hown hK hP hD hS 33 ww_33 rfl 24 (by decide) (hts _ g_746) (fun _ h9 => h9) rfl (by decide +kernel) rfl rfl (Nat.le_of_ble_eq_true rfl) d_Mo_write_338 (fun H locs hP hD hS => ?_)
                                  obtain ⟨I70, aI70, sI70, hP, hD⟩ := fx (P := fun z => va_P D9 cls9 (WW a cB cI cJ cG z _ O) H ∧ va_D A0 (WW a cB cI cJ cG z _ O)) ⟨wp_28 hP, wd_28 hD⟩
                                  refine lv_aload_n hx hb d_Mo_write_341 rfl (lv_at hl 2 rfl) ?_
                                  refine va_get (D := D9) (ci := 7) (C := R_Mo) (T := F_Mo) (N := 30) hx hb hts i_Mo hown hK hP 33 ww_33 rfl 24 (by decide) (hts _ g_746) (fun _ h9 => h9) rfl d_Mo_write_342 ?_
                                  refine lv_topq (y := nI (12 + B.length)) (aI70) ?_
                                  have hHd : b2 id9 ++ b2 (fg ||| 512) ++ b2 (wCn es lim 0) ++ b2 (wCn es lim 1) ++ b2 (wCn es lim 2) ++ b2 (wCn es lim 3) = hd9 id9 (wFl es fg lim) (wCn es lim 0) (wCn es lim 1) (wCn es lim 2) (wCn es lim 3) := by rw [hff]; unfold hd9; simp only [List.append_assoc]
                                  have hfr : ∀ j, 12 ≤ j → F67 44 j = Fs 44 j := fun j hj => by rw [fh5 j (by exact hj), fh4 j (by show 10 ≤ j; omega), fh3 j (by show 8 ≤ j; omega), fh2 j (by show 6 ≤ j; omega), fh1 j (by show 4 ≤ j; omega), fh0 j (by show 2 ≤ j; omega)]
                                  have hfin := BR_hdr wh5 rfl hX hM hfr
                                  rw [hHd] at hfin
                                  have hmm : wMs es id9 fg lim = hd9 id9 (wFl es fg lim) (wCn es lim 0) (wCn es lim 1) (wCn es lim 2) (wCn es lim 3) ++ B := by unfold wMs; rw [hst]
                                  have hml9 : (wMs es id9 fg lim).length = 12 + B.length := by rw [hmm, List.length_append]; rfl
                                  exact hret _ _ _ _ _ _ _ hS hP hD d_Mo_write_345 nr_i (Or.inr ⟨lim, by omega, by omega, rfl, Or.inr ⟨by omega, by rw [hml9], (sm_tr (sm_tr (sm_tr (sm_tr (sm_tr (sm_tr (sm_tr (sm_tr (sm_tr (sm_tr (sm_tr (sm_tr (sm_mo sI12 (by decide)) (sm_mo sI20 (by decide))) (sm_mo sI21 (by decide))) (sm_mo sI22 (by decide))) (sm_mo hsIs (by decide))) (sm_mo sI24 (by decide))) (sm_mo sh0 (by decide))) (sm_mo sh1 (by decide))) (sm_mo sh2 (by decide))) (sm_mo sh3 (by decide))) (sm_mo sh4 (by decide))) (sm_mo sh5 (by decide))) (sm_mo sI70 (by decide))), ((sI70 15 (by decide)).trans ((sh5 15 (by decide)).trans ((sh4 15 (by decide)).trans ((sh3 15 (by decide)).trans ((sh2 15 (by decide)).trans ((sh1 15 (by decide)).trans ((sh0 15 (by decide)).trans ((sI24 15 (by decide)).trans ((hsIs 15 (by decide)).trans ((sI22 15 (by decide)).trans ((sI21 15 (by decide)).trans ((sI20 15 (by decide)).trans aI12)))))))))))), (aI70).trans (congrArg nI hml9.symm), by rw [hst]; exact ((sI70 29 (by decide)).trans ((sh5 29 (by decide)).trans ((sh4 29 (by decide)).trans ((sh3 29 (by decide)).trans ((sh2 29 (by decide)).trans ((sh1 29 (by decide)).trans ((sh0 29 (by decide)).trans ((sI24 29 (by decide)).trans k29)))))))), (sm_tr (sm_tr (sm_tr (sm_tr (sm_tr (sm_tr (sm_mo hsFs (by decide)) (sm_mo sg0 (by decide))) (sm_mo sg1 (by decide))) (sm_mo sg2 (by decide))) (sm_mo sg3 (by decide))) (sm_mo sg4 (by decide))) (sm_mo sg5 (by decide))), by rw [hmm]; exact hfin⟩⟩)
                                · exact absurd c69 (by decide)
                    · have c23 : ¬ (4 ≤ sc) := fun z9 => c23 ((nI_leI (a := 4) (b := sc) (by omega) (by omega)).mpr z9)
                      refine lv_aload hx hb d_Mo_write_108 (lv_at hl 4 rfl) ?_
                      refine lv_iload hx hb d_Mo_write_110 (lv_at hl 5 rfl) ?_
                      refine lv_iconst (v := 0) hx hb d_Mo_write_112 (by decide) ?_
                      refine lv_topq (y := nI 0) (rfl) ?_
                      refine va_iast (D := D9) hx hb hK hP hD hS 47 1 ww_47 rfl (vp_in_nI (by omega) (by decide)) d_Mo_write_113 (fun H locs hP hD hS => ?_)
                      obtain ⟨F71, aF71, sF71, hP, hD⟩ := fx (P := fun z => va_P D9 cls9 (WW a cB cI cJ cG _ z O) H ∧ va_D A0 (WW a cB cI cJ cG _ z O)) ⟨wpa_47 hP, wda_47 hD⟩
                      rw [nI_clamp (by omega)] at aF71
                      refine lv_iconst (v := 0) hx hb d_Mo_write_114 (by decide) ?_
                      refine lv_topq (y := nI 0) (rfl) ?_
                      refine lv_istore (lv' := [(6, _), (0, _), (1, _), (2, _), (3, _), (4, _), (5, _)]) hx hb d_Mo_write_115 hl (by decide) rfl (fun ls hl => ?_)
                      have loopK : ∀ (nk : Nat) (k : Nat) (B2 : List Nat) (E2 : List (Nat × Nat)) (p2 : Nat) (ct2 : Bool) (st2 : Nat) (n2 : Nat) (Ik : Nat → Int32) (Fk : Nat → Nat → Int32) (H : Heap) (locs : List Loc) (ls : Array Slot), (sm [28, 29, 30] Is Ik) → (sm [44, 45, 46, 47] F71 Fk) → (es.length - k = nk) → (k ≤ es.length) → (wIt es lim (sc + 1) = wR es lim sc (es.length - k) k (B2, E2, p2, ct2, st2, n2)) → ((sc = 3 → st2 = mu3 (fil 3 (es.drop k))) ∧ (sc < 3 → st2 = mu3 (fil 3 es))) → (12 + B2.length + st2 ≤ lim) → (n2 ≤ k) → (Fk 47 sc = nI n2) → (∀ i, i < sc → Fk 47 i = nI (wCn es lim i)) → (BR 0 131200 (Fk 44) (X ++ B2)) → (Ik 28 = nI (12 + B2.length)) → (MeR Fk E2) → (Ik 30 = nI E2.length) → (wW (fl es) B2 E2) → (Ik 29 = nI p2) → va_P D9 cls9 (WW a cB cI cJ cG Ik Fk O) H → va_D A0 (WW a cB cI cJ cG Ik Fk O) → va_S A0 s.heap H locs → lv_has ls 10 [(0, .ref (a 33)), (1, .int (nI lim)), (2, .int (nI st2)), (3, .int (bI ct2)), (4, .ref (a 47)), (5, .int (nI sc)), (6, .int (nI k))] → W p l e (rm9 5 0 0) s m ([.ref (a 33), .int (nI lim)] : List Value).toArray below meth c H locs 0 0 Q (F0 m 117 ls []) := by
                        intro nk
                        induction nk using Nat.strongRecOn with
                        | ind nk ihk =>
                          intro k B2 E2 p2 ct2 st2 n2 Ik Fk H locs ls hsIk hsFk hnk hk hRr hsl2 hfi2 hn2 hcs hci hMi k28i hE2i k30i hWi k29i hP hD hS hl
                          refine lv_iload hx hb d_Mo_write_117 (lv_at hl 6 rfl) ?_
                          refine lv_aload_n hx hb d_Mo_write_119 rfl (lv_at hl 0 rfl) ?_
                          refine va_get (D := D9) (ci := 7) (C := R_Mo) (T := F_Mo) (N := 30) hx hb hts i_Mo hown hK hP 33 ww_33 rfl 5 (by decide) (hts _ g_727) (fun _ h9 => h9) rfl d_Mo_write_120 ?_
                          refine lv_topq (y := nI es.length) (((hsIk 18 (by decide)).trans ((hsIs 18 (by decide)).trans ((sI22 18 (by decide)).trans ((sI21 18 (by decide)).trans ((sI20 18 (by decide)).trans ((sI12 18 (by decide)).trans h18))))))) ?_
                          refine lv_icmp_ge (tgt := 263) hx hb d_Mo_write_123 (by decide) (fun c72 => ?_) (fun c72 => ?_)
                          · have c72 : es.length ≤ k := (nI_leI (a := es.length) (b := k) (by omega) (by omega)).mp c72
                            have hke : es.length - k = 0 := by omega
                            rw [hke] at hRr
                            have hRr : wIt es lim (sc + 1) = (B2, E2, p2, ct2, st2, n2) := hRr
                            refine lv_iinc (lv' := [(5, .int (nI (sc + 1))), (0, _), (1, _), (2, _), (3, _), (4, _), (6, _)]) hx hb d_Mo_write_263 hl (k := 5) rfl (nI_add _ 1) (by decide) rfl (fun ls hl => ?_)
                            refine lv_goto (tgt := 102) hx hb d_Mo_write_266 (by decide) ?_
                            exact ihs _ (by omega) (sc + 1) B2 E2 p2 ct2 st2 n2 _ _ _ _ _ (sm_tr (sm_mo hsIs (by decide)) (sm_mo hsIk (by decide))) (sm_tr (sm_tr (sm_mo hsFs (by decide)) (sm_mo sF71 (by decide))) (sm_mo hsFk (by decide))) rfl (by omega) (fun i hi => by rcases Nat.lt_or_eq_of_le (Nat.le_of_lt_succ hi) with z | z; exact hci i z; rw [z]; unfold wCn; rw [hRr]; exact hcs) hRr (fun z => hsl2.2 (by omega)) hfi2 hMi k28i hE2i k30i hWi k29i hP hD hS (lv_pk hl [1, 2, 3, 4, 5, 0] rfl)
                          · have c72 : ¬ (es.length ≤ k) := fun z9 => c72 ((nI_leI (a := es.length) (b := k) (by omega) (by omega)).mpr z9)
                            obtain ⟨e9, he9⟩ := get_tk (show k < es.length by omega)
                            obtain ⟨z36, z37, z38, z39, z40, z41, z42, z43⟩ := hR.1 k e9 he9
                            obtain ⟨y1, y2, y3⟩ := hO.2.2.2 e9 (List.mem_of_getElem? he9)
                            rw [show es.length - k = (es.length - (k + 1)) + 1 by omega, wR_at he9] at hRr
                            have hso := stl_ok2 (show sc < 4 by omega) he9 hsl2
                            have hek := hEk k e9 he9
                            have hof := of9_next he9
                            have hog := of9_le es (k + 1)
                            refine lv_aload_n hx hb d_Mo_write_126 rfl (lv_at hl 0 rfl) ?_
                            refine va_get (D := D9) (ci := 7) (C := R_Mo) (T := F_Mo) (N := 30) hx hb hts i_Mo hown hK hP 33 ww_33 rfl 8 (by decide) (hts _ g_730) (fun _ h9 => h9) rfl d_Mo_write_127 ?_
                            refine lv_iload hx hb d_Mo_write_130 (lv_at hl 6 rfl) ?_
                            refine va_iald (D := D9) hx hb hK hP 36 1 ww_36 rfl (vp_in_nI (by omega) (by decide)) d_Mo_write_132 ?_
                            refine lv_topq (y := nI (eS e9)) (by rw [nI_clamp (by omega)]; exact ((congrFun (hsFk 36 (by decide)) _).trans ((congrFun (sF71 36 (by decide)) _).trans ((congrFun (hsFs 36 (by decide)) _).trans z36)))) ?_
                            refine lv_iload hx hb d_Mo_write_133 (lv_at hl 5 rfl) ?_
                            refine lv_icmp_ne (tgt := 257) hx hb d_Mo_write_135 (by decide) (fun c73 => ?_) (fun c73 => ?_)
                            · have c73 : ¬ (eS e9 = sc) := fun z9 => c73 ((nI_eq (a := eS e9) (b := sc) (by omega) (by omega)).mpr z9)
                              rw [if_neg c73] at hRr
                              have hso := hso.2 c73
                              refine lv_iinc (lv' := [(6, .int (nI (k + 1))), (0, _), (1, _), (2, _), (3, _), (4, _), (5, _)]) hx hb d_Mo_write_257 hl (k := 6) rfl (nI_add _ 1) (by decide) rfl (fun ls hl => ?_)
                              refine lv_goto (tgt := 117) hx hb d_Mo_write_260 (by decide) ?_
                              exact ihk _ (by omega) (k + 1) B2 E2 p2 ct2 st2 n2 _ _ _ _ _ (sm_mo hsIk (by decide)) (sm_mo hsFk (by decide)) rfl (by omega) hRr hso hfi2 (by omega) hcs hci hMi k28i hE2i k30i hWi k29i hP hD hS (lv_pk hl [1, 2, 3, 4, 5, 6, 0] rfl)
                            · have c73 : eS e9 = sc := (nI_eq (a := eS e9) (b := sc) (by omega) (by omega)).mp c73
                              have g3 : eS e9 = sc := c73
                              rw [if_pos g3] at hRr
                              obtain ⟨q1, q2, q3, q4⟩ := hso.1 g3
                              have hwk := wE_ok (pt := p2) hek hWi
                              obtain ⟨k1, ⟨Xk, k2, k3⟩, ⟨Zk, k4⟩, k5⟩ := hwk
                              have k6 : (wE (fl es) (of9 es k) e9 B2 E2 p2).1.length = B2.length + Xk.length := (congrArg List.length k2).trans List.length_append
                              refine lv_iload_n hx hb d_Mo_write_138 rfl (lv_at hl 3 rfl) ?_
                              refine lv_if_eq (tgt := 154) hx hb d_Mo_write_139 (by decide) (fun c74 => ?_) (fun c74 => ?_)
                              · have c74 : ct2 = false := bI_f c74
                                refine lv_aload_n hx hb d_Mo_write_154 rfl (lv_at hl 0 rfl) ?_
                                refine va_get (D := D9) (ci := 7) (C := R_Mo) (T := F_Mo) (N := 30) hx hb hts i_Mo hown hK hP 33 ww_33 rfl 24 (by decide) (hts _ g_746) (fun _ h9 => h9) rfl d_Mo_write_155 ?_
                                refine lv_topq (y := nI (12 + B2.length)) (k28i) ?_
                                refine lv_istore (lv' := [(7, _), (0, _), (1, _), (2, _), (3, _), (4, _), (5, _), (6, _)]) hx hb d_Mo_write_158 hl (by decide) rfl (fun ls hl => ?_)
                                refine lv_aload_n hx hb d_Mo_write_160 rfl (lv_at hl 1 rfl) ?_
                                refine va_get (D := D9) (ci := 7) (C := R_Mo) (T := F_Mo) (N := 30) hx hb hts i_Mo hown hK hP 33 ww_33 rfl 28 (by decide) (hts _ g_750) (fun _ h9 => h9) rfl d_Mo_write_161 ?_
                                refine lv_topq (y := nI E2.length) (k30i) ?_
                                refine lv_istore (lv' := [(8, _), (7, _), (0, _), (1, _), (2, _), (3, _), (4, _), (5, _), (6, _)]) hx hb d_Mo_write_164 hl (by decide) rfl (fun ls hl => ?_)
                                refine lv_aload_n hx hb d_Mo_write_166 rfl (lv_at hl 2 rfl) ?_
                                refine va_get (D := D9) (ci := 7) (C := R_Mo) (T := F_Mo) (N := 30) hx hb hts i_Mo hown hK hP 33 ww_33 rfl 25 (by decide) (hts _ g_747) (fun _ h9 => h9) rfl d_Mo_write_167 ?_
                                refine lv_topq (y := nI p2) (k29i) ?_
                                refine lv_istore (lv' := [(9, _), (8, _), (7, _), (0, _), (1, _), (2, _), (3, _), (4, _), (5, _), (6, _)]) hx hb d_Mo_write_170 hl (by decide) rfl (fun ls hl => ?_)
                                refine lv_aload_n hx hb d_Mo_write_172 rfl (lv_at hl 3 rfl) ?_
                                refine lv_iload hx hb d_Mo_write_173 (lv_at hl 9 rfl) ?_
                                refine mw_cV (ci := 7) (k := 33) C0 (m_Mo_must l D9 cB cI cJ cG a O _ _ es k e9 he9 (MoR_sm hR ((hsFk 35 (by decide)).trans ((sF71 35 (by decide)).trans (hsFs 35 (by decide)))) ((hsFk 36 (by decide)).trans ((sF71 36 (by decide)).trans (hsFs 36 (by decide)))) ((hsFk 37 (by decide)).trans ((sF71 37 (by decide)).trans (hsFs 37 (by decide)))) ((hsFk 38 (by decide)).trans ((sF71 38 (by decide)).trans (hsFs 38 (by decide)))) ((hsFk 39 (by decide)).trans ((sF71 39 (by decide)).trans (hsFs 39 (by decide)))) ((hsFk 40 (by decide)).trans ((sF71 40 (by decide)).trans (hsFs 40 (by decide)))) ((hsFk 41 (by decide)).trans ((sF71 41 (by decide)).trans (hsFs 41 (by decide)))) ((hsFk 42 (by decide)).trans ((sF71 42 (by decide)).trans (hsFs 42 (by decide)))) ((hsFk 43 (by decide)).trans ((sF71 43 (by decide)).trans (hsFs 43 (by decide))))) hO) g_910 g_8 g_907 g_909 gs_Mo_must ⟨by decide +kernel, by decide +kernel, show Option.map (fun d => d.parameters.length) (parseMethodDescriptor y_Mo_must.desc) = some 1 by decide +kernel⟩ ⟨by decide, by decide⟩ rfl rfl hP hD hS hA rfl ww_33 hl.1 (Nat.le_of_ble_eq_true rfl) rfl d_Mo_write_175 ⟨by decide, by decide⟩ (fun v9 w9 H locs hq hP hD hS => ?_)
                                obtain ⟨I75, F76, hw9, q77⟩ := hq
                                subst hw9
                                obtain ⟨rfl, rfl, rfl⟩ := q77
                                refine lv_if_eq (tgt := 194) hx hb d_Mo_write_178 (by decide) (fun c78 => ?_) (fun c78 => ?_)
                                · have c78 : mst e9 = false := bI_f c78
                                  have hsx : stl e9 st2 = st2 := by unfold stl; rw [if_neg (by rw [c78]; decide)]
                                  refine lv_aload_n hx hb d_Mo_write_194 rfl (lv_at hl 3 rfl) ?_
                                  refine lv_iload hx hb d_Mo_write_195 (lv_at hl 9 rfl) ?_
                                  refine mw_cV (ci := 7) (k := 33) C0 (m_Mo_putEntry l D9 cB cI cJ cG a O _ _ es k e9 he9 (MoR_sm hR ((hsFk 35 (by decide)).trans ((sF71 35 (by decide)).trans (hsFs 35 (by decide)))) ((hsFk 36 (by decide)).trans ((sF71 36 (by decide)).trans (hsFs 36 (by decide)))) ((hsFk 37 (by decide)).trans ((sF71 37 (by decide)).trans (hsFs 37 (by decide)))) ((hsFk 38 (by decide)).trans ((sF71 38 (by decide)).trans (hsFs 38 (by decide)))) ((hsFk 39 (by decide)).trans ((sF71 39 (by decide)).trans (hsFs 39 (by decide)))) ((hsFk 40 (by decide)).trans ((sF71 40 (by decide)).trans (hsFs 40 (by decide)))) ((hsFk 41 (by decide)).trans ((sF71 41 (by decide)).trans (hsFs 41 (by decide)))) ((hsFk 42 (by decide)).trans ((sF71 42 (by decide)).trans (hsFs 42 (by decide)))) ((hsFk 43 (by decide)).trans ((sF71 43 (by decide)).trans (hsFs 43 (by decide))))) hO X B2 E2 p2 hX hMi k28i hE2i k30i hWi k29i (by omega) hek) g_914 g_8 g_911 g_913 gs_Mo_putEntry ⟨by decide +kernel, by decide +kernel, show Option.map (fun d => d.parameters.length) (parseMethodDescriptor y_Mo_putEntry.desc) = some 1 by decide +kernel⟩ ⟨by decide, by decide⟩ rfl rfl hP hD hS hA rfl ww_33 hl.1 (Nat.le_of_ble_eq_true rfl) rfl d_Mo_write_197 ⟨by decide, by decide⟩ (fun v9 w9 H locs hq hP hD hS => ?_)
                                  obtain ⟨I79, F80, hw9, q81⟩ := hq
                                  subst hw9
                                  obtain ⟨rfl, f2, f3, f4, f5, f6, f7, f8⟩ := q81
                                  refine lv_aload_n hx hb d_Mo_write_200 rfl (lv_at hl 3 rfl) ?_
                                  refine va_get (D := D9) (ci := 7) (C := R_Mo) (T := F_Mo) (N := 30) hx hb hts i_Mo hown hK hP 33 ww_33 rfl 24 (by decide) (hts _ g_746) (fun _ h9 => h9) rfl d_Mo_write_201 ?_
                                  refine lv_topq (y := nI (12 + (wE (fl es) (of9 es k) e9 B2 E2 p2).1.length)) (f3) ?_
                                  refine lv_iload_n hx hb d_Mo_write_204 rfl (lv_at hl 5 rfl) ?_
                                  refine lv_iadd hx hb d_Mo_write_205 ?_
                                  refine lv_topq (y := nI (12 + (wE (fl es) (of9 es k) e9 B2 E2 p2).1.length + st2)) (nI_add _ _) ?_
                                  refine lv_iload_n hx hb d_Mo_write_206 rfl (lv_at hl 4 rfl) ?_
                                  refine lv_icmp_le (tgt := 248) hx hb d_Mo_write_207 (by decide) (fun c82 => ?_) (fun c82 => ?_)
                                  · have c82 : 12 + (wE (fl es) (of9 es k) e9 B2 E2 p2).1.length + st2 ≤ lim := (nI_leI (a := 12 + (wE (fl es) (of9 es k) e9 B2 E2 p2).1.length + st2) (b := lim) (by omega) (by omega)).mp c82
                                    rw [wSt_ok (Or.inl c74) (by omega)] at hRr
                                    refine lv_aload hx hb d_Mo_write_248 (lv_at hl 7 rfl) ?_
                                    refine lv_iload hx hb d_Mo_write_250 (lv_at hl 8 rfl) ?_
                                    refine lv_dup2_11 hx hb d_Mo_write_252 rfl rfl ?_
                                    refine va_iald (D := D9) hx hb hK hP 47 1 ww_47 rfl (vp_in_nI (by omega) (by decide)) d_Mo_write_253 ?_
                                    refine lv_topq (y := nI n2) (by rw [nI_clamp (by omega)]; exact ((congrFun (f6 47 (by decide)) _).trans hcs)) ?_
                                    refine lv_iconst (v := 1) hx hb d_Mo_write_254 (by decide) ?_
                                    refine lv_topq (y := nI 1) (rfl) ?_
                                    refine lv_iadd hx hb d_Mo_write_255 ?_
                                    refine lv_topq (y := nI (n2 + 1)) (nI_add _ _) ?_
                                    refine va_iast (D := D9) hx hb hK hP hD hS 47 1 ww_47 rfl (vp_in_nI (by omega) (by decide)) d_Mo_write_256 (fun H locs hP hD hS => ?_)
                                    obtain ⟨F83, aF83, sF83, hP, hD⟩ := fx (P := fun z => va_P D9 cls9 (WW a cB cI cJ cG _ z O) H ∧ va_D A0 (WW a cB cI cJ cG _ z O)) ⟨wpa_47 hP, wda_47 hD⟩
                                    rw [nI_clamp (by omega)] at aF83
                                    refine lv_iinc (lv' := [(6, .int (nI (k + 1))), (9, _), (8, _), (7, _), (0, _), (1, _), (2, _), (3, _), (4, _), (5, _)]) hx hb d_Mo_write_257 hl (k := 9) rfl (nI_add _ 1) (by decide) rfl (fun ls hl => ?_)
                                    refine lv_goto (tgt := 117) hx hb d_Mo_write_260 (by decide) ?_
                                    rw [hsx] at hRr q1 q2
                                    exact ihk _ (by omega) (k + 1) (wE (fl es) (of9 es k) e9 B2 E2 p2).1 (wE (fl es) (of9 es k) e9 B2 E2 p2).2.1 (wE (fl es) (of9 es k) e9 B2 E2 p2).2.2 ct2 st2 (n2 + 1) _ _ _ _ _ (sm_tr (sm_mo hsIk (by decide)) (sm_mo f2 (by decide))) (sm_tr (sm_tr (sm_mo hsFk (by decide)) (sm_mo f6 (by decide))) (sm_mo sF83 (by decide))) rfl (by omega) hRr ⟨q1, q2⟩ (by omega) (by omega) (by rw [aF83]; exact pk_us) (fun i hi => by rw [aF83, pk_un (by omega), (f6 47 (by decide))]; exact hci i hi) (BR_eq f7 (sF83 44 (by decide))) f3 (MeR_sm f8 (sF83 45 (by decide)) (sF83 46 (by decide))) f4 k1 f5 hP hD hS (lv_pk hl [4, 5, 6, 7, 8, 9, 0] rfl)
                                  · have c82 : ¬ (12 + (wE (fl es) (of9 es k) e9 B2 E2 p2).1.length + st2 ≤ lim) := fun z9 => c82 ((nI_leI (a := 12 + (wE (fl es) (of9 es k) e9 B2 E2 p2).1.length + st2) (b := lim) (by omega) (by omega)).mpr z9)
                                    rw [wSt_no (Or.inl c74) (by omega)] at hRr
                                    refine lv_aload_n hx hb d_Mo_write_210 rfl (lv_at hl 3 rfl) ?_
                                    refine lv_iload hx hb d_Mo_write_211 (lv_at hl 9 rfl) ?_
                                    refine mw_cV (ci := 7) (k := 33) C0 (m_Mo_must l D9 cB cI cJ cG a O _ _ es k e9 he9 (MoR_sm hR ((f6 35 (by decide)).trans ((hsFk 35 (by decide)).trans ((sF71 35 (by decide)).trans (hsFs 35 (by decide))))) ((f6 36 (by decide)).trans ((hsFk 36 (by decide)).trans ((sF71 36 (by decide)).trans (hsFs 36 (by decide))))) ((f6 37 (by decide)).trans ((hsFk 37 (by decide)).trans ((sF71 37 (by decide)).trans (hsFs 37 (by decide))))) ((f6 38 (by decide)).trans ((hsFk 38 (by decide)).trans ((sF71 38 (by decide)).trans (hsFs 38 (by decide))))) ((f6 39 (by decide)).trans ((hsFk 39 (by decide)).trans ((sF71 39 (by decide)).trans (hsFs 39 (by decide))))) ((f6 40 (by decide)).trans ((hsFk 40 (by decide)).trans ((sF71 40 (by decide)).trans (hsFs 40 (by decide))))) ((f6 41 (by decide)).trans ((hsFk 41 (by decide)).trans ((sF71 41 (by decide)).trans (hsFs 41 (by decide))))) ((f6 42 (by decide)).trans ((hsFk 42 (by decide)).trans ((sF71 42 (by decide)).trans (hsFs 42 (by decide))))) ((f6 43 (by decide)).trans ((hsFk 43 (by decide)).trans ((sF71 43 (by decide)).trans (hsFs 43 (by decide)))))) hO) g_910 g_8 g_907 g_909 gs_Mo_must ⟨by decide +kernel, by decide +kernel, show Option.map (fun d => d.parameters.length) (parseMethodDescriptor y_Mo_must.desc) = some 1 by decide +kernel⟩ ⟨by decide, by decide⟩ rfl rfl hP hD hS hA rfl ww_33 hl.1 (Nat.le_of_ble_eq_true rfl) rfl d_Mo_write_213 ⟨by decide, by decide⟩ (fun v9 w9 H locs hq hP hD hS => ?_)
                                    obtain ⟨I84, F85, hw9, q86⟩ := hq
                                    subst hw9
                                    obtain ⟨rfl, rfl, rfl⟩ := q86
                                    refine lv_topq (y := nI 0) (by rw [c78]; rfl) ?_
                                    refine lv_if_ne (tgt := 248) hx hb d_Mo_write_216 (by decide) (fun c87 => ?_) (fun c87 => ?_)
                                    · exact absurd c87 (by decide)
                                    · refine lv_aload_n hx hb d_Mo_write_219 rfl (lv_at hl 3 rfl) ?_
                                      refine lv_iload hx hb d_Mo_write_220 (lv_at hl 2 rfl) ?_
                                      refine va_put (D := D9) (ty := .int) (ci := 7) (C := R_Mo) (T := F_Mo) (N := 30) hx hb hts i_Mo t_Mo t_Mo_ok n_Mo hown hK hP hD hS 33 ww_33 rfl 24 (by decide) (hts _ g_746) (fun _ h9 => h9) rfl (by decide +kernel) rfl rfl (Nat.le_of_ble_eq_true rfl) d_Mo_write_222 (fun H locs hP hD hS => ?_)
                                      obtain ⟨I88, aI88, sI88, hP, hD⟩ := fx (P := fun z => va_P D9 cls9 (WW a cB cI cJ cG z _ O) H ∧ va_D A0 (WW a cB cI cJ cG z _ O)) ⟨wp_28 hP, wd_28 hD⟩
                                      refine lv_aload_n hx hb d_Mo_write_225 rfl (lv_at hl 3 rfl) ?_
                                      refine lv_iload hx hb d_Mo_write_226 (lv_at hl 1 rfl) ?_
                                      refine va_put (D := D9) (ty := .int) (ci := 7) (C := R_Mo) (T := F_Mo) (N := 30) hx hb hts i_Mo t_Mo t_Mo_ok n_Mo hown hK hP hD hS 33 ww_33 rfl 28 (by decide) (hts _ g_750) (fun _ h9 => h9) rfl (by decide +kernel) rfl rfl (Nat.le_of_ble_eq_true rfl) d_Mo_write_228 (fun H locs hP hD hS => ?_)
                                      obtain ⟨I89, aI89, sI89, hP, hD⟩ := fx (P := fun z => va_P D9 cls9 (WW a cB cI cJ cG z _ O) H ∧ va_D A0 (WW a cB cI cJ cG z _ O)) ⟨wp_30 hP, wd_30 hD⟩
                                      refine lv_aload_n hx hb d_Mo_write_231 rfl (lv_at hl 3 rfl) ?_
                                      refine lv_iload hx hb d_Mo_write_232 (lv_at hl 0 rfl) ?_
                                      refine va_put (D := D9) (ty := .int) (ci := 7) (C := R_Mo) (T := F_Mo) (N := 30) hx hb hts i_Mo t_Mo t_Mo_ok n_Mo hown hK hP hD hS 33 ww_33 rfl 25 (by decide) (hts _ g_747) (fun _ h9 => h9) rfl (by decide +kernel) rfl rfl (Nat.le_of_ble_eq_true rfl) d_Mo_write_234 (fun H locs hP hD hS => ?_)
                                      obtain ⟨I90, aI90, sI90, hP, hD⟩ := fx (P := fun z => va_P D9 cls9 (WW a cB cI cJ cG z _ O) H ∧ va_D A0 (WW a cB cI cJ cG z _ O)) ⟨wp_29 hP, wd_29 hD⟩
                                      refine lv_iload hx hb d_Mo_write_237 (lv_at hl 8 rfl) ?_
                                      refine lv_iconst (v := 3) hx hb d_Mo_write_239 (by decide) ?_
                                      refine lv_topq (y := nI 3) (rfl) ?_
                                      refine lv_icmp_ge (tgt := 257) hx hb d_Mo_write_240 (by decide) (fun c91 => ?_) (fun c91 => ?_)
                                      · have c91 : 3 ≤ sc := (nI_leI (a := 3) (b := sc) (by omega) (by omega)).mp c91
                                        refine lv_iinc (lv' := [(6, .int (nI (k + 1))), (9, _), (8, _), (7, _), (0, _), (1, _), (2, _), (3, _), (4, _), (5, _)]) hx hb d_Mo_write_257 hl (k := 9) rfl (nI_add _ 1) (by decide) rfl (fun ls hl => ?_)
                                        refine lv_goto (tgt := 117) hx hb d_Mo_write_260 (by decide) ?_
                                        rw [hsx] at hRr q1 q2
                                        have hcv : (ct2 || decide (sc < 3)) = false := by rw [c74]; simp <;> omega
                                        rw [hcv] at hRr
                                        rw [c74] at hl
                                        exact ihk _ (by omega) (k + 1) B2 E2 p2 false st2 n2 _ _ _ _ _ (sm_tr (sm_tr (sm_tr (sm_tr (sm_mo hsIk (by decide)) (sm_mo f2 (by decide))) (sm_mo sI88 (by decide))) (sm_mo sI89 (by decide))) (sm_mo sI90 (by decide))) (sm_tr (sm_mo hsFk (by decide)) (sm_mo f6 (by decide))) rfl (by omega) hRr ⟨q1, q2⟩ (by omega) (by omega) (((congrFun (f6 47 (by decide)) _).trans hcs)) (fun i hi => ((congrFun (f6 47 (by decide)) _).trans (hci i hi))) (by have z9 := f7; rw [k2, ← List.append_assoc] at z9; exact BR_pre z9) (((sI90 28 (by decide)).trans (sI89 28 (by decide))).trans aI88) (by have z9 := f8; rw [k4] at z9; exact MeR_pre z9) ((sI90 30 (by decide)).trans aI89) hWi aI90 hP hD hS (lv_pk hl [4, 5, 6, 7, 8, 9, 0] rfl)
                                      · have c91 : ¬ (3 ≤ sc) := fun z9 => c91 ((nI_leI (a := 3) (b := sc) (by omega) (by omega)).mpr z9)
                                        refine lv_iconst (v := 1) hx hb d_Mo_write_243 (by decide) ?_
                                        refine lv_topq (y := nI 1) (rfl) ?_
                                        refine lv_istore_n (lv' := [(3, _), (9, _), (8, _), (7, _), (0, _), (1, _), (2, _), (4, _), (5, _), (6, _)]) hx hb d_Mo_write_244 rfl hl (by decide) rfl (fun ls hl => ?_)
                                        refine lv_goto (tgt := 257) hx hb d_Mo_write_245 (by decide) ?_
                                        refine lv_iinc (lv' := [(6, .int (nI (k + 1))), (3, _), (9, _), (8, _), (7, _), (0, _), (1, _), (2, _), (4, _), (5, _)]) hx hb d_Mo_write_257 hl (k := 9) rfl (nI_add _ 1) (by decide) rfl (fun ls hl => ?_)
                                        refine lv_goto (tgt := 117) hx hb d_Mo_write_260 (by decide) ?_
                                        rw [hsx] at hRr q1 q2
                                        have hcv : (ct2 || decide (sc < 3)) = true := by rw [c74]; simp <;> omega
                                        rw [hcv] at hRr
                                        exact ihk _ (by omega) (k + 1) B2 E2 p2 true st2 n2 _ _ _ _ _ (sm_tr (sm_tr (sm_tr (sm_tr (sm_mo hsIk (by decide)) (sm_mo f2 (by decide))) (sm_mo sI88 (by decide))) (sm_mo sI89 (by decide))) (sm_mo sI90 (by decide))) (sm_tr (sm_mo hsFk (by decide)) (sm_mo f6 (by decide))) rfl (by omega) hRr ⟨q1, q2⟩ (by omega) (by omega) (((congrFun (f6 47 (by decide)) _).trans hcs)) (fun i hi => ((congrFun (f6 47 (by decide)) _).trans (hci i hi))) (by have z9 := f7; rw [k2, ← List.append_assoc] at z9; exact BR_pre z9) (((sI90 28 (by decide)).trans (sI89 28 (by decide))).trans aI88) (by have z9 := f8; rw [k4] at z9; exact MeR_pre z9) ((sI90 30 (by decide)).trans aI89) hWi aI90 hP hD hS (lv_pk hl [5, 6, 7, 1, 8, 9, 0] rfl)
                                · have c78 : mst e9 = true := bI_t c78
                                  have hsy := q3 c78
                                  have k7 := k5 (by unfold mst at c78; simpa using c78)
                                  refine lv_iload_n hx hb d_Mo_write_181 rfl (lv_at hl 5 rfl) ?_
                                  refine lv_bipush (v := 11) hx hb d_Mo_write_182 (by decide) ?_
                                  refine lv_topq (y := nI 11) (rfl) ?_
                                  refine lv_aload_n hx hb d_Mo_write_184 rfl (lv_at hl 3 rfl) ?_
                                  refine va_get (D := D9) (ci := 7) (C := R_Mo) (T := F_Mo) (N := 30) hx hb hts i_Mo hown hK hP 33 ww_33 rfl 15 (by decide) (hts _ g_737) (fun _ h9 => h9) rfl d_Mo_write_185 ?_
                                  refine lv_iload hx hb d_Mo_write_188 (lv_at hl 9 rfl) ?_
                                  refine va_iald (D := D9) hx hb hK hP 43 1 ww_43 rfl (vp_in_nI (by omega) (by decide)) d_Mo_write_190 ?_
                                  refine lv_topq (y := nI ((eD e9).length)) (by rw [nI_clamp (by omega)]; exact ((congrFun (hsFk 43 (by decide)) _).trans ((congrFun (sF71 43 (by decide)) _).trans ((congrFun (hsFs 43 (by decide)) _).trans z43)))) ?_
                                  refine lv_iadd hx hb d_Mo_write_191 ?_
                                  refine lv_topq (y := nI (11 + ((eD e9).length))) (nI_add _ _) ?_
                                  refine lv_isub hx hb d_Mo_write_192 ?_
                                  refine lv_topq (y := nI (stl e9 st2)) ((pk_sub (by omega)).trans (congrArg nI (by omega))) ?_
                                  refine lv_istore_n (lv' := [(2, _), (9, _), (8, _), (7, _), (0, _), (1, _), (3, _), (4, _), (5, _), (6, _)]) hx hb d_Mo_write_193 rfl hl (by decide) rfl (fun ls hl => ?_)
                                  refine lv_aload_n hx hb d_Mo_write_194 rfl (lv_at hl 4 rfl) ?_
                                  refine lv_iload hx hb d_Mo_write_195 (lv_at hl 9 rfl) ?_
                                  refine mw_cV (ci := 7) (k := 33) C0 (m_Mo_putEntry l D9 cB cI cJ cG a O _ _ es k e9 he9 (MoR_sm hR ((hsFk 35 (by decide)).trans ((sF71 35 (by decide)).trans (hsFs 35 (by decide)))) ((hsFk 36 (by decide)).trans ((sF71 36 (by decide)).trans (hsFs 36 (by decide)))) ((hsFk 37 (by decide)).trans ((sF71 37 (by decide)).trans (hsFs 37 (by decide)))) ((hsFk 38 (by decide)).trans ((sF71 38 (by decide)).trans (hsFs 38 (by decide)))) ((hsFk 39 (by decide)).trans ((sF71 39 (by decide)).trans (hsFs 39 (by decide)))) ((hsFk 40 (by decide)).trans ((sF71 40 (by decide)).trans (hsFs 40 (by decide)))) ((hsFk 41 (by decide)).trans ((sF71 41 (by decide)).trans (hsFs 41 (by decide)))) ((hsFk 42 (by decide)).trans ((sF71 42 (by decide)).trans (hsFs 42 (by decide)))) ((hsFk 43 (by decide)).trans ((sF71 43 (by decide)).trans (hsFs 43 (by decide))))) hO X B2 E2 p2 hX hMi k28i hE2i k30i hWi k29i (by omega) hek) g_914 g_8 g_911 g_913 gs_Mo_putEntry ⟨by decide +kernel, by decide +kernel, show Option.map (fun d => d.parameters.length) (parseMethodDescriptor y_Mo_putEntry.desc) = some 1 by decide +kernel⟩ ⟨by decide, by decide⟩ rfl rfl hP hD hS hA rfl ww_33 hl.1 (Nat.le_of_ble_eq_true rfl) rfl d_Mo_write_197 ⟨by decide, by decide⟩ (fun v9 w9 H locs hq hP hD hS => ?_)
                                  obtain ⟨I92, F93, hw9, q94⟩ := hq
                                  subst hw9
                                  obtain ⟨rfl, f2, f3, f4, f5, f6, f7, f8⟩ := q94
                                  refine lv_aload_n hx hb d_Mo_write_200 rfl (lv_at hl 4 rfl) ?_
                                  refine va_get (D := D9) (ci := 7) (C := R_Mo) (T := F_Mo) (N := 30) hx hb hts i_Mo hown hK hP 33 ww_33 rfl 24 (by decide) (hts _ g_746) (fun _ h9 => h9) rfl d_Mo_write_201 ?_
                                  refine lv_topq (y := nI (12 + (wE (fl es) (of9 es k) e9 B2 E2 p2).1.length)) (f3) ?_
                                  refine lv_iload_n hx hb d_Mo_write_204 rfl (lv_at hl 0 rfl) ?_
                                  refine lv_iadd hx hb d_Mo_write_205 ?_
                                  refine lv_topq (y := nI (12 + (wE (fl es) (of9 es k) e9 B2 E2 p2).1.length + (stl e9 st2))) (nI_add _ _) ?_
                                  refine lv_iload_n hx hb d_Mo_write_206 rfl (lv_at hl 5 rfl) ?_
                                  refine lv_icmp_le (tgt := 248) hx hb d_Mo_write_207 (by decide) (fun c95 => ?_) (fun c95 => ?_)
                                  · have c95 : 12 + (wE (fl es) (of9 es k) e9 B2 E2 p2).1.length + (stl e9 st2) ≤ lim := (nI_leI (a := 12 + (wE (fl es) (of9 es k) e9 B2 E2 p2).1.length + (stl e9 st2)) (b := lim) (by omega) (by omega)).mp c95
                                    rw [wSt_ok (Or.inr c78) (by omega)] at hRr
                                    refine lv_aload hx hb d_Mo_write_248 (lv_at hl 7 rfl) ?_
                                    refine lv_iload hx hb d_Mo_write_250 (lv_at hl 8 rfl) ?_
                                    refine lv_dup2_11 hx hb d_Mo_write_252 rfl rfl ?_
                                    refine va_iald (D := D9) hx hb hK hP 47 1 ww_47 rfl (vp_in_nI (by omega) (by decide)) d_Mo_write_253 ?_
                                    refine lv_topq (y := nI n2) (by rw [nI_clamp (by omega)]; exact ((congrFun (f6 47 (by decide)) _).trans hcs)) ?_
                                    refine lv_iconst (v := 1) hx hb d_Mo_write_254 (by decide) ?_
                                    refine lv_topq (y := nI 1) (rfl) ?_
                                    refine lv_iadd hx hb d_Mo_write_255 ?_
                                    refine lv_topq (y := nI (n2 + 1)) (nI_add _ _) ?_
                                    refine va_iast (D := D9) hx hb hK hP hD hS 47 1 ww_47 rfl (vp_in_nI (by omega) (by decide)) d_Mo_write_256 (fun H locs hP hD hS => ?_)
                                    obtain ⟨F96, aF96, sF96, hP, hD⟩ := fx (P := fun z => va_P D9 cls9 (WW a cB cI cJ cG _ z O) H ∧ va_D A0 (WW a cB cI cJ cG _ z O)) ⟨wpa_47 hP, wda_47 hD⟩
                                    rw [nI_clamp (by omega)] at aF96
                                    refine lv_iinc (lv' := [(6, .int (nI (k + 1))), (2, _), (9, _), (8, _), (7, _), (0, _), (1, _), (3, _), (4, _), (5, _)]) hx hb d_Mo_write_257 hl (k := 9) rfl (nI_add _ 1) (by decide) rfl (fun ls hl => ?_)
                                    refine lv_goto (tgt := 117) hx hb d_Mo_write_260 (by decide) ?_
                                    exact ihk _ (by omega) (k + 1) (wE (fl es) (of9 es k) e9 B2 E2 p2).1 (wE (fl es) (of9 es k) e9 B2 E2 p2).2.1 (wE (fl es) (of9 es k) e9 B2 E2 p2).2.2 ct2 (stl e9 st2) (n2 + 1) _ _ _ _ _ (sm_tr (sm_mo hsIk (by decide)) (sm_mo f2 (by decide))) (sm_tr (sm_tr (sm_mo hsFk (by decide)) (sm_mo f6 (by decide))) (sm_mo sF96 (by decide))) rfl (by omega) hRr ⟨q1, q2⟩ (by omega) (by omega) (by rw [aF96]; exact pk_us) (fun i hi => by rw [aF96, pk_un (by omega), (f6 47 (by decide))]; exact hci i hi) (BR_eq f7 (sF96 44 (by decide))) f3 (MeR_sm f8 (sF96 45 (by decide)) (sF96 46 (by decide))) f4 k1 f5 hP hD hS (lv_pk hl [5, 6, 1, 7, 8, 9, 0] rfl)
                                  · have c95 : ¬ (12 + (wE (fl es) (of9 es k) e9 B2 E2 p2).1.length + (stl e9 st2) ≤ lim) := fun z9 => c95 ((nI_leI (a := 12 + (wE (fl es) (of9 es k) e9 B2 E2 p2).1.length + (stl e9 st2)) (b := lim) (by omega) (by omega)).mpr z9)
                                    exfalso; omega
                              · have c74 : ct2 = true := bI_t c74
                                refine lv_aload_n hx hb d_Mo_write_142 rfl (lv_at hl 0 rfl) ?_
                                refine lv_iload hx hb d_Mo_write_143 (lv_at hl 6 rfl) ?_
                                refine mw_cV (ci := 7) (k := 33) C0 (m_Mo_must l D9 cB cI cJ cG a O _ _ es k e9 he9 (MoR_sm hR ((hsFk 35 (by decide)).trans ((sF71 35 (by decide)).trans (hsFs 35 (by decide)))) ((hsFk 36 (by decide)).trans ((sF71 36 (by decide)).trans (hsFs 36 (by decide)))) ((hsFk 37 (by decide)).trans ((sF71 37 (by decide)).trans (hsFs 37 (by decide)))) ((hsFk 38 (by decide)).trans ((sF71 38 (by decide)).trans (hsFs 38 (by decide)))) ((hsFk 39 (by decide)).trans ((sF71 39 (by decide)).trans (hsFs 39 (by decide)))) ((hsFk 40 (by decide)).trans ((sF71 40 (by decide)).trans (hsFs 40 (by decide)))) ((hsFk 41 (by decide)).trans ((sF71 41 (by decide)).trans (hsFs 41 (by decide)))) ((hsFk 42 (by decide)).trans ((sF71 42 (by decide)).trans (hsFs 42 (by decide)))) ((hsFk 43 (by decide)).trans ((sF71 43 (by decide)).trans (hsFs 43 (by decide))))) hO) g_910 g_8 g_907 g_909 gs_Mo_must ⟨by decide +kernel, by decide +kernel, show Option.map (fun d => d.parameters.length) (parseMethodDescriptor y_Mo_must.desc) = some 1 by decide +kernel⟩ ⟨by decide, by decide⟩ rfl rfl hP hD hS hA rfl ww_33 hl.1 (Nat.le_of_ble_eq_true rfl) rfl d_Mo_write_145 ⟨by decide, by decide⟩ (fun v9 w9 H locs hq hP hD hS => ?_)
                                obtain ⟨I97, F98, hw9, q99⟩ := hq
                                subst hw9
                                obtain ⟨rfl, rfl, rfl⟩ := q99
                                refine lv_if_ne (tgt := 154) hx hb d_Mo_write_148 (by decide) (fun c100 => ?_) (fun c100 => ?_)
                                · have c100 : mst e9 = true := bI_t c100
                                  refine lv_aload_n hx hb d_Mo_write_154 rfl (lv_at hl 0 rfl) ?_
                                  refine va_get (D := D9) (ci := 7) (C := R_Mo) (T := F_Mo) (N := 30) hx hb hts i_Mo hown hK hP 33 ww_33 rfl 24 (by decide) (hts _ g_746) (fun _ h9 => h9) rfl d_Mo_write_155 ?_
                                  refine lv_topq (y := nI (12 + B2.length)) (k28i) ?_
                                  refine lv_istore (lv' := [(7, _), (0, _), (1, _), (2, _), (3, _), (4, _), (5, _), (6, _)]) hx hb d_Mo_write_158 hl (by decide) rfl (fun ls hl => ?_)
                                  refine lv_aload_n hx hb d_Mo_write_160 rfl (lv_at hl 1 rfl) ?_
                                  refine va_get (D := D9) (ci := 7) (C := R_Mo) (T := F_Mo) (N := 30) hx hb hts i_Mo hown hK hP 33 ww_33 rfl 28 (by decide) (hts _ g_750) (fun _ h9 => h9) rfl d_Mo_write_161 ?_
                                  refine lv_topq (y := nI E2.length) (k30i) ?_
                                  refine lv_istore (lv' := [(8, _), (7, _), (0, _), (1, _), (2, _), (3, _), (4, _), (5, _), (6, _)]) hx hb d_Mo_write_164 hl (by decide) rfl (fun ls hl => ?_)
                                  refine lv_aload_n hx hb d_Mo_write_166 rfl (lv_at hl 2 rfl) ?_
                                  refine va_get (D := D9) (ci := 7) (C := R_Mo) (T := F_Mo) (N := 30) hx hb hts i_Mo hown hK hP 33 ww_33 rfl 25 (by decide) (hts _ g_747) (fun _ h9 => h9) rfl d_Mo_write_167 ?_
                                  refine lv_topq (y := nI p2) (k29i) ?_
                                  refine lv_istore (lv' := [(9, _), (8, _), (7, _), (0, _), (1, _), (2, _), (3, _), (4, _), (5, _), (6, _)]) hx hb d_Mo_write_170 hl (by decide) rfl (fun ls hl => ?_)
                                  refine lv_aload_n hx hb d_Mo_write_172 rfl (lv_at hl 3 rfl) ?_
                                  refine lv_iload hx hb d_Mo_write_173 (lv_at hl 9 rfl) ?_
                                  refine mw_cV (ci := 7) (k := 33) C0 (m_Mo_must l D9 cB cI cJ cG a O _ _ es k e9 he9 (MoR_sm hR ((hsFk 35 (by decide)).trans ((sF71 35 (by decide)).trans (hsFs 35 (by decide)))) ((hsFk 36 (by decide)).trans ((sF71 36 (by decide)).trans (hsFs 36 (by decide)))) ((hsFk 37 (by decide)).trans ((sF71 37 (by decide)).trans (hsFs 37 (by decide)))) ((hsFk 38 (by decide)).trans ((sF71 38 (by decide)).trans (hsFs 38 (by decide)))) ((hsFk 39 (by decide)).trans ((sF71 39 (by decide)).trans (hsFs 39 (by decide)))) ((hsFk 40 (by decide)).trans ((sF71 40 (by decide)).trans (hsFs 40 (by decide)))) ((hsFk 41 (by decide)).trans ((sF71 41 (by decide)).trans (hsFs 41 (by decide)))) ((hsFk 42 (by decide)).trans ((sF71 42 (by decide)).trans (hsFs 42 (by decide)))) ((hsFk 43 (by decide)).trans ((sF71 43 (by decide)).trans (hsFs 43 (by decide))))) hO) g_910 g_8 g_907 g_909 gs_Mo_must ⟨by decide +kernel, by decide +kernel, show Option.map (fun d => d.parameters.length) (parseMethodDescriptor y_Mo_must.desc) = some 1 by decide +kernel⟩ ⟨by decide, by decide⟩ rfl rfl hP hD hS hA rfl ww_33 hl.1 (Nat.le_of_ble_eq_true rfl) rfl d_Mo_write_175 ⟨by decide, by decide⟩ (fun v9 w9 H locs hq hP hD hS => ?_)
                                  obtain ⟨I101, F102, hw9, q103⟩ := hq
                                  subst hw9
                                  obtain ⟨rfl, rfl, rfl⟩ := q103
                                  refine lv_topq (y := nI 1) (by rw [c100]; rfl) ?_
                                  refine lv_if_eq (tgt := 194) hx hb d_Mo_write_178 (by decide) (fun c104 => ?_) (fun c104 => ?_)
                                  · exact absurd c104 (by decide)
                                  · have hsy := q3 c100
                                    have k7 := k5 (by unfold mst at c100; simpa using c100)
                                    refine lv_iload_n hx hb d_Mo_write_181 rfl (lv_at hl 5 rfl) ?_
                                    refine lv_bipush (v := 11) hx hb d_Mo_write_182 (by decide) ?_
                                    refine lv_topq (y := nI 11) (rfl) ?_
                                    refine lv_aload_n hx hb d_Mo_write_184 rfl (lv_at hl 3 rfl) ?_
                                    refine va_get (D := D9) (ci := 7) (C := R_Mo) (T := F_Mo) (N := 30) hx hb hts i_Mo hown hK hP 33 ww_33 rfl 15 (by decide) (hts _ g_737) (fun _ h9 => h9) rfl d_Mo_write_185 ?_
                                    refine lv_iload hx hb d_Mo_write_188 (lv_at hl 9 rfl) ?_
                                    refine va_iald (D := D9) hx hb hK hP 43 1 ww_43 rfl (vp_in_nI (by omega) (by decide)) d_Mo_write_190 ?_
                                    refine lv_topq (y := nI ((eD e9).length)) (by rw [nI_clamp (by omega)]; exact ((congrFun (hsFk 43 (by decide)) _).trans ((congrFun (sF71 43 (by decide)) _).trans ((congrFun (hsFs 43 (by decide)) _).trans z43)))) ?_
                                    refine lv_iadd hx hb d_Mo_write_191 ?_
                                    refine lv_topq (y := nI (11 + ((eD e9).length))) (nI_add _ _) ?_
                                    refine lv_isub hx hb d_Mo_write_192 ?_
                                    refine lv_topq (y := nI (stl e9 st2)) ((pk_sub (by omega)).trans (congrArg nI (by omega))) ?_
                                    refine lv_istore_n (lv' := [(2, _), (9, _), (8, _), (7, _), (0, _), (1, _), (3, _), (4, _), (5, _), (6, _)]) hx hb d_Mo_write_193 rfl hl (by decide) rfl (fun ls hl => ?_)
                                    refine lv_aload_n hx hb d_Mo_write_194 rfl (lv_at hl 4 rfl) ?_
                                    refine lv_iload hx hb d_Mo_write_195 (lv_at hl 9 rfl) ?_
                                    refine mw_cV (ci := 7) (k := 33) C0 (m_Mo_putEntry l D9 cB cI cJ cG a O _ _ es k e9 he9 (MoR_sm hR ((hsFk 35 (by decide)).trans ((sF71 35 (by decide)).trans (hsFs 35 (by decide)))) ((hsFk 36 (by decide)).trans ((sF71 36 (by decide)).trans (hsFs 36 (by decide)))) ((hsFk 37 (by decide)).trans ((sF71 37 (by decide)).trans (hsFs 37 (by decide)))) ((hsFk 38 (by decide)).trans ((sF71 38 (by decide)).trans (hsFs 38 (by decide)))) ((hsFk 39 (by decide)).trans ((sF71 39 (by decide)).trans (hsFs 39 (by decide)))) ((hsFk 40 (by decide)).trans ((sF71 40 (by decide)).trans (hsFs 40 (by decide)))) ((hsFk 41 (by decide)).trans ((sF71 41 (by decide)).trans (hsFs 41 (by decide)))) ((hsFk 42 (by decide)).trans ((sF71 42 (by decide)).trans (hsFs 42 (by decide)))) ((hsFk 43 (by decide)).trans ((sF71 43 (by decide)).trans (hsFs 43 (by decide))))) hO X B2 E2 p2 hX hMi k28i hE2i k30i hWi k29i (by omega) hek) g_914 g_8 g_911 g_913 gs_Mo_putEntry ⟨by decide +kernel, by decide +kernel, show Option.map (fun d => d.parameters.length) (parseMethodDescriptor y_Mo_putEntry.desc) = some 1 by decide +kernel⟩ ⟨by decide, by decide⟩ rfl rfl hP hD hS hA rfl ww_33 hl.1 (Nat.le_of_ble_eq_true rfl) rfl d_Mo_write_197 ⟨by decide, by decide⟩ (fun v9 w9 H locs hq hP hD hS => ?_)
                                    obtain ⟨I105, F106, hw9, q107⟩ := hq
                                    subst hw9
                                    obtain ⟨rfl, f2, f3, f4, f5, f6, f7, f8⟩ := q107
                                    refine lv_aload_n hx hb d_Mo_write_200 rfl (lv_at hl 4 rfl) ?_
                                    refine va_get (D := D9) (ci := 7) (C := R_Mo) (T := F_Mo) (N := 30) hx hb hts i_Mo hown hK hP 33 ww_33 rfl 24 (by decide) (hts _ g_746) (fun _ h9 => h9) rfl d_Mo_write_201 ?_
                                    refine lv_topq (y := nI (12 + (wE (fl es) (of9 es k) e9 B2 E2 p2).1.length)) (f3) ?_
                                    refine lv_iload_n hx hb d_Mo_write_204 rfl (lv_at hl 0 rfl) ?_
                                    refine lv_iadd hx hb d_Mo_write_205 ?_
                                    refine lv_topq (y := nI (12 + (wE (fl es) (of9 es k) e9 B2 E2 p2).1.length + (stl e9 st2))) (nI_add _ _) ?_
                                    refine lv_iload_n hx hb d_Mo_write_206 rfl (lv_at hl 5 rfl) ?_
                                    refine lv_icmp_le (tgt := 248) hx hb d_Mo_write_207 (by decide) (fun c108 => ?_) (fun c108 => ?_)
                                    · have c108 : 12 + (wE (fl es) (of9 es k) e9 B2 E2 p2).1.length + (stl e9 st2) ≤ lim := (nI_leI (a := 12 + (wE (fl es) (of9 es k) e9 B2 E2 p2).1.length + (stl e9 st2)) (b := lim) (by omega) (by omega)).mp c108
                                      rw [wSt_ok (Or.inr c100) (by omega)] at hRr
                                      refine lv_aload hx hb d_Mo_write_248 (lv_at hl 7 rfl) ?_
                                      refine lv_iload hx hb d_Mo_write_250 (lv_at hl 8 rfl) ?_
                                      refine lv_dup2_11 hx hb d_Mo_write_252 rfl rfl ?_
                                      refine va_iald (D := D9) hx hb hK hP 47 1 ww_47 rfl (vp_in_nI (by omega) (by decide)) d_Mo_write_253 ?_
                                      refine lv_topq (y := nI n2) (by rw [nI_clamp (by omega)]; exact ((congrFun (f6 47 (by decide)) _).trans hcs)) ?_
                                      refine lv_iconst (v := 1) hx hb d_Mo_write_254 (by decide) ?_
                                      refine lv_topq (y := nI 1) (rfl) ?_
                                      refine lv_iadd hx hb d_Mo_write_255 ?_
                                      refine lv_topq (y := nI (n2 + 1)) (nI_add _ _) ?_
                                      refine va_iast (D := D9) hx hb hK hP hD hS 47 1 ww_47 rfl (vp_in_nI (by omega) (by decide)) d_Mo_write_256 (fun H locs hP hD hS => ?_)
                                      obtain ⟨F109, aF109, sF109, hP, hD⟩ := fx (P := fun z => va_P D9 cls9 (WW a cB cI cJ cG _ z O) H ∧ va_D A0 (WW a cB cI cJ cG _ z O)) ⟨wpa_47 hP, wda_47 hD⟩
                                      rw [nI_clamp (by omega)] at aF109
                                      refine lv_iinc (lv' := [(6, .int (nI (k + 1))), (2, _), (9, _), (8, _), (7, _), (0, _), (1, _), (3, _), (4, _), (5, _)]) hx hb d_Mo_write_257 hl (k := 9) rfl (nI_add _ 1) (by decide) rfl (fun ls hl => ?_)
                                      refine lv_goto (tgt := 117) hx hb d_Mo_write_260 (by decide) ?_
                                      exact ihk _ (by omega) (k + 1) (wE (fl es) (of9 es k) e9 B2 E2 p2).1 (wE (fl es) (of9 es k) e9 B2 E2 p2).2.1 (wE (fl es) (of9 es k) e9 B2 E2 p2).2.2 ct2 (stl e9 st2) (n2 + 1) _ _ _ _ _ (sm_tr (sm_mo hsIk (by decide)) (sm_mo f2 (by decide))) (sm_tr (sm_tr (sm_mo hsFk (by decide)) (sm_mo f6 (by decide))) (sm_mo sF109 (by decide))) rfl (by omega) hRr ⟨q1, q2⟩ (by omega) (by omega) (by rw [aF109]; exact pk_us) (fun i hi => by rw [aF109, pk_un (by omega), (f6 47 (by decide))]; exact hci i hi) (BR_eq f7 (sF109 44 (by decide))) f3 (MeR_sm f8 (sF109 45 (by decide)) (sF109 46 (by decide))) f4 k1 f5 hP hD hS (lv_pk hl [5, 6, 1, 7, 8, 9, 0] rfl)
                                    · have c108 : ¬ (12 + (wE (fl es) (of9 es k) e9 B2 E2 p2).1.length + (stl e9 st2) ≤ lim) := fun z9 => c108 ((nI_leI (a := 12 + (wE (fl es) (of9 es k) e9 B2 E2 p2).1.length + (stl e9 st2)) (b := lim) (by omega) (by omega)).mpr z9)
                                      exfalso; omega
                                · have c100 : mst e9 = false := bI_f c100
                                  refine lv_goto (tgt := 257) hx hb d_Mo_write_151 (by decide) ?_
                                  refine lv_iinc (lv' := [(6, .int (nI (k + 1))), (0, _), (1, _), (2, _), (3, _), (4, _), (5, _)]) hx hb d_Mo_write_257 hl (k := 6) rfl (nI_add _ 1) (by decide) rfl (fun ls hl => ?_)
                                  refine lv_goto (tgt := 117) hx hb d_Mo_write_260 (by decide) ?_
                                  have hsx : stl e9 st2 = st2 := by unfold stl; rw [if_neg (by rw [c100]; decide)]
                                  rw [hsx] at q1 q2
                                  rw [c74, wSt_skip c100] at hRr
                                  rw [c74] at hl
                                  exact ihk _ (by omega) (k + 1) B2 E2 p2 true st2 n2 _ _ _ _ _ (sm_mo hsIk (by decide)) (sm_mo hsFk (by decide)) rfl (by omega) hRr ⟨q1, q2⟩ hfi2 (by omega) hcs hci hMi k28i hE2i k30i hWi k29i hP hD hS (lv_pk hl [1, 2, 3, 4, 5, 6, 0] rfl)
                      exact loopK _ 0 B E pt cut still 0 _ _ _ _ _ sm_rf sm_rf rfl (Nat.zero_le _) (by show wSec es lim sc (wIt es lim sc) = _; rw [hst]; rfl) ⟨fun z => by rw [List.drop_zero]; exact hsl (by omega), fun z => hsl (by omega)⟩ hfit (Nat.le_refl _) (by rw [aF71]; exact pk_us) (fun i hi => by rw [aF71, pk_un (by omega)]; exact hcn i hi) (BR_eq hM (sF71 44 (by decide))) k28 (MeR_sm hE2 (sF71 45 (by decide)) (sF71 46 (by decide))) k30 hW k29 hP hD hS (lv_pk hl [1, 2, 3, 4, 5, 6, 0] rfl)
                exact loopS _ 0 [] [] 0 false (mu3 (fil 3 es)) 0 _ _ _ _ _ sm_rf sm_rf rfl (by decide) (fun i hi => by omega) rfl (fun _ => rfl) (by simp; omega) (by rw [List.append_nil]; exact hBX) ((sI22 28 (by decide)).trans ((sI21 28 (by decide)).trans aI20)) (fun k hk => by simp at hk) ((sI22 30 (by decide)).trans aI21) ⟨⟨fun k hk => by simp at hk, fun i j _ hj => by simp at hj, by decide⟩, by decide⟩ aI22 hP hD hS (lv_pk hl [3, 4, 5, 2, 1, 0] rfl)
              · have c19 : ¬ (12 + (mu3 (fil 3 es)) ≤ lim) := fun z9 => c19 ((nI_leI (a := 12 + (mu3 (fil 3 es))) (b := lim) (by omega) (by omega)).mpr z9)
                refine lv_aload_n hx hb d_Mo_write_69 rfl (lv_at hl 0 rfl) ?_
                refine lv_iconst (v := 2) hx hb d_Mo_write_70 (by decide) ?_
                refine lv_topq (y := nI 2) (rfl) ?_
                refine mw_cV (ci := 7) (k := 33) C0 (m_Mo_fail l D9 cB cI cJ cG a O _ _ (nI 2)) g_873 g_8 g_870 g_872 gs_Mo_fail ⟨by decide +kernel, by decide +kernel, show Option.map (fun d => d.parameters.length) (parseMethodDescriptor y_Mo_fail.desc) = some 1 by decide +kernel⟩ ⟨by decide, by decide⟩ rfl rfl hP hD hS hA rfl ww_33 hl.1 (Nat.le_of_ble_eq_true rfl) rfl d_Mo_write_71 ⟨by decide, by decide⟩ (fun v9 w9 H locs hq hP hD hS => ?_)
                obtain ⟨I110, F111, hw9, q112⟩ := hq
                subst hw9
                obtain ⟨rfl, sI110, zI110, rfl⟩ := q112
                exact hret _ _ _ _ _ _ _ hS hP hD d_Mo_write_74 nr_i (Or.inr ⟨lim, by omega, by omega, rfl, Or.inl ⟨by omega, ⟨_, rfl⟩, (sm_tr (sm_mo sI12 (by decide)) (sm_mo sI110 (by decide))), zI110, rfl⟩⟩)
            · have c18 : ¬ (es.length ≤ k) := fun z9 => c18 ((nI_leI (a := es.length) (b := k) (by omega) (by omega)).mpr z9)
              obtain ⟨e9, he9⟩ := get_tk (show k < es.length by omega)
              have hmf := mu3_fil he9
              have z43 := (hR.1 k e9 he9).2.2.2.2.2.2.2
              refine lv_aload_n hx hb d_Mo_write_35 rfl (lv_at hl 0 rfl) ?_
              refine lv_iload_n hx hb d_Mo_write_36 rfl (lv_at hl 3 rfl) ?_
              refine mw_cV (ci := 7) (k := 33) C0 (m_Mo_must l D9 cB cI cJ cG a O _ _ es k e9 he9 hR hO) g_910 g_8 g_907 g_909 gs_Mo_must ⟨by decide +kernel, by decide +kernel, show Option.map (fun d => d.parameters.length) (parseMethodDescriptor y_Mo_must.desc) = some 1 by decide +kernel⟩ ⟨by decide, by decide⟩ rfl rfl hP hD hS hA rfl ww_33 hl.1 (Nat.le_of_ble_eq_true rfl) rfl d_Mo_write_37 ⟨by decide, by decide⟩ (fun v9 w9 H locs hq hP hD hS => ?_)
              obtain ⟨I113, F114, hw9, q115⟩ := hq
              subst hw9
              obtain ⟨rfl, rfl, rfl⟩ := q115
              refine lv_if_eq (tgt := 55) hx hb d_Mo_write_40 (by decide) (fun c116 => ?_) (fun c116 => ?_)
              · have c116 : mst e9 = false := bI_f c116
                rw [if_neg (by rw [c116]; decide)] at hmf
                rw [show mu3 (fil 3 (es.take k)) = mu3 (fil 3 (es.take (k + 1))) by omega] at hl
                refine lv_iinc (lv' := [(3, .int (nI (k + 1))), (0, _), (1, _), (2, _)]) hx hb d_Mo_write_55 hl (k := 3) rfl (nI_add _ 1) (by decide) rfl (fun ls hl => ?_)
                refine lv_goto (tgt := 27) hx hb d_Mo_write_58 (by decide) ?_
                exact ihc _ (by omega) (k + 1)  _ _ _ rfl (by omega) hP hD hS (lv_pk hl [1, 2, 3, 0] rfl)
              · have c116 : mst e9 = true := bI_t c116
                rw [if_pos c116] at hmf
                refine lv_iload_n hx hb d_Mo_write_43 rfl (lv_at hl 2 rfl) ?_
                refine lv_bipush (v := 11) hx hb d_Mo_write_44 (by decide) ?_
                refine lv_topq (y := nI 11) (rfl) ?_
                refine lv_aload_n hx hb d_Mo_write_46 rfl (lv_at hl 0 rfl) ?_
                refine va_get (D := D9) (ci := 7) (C := R_Mo) (T := F_Mo) (N := 30) hx hb hts i_Mo hown hK hP 33 ww_33 rfl 15 (by decide) (hts _ g_737) (fun _ h9 => h9) rfl d_Mo_write_47 ?_
                refine lv_iload_n hx hb d_Mo_write_50 rfl (lv_at hl 3 rfl) ?_
                refine va_iald (D := D9) hx hb hK hP 43 1 ww_43 rfl (vp_in_nI (by omega) (by decide)) d_Mo_write_51 ?_
                refine lv_topq (y := nI ((eD e9).length)) (by rw [nI_clamp (by omega)]; exact z43) ?_
                refine lv_iadd hx hb d_Mo_write_52 ?_
                refine lv_topq (y := nI (11 + ((eD e9).length))) (nI_add _ _) ?_
                refine lv_iadd hx hb d_Mo_write_53 ?_
                refine lv_topq (y := nI (mu3 (fil 3 (es.take k)) + (11 + ((eD e9).length)))) (nI_add _ _) ?_
                refine lv_istore_n (lv' := [(2, _), (0, _), (1, _), (3, _)]) hx hb d_Mo_write_54 rfl hl (by decide) rfl (fun ls hl => ?_)
                rw [show mu3 (fil 3 (es.take k)) + (11 + ((eD e9).length)) = mu3 (fil 3 (es.take (k + 1))) by omega] at hl
                refine lv_iinc (lv' := [(3, .int (nI (k + 1))), (2, _), (0, _), (1, _)]) hx hb d_Mo_write_55 hl (k := 3) rfl (nI_add _ 1) (by decide) rfl (fun ls hl => ?_)
                refine lv_goto (tgt := 27) hx hb d_Mo_write_58 (by decide) ?_
                exact ihc _ (by omega) (k + 1)  _ _ _ rfl (by omega) hP hD hS (lv_pk hl [2, 3, 1, 0] rfl)
        exact loopA _ 0  _ _ _ rfl (Nat.zero_le _) hP hD hS (lv_pk hl [2, 3, 1, 0] rfl)
      · have c17 : ¬ (lim ≤ 65535) := fun z9 => c17 ((nI_leI (a := lim) (b := 65535) (by omega) (by omega)).mpr z9)
        exfalso; omega
