/-! THE REFERENCE: entries, read -/
theorem MoR_add {F F' : Nat → Nat → Int32} {es : List En9} {x : En9} (h : MoR F es) (hB : BR 0 140000 (F' 35) (fl es ++ (eN x ++ eD x))) (e36 : F' 36 = upd (F 36) es.length (nI (eS x))) (e37 : F' 37 = upd (F 37) es.length (nI (eT x))) (e38 : F' 38 = upd (F 38) es.length (nI (eK x))) (e39 : F' 39 = upd (F 39) es.length (eL x)) (e40 : F' 40 = upd (F 40) es.length (nI (fl es).length)) (e41 : F' 41 = upd (F 41) es.length (nI (eN x).length)) (e42 : F' 42 = upd (F 42) es.length (nI ((fl es).length + (eN x).length))) (e43 : F' 43 = upd (F 43) es.length (nI (eD x).length)) : MoR F' (es ++ [x]) := by
  refine ⟨?_, by rw [fl_add]; exact hB⟩
  intro r e hr
  by_cases hi : r < es.length
  · rw [List.getElem?_append_left hi] at hr
    obtain ⟨a1, a2, a3, a4, a5, a6, a7, a8⟩ := h.1 r e hr
    rw [e36, e37, e38, e39, e40, e41, e42, e43, pk_un (by omega), pk_un (by omega), pk_un (by omega), pk_un (by omega), pk_un (by omega), pk_un (by omega), pk_un (by omega), pk_un (by omega), of9_app (by omega)]
    exact ⟨a1, a2, a3, a4, a5, a6, a7, a8⟩
  · have h2 := (List.getElem?_eq_some_iff.mp hr).1
    rw [List.length_append, List.length_singleton] at h2
    have h3 : r = es.length := by omega
    subst h3
    rw [List.getElem?_append_right (Nat.le_refl _), Nat.sub_self] at hr
    simp only [List.getElem?_cons_zero, Option.some.injEq] at hr
    subst hr
    rw [e36, e37, e38, e39, e40, e41, e42, e43, pk_us, pk_us, pk_us, pk_us, pk_us, pk_us, pk_us, pk_us, of9_app (Nat.le_refl _), of9_end]
    exact ⟨rfl, rfl, rfl, rfl, rfl, rfl, rfl, rfl⟩
theorem MoR_nil {F : Nat → Nat → Int32} (h : sb_Fit (F 35)) : MoR F [] := ⟨fun r e hr => by simp at hr, BR_nil h⟩
theorem okB_cn {es : List En9} {x : En9} (hO : okE es) (hs : eS x < 4) : okB es x = true ↔ (cn 0 (es ++ [x]) ≤ 100 ∧ (es ++ [x]).length - cn 0 (es ++ [x]) ≤ 1000 ∧ (fl es).length + ((eN x).length + (eD x).length) ≤ 65536) := by
  have h1 := okE_len hO
  have h2 := hO.1
  have h3 := hO.2.1
  unfold okB
  simp only [Bool.and_eq_true, decide_eq_true_eq, cn_app, cn_one, List.length_append, List.length_singleton]
  constructor
  · rintro ⟨a, b⟩
    have := hp_t a
    refine ⟨?_, ?_, b⟩ <;> split <;> omega
  · rintro ⟨a, b, d⟩
    refine ⟨?_, d⟩
    cases hh : hp (eS x) es with
    | true => rfl
    | false =>
      have := hp_f hh
      by_cases hz : eS x = 0
      · rw [if_pos hz] at a; omega
      · rw [if_neg hz] at b; omega
theorem g_845 : (Cond.methodLink "WireMessagesModel" (120 : Nat) ({ cls := "WireMessagesModel", name := "data", desc := "(IZ)V" } : MethodName)) ∈ GT := gt_mem 845 (by decide +kernel) rfl
theorem g_847 : (Cond.instanceMethod ({ cls := "WireMessagesModel", name := "data", desc := "(IZ)V" } : MethodName)) ∈ GT := gt_mem 847 (by decide +kernel) rfl
theorem g_848 : (Cond.code ({ cls := "WireMessagesModel", name := "data", desc := "(IZ)V" } : MethodName) prog_10_method_14_code (5 : Nat) (Option.none : Option FieldType)) ∈ GT := gt_mem 848 (by decide +kernel) rfl
theorem g_857 : (Cond.methodLink "WireMessagesModel" (124 : Nat) ({ cls := "WireMessagesModel", name := "records", desc := "()I" } : MethodName)) ∈ GT := gt_mem 857 (by decide +kernel) rfl
theorem g_859 : (Cond.instanceMethod ({ cls := "WireMessagesModel", name := "records", desc := "()I" } : MethodName)) ∈ GT := gt_mem 859 (by decide +kernel) rfl
theorem g_860 : (Cond.code ({ cls := "WireMessagesModel", name := "records", desc := "()I" } : MethodName) prog_10_method_6_code (1 : Nat) (Option.some FieldType.int)) ∈ GT := gt_mem 860 (by decide +kernel) rfl
theorem gs_Mo_data : Cond.selects R_Mo y_Mo_data y_Mo_data ∈ GT := gt_sel (q := (⟨"WireMessagesModel", "data", "(IZ)V"⟩, 30)) (by decide +kernel)
theorem gs_Mo_records : Cond.selects R_Mo y_Mo_records y_Mo_records ∈ GT := gt_sel (q := (⟨"WireMessagesModel", "records", "()I"⟩, 30)) (by decide +kernel)
theorem d_Mo_entry_0 : decode b_Mo_entry 0 = .ok (.aload_n 0, 1) := by decide +kernel
theorem d_Mo_entry_1 : decode b_Mo_entry 1 = .ok (.getfield 99, 3) := by decide +kernel
theorem d_Mo_entry_4 : decode b_Mo_entry 4 = .ok (.istore_n 2, 1) := by decide +kernel
theorem d_Mo_entry_5 : decode b_Mo_entry 5 = .ok (.aload_n 0, 1) := by decide +kernel
theorem d_Mo_entry_6 : decode b_Mo_entry 6 = .ok (.getfield 67, 3) := by decide +kernel
theorem d_Mo_entry_9 : decode b_Mo_entry 9 = .ok (.istore_n 3, 1) := by decide +kernel
theorem d_Mo_entry_10 : decode b_Mo_entry 10 = .ok (.aload_n 0, 1) := by decide +kernel
theorem d_Mo_entry_11 : decode b_Mo_entry 11 = .ok (.getfield 18, 3) := by decide +kernel
theorem d_Mo_entry_14 : decode b_Mo_entry 14 = .ok (.iload_n 3, 1) := by decide +kernel
theorem d_Mo_entry_15 : decode b_Mo_entry 15 = .ok (.iload_n 1, 1) := by decide +kernel
theorem d_Mo_entry_16 : decode b_Mo_entry 16 = .ok (.iastore, 1) := by decide +kernel
theorem d_Mo_entry_17 : decode b_Mo_entry 17 = .ok (.aload_n 0, 1) := by decide +kernel
theorem d_Mo_entry_18 : decode b_Mo_entry 18 = .ok (.getfield 31, 3) := by decide +kernel
theorem d_Mo_entry_21 : decode b_Mo_entry 21 = .ok (.iload_n 3, 1) := by decide +kernel
theorem d_Mo_entry_22 : decode b_Mo_entry 22 = .ok (.aload_n 0, 1) := by decide +kernel
theorem d_Mo_entry_23 : decode b_Mo_entry 23 = .ok (.getfield 64, 3) := by decide +kernel
theorem d_Mo_entry_26 : decode b_Mo_entry 26 = .ok (.iastore, 1) := by decide +kernel
theorem d_Mo_entry_27 : decode b_Mo_entry 27 = .ok (.aload_n 0, 1) := by decide +kernel
theorem d_Mo_entry_28 : decode b_Mo_entry 28 = .ok (.iconst 0, 1) := by decide +kernel
theorem d_Mo_entry_29 : decode b_Mo_entry 29 = .ok (.iconst 1, 1) := by decide +kernel
theorem d_Mo_entry_30 : decode b_Mo_entry 30 = .ok (.invokevirtual 112, 3) := by decide +kernel
theorem d_Mo_entry_33 : decode b_Mo_entry 33 = .ok (.aload_n 0, 1) := by decide +kernel
theorem d_Mo_entry_34 : decode b_Mo_entry 34 = .ok (.getfield 80, 3) := by decide +kernel
theorem d_Mo_entry_37 : decode b_Mo_entry 37 = .ok (.ifCond .le 4, 3) := by decide +kernel
theorem d_Mo_entry_40 : decode b_Mo_entry 40 = .ok (.return_, 1) := by decide +kernel
theorem d_Mo_entry_41 : decode b_Mo_entry 41 = .ok (.aload_n 0, 1) := by decide +kernel
theorem d_Mo_entry_42 : decode b_Mo_entry 42 = .ok (.getfield 34, 3) := by decide +kernel
theorem d_Mo_entry_45 : decode b_Mo_entry 45 = .ok (.iload_n 3, 1) := by decide +kernel
theorem d_Mo_entry_46 : decode b_Mo_entry 46 = .ok (.aload_n 0, 1) := by decide +kernel
theorem d_Mo_entry_47 : decode b_Mo_entry 47 = .ok (.getfield 64, 3) := by decide +kernel
theorem d_Mo_entry_50 : decode b_Mo_entry 50 = .ok (.aload_n 0, 1) := by decide +kernel
theorem d_Mo_entry_51 : decode b_Mo_entry 51 = .ok (.getfield 31, 3) := by decide +kernel
theorem d_Mo_entry_54 : decode b_Mo_entry 54 = .ok (.iload_n 3, 1) := by decide +kernel
theorem d_Mo_entry_55 : decode b_Mo_entry 55 = .ok (.iaload, 1) := by decide +kernel
theorem d_Mo_entry_56 : decode b_Mo_entry 56 = .ok (.isub, 1) := by decide +kernel
theorem d_Mo_entry_57 : decode b_Mo_entry 57 = .ok (.iastore, 1) := by decide +kernel
theorem d_Mo_entry_58 : decode b_Mo_entry 58 = .ok (.iload_n 1, 1) := by decide +kernel
theorem d_Mo_entry_59 : decode b_Mo_entry 59 = .ok (.ifCond .ne 7, 3) := by decide +kernel
theorem d_Mo_entry_62 : decode b_Mo_entry 62 = .ok (.iconst 4, 1) := by decide +kernel
theorem d_Mo_entry_63 : decode b_Mo_entry 63 = .ok (.goto 5, 3) := by decide +kernel
theorem d_Mo_entry_66 : decode b_Mo_entry 66 = .ok (.bipush 10, 2) := by decide +kernel
theorem d_Mo_entry_68 : decode b_Mo_entry 68 = .ok (.istore 4, 2) := by decide +kernel
theorem d_Mo_entry_70 : decode b_Mo_entry 70 = .ok (.aload_n 0, 1) := by decide +kernel
theorem d_Mo_entry_71 : decode b_Mo_entry 71 = .ok (.aload_n 0, 1) := by decide +kernel
theorem d_Mo_entry_72 : decode b_Mo_entry 72 = .ok (.getfield 99, 3) := by decide +kernel
theorem d_Mo_entry_75 : decode b_Mo_entry 75 = .ok (.iload 4, 2) := by decide +kernel
theorem d_Mo_entry_77 : decode b_Mo_entry 77 = .ok (.iconst 0, 1) := by decide +kernel
theorem d_Mo_entry_78 : decode b_Mo_entry 78 = .ok (.iconst 0, 1) := by decide +kernel
theorem d_Mo_entry_79 : decode b_Mo_entry 79 = .ok (.invokevirtual 102, 3) := by decide +kernel
theorem d_Mo_entry_82 : decode b_Mo_entry 82 = .ok (.ifCond .ne 4, 3) := by decide +kernel
theorem d_Mo_entry_85 : decode b_Mo_entry 85 = .ok (.return_, 1) := by decide +kernel
theorem d_Mo_entry_86 : decode b_Mo_entry 86 = .ok (.aload_n 0, 1) := by decide +kernel
theorem d_Mo_entry_87 : decode b_Mo_entry 87 = .ok (.getfield 22, 3) := by decide +kernel
theorem d_Mo_entry_90 : decode b_Mo_entry 90 = .ok (.iload_n 3, 1) := by decide +kernel
theorem d_Mo_entry_91 : decode b_Mo_entry 91 = .ok (.aload_n 0, 1) := by decide +kernel
theorem d_Mo_entry_92 : decode b_Mo_entry 92 = .ok (.aload_n 0, 1) := by decide +kernel
theorem d_Mo_entry_93 : decode b_Mo_entry 93 = .ok (.getfield 99, 3) := by decide +kernel
theorem d_Mo_entry_96 : decode b_Mo_entry 96 = .ok (.invokevirtual 106, 3) := by decide +kernel
theorem d_Mo_entry_99 : decode b_Mo_entry 99 = .ok (.iastore, 1) := by decide +kernel
theorem d_Mo_entry_100 : decode b_Mo_entry 100 = .ok (.aload_n 0, 1) := by decide +kernel
theorem d_Mo_entry_101 : decode b_Mo_entry 101 = .ok (.getfield 25, 3) := by decide +kernel
theorem d_Mo_entry_104 : decode b_Mo_entry 104 = .ok (.iload_n 3, 1) := by decide +kernel
theorem d_Mo_entry_105 : decode b_Mo_entry 105 = .ok (.aload_n 0, 1) := by decide +kernel
theorem d_Mo_entry_106 : decode b_Mo_entry 106 = .ok (.aload_n 0, 1) := by decide +kernel
theorem d_Mo_entry_107 : decode b_Mo_entry 107 = .ok (.getfield 99, 3) := by decide +kernel
theorem d_Mo_entry_110 : decode b_Mo_entry 110 = .ok (.iconst 2, 1) := by decide +kernel
theorem d_Mo_entry_111 : decode b_Mo_entry 111 = .ok (.iadd, 1) := by decide +kernel
theorem d_Mo_entry_112 : decode b_Mo_entry 112 = .ok (.invokevirtual 106, 3) := by decide +kernel
theorem d_Mo_entry_115 : decode b_Mo_entry 115 = .ok (.iastore, 1) := by decide +kernel
theorem d_Mo_entry_116 : decode b_Mo_entry 116 = .ok (.aload_n 0, 1) := by decide +kernel
theorem d_Mo_entry_117 : decode b_Mo_entry 117 = .ok (.getfield 28, 3) := by decide +kernel
theorem d_Mo_entry_120 : decode b_Mo_entry 120 = .ok (.iload_n 3, 1) := by decide +kernel
theorem d_Mo_entry_121 : decode b_Mo_entry 121 = .ok (.iload_n 1, 1) := by decide +kernel
theorem d_Mo_entry_122 : decode b_Mo_entry 122 = .ok (.ifCond .ne 7, 3) := by decide +kernel
theorem d_Mo_entry_125 : decode b_Mo_entry 125 = .ok (.iconst 0, 1) := by decide +kernel
theorem d_Mo_entry_126 : decode b_Mo_entry 126 = .ok (.goto 28, 3) := by decide +kernel
theorem d_Mo_entry_129 : decode b_Mo_entry 129 = .ok (.aload_n 0, 1) := by decide +kernel
theorem d_Mo_entry_130 : decode b_Mo_entry 130 = .ok (.aload_n 0, 1) := by decide +kernel
theorem d_Mo_entry_131 : decode b_Mo_entry 131 = .ok (.getfield 99, 3) := by decide +kernel
theorem d_Mo_entry_134 : decode b_Mo_entry 134 = .ok (.iconst 4, 1) := by decide +kernel
theorem d_Mo_entry_135 : decode b_Mo_entry 135 = .ok (.iadd, 1) := by decide +kernel
theorem d_Mo_entry_136 : decode b_Mo_entry 136 = .ok (.invokevirtual 106, 3) := by decide +kernel
theorem d_Mo_entry_139 : decode b_Mo_entry 139 = .ok (.bipush 16, 2) := by decide +kernel
theorem d_Mo_entry_141 : decode b_Mo_entry 141 = .ok (.ishl, 1) := by decide +kernel
theorem d_Mo_entry_142 : decode b_Mo_entry 142 = .ok (.aload_n 0, 1) := by decide +kernel
theorem d_Mo_entry_143 : decode b_Mo_entry 143 = .ok (.aload_n 0, 1) := by decide +kernel
theorem d_Mo_entry_144 : decode b_Mo_entry 144 = .ok (.getfield 99, 3) := by decide +kernel
theorem d_Mo_entry_147 : decode b_Mo_entry 147 = .ok (.bipush 6, 2) := by decide +kernel
theorem d_Mo_entry_149 : decode b_Mo_entry 149 = .ok (.iadd, 1) := by decide +kernel
theorem d_Mo_entry_150 : decode b_Mo_entry 150 = .ok (.invokevirtual 106, 3) := by decide +kernel
theorem d_Mo_entry_153 : decode b_Mo_entry 153 = .ok (.ior, 1) := by decide +kernel
theorem d_Mo_entry_154 : decode b_Mo_entry 154 = .ok (.iastore, 1) := by decide +kernel
theorem d_Mo_entry_155 : decode b_Mo_entry 155 = .ok (.iload_n 1, 1) := by decide +kernel
theorem d_Mo_entry_156 : decode b_Mo_entry 156 = .ok (.ifCond .ne 7, 3) := by decide +kernel
theorem d_Mo_entry_159 : decode b_Mo_entry 159 = .ok (.iconst 0, 1) := by decide +kernel
theorem d_Mo_entry_160 : decode b_Mo_entry 160 = .ok (.goto 14, 3) := by decide +kernel
theorem d_Mo_entry_163 : decode b_Mo_entry 163 = .ok (.aload_n 0, 1) := by decide +kernel
theorem d_Mo_entry_164 : decode b_Mo_entry 164 = .ok (.aload_n 0, 1) := by decide +kernel
theorem d_Mo_entry_165 : decode b_Mo_entry 165 = .ok (.getfield 99, 3) := by decide +kernel
theorem d_Mo_entry_168 : decode b_Mo_entry 168 = .ok (.bipush 8, 2) := by decide +kernel
theorem d_Mo_entry_170 : decode b_Mo_entry 170 = .ok (.iadd, 1) := by decide +kernel
theorem d_Mo_entry_171 : decode b_Mo_entry 171 = .ok (.invokevirtual 106, 3) := by decide +kernel
theorem d_Mo_entry_174 : decode b_Mo_entry 174 = .ok (.istore 5, 2) := by decide +kernel
theorem d_Mo_entry_176 : decode b_Mo_entry 176 = .ok (.aload_n 0, 1) := by decide +kernel
theorem d_Mo_entry_177 : decode b_Mo_entry 177 = .ok (.dup, 1) := by decide +kernel
theorem d_Mo_entry_178 : decode b_Mo_entry 178 = .ok (.getfield 99, 3) := by decide +kernel
theorem d_Mo_entry_181 : decode b_Mo_entry 181 = .ok (.iload 4, 2) := by decide +kernel
theorem d_Mo_entry_183 : decode b_Mo_entry 183 = .ok (.iadd, 1) := by decide +kernel
theorem d_Mo_entry_184 : decode b_Mo_entry 184 = .ok (.putfield 99, 3) := by decide +kernel
theorem d_Mo_entry_187 : decode b_Mo_entry 187 = .ok (.aload_n 0, 1) := by decide +kernel
theorem d_Mo_entry_188 : decode b_Mo_entry 188 = .ok (.getfield 37, 3) := by decide +kernel
theorem d_Mo_entry_191 : decode b_Mo_entry 191 = .ok (.iload_n 3, 1) := by decide +kernel
theorem d_Mo_entry_192 : decode b_Mo_entry 192 = .ok (.aload_n 0, 1) := by decide +kernel
theorem d_Mo_entry_193 : decode b_Mo_entry 193 = .ok (.getfield 64, 3) := by decide +kernel
theorem d_Mo_entry_196 : decode b_Mo_entry 196 = .ok (.iastore, 1) := by decide +kernel
theorem d_Mo_entry_197 : decode b_Mo_entry 197 = .ok (.iload_n 1, 1) := by decide +kernel
theorem d_Mo_entry_198 : decode b_Mo_entry 198 = .ok (.ifCond .le 79, 3) := by decide +kernel
theorem d_Mo_entry_201 : decode b_Mo_entry 201 = .ok (.aload_n 0, 1) := by decide +kernel
theorem d_Mo_entry_202 : decode b_Mo_entry 202 = .ok (.aload_n 0, 1) := by decide +kernel
theorem d_Mo_entry_203 : decode b_Mo_entry 203 = .ok (.getfield 99, 3) := by decide +kernel
theorem d_Mo_entry_206 : decode b_Mo_entry 206 = .ok (.iload 5, 2) := by decide +kernel
theorem d_Mo_entry_208 : decode b_Mo_entry 208 = .ok (.iconst 0, 1) := by decide +kernel
theorem d_Mo_entry_209 : decode b_Mo_entry 209 = .ok (.iconst 0, 1) := by decide +kernel
theorem d_Mo_entry_210 : decode b_Mo_entry 210 = .ok (.invokevirtual 102, 3) := by decide +kernel
theorem d_Mo_entry_213 : decode b_Mo_entry 213 = .ok (.ifCond .ne 4, 3) := by decide +kernel
theorem d_Mo_entry_216 : decode b_Mo_entry 216 = .ok (.return_, 1) := by decide +kernel
theorem d_Mo_entry_217 : decode b_Mo_entry 217 = .ok (.aload_n 0, 1) := by decide +kernel
theorem d_Mo_entry_218 : decode b_Mo_entry 218 = .ok (.aload_n 0, 1) := by decide +kernel
theorem d_Mo_entry_219 : decode b_Mo_entry 219 = .ok (.getfield 99, 3) := by decide +kernel
theorem d_Mo_entry_222 : decode b_Mo_entry 222 = .ok (.putfield 96, 3) := by decide +kernel
theorem d_Mo_entry_225 : decode b_Mo_entry 225 = .ok (.aload_n 0, 1) := by decide +kernel
theorem d_Mo_entry_226 : decode b_Mo_entry 226 = .ok (.aload_n 0, 1) := by decide +kernel
theorem d_Mo_entry_227 : decode b_Mo_entry 227 = .ok (.getfield 99, 3) := by decide +kernel
theorem d_Mo_entry_230 : decode b_Mo_entry 230 = .ok (.iload 5, 2) := by decide +kernel
theorem d_Mo_entry_232 : decode b_Mo_entry 232 = .ok (.iadd, 1) := by decide +kernel
theorem d_Mo_entry_233 : decode b_Mo_entry 233 = .ok (.putfield 93, 3) := by decide +kernel
theorem d_Mo_entry_236 : decode b_Mo_entry 236 = .ok (.aload_n 0, 1) := by decide +kernel
theorem d_Mo_entry_237 : decode b_Mo_entry 237 = .ok (.aload_n 0, 1) := by decide +kernel
theorem d_Mo_entry_238 : decode b_Mo_entry 238 = .ok (.getfield 22, 3) := by decide +kernel
theorem d_Mo_entry_241 : decode b_Mo_entry 241 = .ok (.iload_n 3, 1) := by decide +kernel
theorem d_Mo_entry_242 : decode b_Mo_entry 242 = .ok (.iaload, 1) := by decide +kernel
theorem d_Mo_entry_243 : decode b_Mo_entry 243 = .ok (.aload_n 0, 1) := by decide +kernel
theorem d_Mo_entry_244 : decode b_Mo_entry 244 = .ok (.getfield 34, 3) := by decide +kernel
theorem d_Mo_entry_247 : decode b_Mo_entry 247 = .ok (.iload_n 3, 1) := by decide +kernel
theorem d_Mo_entry_248 : decode b_Mo_entry 248 = .ok (.iaload, 1) := by decide +kernel
theorem d_Mo_entry_249 : decode b_Mo_entry 249 = .ok (.iconst 1, 1) := by decide +kernel
theorem d_Mo_entry_250 : decode b_Mo_entry 250 = .ok (.if_icmp .ne 7, 3) := by decide +kernel
theorem d_Mo_entry_253 : decode b_Mo_entry 253 = .ok (.iconst 1, 1) := by decide +kernel
theorem d_Mo_entry_254 : decode b_Mo_entry 254 = .ok (.goto 4, 3) := by decide +kernel
theorem d_Mo_entry_257 : decode b_Mo_entry 257 = .ok (.iconst 0, 1) := by decide +kernel
theorem d_Mo_entry_258 : decode b_Mo_entry 258 = .ok (.invokevirtual 120, 3) := by decide +kernel
theorem d_Mo_entry_261 : decode b_Mo_entry 261 = .ok (.aload_n 0, 1) := by decide +kernel
theorem d_Mo_entry_262 : decode b_Mo_entry 262 = .ok (.getfield 80, 3) := by decide +kernel
theorem d_Mo_entry_265 : decode b_Mo_entry 265 = .ok (.ifCond .le 4, 3) := by decide +kernel
theorem d_Mo_entry_268 : decode b_Mo_entry 268 = .ok (.return_, 1) := by decide +kernel
theorem d_Mo_entry_269 : decode b_Mo_entry 269 = .ok (.aload_n 0, 1) := by decide +kernel
theorem d_Mo_entry_270 : decode b_Mo_entry 270 = .ok (.aload_n 0, 1) := by decide +kernel
theorem d_Mo_entry_271 : decode b_Mo_entry 271 = .ok (.getfield 93, 3) := by decide +kernel
theorem d_Mo_entry_274 : decode b_Mo_entry 274 = .ok (.putfield 99, 3) := by decide +kernel
theorem d_Mo_entry_277 : decode b_Mo_entry 277 = .ok (.aload_n 0, 1) := by decide +kernel
theorem d_Mo_entry_278 : decode b_Mo_entry 278 = .ok (.getfield 40, 3) := by decide +kernel
theorem d_Mo_entry_281 : decode b_Mo_entry 281 = .ok (.iload_n 3, 1) := by decide +kernel
theorem d_Mo_entry_282 : decode b_Mo_entry 282 = .ok (.aload_n 0, 1) := by decide +kernel
theorem d_Mo_entry_283 : decode b_Mo_entry 283 = .ok (.getfield 64, 3) := by decide +kernel
theorem d_Mo_entry_286 : decode b_Mo_entry 286 = .ok (.aload_n 0, 1) := by decide +kernel
theorem d_Mo_entry_287 : decode b_Mo_entry 287 = .ok (.getfield 37, 3) := by decide +kernel
theorem d_Mo_entry_290 : decode b_Mo_entry 290 = .ok (.iload_n 3, 1) := by decide +kernel
theorem d_Mo_entry_291 : decode b_Mo_entry 291 = .ok (.iaload, 1) := by decide +kernel
theorem d_Mo_entry_292 : decode b_Mo_entry 292 = .ok (.isub, 1) := by decide +kernel
theorem d_Mo_entry_293 : decode b_Mo_entry 293 = .ok (.iastore, 1) := by decide +kernel
theorem d_Mo_entry_294 : decode b_Mo_entry 294 = .ok (.aload_n 0, 1) := by decide +kernel
theorem d_Mo_entry_295 : decode b_Mo_entry 295 = .ok (.dup, 1) := by decide +kernel
theorem d_Mo_entry_296 : decode b_Mo_entry 296 = .ok (.getfield 67, 3) := by decide +kernel
theorem d_Mo_entry_299 : decode b_Mo_entry 299 = .ok (.iconst 1, 1) := by decide +kernel
theorem d_Mo_entry_300 : decode b_Mo_entry 300 = .ok (.iadd, 1) := by decide +kernel
theorem d_Mo_entry_301 : decode b_Mo_entry 301 = .ok (.putfield 67, 3) := by decide +kernel
theorem d_Mo_entry_304 : decode b_Mo_entry 304 = .ok (.aload_n 0, 1) := by decide +kernel
theorem d_Mo_entry_305 : decode b_Mo_entry 305 = .ok (.iconst 0, 1) := by decide +kernel
theorem d_Mo_entry_306 : decode b_Mo_entry 306 = .ok (.invokevirtual 76, 3) := by decide +kernel
theorem d_Mo_entry_309 : decode b_Mo_entry 309 = .ok (.bipush 100, 2) := by decide +kernel
theorem d_Mo_entry_311 : decode b_Mo_entry 311 = .ok (.if_icmp .gt 22, 3) := by decide +kernel
theorem d_Mo_entry_314 : decode b_Mo_entry 314 = .ok (.aload_n 0, 1) := by decide +kernel
theorem d_Mo_entry_315 : decode b_Mo_entry 315 = .ok (.invokevirtual 124, 3) := by decide +kernel
theorem d_Mo_entry_318 : decode b_Mo_entry 318 = .ok (.sipush 1000, 3) := by decide +kernel
theorem d_Mo_entry_321 : decode b_Mo_entry 321 = .ok (.if_icmp .gt 12, 3) := by decide +kernel
theorem d_Mo_entry_324 : decode b_Mo_entry 324 = .ok (.aload_n 0, 1) := by decide +kernel
theorem d_Mo_entry_325 : decode b_Mo_entry 325 = .ok (.getfield 64, 3) := by decide +kernel
theorem d_Mo_entry_328 : decode b_Mo_entry 328 = .ok (.ldc 7, 2) := by decide +kernel
theorem d_Mo_entry_330 : decode b_Mo_entry 330 = .ok (.if_icmp .le 10, 3) := by decide +kernel
theorem d_Mo_entry_333 : decode b_Mo_entry 333 = .ok (.aload_n 0, 1) := by decide +kernel
theorem d_Mo_entry_334 : decode b_Mo_entry 334 = .ok (.bipush 7, 2) := by decide +kernel
theorem d_Mo_entry_336 : decode b_Mo_entry 336 = .ok (.iload_n 2, 1) := by decide +kernel
theorem d_Mo_entry_337 : decode b_Mo_entry 337 = .ok (.invokevirtual 89, 3) := by decide +kernel
theorem d_Mo_entry_340 : decode b_Mo_entry 340 = .ok (.return_, 1) := by decide +kernel
set_option maxHeartbeats 4000000 in
set_option maxRecDepth 100000 in
/-- the reference: entry -/
theorem m_Mo_entry (l : Launch) (D9 : va_G) (cB cI cJ cG : ClassId) (a : Nat → Nat) (O : Nat → Int64) (I : Nat → Int32) (F : Nat → Nat → Int32) (t : List Nat) (hT : BR 0 65536 (F 34) t) (h16 : I 16 = nI t.length) (htl : t.length ≤ 65536) (es : List En9) (hR : MoR F es) (h18 : I 18 = nI es.length) (hO : okE es) (pos fw sc : Nat) (h17 : I 17 = nI (fl es).length) (h25 : I 25 = nI pos) (hpb : pos ≤ 65536) (h22 : I 22 = nI fw) (h24 : I 24 = nI 0) (hsc : sc < 4) : MC l D9 cB cI cJ cG a O y_Mo_entry b_Mo_entry 6 (none) 4 [.ref (a 33), .int (nI sc)] I F (fun v I' F' => (∃ x e c, rdE t sc pos = some (x, e, c) ∧ okB es x = true ∧ okE (es ++ [x]) ∧ v = none ∧ sm [17, 18, 21, 22, 24, 25, 26, 27] I I' ∧ I' 17 = nI (fl (es ++ [x])).length ∧ I' 18 = nI (es ++ [x]).length ∧ I' 25 = nI e ∧ I' 22 = nI (fw + c) ∧ I' 24 = nI 0 ∧ sm [35, 36, 37, 38, 39, 40, 41, 42, 43] F F' ∧ MoR F' (es ++ [x])) ∨ ((∀ x e c, rdE t sc pos = some (x, e, c) → okB es x = false) ∧ v = none ∧ sm [17, 18, 21, 22, 24, 25, 26, 27] I I' ∧ (∃ z : Nat, (0 < z ∧ z < 100) ∧ I' 24 = nI z) ∧ sm [35, 36, 37, 38, 39, 40, 41, 42, 43] F F' ∧ sb_Fit (F' 35))) := by
  refine mc_ofv (by decide) (Nat.le_of_ble_eq_true rfl) ?_
  intro p e s m below meth c ls A0 Q C0 hP hD hA hS hl hret
  obtain ⟨hx, hb, hml, hr, hlocks, hown, hts, hK⟩ := id C0
  have hl : lv_has ls 6 [(0, .ref (a 33)), (1, .int (nI sc))] := hl
  have hln := okE_len hO
  have k2 := hO.2.2.1
  have hBL := hR.2
  refine lv_aload_n hx hb d_Mo_entry_0 rfl (lv_at hl 0 rfl) ?_
  refine va_get (D := D9) (ci := 7) (C := R_Mo) (T := F_Mo) (N := 30) hx hb hts i_Mo hown hK hP 33 ww_33 rfl 20 (by decide) (hts _ g_742) (fun _ h9 => h9) rfl d_Mo_entry_1 ?_
  refine lv_topq (y := nI pos) (h25) ?_
  refine lv_istore_n (lv' := [(2, _), (0, _), (1, _)]) hx hb d_Mo_entry_4 rfl hl (by decide) rfl (fun ls hl => ?_)
  refine lv_aload_n hx hb d_Mo_entry_5 rfl (lv_at hl 1 rfl) ?_
  refine va_get (D := D9) (ci := 7) (C := R_Mo) (T := F_Mo) (N := 30) hx hb hts i_Mo hown hK hP 33 ww_33 rfl 5 (by decide) (hts _ g_727) (fun _ h9 => h9) rfl d_Mo_entry_6 ?_
  refine lv_topq (y := nI es.length) (h18) ?_
  refine lv_istore_n (lv' := [(3, _), (2, _), (0, _), (1, _)]) hx hb d_Mo_entry_9 rfl hl (by decide) rfl (fun ls hl => ?_)
  refine lv_aload_n hx hb d_Mo_entry_10 rfl (lv_at hl 2 rfl) ?_
  refine va_get (D := D9) (ci := 7) (C := R_Mo) (T := F_Mo) (N := 30) hx hb hts i_Mo hown hK hP 33 ww_33 rfl 8 (by decide) (hts _ g_730) (fun _ h9 => h9) rfl d_Mo_entry_11 ?_
  refine lv_iload_n hx hb d_Mo_entry_14 rfl (lv_at hl 0 rfl) ?_
  refine lv_iload_n hx hb d_Mo_entry_15 rfl (lv_at hl 3 rfl) ?_
  refine va_iast (D := D9) hx hb hK hP hD hS 36 1 ww_36 rfl (vp_in_nI (by omega) (by decide)) d_Mo_entry_16 (fun H locs hP hD hS => ?_)
  obtain ⟨F1, aF1, sF1, hP, hD⟩ := fx (P := fun z => va_P D9 cls9 (WW a cB cI cJ cG _ z O) H ∧ va_D A0 (WW a cB cI cJ cG _ z O)) ⟨wpa_36 hP, wda_36 hD⟩
  rw [nI_clamp (by omega)] at aF1
  refine lv_aload_n hx hb d_Mo_entry_17 rfl (lv_at hl 2 rfl) ?_
  refine va_get (D := D9) (ci := 7) (C := R_Mo) (T := F_Mo) (N := 30) hx hb hts i_Mo hown hK hP 33 ww_33 rfl 12 (by decide) (hts _ g_734) (fun _ h9 => h9) rfl d_Mo_entry_18 ?_
  refine lv_iload_n hx hb d_Mo_entry_21 rfl (lv_at hl 0 rfl) ?_
  refine lv_aload_n hx hb d_Mo_entry_22 rfl (lv_at hl 2 rfl) ?_
  refine va_get (D := D9) (ci := 7) (C := R_Mo) (T := F_Mo) (N := 30) hx hb hts i_Mo hown hK hP 33 ww_33 rfl 4 (by decide) (hts _ g_726) (fun _ h9 => h9) rfl d_Mo_entry_23 ?_
  refine lv_topq (y := nI ((fl es).length)) (h17) ?_
  refine va_iast (D := D9) hx hb hK hP hD hS 40 1 ww_40 rfl (vp_in_nI (by omega) (by decide)) d_Mo_entry_26 (fun H locs hP hD hS => ?_)
  obtain ⟨F2, aF2, sF2, hP, hD⟩ := fx (P := fun z => va_P D9 cls9 (WW a cB cI cJ cG _ z O) H ∧ va_D A0 (WW a cB cI cJ cG _ z O)) ⟨wpa_40 hP, wda_40 hD⟩
  rw [nI_clamp (by omega)] at aF2
  rw [(sF1 40 (by decide))] at aF2
  refine lv_aload_n hx hb d_Mo_entry_27 rfl (lv_at hl 2 rfl) ?_
  refine lv_iconst (v := 0) hx hb d_Mo_entry_28 (by decide) ?_
  refine lv_topq (y := nI 0) (rfl) ?_
  refine lv_iconst (v := 1) hx hb d_Mo_entry_29 (by decide) ?_
  refine lv_topq (y := nI 1) (rfl) ?_
  refine mw_cV (ci := 7) (k := 33) C0 (m_Mo_name l D9 cB cI cJ cG a O _ _ t (BR_eq hT ((sF2 34 (by decide)).trans (sF1 34 (by decide)))) h16 htl (fl es) t.length pos fw false true (fun z9 => by cases z9) (fun _ => rfl) (by omega) h24 h25 (by omega) h17 (by omega) (BR_eq hBL ((sF2 35 (by decide)).trans (sF1 35 (by decide)))) h22) g_840 g_8 g_837 g_839 gs_Mo_name ⟨by decide +kernel, by decide +kernel, show Option.map (fun d => d.parameters.length) (parseMethodDescriptor y_Mo_name.desc) = some 2 by decide +kernel⟩ ⟨by decide, by decide⟩ rfl rfl hP hD hS hA rfl ww_33 hl.1 (Nat.le_of_ble_eq_true rfl) rfl d_Mo_entry_30 ⟨by decide, by decide⟩ (fun v9 w9 H locs hq hP hD hS => ?_)
  obtain ⟨I3, F4, hw9, q5⟩ := hq
  subst hw9
  rcases q5 with ⟨nm1, e1, c_1, hr1, rfl, sn1, z171, z251, z221, sG1, wB1⟩ | ⟨hr1, rfl, sn1, ⟨fz1, fy1, fx1⟩, sG1, wB1⟩
  · rw [rnS_t] at hr1
    have hbd1 := rn_bd hr1 (by decide)
    have hln1 : (fl es ++ nm1).length = (fl es).length + nm1.length := List.length_append
    refine lv_aload_n hx hb d_Mo_entry_33 rfl (lv_at hl 2 rfl) ?_
    refine va_get (D := D9) (ci := 7) (C := R_Mo) (T := F_Mo) (N := 30) hx hb hts i_Mo hown hK hP 33 ww_33 rfl 19 (by decide) (hts _ g_741) (fun _ h9 => h9) rfl d_Mo_entry_34 ?_
    refine lv_topq (y := nI 0) (((sn1 24 (by decide)).trans h24)) ?_
    refine lv_if_le (tgt := 41) hx hb d_Mo_entry_37 (by decide) (fun c6 => ?_) (fun c6 => ?_)
    · refine lv_aload_n hx hb d_Mo_entry_41 rfl (lv_at hl 2 rfl) ?_
      refine va_get (D := D9) (ci := 7) (C := R_Mo) (T := F_Mo) (N := 30) hx hb hts i_Mo hown hK hP 33 ww_33 rfl 13 (by decide) (hts _ g_735) (fun _ h9 => h9) rfl d_Mo_entry_42 ?_
      refine lv_iload_n hx hb d_Mo_entry_45 rfl (lv_at hl 0 rfl) ?_
      refine lv_aload_n hx hb d_Mo_entry_46 rfl (lv_at hl 2 rfl) ?_
      refine va_get (D := D9) (ci := 7) (C := R_Mo) (T := F_Mo) (N := 30) hx hb hts i_Mo hown hK hP 33 ww_33 rfl 4 (by decide) (hts _ g_726) (fun _ h9 => h9) rfl d_Mo_entry_47 ?_
      refine lv_topq (y := nI ((fl es ++ nm1).length)) (z171) ?_
      refine lv_aload_n hx hb d_Mo_entry_50 rfl (lv_at hl 2 rfl) ?_
      refine va_get (D := D9) (ci := 7) (C := R_Mo) (T := F_Mo) (N := 30) hx hb hts i_Mo hown hK hP 33 ww_33 rfl 12 (by decide) (hts _ g_734) (fun _ h9 => h9) rfl d_Mo_entry_51 ?_
      refine lv_iload_n hx hb d_Mo_entry_54 rfl (lv_at hl 0 rfl) ?_
      refine va_iald (D := D9) hx hb hK hP 40 1 ww_40 rfl (vp_in_nI (by omega) (by decide)) d_Mo_entry_55 ?_
      refine lv_topq (y := nI ((fl es).length)) (by rw [nI_clamp (by omega)]; exact (by rw [((sG1 40 (by decide)).trans aF2), pk_us])) ?_
      refine lv_isub hx hb d_Mo_entry_56 ?_
      refine lv_topq (y := nI nm1.length) ((pk_sub (by omega)).trans (congrArg nI (by omega))) ?_
      refine va_iast (D := D9) hx hb hK hP hD hS 41 1 ww_41 rfl (vp_in_nI (by omega) (by decide)) d_Mo_entry_57 (fun H locs hP hD hS => ?_)
      obtain ⟨F7, aF7, sF7, hP, hD⟩ := fx (P := fun z => va_P D9 cls9 (WW a cB cI cJ cG _ z O) H ∧ va_D A0 (WW a cB cI cJ cG _ z O)) ⟨wpa_41 hP, wda_41 hD⟩
      rw [nI_clamp (by omega)] at aF7
      rw [((sG1 41 (by decide)).trans ((sF2 41 (by decide)).trans (sF1 41 (by decide))))] at aF7
      refine lv_iload_n hx hb d_Mo_entry_58 rfl (lv_at hl 3 rfl) ?_
      refine lv_if_ne (tgt := 66) hx hb d_Mo_entry_59 (by decide) (fun c8 => ?_) (fun c8 => ?_)
      · have c8 : ¬ (sc = 0) := fun z9 => c8 ((nI_eq (a := sc) (b := 0) (by omega) (by omega)).mpr z9)
        have hsc0 := c8
        refine lv_bipush (v := 10) hx hb d_Mo_entry_66 (by decide) ?_
        refine lv_topq (y := nI 10) (rfl) ?_
        refine lv_istore (lv' := [(4, _), (3, _), (2, _), (0, _), (1, _)]) hx hb d_Mo_entry_68 hl (by decide) rfl (fun ls hl => ?_)
        refine lv_aload_n hx hb d_Mo_entry_70 rfl (lv_at hl 3 rfl) ?_
        refine lv_aload_n hx hb d_Mo_entry_71 rfl (lv_at hl 3 rfl) ?_
        refine va_get (D := D9) (ci := 7) (C := R_Mo) (T := F_Mo) (N := 30) hx hb hts i_Mo hown hK hP 33 ww_33 rfl 20 (by decide) (hts _ g_742) (fun _ h9 => h9) rfl d_Mo_entry_72 ?_
        refine lv_topq (y := nI e1) (z251) ?_
        refine lv_iload hx hb d_Mo_entry_75 (lv_at hl 0 rfl) ?_
        refine lv_iconst (v := 0) hx hb d_Mo_entry_77 (by decide) ?_
        refine lv_topq (y := nI 0) (rfl) ?_
        refine lv_iconst (v := 0) hx hb d_Mo_entry_78 (by decide) ?_
        refine lv_topq (y := nI 0) (rfl) ?_
        refine mw_cV (ci := 7) (k := 33) C0 (m_Mo_there l D9 cB cI cJ cG a O _ _ t (BR_eq hT ((sF7 34 (by decide)).trans ((sG1 34 (by decide)).trans ((sF2 34 (by decide)).trans (sF1 34 (by decide)))))) ((sn1 16 (by decide)).trans h16) htl e1 10 t.length false false (fun z9 => by cases z9) ((sn1 24 (by decide)).trans h24) (by omega) (by omega) (by omega)) g_844 g_8 g_841 g_843 gs_Mo_there ⟨by decide +kernel, by decide +kernel, show Option.map (fun d => d.parameters.length) (parseMethodDescriptor y_Mo_there.desc) = some 4 by decide +kernel⟩ ⟨by decide, by decide⟩ rfl rfl hP hD hS hA rfl ww_33 hl.1 (Nat.le_of_ble_eq_true rfl) rfl d_Mo_entry_79 ⟨by decide, by decide⟩ (fun v9 w9 H locs hq hP hD hS => ?_)
        obtain ⟨I9, F10, hw9, q11⟩ := hq
        subst hw9
        rcases q11 with ⟨g12, rfl, rfl, rfl⟩ | ⟨g12, rfl, sI9, ⟨z13, yz13, xz13⟩, rfl⟩
        · have hty9 : t2 t e1 < 65536 := t2_lt hT htl (by have := g12.1; omega)
          have hki9 : t2 t (e1 + 2) < 65536 := t2_lt hT htl (by have := g12.1; omega)
          have hfx := g12.1
          refine lv_if_ne (tgt := 86) hx hb d_Mo_entry_82 (by decide) (fun c14 => ?_) (fun c14 => ?_)
          · refine lv_aload_n hx hb d_Mo_entry_86 rfl (lv_at hl 3 rfl) ?_
            refine va_get (D := D9) (ci := 7) (C := R_Mo) (T := F_Mo) (N := 30) hx hb hts i_Mo hown hK hP 33 ww_33 rfl 9 (by decide) (hts _ g_731) (fun _ h9 => h9) rfl d_Mo_entry_87 ?_
            refine lv_iload_n hx hb d_Mo_entry_90 rfl (lv_at hl 1 rfl) ?_
            refine lv_aload_n hx hb d_Mo_entry_91 rfl (lv_at hl 3 rfl) ?_
            refine lv_aload_n hx hb d_Mo_entry_92 rfl (lv_at hl 3 rfl) ?_
            refine va_get (D := D9) (ci := 7) (C := R_Mo) (T := F_Mo) (N := 30) hx hb hts i_Mo hown hK hP 33 ww_33 rfl 20 (by decide) (hts _ g_742) (fun _ h9 => h9) rfl d_Mo_entry_93 ?_
            refine lv_topq (y := nI e1) (z251) ?_
            refine mw_cV (ci := 7) (k := 33) C0 (m_Mo_two l D9 cB cI cJ cG a O _ _ t (BR_eq hT ((sF7 34 (by decide)).trans ((sG1 34 (by decide)).trans ((sF2 34 (by decide)).trans (sF1 34 (by decide)))))) ((sn1 16 (by decide)).trans h16) htl e1 (by omega)) g_828 g_8 g_825 g_827 gs_Mo_two ⟨by decide +kernel, by decide +kernel, show Option.map (fun d => d.parameters.length) (parseMethodDescriptor y_Mo_two.desc) = some 1 by decide +kernel⟩ ⟨by decide, by decide⟩ rfl rfl hP hD hS hA rfl ww_33 hl.1 (Nat.le_of_ble_eq_true rfl) rfl d_Mo_entry_96 ⟨by decide, by decide⟩ (fun v9 w9 H locs hq hP hD hS => ?_)
            obtain ⟨I15, F16, hw9, q17⟩ := hq
            subst hw9
            obtain ⟨rfl, rfl, rfl⟩ := q17
            refine va_iast (D := D9) hx hb hK hP hD hS 37 1 ww_37 rfl (vp_in_nI (by omega) (by decide)) d_Mo_entry_99 (fun H locs hP hD hS => ?_)
            obtain ⟨F18, aF18, sF18, hP, hD⟩ := fx (P := fun z => va_P D9 cls9 (WW a cB cI cJ cG _ z O) H ∧ va_D A0 (WW a cB cI cJ cG _ z O)) ⟨wpa_37 hP, wda_37 hD⟩
            rw [nI_clamp (by omega)] at aF18
            rw [((sF7 37 (by decide)).trans ((sG1 37 (by decide)).trans ((sF2 37 (by decide)).trans (sF1 37 (by decide)))))] at aF18
            refine lv_aload_n hx hb d_Mo_entry_100 rfl (lv_at hl 3 rfl) ?_
            refine va_get (D := D9) (ci := 7) (C := R_Mo) (T := F_Mo) (N := 30) hx hb hts i_Mo hown hK hP 33 ww_33 rfl 10 (by decide) (hts _ g_732) (fun _ h9 => h9) rfl d_Mo_entry_101 ?_
            refine lv_iload_n hx hb d_Mo_entry_104 rfl (lv_at hl 1 rfl) ?_
            refine lv_aload_n hx hb d_Mo_entry_105 rfl (lv_at hl 3 rfl) ?_
            refine lv_aload_n hx hb d_Mo_entry_106 rfl (lv_at hl 3 rfl) ?_
            refine va_get (D := D9) (ci := 7) (C := R_Mo) (T := F_Mo) (N := 30) hx hb hts i_Mo hown hK hP 33 ww_33 rfl 20 (by decide) (hts _ g_742) (fun _ h9 => h9) rfl d_Mo_entry_107 ?_
            refine lv_topq (y := nI e1) (z251) ?_
            refine lv_iconst (v := 2) hx hb d_Mo_entry_110 (by decide) ?_
            refine lv_topq (y := nI 2) (rfl) ?_
            refine lv_iadd hx hb d_Mo_entry_111 ?_
            refine lv_topq (y := nI (e1 + 2)) (nI_add _ _) ?_
            refine mw_cV (ci := 7) (k := 33) C0 (m_Mo_two l D9 cB cI cJ cG a O _ _ t (BR_eq hT ((sF18 34 (by decide)).trans ((sF7 34 (by decide)).trans ((sG1 34 (by decide)).trans ((sF2 34 (by decide)).trans (sF1 34 (by decide))))))) ((sn1 16 (by decide)).trans h16) htl (e1 + 2) (by omega)) g_828 g_8 g_825 g_827 gs_Mo_two ⟨by decide +kernel, by decide +kernel, show Option.map (fun d => d.parameters.length) (parseMethodDescriptor y_Mo_two.desc) = some 1 by decide +kernel⟩ ⟨by decide, by decide⟩ rfl rfl hP hD hS hA rfl ww_33 hl.1 (Nat.le_of_ble_eq_true rfl) rfl d_Mo_entry_112 ⟨by decide, by decide⟩ (fun v9 w9 H locs hq hP hD hS => ?_)
            obtain ⟨I19, F20, hw9, q21⟩ := hq
            subst hw9
            obtain ⟨rfl, rfl, rfl⟩ := q21
            refine va_iast (D := D9) hx hb hK hP hD hS 38 1 ww_38 rfl (vp_in_nI (by omega) (by decide)) d_Mo_entry_115 (fun H locs hP hD hS => ?_)
            obtain ⟨F22, aF22, sF22, hP, hD⟩ := fx (P := fun z => va_P D9 cls9 (WW a cB cI cJ cG _ z O) H ∧ va_D A0 (WW a cB cI cJ cG _ z O)) ⟨wpa_38 hP, wda_38 hD⟩
            rw [nI_clamp (by omega)] at aF22
            rw [((sF18 38 (by decide)).trans ((sF7 38 (by decide)).trans ((sG1 38 (by decide)).trans ((sF2 38 (by decide)).trans (sF1 38 (by decide))))))] at aF22
            refine lv_aload_n hx hb d_Mo_entry_116 rfl (lv_at hl 3 rfl) ?_
            refine va_get (D := D9) (ci := 7) (C := R_Mo) (T := F_Mo) (N := 30) hx hb hts i_Mo hown hK hP 33 ww_33 rfl 11 (by decide) (hts _ g_733) (fun _ h9 => h9) rfl d_Mo_entry_117 ?_
            refine lv_iload_n hx hb d_Mo_entry_120 rfl (lv_at hl 1 rfl) ?_
            refine lv_iload_n hx hb d_Mo_entry_121 rfl (lv_at hl 4 rfl) ?_
            refine lv_if_ne (tgt := 129) hx hb d_Mo_entry_122 (by decide) (fun c23 => ?_) (fun c23 => ?_)
            · have c23 : ¬ (sc = 0) := fun z9 => c23 ((nI_eq (a := sc) (b := 0) (by omega) (by omega)).mpr z9)
              refine lv_aload_n hx hb d_Mo_entry_129 rfl (lv_at hl 3 rfl) ?_
              refine lv_aload_n hx hb d_Mo_entry_130 rfl (lv_at hl 3 rfl) ?_
              refine va_get (D := D9) (ci := 7) (C := R_Mo) (T := F_Mo) (N := 30) hx hb hts i_Mo hown hK hP 33 ww_33 rfl 20 (by decide) (hts _ g_742) (fun _ h9 => h9) rfl d_Mo_entry_131 ?_
              refine lv_topq (y := nI e1) (z251) ?_
              refine lv_iconst (v := 4) hx hb d_Mo_entry_134 (by decide) ?_
              refine lv_topq (y := nI 4) (rfl) ?_
              refine lv_iadd hx hb d_Mo_entry_135 ?_
              refine lv_topq (y := nI (e1 + 4)) (nI_add _ _) ?_
              refine mw_cV (ci := 7) (k := 33) C0 (m_Mo_two l D9 cB cI cJ cG a O _ _ t (BR_eq hT ((sF22 34 (by decide)).trans ((sF18 34 (by decide)).trans ((sF7 34 (by decide)).trans ((sG1 34 (by decide)).trans ((sF2 34 (by decide)).trans (sF1 34 (by decide)))))))) ((sn1 16 (by decide)).trans h16) htl (e1 + 4) (by omega)) g_828 g_8 g_825 g_827 gs_Mo_two ⟨by decide +kernel, by decide +kernel, show Option.map (fun d => d.parameters.length) (parseMethodDescriptor y_Mo_two.desc) = some 1 by decide +kernel⟩ ⟨by decide, by decide⟩ rfl rfl hP hD hS hA rfl ww_33 hl.1 (Nat.le_of_ble_eq_true rfl) rfl d_Mo_entry_136 ⟨by decide, by decide⟩ (fun v9 w9 H locs hq hP hD hS => ?_)
              obtain ⟨I24, F25, hw9, q26⟩ := hq
              subst hw9
              obtain ⟨rfl, rfl, rfl⟩ := q26
              refine lv_bipush (v := 16) hx hb d_Mo_entry_139 (by decide) ?_
              refine lv_topq (y := nI 16) (rfl) ?_
              refine lv_ishl hx hb d_Mo_entry_141 ?_
              refine lv_topq (y := nI (t2 t (e1 + 4)) <<< ((16 : Int32) &&& 31)) (rfl) ?_
              refine lv_aload_n hx hb d_Mo_entry_142 rfl (lv_at hl 3 rfl) ?_
              refine lv_aload_n hx hb d_Mo_entry_143 rfl (lv_at hl 3 rfl) ?_
              refine va_get (D := D9) (ci := 7) (C := R_Mo) (T := F_Mo) (N := 30) hx hb hts i_Mo hown hK hP 33 ww_33 rfl 20 (by decide) (hts _ g_742) (fun _ h9 => h9) rfl d_Mo_entry_144 ?_
              refine lv_topq (y := nI e1) (z251) ?_
              refine lv_bipush (v := 6) hx hb d_Mo_entry_147 (by decide) ?_
              refine lv_topq (y := nI 6) (rfl) ?_
              refine lv_iadd hx hb d_Mo_entry_149 ?_
              refine lv_topq (y := nI (e1 + 6)) (nI_add _ _) ?_
              refine mw_cV (ci := 7) (k := 33) C0 (m_Mo_two l D9 cB cI cJ cG a O _ _ t (BR_eq hT ((sF22 34 (by decide)).trans ((sF18 34 (by decide)).trans ((sF7 34 (by decide)).trans ((sG1 34 (by decide)).trans ((sF2 34 (by decide)).trans (sF1 34 (by decide)))))))) ((sn1 16 (by decide)).trans h16) htl (e1 + 6) (by omega)) g_828 g_8 g_825 g_827 gs_Mo_two ⟨by decide +kernel, by decide +kernel, show Option.map (fun d => d.parameters.length) (parseMethodDescriptor y_Mo_two.desc) = some 1 by decide +kernel⟩ ⟨by decide, by decide⟩ rfl rfl hP hD hS hA rfl ww_33 hl.1 (Nat.le_of_ble_eq_true rfl) rfl d_Mo_entry_150 ⟨by decide, by decide⟩ (fun v9 w9 H locs hq hP hD hS => ?_)
              obtain ⟨I27, F28, hw9, q29⟩ := hq
              subst hw9
              obtain ⟨rfl, rfl, rfl⟩ := q29
              refine lv_ior hx hb d_Mo_entry_153 ?_
              refine lv_topq (y := i4 t (e1 + 4)) (rfl) ?_
              refine va_iast (D := D9) hx hb hK hP hD hS 39 1 ww_39 rfl (vp_in_nI (by omega) (by decide)) d_Mo_entry_154 (fun H locs hP hD hS => ?_)
              obtain ⟨F30, aF30, sF30, hP, hD⟩ := fx (P := fun z => va_P D9 cls9 (WW a cB cI cJ cG _ z O) H ∧ va_D A0 (WW a cB cI cJ cG _ z O)) ⟨wpa_39 hP, wda_39 hD⟩
              rw [nI_clamp (by omega)] at aF30
              rw [((sF22 39 (by decide)).trans ((sF18 39 (by decide)).trans ((sF7 39 (by decide)).trans ((sG1 39 (by decide)).trans ((sF2 39 (by decide)).trans (sF1 39 (by decide)))))))] at aF30
              refine lv_iload_n hx hb d_Mo_entry_155 rfl (lv_at hl 4 rfl) ?_
              refine lv_if_ne (tgt := 163) hx hb d_Mo_entry_156 (by decide) (fun c31 => ?_) (fun c31 => ?_)
              · have c31 : ¬ (sc = 0) := fun z9 => c31 ((nI_eq (a := sc) (b := 0) (by omega) (by omega)).mpr z9)
                have hsz9 : t2 t (e1 + 8) < 65536 := t2_lt hT htl (by omega)
                refine lv_aload_n hx hb d_Mo_entry_163 rfl (lv_at hl 3 rfl) ?_
                refine lv_aload_n hx hb d_Mo_entry_164 rfl (lv_at hl 3 rfl) ?_
                refine va_get (D := D9) (ci := 7) (C := R_Mo) (T := F_Mo) (N := 30) hx hb hts i_Mo hown hK hP 33 ww_33 rfl 20 (by decide) (hts _ g_742) (fun _ h9 => h9) rfl d_Mo_entry_165 ?_
                refine lv_topq (y := nI e1) (z251) ?_
                refine lv_bipush (v := 8) hx hb d_Mo_entry_168 (by decide) ?_
                refine lv_topq (y := nI 8) (rfl) ?_
                refine lv_iadd hx hb d_Mo_entry_170 ?_
                refine lv_topq (y := nI (e1 + 8)) (nI_add _ _) ?_
                refine mw_cV (ci := 7) (k := 33) C0 (m_Mo_two l D9 cB cI cJ cG a O _ _ t (BR_eq hT ((sF30 34 (by decide)).trans ((sF22 34 (by decide)).trans ((sF18 34 (by decide)).trans ((sF7 34 (by decide)).trans ((sG1 34 (by decide)).trans ((sF2 34 (by decide)).trans (sF1 34 (by decide))))))))) ((sn1 16 (by decide)).trans h16) htl (e1 + 8) (by omega)) g_828 g_8 g_825 g_827 gs_Mo_two ⟨by decide +kernel, by decide +kernel, show Option.map (fun d => d.parameters.length) (parseMethodDescriptor y_Mo_two.desc) = some 1 by decide +kernel⟩ ⟨by decide, by decide⟩ rfl rfl hP hD hS hA rfl ww_33 hl.1 (Nat.le_of_ble_eq_true rfl) rfl d_Mo_entry_171 ⟨by decide, by decide⟩ (fun v9 w9 H locs hq hP hD hS => ?_)
                obtain ⟨I32, F33, hw9, q34⟩ := hq
                subst hw9
                obtain ⟨rfl, rfl, rfl⟩ := q34
                refine lv_istore (lv' := [(5, _), (4, _), (3, _), (2, _), (0, _), (1, _)]) hx hb d_Mo_entry_174 hl (by decide) rfl (fun ls hl => ?_)
                refine lv_aload_n hx hb d_Mo_entry_176 rfl (lv_at hl 4 rfl) ?_
                refine lv_dup hx hb d_Mo_entry_177 rfl ?_
                refine va_get (D := D9) (ci := 7) (C := R_Mo) (T := F_Mo) (N := 30) hx hb hts i_Mo hown hK hP 33 ww_33 rfl 20 (by decide) (hts _ g_742) (fun _ h9 => h9) rfl d_Mo_entry_178 ?_
                refine lv_topq (y := nI e1) (z251) ?_
                refine lv_iload hx hb d_Mo_entry_181 (lv_at hl 1 rfl) ?_
                refine lv_iadd hx hb d_Mo_entry_183 ?_
                refine lv_topq (y := nI (e1 + 10)) (nI_add _ _) ?_
                refine va_put (D := D9) (ty := .int) (ci := 7) (C := R_Mo) (T := F_Mo) (N := 30) hx hb hts i_Mo t_Mo t_Mo_ok n_Mo hown hK hP hD hS 33 ww_33 rfl 20 (by decide) (hts _ g_742) (fun _ h9 => h9) rfl (by decide +kernel) rfl rfl (Nat.le_of_ble_eq_true rfl) d_Mo_entry_184 (fun H locs hP hD hS => ?_)
                obtain ⟨I35, aI35, sI35, hP, hD⟩ := fx (P := fun z => va_P D9 cls9 (WW a cB cI cJ cG z _ O) H ∧ va_D A0 (WW a cB cI cJ cG z _ O)) ⟨wp_25 hP, wd_25 hD⟩
                refine lv_aload_n hx hb d_Mo_entry_187 rfl (lv_at hl 4 rfl) ?_
                refine va_get (D := D9) (ci := 7) (C := R_Mo) (T := F_Mo) (N := 30) hx hb hts i_Mo hown hK hP 33 ww_33 rfl 14 (by decide) (hts _ g_736) (fun _ h9 => h9) rfl d_Mo_entry_188 ?_
                refine lv_iload_n hx hb d_Mo_entry_191 rfl (lv_at hl 2 rfl) ?_
                refine lv_aload_n hx hb d_Mo_entry_192 rfl (lv_at hl 4 rfl) ?_
                refine va_get (D := D9) (ci := 7) (C := R_Mo) (T := F_Mo) (N := 30) hx hb hts i_Mo hown hK hP 33 ww_33 rfl 4 (by decide) (hts _ g_726) (fun _ h9 => h9) rfl d_Mo_entry_193 ?_
                refine lv_topq (y := nI ((fl es ++ nm1).length)) (((sI35 17 (by decide)).trans z171)) ?_
                refine va_iast (D := D9) hx hb hK hP hD hS 42 1 ww_42 rfl (vp_in_nI (by omega) (by decide)) d_Mo_entry_196 (fun H locs hP hD hS => ?_)
                obtain ⟨F36, aF36, sF36, hP, hD⟩ := fx (P := fun z => va_P D9 cls9 (WW a cB cI cJ cG _ z O) H ∧ va_D A0 (WW a cB cI cJ cG _ z O)) ⟨wpa_42 hP, wda_42 hD⟩
                rw [nI_clamp (by omega)] at aF36
                rw [((sF30 42 (by decide)).trans ((sF22 42 (by decide)).trans ((sF18 42 (by decide)).trans ((sF7 42 (by decide)).trans ((sG1 42 (by decide)).trans ((sF2 42 (by decide)).trans (sF1 42 (by decide))))))))] at aF36
                refine lv_iload_n hx hb d_Mo_entry_197 rfl (lv_at hl 5 rfl) ?_
                refine lv_if_le (tgt := 277) hx hb d_Mo_entry_198 (by decide) (fun c37 => ?_) (fun c37 => ?_)
                · have c37 : sc ≤ 0 := (nI_leI (a := sc) (b := 0) (by omega) (by omega)).mp c37
                  exfalso; omega
                · have c37 : ¬ (sc ≤ 0) := fun z9 => c37 ((nI_leI (a := sc) (b := 0) (by omega) (by omega)).mpr z9)
                  refine lv_aload_n hx hb d_Mo_entry_201 rfl (lv_at hl 4 rfl) ?_
                  refine lv_aload_n hx hb d_Mo_entry_202 rfl (lv_at hl 4 rfl) ?_
                  refine va_get (D := D9) (ci := 7) (C := R_Mo) (T := F_Mo) (N := 30) hx hb hts i_Mo hown hK hP 33 ww_33 rfl 20 (by decide) (hts _ g_742) (fun _ h9 => h9) rfl d_Mo_entry_203 ?_
                  refine lv_topq (y := nI (e1 + 10)) (aI35) ?_
                  refine lv_iload hx hb d_Mo_entry_206 (lv_at hl 0 rfl) ?_
                  refine lv_iconst (v := 0) hx hb d_Mo_entry_208 (by decide) ?_
                  refine lv_topq (y := nI 0) (rfl) ?_
                  refine lv_iconst (v := 0) hx hb d_Mo_entry_209 (by decide) ?_
                  refine lv_topq (y := nI 0) (rfl) ?_
                  refine mw_cV (ci := 7) (k := 33) C0 (m_Mo_there l D9 cB cI cJ cG a O _ _ t (BR_eq hT ((sF36 34 (by decide)).trans ((sF30 34 (by decide)).trans ((sF22 34 (by decide)).trans ((sF18 34 (by decide)).trans ((sF7 34 (by decide)).trans ((sG1 34 (by decide)).trans ((sF2 34 (by decide)).trans (sF1 34 (by decide)))))))))) (((sI35 16 (by decide)).trans (sn1 16 (by decide))).trans h16) htl (e1 + 10) (t2 t (e1 + 8)) t.length false false (fun z9 => by cases z9) ((sI35 24 (by decide)).trans ((sn1 24 (by decide)).trans h24)) (by omega) (by omega) (by omega)) g_844 g_8 g_841 g_843 gs_Mo_there ⟨by decide +kernel, by decide +kernel, show Option.map (fun d => d.parameters.length) (parseMethodDescriptor y_Mo_there.desc) = some 4 by decide +kernel⟩ ⟨by decide, by decide⟩ rfl rfl hP hD hS hA rfl ww_33 hl.1 (Nat.le_of_ble_eq_true rfl) rfl d_Mo_entry_210 ⟨by decide, by decide⟩ (fun v9 w9 H locs hq hP hD hS => ?_)
                  obtain ⟨I38, F39, hw9, q40⟩ := hq
                  subst hw9
                  rcases q40 with ⟨g41, rfl, rfl, rfl⟩ | ⟨g41, rfl, sI38, ⟨z42, yz42, xz42⟩, rfl⟩
                  · have hfy := g41.1
                    refine lv_if_ne (tgt := 217) hx hb d_Mo_entry_213 (by decide) (fun c43 => ?_) (fun c43 => ?_)
                    · refine lv_aload_n hx hb d_Mo_entry_217 rfl (lv_at hl 4 rfl) ?_
                      refine lv_aload_n hx hb d_Mo_entry_218 rfl (lv_at hl 4 rfl) ?_
                      refine va_get (D := D9) (ci := 7) (C := R_Mo) (T := F_Mo) (N := 30) hx hb hts i_Mo hown hK hP 33 ww_33 rfl 20 (by decide) (hts _ g_742) (fun _ h9 => h9) rfl d_Mo_entry_219 ?_
                      refine lv_topq (y := nI (e1 + 10)) (aI35) ?_
                      refine va_put (D := D9) (ty := .int) (ci := 7) (C := R_Mo) (T := F_Mo) (N := 30) hx hb hts i_Mo t_Mo t_Mo_ok n_Mo hown hK hP hD hS 33 ww_33 rfl 21 (by decide) (hts _ g_743) (fun _ h9 => h9) rfl (by decide +kernel) rfl rfl (Nat.le_of_ble_eq_true rfl) d_Mo_entry_222 (fun H locs hP hD hS => ?_)
                      obtain ⟨I44, aI44, sI44, hP, hD⟩ := fx (P := fun z => va_P D9 cls9 (WW a cB cI cJ cG z _ O) H ∧ va_D A0 (WW a cB cI cJ cG z _ O)) ⟨wp_26 hP, wd_26 hD⟩
                      refine lv_aload_n hx hb d_Mo_entry_225 rfl (lv_at hl 4 rfl) ?_
                      refine lv_aload_n hx hb d_Mo_entry_226 rfl (lv_at hl 4 rfl) ?_
                      refine va_get (D := D9) (ci := 7) (C := R_Mo) (T := F_Mo) (N := 30) hx hb hts i_Mo hown hK hP 33 ww_33 rfl 20 (by decide) (hts _ g_742) (fun _ h9 => h9) rfl d_Mo_entry_227 ?_
                      refine lv_topq (y := nI (e1 + 10)) (((sI44 25 (by decide)).trans aI35)) ?_
                      refine lv_iload hx hb d_Mo_entry_230 (lv_at hl 0 rfl) ?_
                      refine lv_iadd hx hb d_Mo_entry_232 ?_
                      refine lv_topq (y := nI (e1 + 10 + (t2 t (e1 + 8)))) (nI_add _ _) ?_
                      refine va_put (D := D9) (ty := .int) (ci := 7) (C := R_Mo) (T := F_Mo) (N := 30) hx hb hts i_Mo t_Mo t_Mo_ok n_Mo hown hK hP hD hS 33 ww_33 rfl 22 (by decide) (hts _ g_744) (fun _ h9 => h9) rfl (by decide +kernel) rfl rfl (Nat.le_of_ble_eq_true rfl) d_Mo_entry_233 (fun H locs hP hD hS => ?_)
                      obtain ⟨I45, aI45, sI45, hP, hD⟩ := fx (P := fun z => va_P D9 cls9 (WW a cB cI cJ cG z _ O) H ∧ va_D A0 (WW a cB cI cJ cG z _ O)) ⟨wp_27 hP, wd_27 hD⟩
                      refine lv_aload_n hx hb d_Mo_entry_236 rfl (lv_at hl 4 rfl) ?_
                      refine lv_aload_n hx hb d_Mo_entry_237 rfl (lv_at hl 4 rfl) ?_
                      refine va_get (D := D9) (ci := 7) (C := R_Mo) (T := F_Mo) (N := 30) hx hb hts i_Mo hown hK hP 33 ww_33 rfl 9 (by decide) (hts _ g_731) (fun _ h9 => h9) rfl d_Mo_entry_238 ?_
                      refine lv_iload_n hx hb d_Mo_entry_241 rfl (lv_at hl 2 rfl) ?_
                      refine va_iald (D := D9) hx hb hK hP 37 1 ww_37 rfl (vp_in_nI (by omega) (by decide)) d_Mo_entry_242 ?_
                      refine lv_topq (y := nI (t2 t e1)) (by rw [nI_clamp (by omega)]; exact (by rw [(((sF36 37 (by decide)).trans ((sF30 37 (by decide)).trans (sF22 37 (by decide)))).trans aF18), pk_us])) ?_
                      refine lv_aload_n hx hb d_Mo_entry_243 rfl (lv_at hl 4 rfl) ?_
                      refine va_get (D := D9) (ci := 7) (C := R_Mo) (T := F_Mo) (N := 30) hx hb hts i_Mo hown hK hP 33 ww_33 rfl 13 (by decide) (hts _ g_735) (fun _ h9 => h9) rfl d_Mo_entry_244 ?_
                      refine lv_iload_n hx hb d_Mo_entry_247 rfl (lv_at hl 2 rfl) ?_
                      refine va_iald (D := D9) hx hb hK hP 41 1 ww_41 rfl (vp_in_nI (by omega) (by decide)) d_Mo_entry_248 ?_
                      refine lv_topq (y := nI nm1.length) (by rw [nI_clamp (by omega)]; exact (by rw [(((sF36 41 (by decide)).trans ((sF30 41 (by decide)).trans ((sF22 41 (by decide)).trans (sF18 41 (by decide))))).trans aF7), pk_us])) ?_
                      refine lv_iconst (v := 1) hx hb d_Mo_entry_249 (by decide) ?_
                      refine lv_topq (y := nI 1) (rfl) ?_
                      refine lv_icmp_ne (tgt := 257) hx hb d_Mo_entry_250 (by decide) (fun c46 => ?_) (fun c46 => ?_)
                      · have c46 : ¬ (nm1.length = 1) := fun z9 => c46 ((nI_eq (a := nm1.length) (b := 1) (by omega) (by omega)).mpr z9)
                        refine lv_iconst (v := 0) hx hb d_Mo_entry_257 (by decide) ?_
                        refine lv_topq (y := nI 0) (rfl) ?_
                        refine lv_topq (y := bI (decide (nm1.length = 1))) (by rw [show decide (nm1.length = 1) = false from by simp; omega]; rfl) ?_
                        refine mw_cV (ci := 7) (k := 33) C0 (m_Mo_data l D9 cB cI cJ cG a O _ _ t (BR_eq hT ((sF36 34 (by decide)).trans ((sF30 34 (by decide)).trans ((sF22 34 (by decide)).trans ((sF18 34 (by decide)).trans ((sF7 34 (by decide)).trans ((sG1 34 (by decide)).trans ((sF2 34 (by decide)).trans (sF1 34 (by decide)))))))))) (((sI45 16 (by decide)).trans ((sI44 16 (by decide)).trans ((sI35 16 (by decide)).trans (sn1 16 (by decide))))).trans h16) htl (fl es ++ nm1) (t2 t e1) (e1 + 10) (e1 + 10 + t2 t (e1 + 8)) (fw + c_1) nm1.length hty9 ((sI45 26 (by decide)).trans aI44) aI45 ((sI45 25 (by decide)).trans ((sI44 25 (by decide)).trans aI35)) (by omega) (by omega) ((sI45 24 (by decide)).trans ((sI44 24 (by decide)).trans ((sI35 24 (by decide)).trans ((sn1 24 (by decide)).trans h24)))) ((sI45 17 (by decide)).trans ((sI44 17 (by decide)).trans ((sI35 17 (by decide)).trans z171))) (by omega) (BR_eq wB1 ((sF36 35 (by decide)).trans ((sF30 35 (by decide)).trans ((sF22 35 (by decide)).trans ((sF18 35 (by decide)).trans (sF7 35 (by decide))))))) ((sI45 22 (by decide)).trans ((sI44 22 (by decide)).trans ((sI35 22 (by decide)).trans z221)))) g_848 g_8 g_845 g_847 gs_Mo_data ⟨by decide +kernel, by decide +kernel, show Option.map (fun d => d.parameters.length) (parseMethodDescriptor y_Mo_data.desc) = some 2 by decide +kernel⟩ ⟨by decide, by decide⟩ rfl rfl hP hD hS hA rfl ww_33 hl.1 (Nat.le_of_ble_eq_true rfl) rfl d_Mo_entry_258 ⟨by decide, by decide⟩ (fun v9 w9 H locs hq hP hD hS => ?_)
                        obtain ⟨I47, F48, hw9, q49⟩ := hq
                        subst hw9
                        rcases q49 with ⟨da, ca, hda, rfl, sda, v17, v22, sDa, vBa⟩ | ⟨hda, rfl, sda, ⟨dz, dy, dx⟩, sDa, vBa⟩
                        · have hbe := rdD_bd hda
                          have hlx : (fl es ++ nm1 ++ da).length = (fl es ++ nm1).length + da.length := List.length_append
                          refine lv_aload_n hx hb d_Mo_entry_261 rfl (lv_at hl 4 rfl) ?_
                          refine va_get (D := D9) (ci := 7) (C := R_Mo) (T := F_Mo) (N := 30) hx hb hts i_Mo hown hK hP 33 ww_33 rfl 19 (by decide) (hts _ g_741) (fun _ h9 => h9) rfl d_Mo_entry_262 ?_
                          refine lv_topq (y := nI 0) (((sda 24 (by decide)).trans ((sI45 24 (by decide)).trans ((sI44 24 (by decide)).trans ((sI35 24 (by decide)).trans ((sn1 24 (by decide)).trans h24)))))) ?_
                          refine lv_if_le (tgt := 269) hx hb d_Mo_entry_265 (by decide) (fun c50 => ?_) (fun c50 => ?_)
                          · refine lv_aload_n hx hb d_Mo_entry_269 rfl (lv_at hl 4 rfl) ?_
                            refine lv_aload_n hx hb d_Mo_entry_270 rfl (lv_at hl 4 rfl) ?_
                            refine va_get (D := D9) (ci := 7) (C := R_Mo) (T := F_Mo) (N := 30) hx hb hts i_Mo hown hK hP 33 ww_33 rfl 22 (by decide) (hts _ g_744) (fun _ h9 => h9) rfl d_Mo_entry_271 ?_
                            refine lv_topq (y := nI (e1 + 10 + (t2 t (e1 + 8)))) (((sda 27 (by decide)).trans aI45)) ?_
                            refine va_put (D := D9) (ty := .int) (ci := 7) (C := R_Mo) (T := F_Mo) (N := 30) hx hb hts i_Mo t_Mo t_Mo_ok n_Mo hown hK hP hD hS 33 ww_33 rfl 20 (by decide) (hts _ g_742) (fun _ h9 => h9) rfl (by decide +kernel) rfl rfl (Nat.le_of_ble_eq_true rfl) d_Mo_entry_274 (fun H locs hP hD hS => ?_)
                            obtain ⟨I51, aI51, sI51, hP, hD⟩ := fx (P := fun z => va_P D9 cls9 (WW a cB cI cJ cG z _ O) H ∧ va_D A0 (WW a cB cI cJ cG z _ O)) ⟨wp_25 hP, wd_25 hD⟩
                            refine lv_aload_n hx hb d_Mo_entry_277 rfl (lv_at hl 4 rfl) ?_
                            refine va_get (D := D9) (ci := 7) (C := R_Mo) (T := F_Mo) (N := 30) hx hb hts i_Mo hown hK hP 33 ww_33 rfl 15 (by decide) (hts _ g_737) (fun _ h9 => h9) rfl d_Mo_entry_278 ?_
                            refine lv_iload_n hx hb d_Mo_entry_281 rfl (lv_at hl 2 rfl) ?_
                            refine lv_aload_n hx hb d_Mo_entry_282 rfl (lv_at hl 4 rfl) ?_
                            refine va_get (D := D9) (ci := 7) (C := R_Mo) (T := F_Mo) (N := 30) hx hb hts i_Mo hown hK hP 33 ww_33 rfl 4 (by decide) (hts _ g_726) (fun _ h9 => h9) rfl d_Mo_entry_283 ?_
                            refine lv_topq (y := nI ((fl es ++ nm1 ++ da).length)) (((sI51 17 (by decide)).trans v17)) ?_
                            refine lv_aload_n hx hb d_Mo_entry_286 rfl (lv_at hl 4 rfl) ?_
                            refine va_get (D := D9) (ci := 7) (C := R_Mo) (T := F_Mo) (N := 30) hx hb hts i_Mo hown hK hP 33 ww_33 rfl 14 (by decide) (hts _ g_736) (fun _ h9 => h9) rfl d_Mo_entry_287 ?_
                            refine lv_iload_n hx hb d_Mo_entry_290 rfl (lv_at hl 2 rfl) ?_
                            refine va_iald (D := D9) hx hb hK hP 42 1 ww_42 rfl (vp_in_nI (by omega) (by decide)) d_Mo_entry_291 ?_
                            refine lv_topq (y := nI ((fl es ++ nm1).length)) (by rw [nI_clamp (by omega)]; exact (by rw [((sDa 42 (by decide)).trans aF36), pk_us])) ?_
                            refine lv_isub hx hb d_Mo_entry_292 ?_
                            refine lv_topq (y := nI da.length) ((pk_sub (by omega)).trans (congrArg nI (by omega))) ?_
                            refine va_iast (D := D9) hx hb hK hP hD hS 43 1 ww_43 rfl (vp_in_nI (by omega) (by decide)) d_Mo_entry_293 (fun H locs hP hD hS => ?_)
                            obtain ⟨F52, aF52, sF52, hP, hD⟩ := fx (P := fun z => va_P D9 cls9 (WW a cB cI cJ cG _ z O) H ∧ va_D A0 (WW a cB cI cJ cG _ z O)) ⟨wpa_43 hP, wda_43 hD⟩
                            rw [nI_clamp (by omega)] at aF52
                            rw [((sDa 43 (by decide)).trans ((sF36 43 (by decide)).trans ((sF30 43 (by decide)).trans ((sF22 43 (by decide)).trans ((sF18 43 (by decide)).trans ((sF7 43 (by decide)).trans ((sG1 43 (by decide)).trans ((sF2 43 (by decide)).trans (sF1 43 (by decide))))))))))] at aF52
                            refine lv_aload_n hx hb d_Mo_entry_294 rfl (lv_at hl 4 rfl) ?_
                            refine lv_dup hx hb d_Mo_entry_295 rfl ?_
                            refine va_get (D := D9) (ci := 7) (C := R_Mo) (T := F_Mo) (N := 30) hx hb hts i_Mo hown hK hP 33 ww_33 rfl 5 (by decide) (hts _ g_727) (fun _ h9 => h9) rfl d_Mo_entry_296 ?_
                            refine lv_topq (y := nI es.length) (((sI51 18 (by decide)).trans ((sda 18 (by decide)).trans ((sI45 18 (by decide)).trans ((sI44 18 (by decide)).trans ((sI35 18 (by decide)).trans ((sn1 18 (by decide)).trans h18))))))) ?_
                            refine lv_iconst (v := 1) hx hb d_Mo_entry_299 (by decide) ?_
                            refine lv_topq (y := nI 1) (rfl) ?_
                            refine lv_iadd hx hb d_Mo_entry_300 ?_
                            refine lv_topq (y := nI (es.length + 1)) (nI_add _ _) ?_
                            refine va_put (D := D9) (ty := .int) (ci := 7) (C := R_Mo) (T := F_Mo) (N := 30) hx hb hts i_Mo t_Mo t_Mo_ok n_Mo hown hK hP hD hS 33 ww_33 rfl 5 (by decide) (hts _ g_727) (fun _ h9 => h9) rfl (by decide +kernel) rfl rfl (Nat.le_of_ble_eq_true rfl) d_Mo_entry_301 (fun H locs hP hD hS => ?_)
                            obtain ⟨I53, aI53, sI53, hP, hD⟩ := fx (P := fun z => va_P D9 cls9 (WW a cB cI cJ cG z _ O) H ∧ va_D A0 (WW a cB cI cJ cG z _ O)) ⟨wp_18 hP, wd_18 hD⟩
                            have hxS : eS ((sc, t2 t e1, t2 t (e1 + 2), i4 t (e1 + 4), nm1, da) : En9) < 4 := by show sc < 4; omega
                            have hok0 := okB_iff hO hxS (show eT ((sc, t2 t e1, t2 t (e1 + 2), i4 t (e1 + 4), nm1, da) : En9) < 65536 from hty9) (show eK ((sc, t2 t e1, t2 t (e1 + 2), i4 t (e1 + 4), nm1, da) : En9) < 65536 from hki9)
                            have hokc := okB_cn hO hxS
                            have hBk : BR 0 140000 (F52 35) (fl es ++ (nm1 ++ da)) := by simpa only [List.append_assoc, List.append_nil] using (BR_eq vBa (sF52 35 (by decide)))
                            have hRk : MoR F52 (es ++ [((sc, t2 t e1, t2 t (e1 + 2), i4 t (e1 + 4), nm1, da) : En9)]) := MoR_add hR hBk ((((sF52 36 (by decide)).trans ((sDa 36 (by decide)).trans ((sF36 36 (by decide)).trans ((sF30 36 (by decide)).trans ((sF22 36 (by decide)).trans ((sF18 36 (by decide)).trans ((sF7 36 (by decide)).trans ((sG1 36 (by decide)).trans (sF2 36 (by decide)))))))))).trans aF1)) (((sF52 37 (by decide)).trans ((sDa 37 (by decide)).trans ((sF36 37 (by decide)).trans ((sF30 37 (by decide)).trans (sF22 37 (by decide)))))).trans aF18) (((sF52 38 (by decide)).trans ((sDa 38 (by decide)).trans ((sF36 38 (by decide)).trans (sF30 38 (by decide))))).trans aF22) (((sF52 39 (by decide)).trans ((sDa 39 (by decide)).trans (sF36 39 (by decide)))).trans aF30) (((sF52 40 (by decide)).trans ((sDa 40 (by decide)).trans ((sF36 40 (by decide)).trans ((sF30 40 (by decide)).trans ((sF22 40 (by decide)).trans ((sF18 40 (by decide)).trans ((sF7 40 (by decide)).trans (sG1 40 (by decide))))))))).trans aF2) (((sF52 41 (by decide)).trans ((sDa 41 (by decide)).trans ((sF36 41 (by decide)).trans ((sF30 41 (by decide)).trans ((sF22 41 (by decide)).trans (sF18 41 (by decide))))))).trans aF7) ((((sF52 42 (by decide)).trans (sDa 42 (by decide))).trans aF36).trans (by rw [List.length_append]; rfl)) aF52
                            have h18k : I53 18 = nI (es ++ [((sc, t2 t e1, t2 t (e1 + 2), i4 t (e1 + 4), nm1, da) : En9)]).length := (aI53).trans (congrArg nI (by rw [List.length_append]; rfl))
                            have hlk : (es ++ [((sc, t2 t e1, t2 t (e1 + 2), i4 t (e1 + 4), nm1, da) : En9)]).length = es.length + 1 := by rw [List.length_append]; rfl
                            have hSk : ∀ e ∈ es ++ [((sc, t2 t e1, t2 t (e1 + 2), i4 t (e1 + 4), nm1, da) : En9)], eS e < 4 := fun e he => by rcases List.mem_append.mp he with z | z; exact (hO.2.2.2 e z).1; rw [List.mem_singleton] at z; rw [z]; exact hxS
                            have hcz := cn_le 0 (es ++ [((sc, t2 t e1, t2 t (e1 + 2), i4 t (e1 + 4), nm1, da) : En9)])
                            have hfl : (fl es).length + (nm1.length + da.length) = (fl es ++ nm1 ++ da).length := by omega
                            refine lv_aload_n hx hb d_Mo_entry_304 rfl (lv_at hl 4 rfl) ?_
                            refine lv_iconst (v := 0) hx hb d_Mo_entry_305 (by decide) ?_
                            refine lv_topq (y := nI 0) (rfl) ?_
                            refine mw_cV (ci := 7) (k := 33) C0 (m_Mo_countOf l D9 cB cI cJ cG a O _ _ (es ++ [((sc, t2 t e1, t2 t (e1 + 2), i4 t (e1 + 4), nm1, da) : En9)]) hRk h18k (by omega) hSk 0 (by decide)) g_856 g_8 g_853 g_855 gs_Mo_countOf ⟨by decide +kernel, by decide +kernel, show Option.map (fun d => d.parameters.length) (parseMethodDescriptor y_Mo_countOf.desc) = some 1 by decide +kernel⟩ ⟨by decide, by decide⟩ rfl rfl hP hD hS hA rfl ww_33 hl.1 (Nat.le_of_ble_eq_true rfl) rfl d_Mo_entry_306 ⟨by decide, by decide⟩ (fun v9 w9 H locs hq hP hD hS => ?_)
                            obtain ⟨I54, F55, hw9, q56⟩ := hq
                            subst hw9
                            obtain ⟨rfl, rfl, rfl⟩ := q56
                            refine lv_bipush (v := 100) hx hb d_Mo_entry_309 (by decide) ?_
                            refine lv_topq (y := nI 100) (rfl) ?_
                            refine lv_icmp_gt (tgt := 333) hx hb d_Mo_entry_311 (by decide) (fun c57 => ?_) (fun c57 => ?_)
                            · have c57 : 100 < cn 0 (es ++ [((sc, t2 t e1, t2 t (e1 + 2), i4 t (e1 + 4), nm1, da) : En9)]) := (nI_ltI (a := 100) (b := cn 0 (es ++ [((sc, t2 t e1, t2 t (e1 + 2), i4 t (e1 + 4), nm1, da) : En9)])) (by omega) (by omega)).mp c57
                              refine lv_aload_n hx hb d_Mo_entry_333 rfl (lv_at hl 4 rfl) ?_
                              refine lv_bipush (v := 7) hx hb d_Mo_entry_334 (by decide) ?_
                              refine lv_topq (y := nI 7) (rfl) ?_
                              refine lv_iload_n hx hb d_Mo_entry_336 rfl (lv_at hl 3 rfl) ?_
                              refine mw_cV (ci := 7) (k := 33) C0 (m_Mo_wrong l D9 cB cI cJ cG a O _ _ (nI 7) _ ((sI53 24 (by decide)).trans ((sI51 24 (by decide)).trans ((sda 24 (by decide)).trans ((sI45 24 (by decide)).trans ((sI44 24 (by decide)).trans ((sI35 24 (by decide)).trans ((sn1 24 (by decide)).trans h24)))))))) g_824 g_8 g_821 g_823 gs_Mo_wrong ⟨by decide +kernel, by decide +kernel, show Option.map (fun d => d.parameters.length) (parseMethodDescriptor y_Mo_wrong.desc) = some 2 by decide +kernel⟩ ⟨by decide, by decide⟩ rfl rfl hP hD hS hA rfl ww_33 hl.1 (Nat.le_of_ble_eq_true rfl) rfl d_Mo_entry_337 ⟨by decide, by decide⟩ (fun v9 w9 H locs hq hP hD hS => ?_)
                              obtain ⟨I58, F59, hw9, q60⟩ := hq
                              subst hw9
                              obtain ⟨rfl, sI58, zI58, rfl⟩ := q60
                              exact hret _ _ _ _ _ _ hS hP hD d_Mo_entry_340 (Or.inr ⟨(fun x e c hx9 => by rw [show rdE t sc pos = some (((sc, t2 t e1, t2 t (e1 + 2), i4 t (e1 + 4), nm1, da) : En9), _, _) from (by unfold rdE; rw [if_neg hsc0]; unfold rdR; rw [hr1]; simp only; rw [if_neg (by omega), if_neg (by omega), hda])] at hx9; simp only [Option.some.injEq, Prod.mk.injEq] at hx9; rw [← hx9.1]; cases hb9 : okB es _ with | false => rfl | true => have z9 := hokc.mp hb9; have z8 := z9.1; have z7 := z9.2.1; have z6 : (fl es).length + (nm1.length + da.length) ≤ 65536 := z9.2.2; exfalso; omega), rfl, (sm_tr (sm_tr (sm_tr (sm_tr (sm_tr (sm_tr (sm_tr (sm_mo sn1 (by decide)) (sm_mo sI35 (by decide))) (sm_mo sI44 (by decide))) (sm_mo sI45 (by decide))) (sm_mo sda (by decide))) (sm_mo sI51 (by decide))) (sm_mo sI53 (by decide))) (sm_mo sI58 (by decide))), ⟨_, by decide, zI58⟩, (sm_tr (sm_tr (sm_tr (sm_tr (sm_tr (sm_tr (sm_tr (sm_tr (sm_tr (sm_mo sF1 (by decide)) (sm_mo sF2 (by decide))) (sm_mo sG1 (by decide))) (sm_mo sF7 (by decide))) (sm_mo sF18 (by decide))) (sm_mo sF22 (by decide))) (sm_mo sF30 (by decide))) (sm_mo sF36 (by decide))) (sm_mo sDa (by decide))) (sm_mo sF52 (by decide))), (BR_eq vBa (sF52 35 (by decide))).1⟩)
                            · have c57 : ¬ (100 < cn 0 (es ++ [((sc, t2 t e1, t2 t (e1 + 2), i4 t (e1 + 4), nm1, da) : En9)])) := fun z9 => c57 ((nI_ltI (a := 100) (b := cn 0 (es ++ [((sc, t2 t e1, t2 t (e1 + 2), i4 t (e1 + 4), nm1, da) : En9)])) (by omega) (by omega)).mpr z9)
                              refine lv_aload_n hx hb d_Mo_entry_314 rfl (lv_at hl 4 rfl) ?_
                              refine mw_cV (ci := 7) (k := 33) C0 (m_Mo_records l D9 cB cI cJ cG a O _ _ (es ++ [((sc, t2 t e1, t2 t (e1 + 2), i4 t (e1 + 4), nm1, da) : En9)]) hRk h18k (by omega) hSk) g_860 g_8 g_857 g_859 gs_Mo_records ⟨by decide +kernel, by decide +kernel, show Option.map (fun d => d.parameters.length) (parseMethodDescriptor y_Mo_records.desc) = some 0 by decide +kernel⟩ ⟨by decide, by decide⟩ rfl rfl hP hD hS hA rfl ww_33 hl.1 (Nat.le_of_ble_eq_true rfl) rfl d_Mo_entry_315 ⟨by decide, by decide⟩ (fun v9 w9 H locs hq hP hD hS => ?_)
                              obtain ⟨I61, F62, hw9, q63⟩ := hq
                              subst hw9
                              obtain ⟨rfl, rfl, rfl⟩ := q63
                              refine lv_sipush (v := 1000) hx hb d_Mo_entry_318 (by decide) ?_
                              refine lv_topq (y := nI 1000) (rfl) ?_
                              refine lv_icmp_gt (tgt := 333) hx hb d_Mo_entry_321 (by decide) (fun c64 => ?_) (fun c64 => ?_)
                              · have c64 : 1000 < (es ++ [((sc, t2 t e1, t2 t (e1 + 2), i4 t (e1 + 4), nm1, da) : En9)]).length - cn 0 (es ++ [((sc, t2 t e1, t2 t (e1 + 2), i4 t (e1 + 4), nm1, da) : En9)]) := (nI_ltI (a := 1000) (b := (es ++ [((sc, t2 t e1, t2 t (e1 + 2), i4 t (e1 + 4), nm1, da) : En9)]).length - cn 0 (es ++ [((sc, t2 t e1, t2 t (e1 + 2), i4 t (e1 + 4), nm1, da) : En9)])) (by omega) (by omega)).mp c64
                                refine lv_aload_n hx hb d_Mo_entry_333 rfl (lv_at hl 4 rfl) ?_
                                refine lv_bipush (v := 7) hx hb d_Mo_entry_334 (by decide) ?_
                                refine lv_topq (y := nI 7) (rfl) ?_
                                refine lv_iload_n hx hb d_Mo_entry_336 rfl (lv_at hl 3 rfl) ?_
                                refine mw_cV (ci := 7) (k := 33) C0 (m_Mo_wrong l D9 cB cI cJ cG a O _ _ (nI 7) _ ((sI53 24 (by decide)).trans ((sI51 24 (by decide)).trans ((sda 24 (by decide)).trans ((sI45 24 (by decide)).trans ((sI44 24 (by decide)).trans ((sI35 24 (by decide)).trans ((sn1 24 (by decide)).trans h24)))))))) g_824 g_8 g_821 g_823 gs_Mo_wrong ⟨by decide +kernel, by decide +kernel, show Option.map (fun d => d.parameters.length) (parseMethodDescriptor y_Mo_wrong.desc) = some 2 by decide +kernel⟩ ⟨by decide, by decide⟩ rfl rfl hP hD hS hA rfl ww_33 hl.1 (Nat.le_of_ble_eq_true rfl) rfl d_Mo_entry_337 ⟨by decide, by decide⟩ (fun v9 w9 H locs hq hP hD hS => ?_)
                                obtain ⟨I65, F66, hw9, q67⟩ := hq
                                subst hw9
                                obtain ⟨rfl, sI65, zI65, rfl⟩ := q67
                                exact hret _ _ _ _ _ _ hS hP hD d_Mo_entry_340 (Or.inr ⟨(fun x e c hx9 => by rw [show rdE t sc pos = some (((sc, t2 t e1, t2 t (e1 + 2), i4 t (e1 + 4), nm1, da) : En9), _, _) from (by unfold rdE; rw [if_neg hsc0]; unfold rdR; rw [hr1]; simp only; rw [if_neg (by omega), if_neg (by omega), hda])] at hx9; simp only [Option.some.injEq, Prod.mk.injEq] at hx9; rw [← hx9.1]; cases hb9 : okB es _ with | false => rfl | true => have z9 := hokc.mp hb9; have z8 := z9.1; have z7 := z9.2.1; have z6 : (fl es).length + (nm1.length + da.length) ≤ 65536 := z9.2.2; exfalso; omega), rfl, (sm_tr (sm_tr (sm_tr (sm_tr (sm_tr (sm_tr (sm_tr (sm_mo sn1 (by decide)) (sm_mo sI35 (by decide))) (sm_mo sI44 (by decide))) (sm_mo sI45 (by decide))) (sm_mo sda (by decide))) (sm_mo sI51 (by decide))) (sm_mo sI53 (by decide))) (sm_mo sI65 (by decide))), ⟨_, by decide, zI65⟩, (sm_tr (sm_tr (sm_tr (sm_tr (sm_tr (sm_tr (sm_tr (sm_tr (sm_tr (sm_mo sF1 (by decide)) (sm_mo sF2 (by decide))) (sm_mo sG1 (by decide))) (sm_mo sF7 (by decide))) (sm_mo sF18 (by decide))) (sm_mo sF22 (by decide))) (sm_mo sF30 (by decide))) (sm_mo sF36 (by decide))) (sm_mo sDa (by decide))) (sm_mo sF52 (by decide))), (BR_eq vBa (sF52 35 (by decide))).1⟩)
                              · have c64 : ¬ (1000 < (es ++ [((sc, t2 t e1, t2 t (e1 + 2), i4 t (e1 + 4), nm1, da) : En9)]).length - cn 0 (es ++ [((sc, t2 t e1, t2 t (e1 + 2), i4 t (e1 + 4), nm1, da) : En9)])) := fun z9 => c64 ((nI_ltI (a := 1000) (b := (es ++ [((sc, t2 t e1, t2 t (e1 + 2), i4 t (e1 + 4), nm1, da) : En9)]).length - cn 0 (es ++ [((sc, t2 t e1, t2 t (e1 + 2), i4 t (e1 + 4), nm1, da) : En9)])) (by omega) (by omega)).mpr z9)
                                refine lv_aload_n hx hb d_Mo_entry_324 rfl (lv_at hl 4 rfl) ?_
                                refine va_get (D := D9) (ci := 7) (C := R_Mo) (T := F_Mo) (N := 30) hx hb hts i_Mo hown hK hP 33 ww_33 rfl 4 (by decide) (hts _ g_726) (fun _ h9 => h9) rfl d_Mo_entry_325 ?_
                                refine lv_topq (y := nI ((fl es ++ nm1 ++ da).length)) (((sI53 17 (by decide)).trans ((sI51 17 (by decide)).trans v17))) ?_
                                refine lv_ldc hx hb hown (hts _ g_718) d_Mo_entry_328 ?_
                                refine lv_topq (y := nI 65536) (rfl) ?_
                                refine lv_icmp_le (tgt := 340) hx hb d_Mo_entry_330 (by decide) (fun c68 => ?_) (fun c68 => ?_)
                                · have c68 : (fl es ++ nm1 ++ da).length ≤ 65536 := (nI_leI (a := (fl es ++ nm1 ++ da).length) (b := 65536) (by omega) (by omega)).mp c68
                                  exact hret _ _ _ _ _ _ hS hP hD d_Mo_entry_340 (Or.inl ⟨((sc, t2 t e1, t2 t (e1 + 2), i4 t (e1 + 4), nm1, da) : En9), _, _, (by unfold rdE; rw [if_neg hsc0]; unfold rdR; rw [hr1]; simp only; rw [if_neg (by omega), if_neg (by omega), hda]), hokc.mpr ⟨by omega, by omega, by show (fl es).length + (nm1.length + da.length) ≤ 65536; omega⟩, hok0.mpr (hokc.mpr ⟨by omega, by omega, by show (fl es).length + (nm1.length + da.length) ≤ 65536; omega⟩), rfl, (sm_tr (sm_tr (sm_tr (sm_tr (sm_tr (sm_tr (sm_mo sn1 (by decide)) (sm_mo sI35 (by decide))) (sm_mo sI44 (by decide))) (sm_mo sI45 (by decide))) (sm_mo sda (by decide))) (sm_mo sI51 (by decide))) (sm_mo sI53 (by decide))), (((sI53 17 (by decide)).trans ((sI51 17 (by decide)).trans v17))).trans (congrArg nI (by rw [fl_add, ← hfl, List.length_append, List.length_append]; rfl)), h18k, ((sI53 25 (by decide)).trans aI51), (((sI53 22 (by decide)).trans ((sI51 22 (by decide)).trans v22))).trans (congrArg nI (by omega)), ((sI53 24 (by decide)).trans ((sI51 24 (by decide)).trans ((sda 24 (by decide)).trans ((sI45 24 (by decide)).trans ((sI44 24 (by decide)).trans ((sI35 24 (by decide)).trans ((sn1 24 (by decide)).trans h24))))))), (sm_tr (sm_tr (sm_tr (sm_tr (sm_tr (sm_tr (sm_tr (sm_tr (sm_tr (sm_mo sF1 (by decide)) (sm_mo sF2 (by decide))) (sm_mo sG1 (by decide))) (sm_mo sF7 (by decide))) (sm_mo sF18 (by decide))) (sm_mo sF22 (by decide))) (sm_mo sF30 (by decide))) (sm_mo sF36 (by decide))) (sm_mo sDa (by decide))) (sm_mo sF52 (by decide))), hRk⟩)
                                · have c68 : ¬ ((fl es ++ nm1 ++ da).length ≤ 65536) := fun z9 => c68 ((nI_leI (a := (fl es ++ nm1 ++ da).length) (b := 65536) (by omega) (by omega)).mpr z9)
                                  refine lv_aload_n hx hb d_Mo_entry_333 rfl (lv_at hl 4 rfl) ?_
                                  refine lv_bipush (v := 7) hx hb d_Mo_entry_334 (by decide) ?_
                                  refine lv_topq (y := nI 7) (rfl) ?_
                                  refine lv_iload_n hx hb d_Mo_entry_336 rfl (lv_at hl 3 rfl) ?_
                                  refine mw_cV (ci := 7) (k := 33) C0 (m_Mo_wrong l D9 cB cI cJ cG a O _ _ (nI 7) _ ((sI53 24 (by decide)).trans ((sI51 24 (by decide)).trans ((sda 24 (by decide)).trans ((sI45 24 (by decide)).trans ((sI44 24 (by decide)).trans ((sI35 24 (by decide)).trans ((sn1 24 (by decide)).trans h24)))))))) g_824 g_8 g_821 g_823 gs_Mo_wrong ⟨by decide +kernel, by decide +kernel, show Option.map (fun d => d.parameters.length) (parseMethodDescriptor y_Mo_wrong.desc) = some 2 by decide +kernel⟩ ⟨by decide, by decide⟩ rfl rfl hP hD hS hA rfl ww_33 hl.1 (Nat.le_of_ble_eq_true rfl) rfl d_Mo_entry_337 ⟨by decide, by decide⟩ (fun v9 w9 H locs hq hP hD hS => ?_)
                                  obtain ⟨I69, F70, hw9, q71⟩ := hq
                                  subst hw9
                                  obtain ⟨rfl, sI69, zI69, rfl⟩ := q71
                                  exact hret _ _ _ _ _ _ hS hP hD d_Mo_entry_340 (Or.inr ⟨(fun x e c hx9 => by rw [show rdE t sc pos = some (((sc, t2 t e1, t2 t (e1 + 2), i4 t (e1 + 4), nm1, da) : En9), _, _) from (by unfold rdE; rw [if_neg hsc0]; unfold rdR; rw [hr1]; simp only; rw [if_neg (by omega), if_neg (by omega), hda])] at hx9; simp only [Option.some.injEq, Prod.mk.injEq] at hx9; rw [← hx9.1]; cases hb9 : okB es _ with | false => rfl | true => have z9 := hokc.mp hb9; have z8 := z9.1; have z7 := z9.2.1; have z6 : (fl es).length + (nm1.length + da.length) ≤ 65536 := z9.2.2; exfalso; omega), rfl, (sm_tr (sm_tr (sm_tr (sm_tr (sm_tr (sm_tr (sm_tr (sm_mo sn1 (by decide)) (sm_mo sI35 (by decide))) (sm_mo sI44 (by decide))) (sm_mo sI45 (by decide))) (sm_mo sda (by decide))) (sm_mo sI51 (by decide))) (sm_mo sI53 (by decide))) (sm_mo sI69 (by decide))), ⟨_, by decide, zI69⟩, (sm_tr (sm_tr (sm_tr (sm_tr (sm_tr (sm_tr (sm_tr (sm_tr (sm_tr (sm_mo sF1 (by decide)) (sm_mo sF2 (by decide))) (sm_mo sG1 (by decide))) (sm_mo sF7 (by decide))) (sm_mo sF18 (by decide))) (sm_mo sF22 (by decide))) (sm_mo sF30 (by decide))) (sm_mo sF36 (by decide))) (sm_mo sDa (by decide))) (sm_mo sF52 (by decide))), (BR_eq vBa (sF52 35 (by decide))).1⟩)
                          · exact absurd c50 (by decide)
                        · refine lv_aload_n hx hb d_Mo_entry_261 rfl (lv_at hl 4 rfl) ?_
                          refine va_get (D := D9) (ci := 7) (C := R_Mo) (T := F_Mo) (N := 30) hx hb hts i_Mo hown hK hP 33 ww_33 rfl 19 (by decide) (hts _ g_741) (fun _ h9 => h9) rfl d_Mo_entry_262 ?_
                          refine lv_topq (y := nI dz) (dx) ?_
                          refine lv_if_le (tgt := 269) hx hb d_Mo_entry_265 (by decide) (fun c72 => ?_) (fun c72 => ?_)
                          · have c72 : dz ≤ 0 := (nI_leI (a := dz) (b := 0) (by omega) (by omega)).mp c72
                            exfalso; omega
                          · have c72 : ¬ (dz ≤ 0) := fun z9 => c72 ((nI_leI (a := dz) (b := 0) (by omega) (by omega)).mpr z9)
                            exact hret _ _ _ _ _ _ hS hP hD d_Mo_entry_268 (Or.inr ⟨(fun x e c hx9 => by rw [show rdE t sc pos = none from (by unfold rdE; rw [if_neg hsc0]; unfold rdR; rw [hr1]; simp only; rw [if_neg (by omega), if_neg (by omega), hda])] at hx9; cases hx9), rfl, (sm_tr (sm_tr (sm_tr (sm_tr (sm_mo sn1 (by decide)) (sm_mo sI35 (by decide))) (sm_mo sI44 (by decide))) (sm_mo sI45 (by decide))) (sm_mo sda (by decide))), ⟨_, by omega, dx⟩, (sm_tr (sm_tr (sm_tr (sm_tr (sm_tr (sm_tr (sm_tr (sm_tr (sm_mo sF1 (by decide)) (sm_mo sF2 (by decide))) (sm_mo sG1 (by decide))) (sm_mo sF7 (by decide))) (sm_mo sF18 (by decide))) (sm_mo sF22 (by decide))) (sm_mo sF30 (by decide))) (sm_mo sF36 (by decide))) (sm_mo sDa (by decide))), vBa.1⟩)
                      · have c46 : nm1.length = 1 := (nI_eq (a := nm1.length) (b := 1) (by omega) (by omega)).mp c46
                        refine lv_iconst (v := 1) hx hb d_Mo_entry_253 (by decide) ?_
                        refine lv_topq (y := nI 1) (rfl) ?_
                        refine lv_goto (tgt := 258) hx hb d_Mo_entry_254 (by decide) ?_
                        refine lv_topq (y := bI (decide (nm1.length = 1))) (by rw [show decide (nm1.length = 1) = true from by simp; omega]; rfl) ?_
                        refine mw_cV (ci := 7) (k := 33) C0 (m_Mo_data l D9 cB cI cJ cG a O _ _ t (BR_eq hT ((sF36 34 (by decide)).trans ((sF30 34 (by decide)).trans ((sF22 34 (by decide)).trans ((sF18 34 (by decide)).trans ((sF7 34 (by decide)).trans ((sG1 34 (by decide)).trans ((sF2 34 (by decide)).trans (sF1 34 (by decide)))))))))) (((sI45 16 (by decide)).trans ((sI44 16 (by decide)).trans ((sI35 16 (by decide)).trans (sn1 16 (by decide))))).trans h16) htl (fl es ++ nm1) (t2 t e1) (e1 + 10) (e1 + 10 + t2 t (e1 + 8)) (fw + c_1) nm1.length hty9 ((sI45 26 (by decide)).trans aI44) aI45 ((sI45 25 (by decide)).trans ((sI44 25 (by decide)).trans aI35)) (by omega) (by omega) ((sI45 24 (by decide)).trans ((sI44 24 (by decide)).trans ((sI35 24 (by decide)).trans ((sn1 24 (by decide)).trans h24)))) ((sI45 17 (by decide)).trans ((sI44 17 (by decide)).trans ((sI35 17 (by decide)).trans z171))) (by omega) (BR_eq wB1 ((sF36 35 (by decide)).trans ((sF30 35 (by decide)).trans ((sF22 35 (by decide)).trans ((sF18 35 (by decide)).trans (sF7 35 (by decide))))))) ((sI45 22 (by decide)).trans ((sI44 22 (by decide)).trans ((sI35 22 (by decide)).trans z221)))) g_848 g_8 g_845 g_847 gs_Mo_data ⟨by decide +kernel, by decide +kernel, show Option.map (fun d => d.parameters.length) (parseMethodDescriptor y_Mo_data.desc) = some 2 by decide +kernel⟩ ⟨by decide, by decide⟩ rfl rfl hP hD hS hA rfl ww_33 hl.1 (Nat.le_of_ble_eq_true rfl) rfl d_Mo_entry_258 ⟨by decide, by decide⟩ (fun v9 w9 H locs hq hP hD hS => ?_)
                        obtain ⟨I73, F74, hw9, q75⟩ := hq
                        subst hw9
                        rcases q75 with ⟨da, ca, hda, rfl, sda, v17, v22, sDa, vBa⟩ | ⟨hda, rfl, sda, ⟨dz, dy, dx⟩, sDa, vBa⟩
                        · have hbe := rdD_bd hda
                          have hlx : (fl es ++ nm1 ++ da).length = (fl es ++ nm1).length + da.length := List.length_append
                          refine lv_aload_n hx hb d_Mo_entry_261 rfl (lv_at hl 4 rfl) ?_
                          refine va_get (D := D9) (ci := 7) (C := R_Mo) (T := F_Mo) (N := 30) hx hb hts i_Mo hown hK hP 33 ww_33 rfl 19 (by decide) (hts _ g_741) (fun _ h9 => h9) rfl d_Mo_entry_262 ?_
                          refine lv_topq (y := nI 0) (((sda 24 (by decide)).trans ((sI45 24 (by decide)).trans ((sI44 24 (by decide)).trans ((sI35 24 (by decide)).trans ((sn1 24 (by decide)).trans h24)))))) ?_
                          refine lv_if_le (tgt := 269) hx hb d_Mo_entry_265 (by decide) (fun c76 => ?_) (fun c76 => ?_)
                          · refine lv_aload_n hx hb d_Mo_entry_269 rfl (lv_at hl 4 rfl) ?_
                            refine lv_aload_n hx hb d_Mo_entry_270 rfl (lv_at hl 4 rfl) ?_
                            refine va_get (D := D9) (ci := 7) (C := R_Mo) (T := F_Mo) (N := 30) hx hb hts i_Mo hown hK hP 33 ww_33 rfl 22 (by decide) (hts _ g_744) (fun _ h9 => h9) rfl d_Mo_entry_271 ?_
                            refine lv_topq (y := nI (e1 + 10 + (t2 t (e1 + 8)))) (((sda 27 (by decide)).trans aI45)) ?_
                            refine va_put (D := D9) (ty := .int) (ci := 7) (C := R_Mo) (T := F_Mo) (N := 30) hx hb hts i_Mo t_Mo t_Mo_ok n_Mo hown hK hP hD hS 33 ww_33 rfl 20 (by decide) (hts _ g_742) (fun _ h9 => h9) rfl (by decide +kernel) rfl rfl (Nat.le_of_ble_eq_true rfl) d_Mo_entry_274 (fun H locs hP hD hS => ?_)
                            obtain ⟨I77, aI77, sI77, hP, hD⟩ := fx (P := fun z => va_P D9 cls9 (WW a cB cI cJ cG z _ O) H ∧ va_D A0 (WW a cB cI cJ cG z _ O)) ⟨wp_25 hP, wd_25 hD⟩
                            refine lv_aload_n hx hb d_Mo_entry_277 rfl (lv_at hl 4 rfl) ?_
                            refine va_get (D := D9) (ci := 7) (C := R_Mo) (T := F_Mo) (N := 30) hx hb hts i_Mo hown hK hP 33 ww_33 rfl 15 (by decide) (hts _ g_737) (fun _ h9 => h9) rfl d_Mo_entry_278 ?_
                            refine lv_iload_n hx hb d_Mo_entry_281 rfl (lv_at hl 2 rfl) ?_
                            refine lv_aload_n hx hb d_Mo_entry_282 rfl (lv_at hl 4 rfl) ?_
                            refine va_get (D := D9) (ci := 7) (C := R_Mo) (T := F_Mo) (N := 30) hx hb hts i_Mo hown hK hP 33 ww_33 rfl 4 (by decide) (hts _ g_726) (fun _ h9 => h9) rfl d_Mo_entry_283 ?_
                            refine lv_topq (y := nI ((fl es ++ nm1 ++ da).length)) (((sI77 17 (by decide)).trans v17)) ?_
                            refine lv_aload_n hx hb d_Mo_entry_286 rfl (lv_at hl 4 rfl) ?_
                            refine va_get (D := D9) (ci := 7) (C := R_Mo) (T := F_Mo) (N := 30) hx hb hts i_Mo hown hK hP 33 ww_33 rfl 14 (by decide) (hts _ g_736) (fun _ h9 => h9) rfl d_Mo_entry_287 ?_
                            refine lv_iload_n hx hb d_Mo_entry_290 rfl (lv_at hl 2 rfl) ?_
                            refine va_iald (D := D9) hx hb hK hP 42 1 ww_42 rfl (vp_in_nI (by omega) (by decide)) d_Mo_entry_291 ?_
                            refine lv_topq (y := nI ((fl es ++ nm1).length)) (by rw [nI_clamp (by omega)]; exact (by rw [((sDa 42 (by decide)).trans aF36), pk_us])) ?_
                            refine lv_isub hx hb d_Mo_entry_292 ?_
                            refine lv_topq (y := nI da.length) ((pk_sub (by omega)).trans (congrArg nI (by omega))) ?_
                            refine va_iast (D := D9) hx hb hK hP hD hS 43 1 ww_43 rfl (vp_in_nI (by omega) (by decide)) d_Mo_entry_293 (fun H locs hP hD hS => ?_)
                            obtain ⟨F78, aF78, sF78, hP, hD⟩ := fx (P := fun z => va_P D9 cls9 (WW a cB cI cJ cG _ z O) H ∧ va_D A0 (WW a cB cI cJ cG _ z O)) ⟨wpa_43 hP, wda_43 hD⟩
                            rw [nI_clamp (by omega)] at aF78
                            rw [((sDa 43 (by decide)).trans ((sF36 43 (by decide)).trans ((sF30 43 (by decide)).trans ((sF22 43 (by decide)).trans ((sF18 43 (by decide)).trans ((sF7 43 (by decide)).trans ((sG1 43 (by decide)).trans ((sF2 43 (by decide)).trans (sF1 43 (by decide))))))))))] at aF78
                            refine lv_aload_n hx hb d_Mo_entry_294 rfl (lv_at hl 4 rfl) ?_
                            refine lv_dup hx hb d_Mo_entry_295 rfl ?_
                            refine va_get (D := D9) (ci := 7) (C := R_Mo) (T := F_Mo) (N := 30) hx hb hts i_Mo hown hK hP 33 ww_33 rfl 5 (by decide) (hts _ g_727) (fun _ h9 => h9) rfl d_Mo_entry_296 ?_
                            refine lv_topq (y := nI es.length) (((sI77 18 (by decide)).trans ((sda 18 (by decide)).trans ((sI45 18 (by decide)).trans ((sI44 18 (by decide)).trans ((sI35 18 (by decide)).trans ((sn1 18 (by decide)).trans h18))))))) ?_
                            refine lv_iconst (v := 1) hx hb d_Mo_entry_299 (by decide) ?_
                            refine lv_topq (y := nI 1) (rfl) ?_
                            refine lv_iadd hx hb d_Mo_entry_300 ?_
                            refine lv_topq (y := nI (es.length + 1)) (nI_add _ _) ?_
                            refine va_put (D := D9) (ty := .int) (ci := 7) (C := R_Mo) (T := F_Mo) (N := 30) hx hb hts i_Mo t_Mo t_Mo_ok n_Mo hown hK hP hD hS 33 ww_33 rfl 5 (by decide) (hts _ g_727) (fun _ h9 => h9) rfl (by decide +kernel) rfl rfl (Nat.le_of_ble_eq_true rfl) d_Mo_entry_301 (fun H locs hP hD hS => ?_)
                            obtain ⟨I79, aI79, sI79, hP, hD⟩ := fx (P := fun z => va_P D9 cls9 (WW a cB cI cJ cG z _ O) H ∧ va_D A0 (WW a cB cI cJ cG z _ O)) ⟨wp_18 hP, wd_18 hD⟩
                            have hxS : eS ((sc, t2 t e1, t2 t (e1 + 2), i4 t (e1 + 4), nm1, da) : En9) < 4 := by show sc < 4; omega
                            have hok0 := okB_iff hO hxS (show eT ((sc, t2 t e1, t2 t (e1 + 2), i4 t (e1 + 4), nm1, da) : En9) < 65536 from hty9) (show eK ((sc, t2 t e1, t2 t (e1 + 2), i4 t (e1 + 4), nm1, da) : En9) < 65536 from hki9)
                            have hokc := okB_cn hO hxS
                            have hBk : BR 0 140000 (F78 35) (fl es ++ (nm1 ++ da)) := by simpa only [List.append_assoc, List.append_nil] using (BR_eq vBa (sF78 35 (by decide)))
                            have hRk : MoR F78 (es ++ [((sc, t2 t e1, t2 t (e1 + 2), i4 t (e1 + 4), nm1, da) : En9)]) := MoR_add hR hBk ((((sF78 36 (by decide)).trans ((sDa 36 (by decide)).trans ((sF36 36 (by decide)).trans ((sF30 36 (by decide)).trans ((sF22 36 (by decide)).trans ((sF18 36 (by decide)).trans ((sF7 36 (by decide)).trans ((sG1 36 (by decide)).trans (sF2 36 (by decide)))))))))).trans aF1)) (((sF78 37 (by decide)).trans ((sDa 37 (by decide)).trans ((sF36 37 (by decide)).trans ((sF30 37 (by decide)).trans (sF22 37 (by decide)))))).trans aF18) (((sF78 38 (by decide)).trans ((sDa 38 (by decide)).trans ((sF36 38 (by decide)).trans (sF30 38 (by decide))))).trans aF22) (((sF78 39 (by decide)).trans ((sDa 39 (by decide)).trans (sF36 39 (by decide)))).trans aF30) (((sF78 40 (by decide)).trans ((sDa 40 (by decide)).trans ((sF36 40 (by decide)).trans ((sF30 40 (by decide)).trans ((sF22 40 (by decide)).trans ((sF18 40 (by decide)).trans ((sF7 40 (by decide)).trans (sG1 40 (by decide))))))))).trans aF2) (((sF78 41 (by decide)).trans ((sDa 41 (by decide)).trans ((sF36 41 (by decide)).trans ((sF30 41 (by decide)).trans ((sF22 41 (by decide)).trans (sF18 41 (by decide))))))).trans aF7) ((((sF78 42 (by decide)).trans (sDa 42 (by decide))).trans aF36).trans (by rw [List.length_append]; rfl)) aF78
                            have h18k : I79 18 = nI (es ++ [((sc, t2 t e1, t2 t (e1 + 2), i4 t (e1 + 4), nm1, da) : En9)]).length := (aI79).trans (congrArg nI (by rw [List.length_append]; rfl))
                            have hlk : (es ++ [((sc, t2 t e1, t2 t (e1 + 2), i4 t (e1 + 4), nm1, da) : En9)]).length = es.length + 1 := by rw [List.length_append]; rfl
                            have hSk : ∀ e ∈ es ++ [((sc, t2 t e1, t2 t (e1 + 2), i4 t (e1 + 4), nm1, da) : En9)], eS e < 4 := fun e he => by rcases List.mem_append.mp he with z | z; exact (hO.2.2.2 e z).1; rw [List.mem_singleton] at z; rw [z]; exact hxS
                            have hcz := cn_le 0 (es ++ [((sc, t2 t e1, t2 t (e1 + 2), i4 t (e1 + 4), nm1, da) : En9)])
                            have hfl : (fl es).length + (nm1.length + da.length) = (fl es ++ nm1 ++ da).length := by omega
                            refine lv_aload_n hx hb d_Mo_entry_304 rfl (lv_at hl 4 rfl) ?_
                            refine lv_iconst (v := 0) hx hb d_Mo_entry_305 (by decide) ?_
                            refine lv_topq (y := nI 0) (rfl) ?_
                            refine mw_cV (ci := 7) (k := 33) C0 (m_Mo_countOf l D9 cB cI cJ cG a O _ _ (es ++ [((sc, t2 t e1, t2 t (e1 + 2), i4 t (e1 + 4), nm1, da) : En9)]) hRk h18k (by omega) hSk 0 (by decide)) g_856 g_8 g_853 g_855 gs_Mo_countOf ⟨by decide +kernel, by decide +kernel, show Option.map (fun d => d.parameters.length) (parseMethodDescriptor y_Mo_countOf.desc) = some 1 by decide +kernel⟩ ⟨by decide, by decide⟩ rfl rfl hP hD hS hA rfl ww_33 hl.1 (Nat.le_of_ble_eq_true rfl) rfl d_Mo_entry_306 ⟨by decide, by decide⟩ (fun v9 w9 H locs hq hP hD hS => ?_)
                            obtain ⟨I80, F81, hw9, q82⟩ := hq
                            subst hw9
                            obtain ⟨rfl, rfl, rfl⟩ := q82
                            refine lv_bipush (v := 100) hx hb d_Mo_entry_309 (by decide) ?_
                            refine lv_topq (y := nI 100) (rfl) ?_
                            refine lv_icmp_gt (tgt := 333) hx hb d_Mo_entry_311 (by decide) (fun c83 => ?_) (fun c83 => ?_)
                            · have c83 : 100 < cn 0 (es ++ [((sc, t2 t e1, t2 t (e1 + 2), i4 t (e1 + 4), nm1, da) : En9)]) := (nI_ltI (a := 100) (b := cn 0 (es ++ [((sc, t2 t e1, t2 t (e1 + 2), i4 t (e1 + 4), nm1, da) : En9)])) (by omega) (by omega)).mp c83
                              refine lv_aload_n hx hb d_Mo_entry_333 rfl (lv_at hl 4 rfl) ?_
                              refine lv_bipush (v := 7) hx hb d_Mo_entry_334 (by decide) ?_
                              refine lv_topq (y := nI 7) (rfl) ?_
                              refine lv_iload_n hx hb d_Mo_entry_336 rfl (lv_at hl 3 rfl) ?_
                              refine mw_cV (ci := 7) (k := 33) C0 (m_Mo_wrong l D9 cB cI cJ cG a O _ _ (nI 7) _ ((sI79 24 (by decide)).trans ((sI77 24 (by decide)).trans ((sda 24 (by decide)).trans ((sI45 24 (by decide)).trans ((sI44 24 (by decide)).trans ((sI35 24 (by decide)).trans ((sn1 24 (by decide)).trans h24)))))))) g_824 g_8 g_821 g_823 gs_Mo_wrong ⟨by decide +kernel, by decide +kernel, show Option.map (fun d => d.parameters.length) (parseMethodDescriptor y_Mo_wrong.desc) = some 2 by decide +kernel⟩ ⟨by decide, by decide⟩ rfl rfl hP hD hS hA rfl ww_33 hl.1 (Nat.le_of_ble_eq_true rfl) rfl d_Mo_entry_337 ⟨by decide, by decide⟩ (fun v9 w9 H locs hq hP hD hS => ?_)
                              obtain ⟨I84, F85, hw9, q86⟩ := hq
                              subst hw9
                              obtain ⟨rfl, sI84, zI84, rfl⟩ := q86
                              exact hret _ _ _ _ _ _ hS hP hD d_Mo_entry_340 (Or.inr ⟨(fun x e c hx9 => by rw [show rdE t sc pos = some (((sc, t2 t e1, t2 t (e1 + 2), i4 t (e1 + 4), nm1, da) : En9), _, _) from (by unfold rdE; rw [if_neg hsc0]; unfold rdR; rw [hr1]; simp only; rw [if_neg (by omega), if_neg (by omega), hda])] at hx9; simp only [Option.some.injEq, Prod.mk.injEq] at hx9; rw [← hx9.1]; cases hb9 : okB es _ with | false => rfl | true => have z9 := hokc.mp hb9; have z8 := z9.1; have z7 := z9.2.1; have z6 : (fl es).length + (nm1.length + da.length) ≤ 65536 := z9.2.2; exfalso; omega), rfl, (sm_tr (sm_tr (sm_tr (sm_tr (sm_tr (sm_tr (sm_tr (sm_mo sn1 (by decide)) (sm_mo sI35 (by decide))) (sm_mo sI44 (by decide))) (sm_mo sI45 (by decide))) (sm_mo sda (by decide))) (sm_mo sI77 (by decide))) (sm_mo sI79 (by decide))) (sm_mo sI84 (by decide))), ⟨_, by decide, zI84⟩, (sm_tr (sm_tr (sm_tr (sm_tr (sm_tr (sm_tr (sm_tr (sm_tr (sm_tr (sm_mo sF1 (by decide)) (sm_mo sF2 (by decide))) (sm_mo sG1 (by decide))) (sm_mo sF7 (by decide))) (sm_mo sF18 (by decide))) (sm_mo sF22 (by decide))) (sm_mo sF30 (by decide))) (sm_mo sF36 (by decide))) (sm_mo sDa (by decide))) (sm_mo sF78 (by decide))), (BR_eq vBa (sF78 35 (by decide))).1⟩)
                            · have c83 : ¬ (100 < cn 0 (es ++ [((sc, t2 t e1, t2 t (e1 + 2), i4 t (e1 + 4), nm1, da) : En9)])) := fun z9 => c83 ((nI_ltI (a := 100) (b := cn 0 (es ++ [((sc, t2 t e1, t2 t (e1 + 2), i4 t (e1 + 4), nm1, da) : En9)])) (by omega) (by omega)).mpr z9)
                              refine lv_aload_n hx hb d_Mo_entry_314 rfl (lv_at hl 4 rfl) ?_
                              refine mw_cV (ci := 7) (k := 33) C0 (m_Mo_records l D9 cB cI cJ cG a O _ _ (es ++ [((sc, t2 t e1, t2 t (e1 + 2), i4 t (e1 + 4), nm1, da) : En9)]) hRk h18k (by omega) hSk) g_860 g_8 g_857 g_859 gs_Mo_records ⟨by decide +kernel, by decide +kernel, show Option.map (fun d => d.parameters.length) (parseMethodDescriptor y_Mo_records.desc) = some 0 by decide +kernel⟩ ⟨by decide, by decide⟩ rfl rfl hP hD hS hA rfl ww_33 hl.1 (Nat.le_of_ble_eq_true rfl) rfl d_Mo_entry_315 ⟨by decide, by decide⟩ (fun v9 w9 H locs hq hP hD hS => ?_)
                              obtain ⟨I87, F88, hw9, q89⟩ := hq
                              subst hw9
                              obtain ⟨rfl, rfl, rfl⟩ := q89
                              refine lv_sipush (v := 1000) hx hb d_Mo_entry_318 (by decide) ?_
                              refine lv_topq (y := nI 1000) (rfl) ?_
                              refine lv_icmp_gt (tgt := 333) hx hb d_Mo_entry_321 (by decide) (fun c90 => ?_) (fun c90 => ?_)
                              · have c90 : 1000 < (es ++ [((sc, t2 t e1, t2 t (e1 + 2), i4 t (e1 + 4), nm1, da) : En9)]).length - cn 0 (es ++ [((sc, t2 t e1, t2 t (e1 + 2), i4 t (e1 + 4), nm1, da) : En9)]) := (nI_ltI (a := 1000) (b := (es ++ [((sc, t2 t e1, t2 t (e1 + 2), i4 t (e1 + 4), nm1, da) : En9)]).length - cn 0 (es ++ [((sc, t2 t e1, t2 t (e1 + 2), i4 t (e1 + 4), nm1, da) : En9)])) (by omega) (by omega)).mp c90
                                refine lv_aload_n hx hb d_Mo_entry_333 rfl (lv_at hl 4 rfl) ?_
                                refine lv_bipush (v := 7) hx hb d_Mo_entry_334 (by decide) ?_
                                refine lv_topq (y := nI 7) (rfl) ?_
                                refine lv_iload_n hx hb d_Mo_entry_336 rfl (lv_at hl 3 rfl) ?_
                                refine mw_cV (ci := 7) (k := 33) C0 (m_Mo_wrong l D9 cB cI cJ cG a O _ _ (nI 7) _ ((sI79 24 (by decide)).trans ((sI77 24 (by decide)).trans ((sda 24 (by decide)).trans ((sI45 24 (by decide)).trans ((sI44 24 (by decide)).trans ((sI35 24 (by decide)).trans ((sn1 24 (by decide)).trans h24)))))))) g_824 g_8 g_821 g_823 gs_Mo_wrong ⟨by decide +kernel, by decide +kernel, show Option.map (fun d => d.parameters.length) (parseMethodDescriptor y_Mo_wrong.desc) = some 2 by decide +kernel⟩ ⟨by decide, by decide⟩ rfl rfl hP hD hS hA rfl ww_33 hl.1 (Nat.le_of_ble_eq_true rfl) rfl d_Mo_entry_337 ⟨by decide, by decide⟩ (fun v9 w9 H locs hq hP hD hS => ?_)
                                obtain ⟨I91, F92, hw9, q93⟩ := hq
                                subst hw9
                                obtain ⟨rfl, sI91, zI91, rfl⟩ := q93
                                exact hret _ _ _ _ _ _ hS hP hD d_Mo_entry_340 (Or.inr ⟨(fun x e c hx9 => by rw [show rdE t sc pos = some (((sc, t2 t e1, t2 t (e1 + 2), i4 t (e1 + 4), nm1, da) : En9), _, _) from (by unfold rdE; rw [if_neg hsc0]; unfold rdR; rw [hr1]; simp only; rw [if_neg (by omega), if_neg (by omega), hda])] at hx9; simp only [Option.some.injEq, Prod.mk.injEq] at hx9; rw [← hx9.1]; cases hb9 : okB es _ with | false => rfl | true => have z9 := hokc.mp hb9; have z8 := z9.1; have z7 := z9.2.1; have z6 : (fl es).length + (nm1.length + da.length) ≤ 65536 := z9.2.2; exfalso; omega), rfl, (sm_tr (sm_tr (sm_tr (sm_tr (sm_tr (sm_tr (sm_tr (sm_mo sn1 (by decide)) (sm_mo sI35 (by decide))) (sm_mo sI44 (by decide))) (sm_mo sI45 (by decide))) (sm_mo sda (by decide))) (sm_mo sI77 (by decide))) (sm_mo sI79 (by decide))) (sm_mo sI91 (by decide))), ⟨_, by decide, zI91⟩, (sm_tr (sm_tr (sm_tr (sm_tr (sm_tr (sm_tr (sm_tr (sm_tr (sm_tr (sm_mo sF1 (by decide)) (sm_mo sF2 (by decide))) (sm_mo sG1 (by decide))) (sm_mo sF7 (by decide))) (sm_mo sF18 (by decide))) (sm_mo sF22 (by decide))) (sm_mo sF30 (by decide))) (sm_mo sF36 (by decide))) (sm_mo sDa (by decide))) (sm_mo sF78 (by decide))), (BR_eq vBa (sF78 35 (by decide))).1⟩)
                              · have c90 : ¬ (1000 < (es ++ [((sc, t2 t e1, t2 t (e1 + 2), i4 t (e1 + 4), nm1, da) : En9)]).length - cn 0 (es ++ [((sc, t2 t e1, t2 t (e1 + 2), i4 t (e1 + 4), nm1, da) : En9)])) := fun z9 => c90 ((nI_ltI (a := 1000) (b := (es ++ [((sc, t2 t e1, t2 t (e1 + 2), i4 t (e1 + 4), nm1, da) : En9)]).length - cn 0 (es ++ [((sc, t2 t e1, t2 t (e1 + 2), i4 t (e1 + 4), nm1, da) : En9)])) (by omega) (by omega)).mpr z9)
                                refine lv_aload_n hx hb d_Mo_entry_324 rfl (lv_at hl 4 rfl) ?_
                                refine va_get (D := D9) (ci := 7) (C := R_Mo) (T := F_Mo) (N := 30) hx hb hts i_Mo hown hK hP 33 ww_33 rfl 4 (by decide) (hts _ g_726) (fun _ h9 => h9) rfl d_Mo_entry_325 ?_
                                refine lv_topq (y := nI ((fl es ++ nm1 ++ da).length)) (((sI79 17 (by decide)).trans ((sI77 17 (by decide)).trans v17))) ?_
                                refine lv_ldc hx hb hown (hts _ g_718) d_Mo_entry_328 ?_
                                refine lv_topq (y := nI 65536) (rfl) ?_
                                refine lv_icmp_le (tgt := 340) hx hb d_Mo_entry_330 (by decide) (fun c94 => ?_) (fun c94 => ?_)
                                · have c94 : (fl es ++ nm1 ++ da).length ≤ 65536 := (nI_leI (a := (fl es ++ nm1 ++ da).length) (b := 65536) (by omega) (by omega)).mp c94
                                  exact hret _ _ _ _ _ _ hS hP hD d_Mo_entry_340 (Or.inl ⟨((sc, t2 t e1, t2 t (e1 + 2), i4 t (e1 + 4), nm1, da) : En9), _, _, (by unfold rdE; rw [if_neg hsc0]; unfold rdR; rw [hr1]; simp only; rw [if_neg (by omega), if_neg (by omega), hda]), hokc.mpr ⟨by omega, by omega, by show (fl es).length + (nm1.length + da.length) ≤ 65536; omega⟩, hok0.mpr (hokc.mpr ⟨by omega, by omega, by show (fl es).length + (nm1.length + da.length) ≤ 65536; omega⟩), rfl, (sm_tr (sm_tr (sm_tr (sm_tr (sm_tr (sm_tr (sm_mo sn1 (by decide)) (sm_mo sI35 (by decide))) (sm_mo sI44 (by decide))) (sm_mo sI45 (by decide))) (sm_mo sda (by decide))) (sm_mo sI77 (by decide))) (sm_mo sI79 (by decide))), (((sI79 17 (by decide)).trans ((sI77 17 (by decide)).trans v17))).trans (congrArg nI (by rw [fl_add, ← hfl, List.length_append, List.length_append]; rfl)), h18k, ((sI79 25 (by decide)).trans aI77), (((sI79 22 (by decide)).trans ((sI77 22 (by decide)).trans v22))).trans (congrArg nI (by omega)), ((sI79 24 (by decide)).trans ((sI77 24 (by decide)).trans ((sda 24 (by decide)).trans ((sI45 24 (by decide)).trans ((sI44 24 (by decide)).trans ((sI35 24 (by decide)).trans ((sn1 24 (by decide)).trans h24))))))), (sm_tr (sm_tr (sm_tr (sm_tr (sm_tr (sm_tr (sm_tr (sm_tr (sm_tr (sm_mo sF1 (by decide)) (sm_mo sF2 (by decide))) (sm_mo sG1 (by decide))) (sm_mo sF7 (by decide))) (sm_mo sF18 (by decide))) (sm_mo sF22 (by decide))) (sm_mo sF30 (by decide))) (sm_mo sF36 (by decide))) (sm_mo sDa (by decide))) (sm_mo sF78 (by decide))), hRk⟩)
                                · have c94 : ¬ ((fl es ++ nm1 ++ da).length ≤ 65536) := fun z9 => c94 ((nI_leI (a := (fl es ++ nm1 ++ da).length) (b := 65536) (by omega) (by omega)).mpr z9)
                                  refine lv_aload_n hx hb d_Mo_entry_333 rfl (lv_at hl 4 rfl) ?_
                                  refine lv_bipush (v := 7) hx hb d_Mo_entry_334 (by decide) ?_
                                  refine lv_topq (y := nI 7) (rfl) ?_
                                  refine lv_iload_n hx hb d_Mo_entry_336 rfl (lv_at hl 3 rfl) ?_
                                  refine mw_cV (ci := 7) (k := 33) C0 (m_Mo_wrong l D9 cB cI cJ cG a O _ _ (nI 7) _ ((sI79 24 (by decide)).trans ((sI77 24 (by decide)).trans ((sda 24 (by decide)).trans ((sI45 24 (by decide)).trans ((sI44 24 (by decide)).trans ((sI35 24 (by decide)).trans ((sn1 24 (by decide)).trans h24)))))))) g_824 g_8 g_821 g_823 gs_Mo_wrong ⟨by decide +kernel, by decide +kernel, show Option.map (fun d => d.parameters.length) (parseMethodDescriptor y_Mo_wrong.desc) = some 2 by decide +kernel⟩ ⟨by decide, by decide⟩ rfl rfl hP hD hS hA rfl ww_33 hl.1 (Nat.le_of_ble_eq_true rfl) rfl d_Mo_entry_337 ⟨by decide, by decide⟩ (fun v9 w9 H locs hq hP hD hS => ?_)
                                  obtain ⟨I95, F96, hw9, q97⟩ := hq
                                  subst hw9
                                  obtain ⟨rfl, sI95, zI95, rfl⟩ := q97
                                  exact hret _ _ _ _ _ _ hS hP hD d_Mo_entry_340 (Or.inr ⟨(fun x e c hx9 => by rw [show rdE t sc pos = some (((sc, t2 t e1, t2 t (e1 + 2), i4 t (e1 + 4), nm1, da) : En9), _, _) from (by unfold rdE; rw [if_neg hsc0]; unfold rdR; rw [hr1]; simp only; rw [if_neg (by omega), if_neg (by omega), hda])] at hx9; simp only [Option.some.injEq, Prod.mk.injEq] at hx9; rw [← hx9.1]; cases hb9 : okB es _ with | false => rfl | true => have z9 := hokc.mp hb9; have z8 := z9.1; have z7 := z9.2.1; have z6 : (fl es).length + (nm1.length + da.length) ≤ 65536 := z9.2.2; exfalso; omega), rfl, (sm_tr (sm_tr (sm_tr (sm_tr (sm_tr (sm_tr (sm_tr (sm_mo sn1 (by decide)) (sm_mo sI35 (by decide))) (sm_mo sI44 (by decide))) (sm_mo sI45 (by decide))) (sm_mo sda (by decide))) (sm_mo sI77 (by decide))) (sm_mo sI79 (by decide))) (sm_mo sI95 (by decide))), ⟨_, by decide, zI95⟩, (sm_tr (sm_tr (sm_tr (sm_tr (sm_tr (sm_tr (sm_tr (sm_tr (sm_tr (sm_mo sF1 (by decide)) (sm_mo sF2 (by decide))) (sm_mo sG1 (by decide))) (sm_mo sF7 (by decide))) (sm_mo sF18 (by decide))) (sm_mo sF22 (by decide))) (sm_mo sF30 (by decide))) (sm_mo sF36 (by decide))) (sm_mo sDa (by decide))) (sm_mo sF78 (by decide))), (BR_eq vBa (sF78 35 (by decide))).1⟩)
                          · exact absurd c76 (by decide)
                        · refine lv_aload_n hx hb d_Mo_entry_261 rfl (lv_at hl 4 rfl) ?_
                          refine va_get (D := D9) (ci := 7) (C := R_Mo) (T := F_Mo) (N := 30) hx hb hts i_Mo hown hK hP 33 ww_33 rfl 19 (by decide) (hts _ g_741) (fun _ h9 => h9) rfl d_Mo_entry_262 ?_
                          refine lv_topq (y := nI dz) (dx) ?_
                          refine lv_if_le (tgt := 269) hx hb d_Mo_entry_265 (by decide) (fun c98 => ?_) (fun c98 => ?_)
                          · have c98 : dz ≤ 0 := (nI_leI (a := dz) (b := 0) (by omega) (by omega)).mp c98
                            exfalso; omega
                          · have c98 : ¬ (dz ≤ 0) := fun z9 => c98 ((nI_leI (a := dz) (b := 0) (by omega) (by omega)).mpr z9)
                            exact hret _ _ _ _ _ _ hS hP hD d_Mo_entry_268 (Or.inr ⟨(fun x e c hx9 => by rw [show rdE t sc pos = none from (by unfold rdE; rw [if_neg hsc0]; unfold rdR; rw [hr1]; simp only; rw [if_neg (by omega), if_neg (by omega), hda])] at hx9; cases hx9), rfl, (sm_tr (sm_tr (sm_tr (sm_tr (sm_mo sn1 (by decide)) (sm_mo sI35 (by decide))) (sm_mo sI44 (by decide))) (sm_mo sI45 (by decide))) (sm_mo sda (by decide))), ⟨_, by omega, dx⟩, (sm_tr (sm_tr (sm_tr (sm_tr (sm_tr (sm_tr (sm_tr (sm_tr (sm_mo sF1 (by decide)) (sm_mo sF2 (by decide))) (sm_mo sG1 (by decide))) (sm_mo sF7 (by decide))) (sm_mo sF18 (by decide))) (sm_mo sF22 (by decide))) (sm_mo sF30 (by decide))) (sm_mo sF36 (by decide))) (sm_mo sDa (by decide))), vBa.1⟩)
                    · exact absurd c43 (by decide)
                  · have hnf : ¬ e1 + 10 + t2 t (e1 + 8) ≤ t.length := fun z9 => g41 ⟨z9, fun z8 => by cases z8.1⟩
                    refine lv_if_ne (tgt := 217) hx hb d_Mo_entry_213 (by decide) (fun c99 => ?_) (fun c99 => ?_)
                    · exact absurd c99 (by decide)
                    · exact hret _ _ _ _ _ _ hS hP hD d_Mo_entry_216 (Or.inr ⟨(fun x e c hx9 => by rw [show rdE t sc pos = none from (by unfold rdE; rw [if_neg hsc0]; unfold rdR; rw [hr1]; simp only; rw [if_neg (by omega), if_pos (by omega)])] at hx9; cases hx9), rfl, (sm_tr (sm_tr (sm_mo sn1 (by decide)) (sm_mo sI35 (by decide))) (sm_mo sI38 (by decide))), ⟨_, by omega, xz42⟩, (sm_tr (sm_tr (sm_tr (sm_tr (sm_tr (sm_tr (sm_tr (sm_mo sF1 (by decide)) (sm_mo sF2 (by decide))) (sm_mo sG1 (by decide))) (sm_mo sF7 (by decide))) (sm_mo sF18 (by decide))) (sm_mo sF22 (by decide))) (sm_mo sF30 (by decide))) (sm_mo sF36 (by decide))), (BR_eq wB1 ((sF36 35 (by decide)).trans ((sF30 35 (by decide)).trans ((sF22 35 (by decide)).trans ((sF18 35 (by decide)).trans (sF7 35 (by decide))))))).1⟩)
              · have c31 : sc = 0 := (nI_eq (a := sc) (b := 0) (by omega) (by omega)).mp c31
                exfalso; omega
            · have c23 : sc = 0 := (nI_eq (a := sc) (b := 0) (by omega) (by omega)).mp c23
              exfalso; omega
          · exact absurd c14 (by decide)
        · have hnf : ¬ e1 + 10 ≤ t.length := fun z9 => g12 ⟨z9, fun z8 => by cases z8.1⟩
          refine lv_if_ne (tgt := 86) hx hb d_Mo_entry_82 (by decide) (fun c100 => ?_) (fun c100 => ?_)
          · exact absurd c100 (by decide)
          · exact hret _ _ _ _ _ _ hS hP hD d_Mo_entry_85 (Or.inr ⟨(fun x e c hx9 => by rw [show rdE t sc pos = none from (by unfold rdE; rw [if_neg hsc0]; unfold rdR; rw [hr1]; simp only; rw [if_pos (by omega)])] at hx9; cases hx9), rfl, (sm_tr (sm_mo sn1 (by decide)) (sm_mo sI9 (by decide))), ⟨_, by omega, xz13⟩, (sm_tr (sm_tr (sm_tr (sm_mo sF1 (by decide)) (sm_mo sF2 (by decide))) (sm_mo sG1 (by decide))) (sm_mo sF7 (by decide))), (BR_eq wB1 (sF7 35 (by decide))).1⟩)
      · have c8 : sc = 0 := (nI_eq (a := sc) (b := 0) (by omega) (by omega)).mp c8
        have hsc0 := c8
        refine lv_iconst (v := 4) hx hb d_Mo_entry_62 (by decide) ?_
        refine lv_topq (y := nI 4) (rfl) ?_
        refine lv_goto (tgt := 68) hx hb d_Mo_entry_63 (by decide) ?_
        refine lv_istore (lv' := [(4, _), (3, _), (2, _), (0, _), (1, _)]) hx hb d_Mo_entry_68 hl (by decide) rfl (fun ls hl => ?_)
        refine lv_aload_n hx hb d_Mo_entry_70 rfl (lv_at hl 3 rfl) ?_
        refine lv_aload_n hx hb d_Mo_entry_71 rfl (lv_at hl 3 rfl) ?_
        refine va_get (D := D9) (ci := 7) (C := R_Mo) (T := F_Mo) (N := 30) hx hb hts i_Mo hown hK hP 33 ww_33 rfl 20 (by decide) (hts _ g_742) (fun _ h9 => h9) rfl d_Mo_entry_72 ?_
        refine lv_topq (y := nI e1) (z251) ?_
        refine lv_iload hx hb d_Mo_entry_75 (lv_at hl 0 rfl) ?_
        refine lv_iconst (v := 0) hx hb d_Mo_entry_77 (by decide) ?_
        refine lv_topq (y := nI 0) (rfl) ?_
        refine lv_iconst (v := 0) hx hb d_Mo_entry_78 (by decide) ?_
        refine lv_topq (y := nI 0) (rfl) ?_
        refine mw_cV (ci := 7) (k := 33) C0 (m_Mo_there l D9 cB cI cJ cG a O _ _ t (BR_eq hT ((sF7 34 (by decide)).trans ((sG1 34 (by decide)).trans ((sF2 34 (by decide)).trans (sF1 34 (by decide)))))) ((sn1 16 (by decide)).trans h16) htl e1 4 t.length false false (fun z9 => by cases z9) ((sn1 24 (by decide)).trans h24) (by omega) (by omega) (by omega)) g_844 g_8 g_841 g_843 gs_Mo_there ⟨by decide +kernel, by decide +kernel, show Option.map (fun d => d.parameters.length) (parseMethodDescriptor y_Mo_there.desc) = some 4 by decide +kernel⟩ ⟨by decide, by decide⟩ rfl rfl hP hD hS hA rfl ww_33 hl.1 (Nat.le_of_ble_eq_true rfl) rfl d_Mo_entry_79 ⟨by decide, by decide⟩ (fun v9 w9 H locs hq hP hD hS => ?_)
        obtain ⟨I101, F102, hw9, q103⟩ := hq
        subst hw9
        rcases q103 with ⟨g104, rfl, rfl, rfl⟩ | ⟨g104, rfl, sI101, ⟨z105, yz105, xz105⟩, rfl⟩
        · have hty9 : t2 t e1 < 65536 := t2_lt hT htl (by have := g104.1; omega)
          have hki9 : t2 t (e1 + 2) < 65536 := t2_lt hT htl (by have := g104.1; omega)
          have hfx := g104.1
          refine lv_if_ne (tgt := 86) hx hb d_Mo_entry_82 (by decide) (fun c106 => ?_) (fun c106 => ?_)
          · refine lv_aload_n hx hb d_Mo_entry_86 rfl (lv_at hl 3 rfl) ?_
            refine va_get (D := D9) (ci := 7) (C := R_Mo) (T := F_Mo) (N := 30) hx hb hts i_Mo hown hK hP 33 ww_33 rfl 9 (by decide) (hts _ g_731) (fun _ h9 => h9) rfl d_Mo_entry_87 ?_
            refine lv_iload_n hx hb d_Mo_entry_90 rfl (lv_at hl 1 rfl) ?_
            refine lv_aload_n hx hb d_Mo_entry_91 rfl (lv_at hl 3 rfl) ?_
            refine lv_aload_n hx hb d_Mo_entry_92 rfl (lv_at hl 3 rfl) ?_
            refine va_get (D := D9) (ci := 7) (C := R_Mo) (T := F_Mo) (N := 30) hx hb hts i_Mo hown hK hP 33 ww_33 rfl 20 (by decide) (hts _ g_742) (fun _ h9 => h9) rfl d_Mo_entry_93 ?_
            refine lv_topq (y := nI e1) (z251) ?_
            refine mw_cV (ci := 7) (k := 33) C0 (m_Mo_two l D9 cB cI cJ cG a O _ _ t (BR_eq hT ((sF7 34 (by decide)).trans ((sG1 34 (by decide)).trans ((sF2 34 (by decide)).trans (sF1 34 (by decide)))))) ((sn1 16 (by decide)).trans h16) htl e1 (by omega)) g_828 g_8 g_825 g_827 gs_Mo_two ⟨by decide +kernel, by decide +kernel, show Option.map (fun d => d.parameters.length) (parseMethodDescriptor y_Mo_two.desc) = some 1 by decide +kernel⟩ ⟨by decide, by decide⟩ rfl rfl hP hD hS hA rfl ww_33 hl.1 (Nat.le_of_ble_eq_true rfl) rfl d_Mo_entry_96 ⟨by decide, by decide⟩ (fun v9 w9 H locs hq hP hD hS => ?_)
            obtain ⟨I107, F108, hw9, q109⟩ := hq
            subst hw9
            obtain ⟨rfl, rfl, rfl⟩ := q109
            refine va_iast (D := D9) hx hb hK hP hD hS 37 1 ww_37 rfl (vp_in_nI (by omega) (by decide)) d_Mo_entry_99 (fun H locs hP hD hS => ?_)
            obtain ⟨F110, aF110, sF110, hP, hD⟩ := fx (P := fun z => va_P D9 cls9 (WW a cB cI cJ cG _ z O) H ∧ va_D A0 (WW a cB cI cJ cG _ z O)) ⟨wpa_37 hP, wda_37 hD⟩
            rw [nI_clamp (by omega)] at aF110
            rw [((sF7 37 (by decide)).trans ((sG1 37 (by decide)).trans ((sF2 37 (by decide)).trans (sF1 37 (by decide)))))] at aF110
            refine lv_aload_n hx hb d_Mo_entry_100 rfl (lv_at hl 3 rfl) ?_
            refine va_get (D := D9) (ci := 7) (C := R_Mo) (T := F_Mo) (N := 30) hx hb hts i_Mo hown hK hP 33 ww_33 rfl 10 (by decide) (hts _ g_732) (fun _ h9 => h9) rfl d_Mo_entry_101 ?_
            refine lv_iload_n hx hb d_Mo_entry_104 rfl (lv_at hl 1 rfl) ?_
            refine lv_aload_n hx hb d_Mo_entry_105 rfl (lv_at hl 3 rfl) ?_
            refine lv_aload_n hx hb d_Mo_entry_106 rfl (lv_at hl 3 rfl) ?_
            refine va_get (D := D9) (ci := 7) (C := R_Mo) (T := F_Mo) (N := 30) hx hb hts i_Mo hown hK hP 33 ww_33 rfl 20 (by decide) (hts _ g_742) (fun _ h9 => h9) rfl d_Mo_entry_107 ?_
            refine lv_topq (y := nI e1) (z251) ?_
            refine lv_iconst (v := 2) hx hb d_Mo_entry_110 (by decide) ?_
            refine lv_topq (y := nI 2) (rfl) ?_
            refine lv_iadd hx hb d_Mo_entry_111 ?_
            refine lv_topq (y := nI (e1 + 2)) (nI_add _ _) ?_
            refine mw_cV (ci := 7) (k := 33) C0 (m_Mo_two l D9 cB cI cJ cG a O _ _ t (BR_eq hT ((sF110 34 (by decide)).trans ((sF7 34 (by decide)).trans ((sG1 34 (by decide)).trans ((sF2 34 (by decide)).trans (sF1 34 (by decide))))))) ((sn1 16 (by decide)).trans h16) htl (e1 + 2) (by omega)) g_828 g_8 g_825 g_827 gs_Mo_two ⟨by decide +kernel, by decide +kernel, show Option.map (fun d => d.parameters.length) (parseMethodDescriptor y_Mo_two.desc) = some 1 by decide +kernel⟩ ⟨by decide, by decide⟩ rfl rfl hP hD hS hA rfl ww_33 hl.1 (Nat.le_of_ble_eq_true rfl) rfl d_Mo_entry_112 ⟨by decide, by decide⟩ (fun v9 w9 H locs hq hP hD hS => ?_)
            obtain ⟨I111, F112, hw9, q113⟩ := hq
            subst hw9
            obtain ⟨rfl, rfl, rfl⟩ := q113
            refine va_iast (D := D9) hx hb hK hP hD hS 38 1 ww_38 rfl (vp_in_nI (by omega) (by decide)) d_Mo_entry_115 (fun H locs hP hD hS => ?_)
            obtain ⟨F114, aF114, sF114, hP, hD⟩ := fx (P := fun z => va_P D9 cls9 (WW a cB cI cJ cG _ z O) H ∧ va_D A0 (WW a cB cI cJ cG _ z O)) ⟨wpa_38 hP, wda_38 hD⟩
            rw [nI_clamp (by omega)] at aF114
            rw [((sF110 38 (by decide)).trans ((sF7 38 (by decide)).trans ((sG1 38 (by decide)).trans ((sF2 38 (by decide)).trans (sF1 38 (by decide))))))] at aF114
            refine lv_aload_n hx hb d_Mo_entry_116 rfl (lv_at hl 3 rfl) ?_
            refine va_get (D := D9) (ci := 7) (C := R_Mo) (T := F_Mo) (N := 30) hx hb hts i_Mo hown hK hP 33 ww_33 rfl 11 (by decide) (hts _ g_733) (fun _ h9 => h9) rfl d_Mo_entry_117 ?_
            refine lv_iload_n hx hb d_Mo_entry_120 rfl (lv_at hl 1 rfl) ?_
            refine lv_iload_n hx hb d_Mo_entry_121 rfl (lv_at hl 4 rfl) ?_
            refine lv_if_ne (tgt := 129) hx hb d_Mo_entry_122 (by decide) (fun c115 => ?_) (fun c115 => ?_)
            · have c115 : ¬ (sc = 0) := fun z9 => c115 ((nI_eq (a := sc) (b := 0) (by omega) (by omega)).mpr z9)
              exfalso; omega
            · have c115 : sc = 0 := (nI_eq (a := sc) (b := 0) (by omega) (by omega)).mp c115
              refine lv_iconst (v := 0) hx hb d_Mo_entry_125 (by decide) ?_
              refine lv_topq (y := nI 0) (rfl) ?_
              refine lv_goto (tgt := 154) hx hb d_Mo_entry_126 (by decide) ?_
              refine va_iast (D := D9) hx hb hK hP hD hS 39 1 ww_39 rfl (vp_in_nI (by omega) (by decide)) d_Mo_entry_154 (fun H locs hP hD hS => ?_)
              obtain ⟨F116, aF116, sF116, hP, hD⟩ := fx (P := fun z => va_P D9 cls9 (WW a cB cI cJ cG _ z O) H ∧ va_D A0 (WW a cB cI cJ cG _ z O)) ⟨wpa_39 hP, wda_39 hD⟩
              rw [nI_clamp (by omega)] at aF116
              rw [((sF114 39 (by decide)).trans ((sF110 39 (by decide)).trans ((sF7 39 (by decide)).trans ((sG1 39 (by decide)).trans ((sF2 39 (by decide)).trans (sF1 39 (by decide)))))))] at aF116
              refine lv_iload_n hx hb d_Mo_entry_155 rfl (lv_at hl 4 rfl) ?_
              refine lv_if_ne (tgt := 163) hx hb d_Mo_entry_156 (by decide) (fun c117 => ?_) (fun c117 => ?_)
              · have c117 : ¬ (sc = 0) := fun z9 => c117 ((nI_eq (a := sc) (b := 0) (by omega) (by omega)).mpr z9)
                exfalso; omega
              · have c117 : sc = 0 := (nI_eq (a := sc) (b := 0) (by omega) (by omega)).mp c117
                refine lv_iconst (v := 0) hx hb d_Mo_entry_159 (by decide) ?_
                refine lv_topq (y := nI 0) (rfl) ?_
                refine lv_goto (tgt := 174) hx hb d_Mo_entry_160 (by decide) ?_
                refine lv_istore (lv' := [(5, _), (4, _), (3, _), (2, _), (0, _), (1, _)]) hx hb d_Mo_entry_174 hl (by decide) rfl (fun ls hl => ?_)
                refine lv_aload_n hx hb d_Mo_entry_176 rfl (lv_at hl 4 rfl) ?_
                refine lv_dup hx hb d_Mo_entry_177 rfl ?_
                refine va_get (D := D9) (ci := 7) (C := R_Mo) (T := F_Mo) (N := 30) hx hb hts i_Mo hown hK hP 33 ww_33 rfl 20 (by decide) (hts _ g_742) (fun _ h9 => h9) rfl d_Mo_entry_178 ?_
                refine lv_topq (y := nI e1) (z251) ?_
                refine lv_iload hx hb d_Mo_entry_181 (lv_at hl 1 rfl) ?_
                refine lv_iadd hx hb d_Mo_entry_183 ?_
                refine lv_topq (y := nI (e1 + 4)) (nI_add _ _) ?_
                refine va_put (D := D9) (ty := .int) (ci := 7) (C := R_Mo) (T := F_Mo) (N := 30) hx hb hts i_Mo t_Mo t_Mo_ok n_Mo hown hK hP hD hS 33 ww_33 rfl 20 (by decide) (hts _ g_742) (fun _ h9 => h9) rfl (by decide +kernel) rfl rfl (Nat.le_of_ble_eq_true rfl) d_Mo_entry_184 (fun H locs hP hD hS => ?_)
                obtain ⟨I118, aI118, sI118, hP, hD⟩ := fx (P := fun z => va_P D9 cls9 (WW a cB cI cJ cG z _ O) H ∧ va_D A0 (WW a cB cI cJ cG z _ O)) ⟨wp_25 hP, wd_25 hD⟩
                refine lv_aload_n hx hb d_Mo_entry_187 rfl (lv_at hl 4 rfl) ?_
                refine va_get (D := D9) (ci := 7) (C := R_Mo) (T := F_Mo) (N := 30) hx hb hts i_Mo hown hK hP 33 ww_33 rfl 14 (by decide) (hts _ g_736) (fun _ h9 => h9) rfl d_Mo_entry_188 ?_
                refine lv_iload_n hx hb d_Mo_entry_191 rfl (lv_at hl 2 rfl) ?_
                refine lv_aload_n hx hb d_Mo_entry_192 rfl (lv_at hl 4 rfl) ?_
                refine va_get (D := D9) (ci := 7) (C := R_Mo) (T := F_Mo) (N := 30) hx hb hts i_Mo hown hK hP 33 ww_33 rfl 4 (by decide) (hts _ g_726) (fun _ h9 => h9) rfl d_Mo_entry_193 ?_
                refine lv_topq (y := nI ((fl es ++ nm1).length)) (((sI118 17 (by decide)).trans z171)) ?_
                refine va_iast (D := D9) hx hb hK hP hD hS 42 1 ww_42 rfl (vp_in_nI (by omega) (by decide)) d_Mo_entry_196 (fun H locs hP hD hS => ?_)
                obtain ⟨F119, aF119, sF119, hP, hD⟩ := fx (P := fun z => va_P D9 cls9 (WW a cB cI cJ cG _ z O) H ∧ va_D A0 (WW a cB cI cJ cG _ z O)) ⟨wpa_42 hP, wda_42 hD⟩
                rw [nI_clamp (by omega)] at aF119
                rw [((sF116 42 (by decide)).trans ((sF114 42 (by decide)).trans ((sF110 42 (by decide)).trans ((sF7 42 (by decide)).trans ((sG1 42 (by decide)).trans ((sF2 42 (by decide)).trans (sF1 42 (by decide))))))))] at aF119
                refine lv_iload_n hx hb d_Mo_entry_197 rfl (lv_at hl 5 rfl) ?_
                refine lv_if_le (tgt := 277) hx hb d_Mo_entry_198 (by decide) (fun c120 => ?_) (fun c120 => ?_)
                · have c120 : sc ≤ 0 := (nI_leI (a := sc) (b := 0) (by omega) (by omega)).mp c120
                  refine lv_aload_n hx hb d_Mo_entry_277 rfl (lv_at hl 4 rfl) ?_
                  refine va_get (D := D9) (ci := 7) (C := R_Mo) (T := F_Mo) (N := 30) hx hb hts i_Mo hown hK hP 33 ww_33 rfl 15 (by decide) (hts _ g_737) (fun _ h9 => h9) rfl d_Mo_entry_278 ?_
                  refine lv_iload_n hx hb d_Mo_entry_281 rfl (lv_at hl 2 rfl) ?_
                  refine lv_aload_n hx hb d_Mo_entry_282 rfl (lv_at hl 4 rfl) ?_
                  refine va_get (D := D9) (ci := 7) (C := R_Mo) (T := F_Mo) (N := 30) hx hb hts i_Mo hown hK hP 33 ww_33 rfl 4 (by decide) (hts _ g_726) (fun _ h9 => h9) rfl d_Mo_entry_283 ?_
                  refine lv_topq (y := nI ((fl es ++ nm1).length)) (((sI118 17 (by decide)).trans z171)) ?_
                  refine lv_aload_n hx hb d_Mo_entry_286 rfl (lv_at hl 4 rfl) ?_
                  refine va_get (D := D9) (ci := 7) (C := R_Mo) (T := F_Mo) (N := 30) hx hb hts i_Mo hown hK hP 33 ww_33 rfl 14 (by decide) (hts _ g_736) (fun _ h9 => h9) rfl d_Mo_entry_287 ?_
                  refine lv_iload_n hx hb d_Mo_entry_290 rfl (lv_at hl 2 rfl) ?_
                  refine va_iald (D := D9) hx hb hK hP 42 1 ww_42 rfl (vp_in_nI (by omega) (by decide)) d_Mo_entry_291 ?_
                  refine lv_topq (y := nI ((fl es ++ nm1).length)) (by rw [nI_clamp (by omega)]; exact (by rw [aF119, pk_us])) ?_
                  refine lv_isub hx hb d_Mo_entry_292 ?_
                  refine lv_topq (y := nI (([] : List Nat).length)) ((pk_sub (by omega)).trans (congrArg nI (by show _ = 0; omega))) ?_
                  refine va_iast (D := D9) hx hb hK hP hD hS 43 1 ww_43 rfl (vp_in_nI (by omega) (by decide)) d_Mo_entry_293 (fun H locs hP hD hS => ?_)
                  obtain ⟨F121, aF121, sF121, hP, hD⟩ := fx (P := fun z => va_P D9 cls9 (WW a cB cI cJ cG _ z O) H ∧ va_D A0 (WW a cB cI cJ cG _ z O)) ⟨wpa_43 hP, wda_43 hD⟩
                  rw [nI_clamp (by omega)] at aF121
                  rw [((sF119 43 (by decide)).trans ((sF116 43 (by decide)).trans ((sF114 43 (by decide)).trans ((sF110 43 (by decide)).trans ((sF7 43 (by decide)).trans ((sG1 43 (by decide)).trans ((sF2 43 (by decide)).trans (sF1 43 (by decide)))))))))] at aF121
                  refine lv_aload_n hx hb d_Mo_entry_294 rfl (lv_at hl 4 rfl) ?_
                  refine lv_dup hx hb d_Mo_entry_295 rfl ?_
                  refine va_get (D := D9) (ci := 7) (C := R_Mo) (T := F_Mo) (N := 30) hx hb hts i_Mo hown hK hP 33 ww_33 rfl 5 (by decide) (hts _ g_727) (fun _ h9 => h9) rfl d_Mo_entry_296 ?_
                  refine lv_topq (y := nI es.length) (((sI118 18 (by decide)).trans ((sn1 18 (by decide)).trans h18))) ?_
                  refine lv_iconst (v := 1) hx hb d_Mo_entry_299 (by decide) ?_
                  refine lv_topq (y := nI 1) (rfl) ?_
                  refine lv_iadd hx hb d_Mo_entry_300 ?_
                  refine lv_topq (y := nI (es.length + 1)) (nI_add _ _) ?_
                  refine va_put (D := D9) (ty := .int) (ci := 7) (C := R_Mo) (T := F_Mo) (N := 30) hx hb hts i_Mo t_Mo t_Mo_ok n_Mo hown hK hP hD hS 33 ww_33 rfl 5 (by decide) (hts _ g_727) (fun _ h9 => h9) rfl (by decide +kernel) rfl rfl (Nat.le_of_ble_eq_true rfl) d_Mo_entry_301 (fun H locs hP hD hS => ?_)
                  obtain ⟨I122, aI122, sI122, hP, hD⟩ := fx (P := fun z => va_P D9 cls9 (WW a cB cI cJ cG z _ O) H ∧ va_D A0 (WW a cB cI cJ cG z _ O)) ⟨wp_18 hP, wd_18 hD⟩
                  have hxS : eS ((0, t2 t e1, t2 t (e1 + 2), nI 0, nm1, ([] : List Nat)) : En9) < 4 := by show 0 < 4; omega
                  have hok0 := okB_iff hO hxS (show eT ((0, t2 t e1, t2 t (e1 + 2), nI 0, nm1, ([] : List Nat)) : En9) < 65536 from hty9) (show eK ((0, t2 t e1, t2 t (e1 + 2), nI 0, nm1, ([] : List Nat)) : En9) < 65536 from hki9)
                  have hokc := okB_cn hO hxS
                  have hBk : BR 0 140000 (F121 35) (fl es ++ (nm1 ++ ([] : List Nat))) := by simpa only [List.append_assoc, List.append_nil] using (BR_eq wB1 ((sF121 35 (by decide)).trans ((sF119 35 (by decide)).trans ((sF116 35 (by decide)).trans ((sF114 35 (by decide)).trans ((sF110 35 (by decide)).trans (sF7 35 (by decide))))))))
                  have hRk : MoR F121 (es ++ [((0, t2 t e1, t2 t (e1 + 2), nI 0, nm1, ([] : List Nat)) : En9)]) := MoR_add hR hBk ((((sF121 36 (by decide)).trans ((sF119 36 (by decide)).trans ((sF116 36 (by decide)).trans ((sF114 36 (by decide)).trans ((sF110 36 (by decide)).trans ((sF7 36 (by decide)).trans ((sG1 36 (by decide)).trans (sF2 36 (by decide))))))))).trans aF1).trans (by rw [hsc0]; rfl)) (((sF121 37 (by decide)).trans ((sF119 37 (by decide)).trans ((sF116 37 (by decide)).trans (sF114 37 (by decide))))).trans aF110) (((sF121 38 (by decide)).trans ((sF119 38 (by decide)).trans (sF116 38 (by decide)))).trans aF114) (((sF121 39 (by decide)).trans (sF119 39 (by decide))).trans aF116) (((sF121 40 (by decide)).trans ((sF119 40 (by decide)).trans ((sF116 40 (by decide)).trans ((sF114 40 (by decide)).trans ((sF110 40 (by decide)).trans ((sF7 40 (by decide)).trans (sG1 40 (by decide)))))))).trans aF2) (((sF121 41 (by decide)).trans ((sF119 41 (by decide)).trans ((sF116 41 (by decide)).trans ((sF114 41 (by decide)).trans (sF110 41 (by decide)))))).trans aF7) (((sF121 42 (by decide)).trans aF119).trans (by rw [List.length_append]; rfl)) aF121
                  have h18k : I122 18 = nI (es ++ [((0, t2 t e1, t2 t (e1 + 2), nI 0, nm1, ([] : List Nat)) : En9)]).length := (aI122).trans (congrArg nI (by rw [List.length_append]; rfl))
                  have hlk : (es ++ [((0, t2 t e1, t2 t (e1 + 2), nI 0, nm1, ([] : List Nat)) : En9)]).length = es.length + 1 := by rw [List.length_append]; rfl
                  have hSk : ∀ e ∈ es ++ [((0, t2 t e1, t2 t (e1 + 2), nI 0, nm1, ([] : List Nat)) : En9)], eS e < 4 := fun e he => by rcases List.mem_append.mp he with z | z; exact (hO.2.2.2 e z).1; rw [List.mem_singleton] at z; rw [z]; exact hxS
                  have hcz := cn_le 0 (es ++ [((0, t2 t e1, t2 t (e1 + 2), nI 0, nm1, ([] : List Nat)) : En9)])
                  have hfl : (fl es).length + (nm1.length + ([] : List Nat).length) = (fl es ++ nm1).length := by show _ + (_ + 0) = _; omega
                  refine lv_aload_n hx hb d_Mo_entry_304 rfl (lv_at hl 4 rfl) ?_
                  refine lv_iconst (v := 0) hx hb d_Mo_entry_305 (by decide) ?_
                  refine lv_topq (y := nI 0) (rfl) ?_
                  refine mw_cV (ci := 7) (k := 33) C0 (m_Mo_countOf l D9 cB cI cJ cG a O _ _ (es ++ [((0, t2 t e1, t2 t (e1 + 2), nI 0, nm1, ([] : List Nat)) : En9)]) hRk h18k (by omega) hSk 0 (by decide)) g_856 g_8 g_853 g_855 gs_Mo_countOf ⟨by decide +kernel, by decide +kernel, show Option.map (fun d => d.parameters.length) (parseMethodDescriptor y_Mo_countOf.desc) = some 1 by decide +kernel⟩ ⟨by decide, by decide⟩ rfl rfl hP hD hS hA rfl ww_33 hl.1 (Nat.le_of_ble_eq_true rfl) rfl d_Mo_entry_306 ⟨by decide, by decide⟩ (fun v9 w9 H locs hq hP hD hS => ?_)
                  obtain ⟨I123, F124, hw9, q125⟩ := hq
                  subst hw9
                  obtain ⟨rfl, rfl, rfl⟩ := q125
                  refine lv_bipush (v := 100) hx hb d_Mo_entry_309 (by decide) ?_
                  refine lv_topq (y := nI 100) (rfl) ?_
                  refine lv_icmp_gt (tgt := 333) hx hb d_Mo_entry_311 (by decide) (fun c126 => ?_) (fun c126 => ?_)
                  · have c126 : 100 < cn 0 (es ++ [((0, t2 t e1, t2 t (e1 + 2), nI 0, nm1, ([] : List Nat)) : En9)]) := (nI_ltI (a := 100) (b := cn 0 (es ++ [((0, t2 t e1, t2 t (e1 + 2), nI 0, nm1, ([] : List Nat)) : En9)])) (by omega) (by omega)).mp c126
                    refine lv_aload_n hx hb d_Mo_entry_333 rfl (lv_at hl 4 rfl) ?_
                    refine lv_bipush (v := 7) hx hb d_Mo_entry_334 (by decide) ?_
                    refine lv_topq (y := nI 7) (rfl) ?_
                    refine lv_iload_n hx hb d_Mo_entry_336 rfl (lv_at hl 3 rfl) ?_
                    refine mw_cV (ci := 7) (k := 33) C0 (m_Mo_wrong l D9 cB cI cJ cG a O _ _ (nI 7) _ ((sI122 24 (by decide)).trans ((sI118 24 (by decide)).trans ((sn1 24 (by decide)).trans h24)))) g_824 g_8 g_821 g_823 gs_Mo_wrong ⟨by decide +kernel, by decide +kernel, show Option.map (fun d => d.parameters.length) (parseMethodDescriptor y_Mo_wrong.desc) = some 2 by decide +kernel⟩ ⟨by decide, by decide⟩ rfl rfl hP hD hS hA rfl ww_33 hl.1 (Nat.le_of_ble_eq_true rfl) rfl d_Mo_entry_337 ⟨by decide, by decide⟩ (fun v9 w9 H locs hq hP hD hS => ?_)
                    obtain ⟨I127, F128, hw9, q129⟩ := hq
                    subst hw9
                    obtain ⟨rfl, sI127, zI127, rfl⟩ := q129
                    exact hret _ _ _ _ _ _ hS hP hD d_Mo_entry_340 (Or.inr ⟨(fun x e c hx9 => by rw [show rdE t sc pos = some (((0, t2 t e1, t2 t (e1 + 2), nI 0, nm1, ([] : List Nat)) : En9), _, _) from (by unfold rdE; rw [if_pos hsc0]; unfold rdQ; rw [hr1]; simp only; rw [if_neg (by omega)])] at hx9; simp only [Option.some.injEq, Prod.mk.injEq] at hx9; rw [← hx9.1]; cases hb9 : okB es _ with | false => rfl | true => have z9 := hokc.mp hb9; have z8 := z9.1; have z7 := z9.2.1; have z6 : (fl es).length + (nm1.length + ([] : List Nat).length) ≤ 65536 := z9.2.2; exfalso; omega), rfl, (sm_tr (sm_tr (sm_tr (sm_mo sn1 (by decide)) (sm_mo sI118 (by decide))) (sm_mo sI122 (by decide))) (sm_mo sI127 (by decide))), ⟨_, by decide, zI127⟩, (sm_tr (sm_tr (sm_tr (sm_tr (sm_tr (sm_tr (sm_tr (sm_tr (sm_mo sF1 (by decide)) (sm_mo sF2 (by decide))) (sm_mo sG1 (by decide))) (sm_mo sF7 (by decide))) (sm_mo sF110 (by decide))) (sm_mo sF114 (by decide))) (sm_mo sF116 (by decide))) (sm_mo sF119 (by decide))) (sm_mo sF121 (by decide))), (BR_eq wB1 ((sF121 35 (by decide)).trans ((sF119 35 (by decide)).trans ((sF116 35 (by decide)).trans ((sF114 35 (by decide)).trans ((sF110 35 (by decide)).trans (sF7 35 (by decide)))))))).1⟩)
                  · have c126 : ¬ (100 < cn 0 (es ++ [((0, t2 t e1, t2 t (e1 + 2), nI 0, nm1, ([] : List Nat)) : En9)])) := fun z9 => c126 ((nI_ltI (a := 100) (b := cn 0 (es ++ [((0, t2 t e1, t2 t (e1 + 2), nI 0, nm1, ([] : List Nat)) : En9)])) (by omega) (by omega)).mpr z9)
                    refine lv_aload_n hx hb d_Mo_entry_314 rfl (lv_at hl 4 rfl) ?_
                    refine mw_cV (ci := 7) (k := 33) C0 (m_Mo_records l D9 cB cI cJ cG a O _ _ (es ++ [((0, t2 t e1, t2 t (e1 + 2), nI 0, nm1, ([] : List Nat)) : En9)]) hRk h18k (by omega) hSk) g_860 g_8 g_857 g_859 gs_Mo_records ⟨by decide +kernel, by decide +kernel, show Option.map (fun d => d.parameters.length) (parseMethodDescriptor y_Mo_records.desc) = some 0 by decide +kernel⟩ ⟨by decide, by decide⟩ rfl rfl hP hD hS hA rfl ww_33 hl.1 (Nat.le_of_ble_eq_true rfl) rfl d_Mo_entry_315 ⟨by decide, by decide⟩ (fun v9 w9 H locs hq hP hD hS => ?_)
                    obtain ⟨I130, F131, hw9, q132⟩ := hq
                    subst hw9
                    obtain ⟨rfl, rfl, rfl⟩ := q132
                    refine lv_sipush (v := 1000) hx hb d_Mo_entry_318 (by decide) ?_
                    refine lv_topq (y := nI 1000) (rfl) ?_
                    refine lv_icmp_gt (tgt := 333) hx hb d_Mo_entry_321 (by decide) (fun c133 => ?_) (fun c133 => ?_)
                    · have c133 : 1000 < (es ++ [((0, t2 t e1, t2 t (e1 + 2), nI 0, nm1, ([] : List Nat)) : En9)]).length - cn 0 (es ++ [((0, t2 t e1, t2 t (e1 + 2), nI 0, nm1, ([] : List Nat)) : En9)]) := (nI_ltI (a := 1000) (b := (es ++ [((0, t2 t e1, t2 t (e1 + 2), nI 0, nm1, ([] : List Nat)) : En9)]).length - cn 0 (es ++ [((0, t2 t e1, t2 t (e1 + 2), nI 0, nm1, ([] : List Nat)) : En9)])) (by omega) (by omega)).mp c133
                      refine lv_aload_n hx hb d_Mo_entry_333 rfl (lv_at hl 4 rfl) ?_
                      refine lv_bipush (v := 7) hx hb d_Mo_entry_334 (by decide) ?_
                      refine lv_topq (y := nI 7) (rfl) ?_
                      refine lv_iload_n hx hb d_Mo_entry_336 rfl (lv_at hl 3 rfl) ?_
                      refine mw_cV (ci := 7) (k := 33) C0 (m_Mo_wrong l D9 cB cI cJ cG a O _ _ (nI 7) _ ((sI122 24 (by decide)).trans ((sI118 24 (by decide)).trans ((sn1 24 (by decide)).trans h24)))) g_824 g_8 g_821 g_823 gs_Mo_wrong ⟨by decide +kernel, by decide +kernel, show Option.map (fun d => d.parameters.length) (parseMethodDescriptor y_Mo_wrong.desc) = some 2 by decide +kernel⟩ ⟨by decide, by decide⟩ rfl rfl hP hD hS hA rfl ww_33 hl.1 (Nat.le_of_ble_eq_true rfl) rfl d_Mo_entry_337 ⟨by decide, by decide⟩ (fun v9 w9 H locs hq hP hD hS => ?_)
                      obtain ⟨I134, F135, hw9, q136⟩ := hq
                      subst hw9
                      obtain ⟨rfl, sI134, zI134, rfl⟩ := q136
                      exact hret _ _ _ _ _ _ hS hP hD d_Mo_entry_340 (Or.inr ⟨(fun x e c hx9 => by rw [show rdE t sc pos = some (((0, t2 t e1, t2 t (e1 + 2), nI 0, nm1, ([] : List Nat)) : En9), _, _) from (by unfold rdE; rw [if_pos hsc0]; unfold rdQ; rw [hr1]; simp only; rw [if_neg (by omega)])] at hx9; simp only [Option.some.injEq, Prod.mk.injEq] at hx9; rw [← hx9.1]; cases hb9 : okB es _ with | false => rfl | true => have z9 := hokc.mp hb9; have z8 := z9.1; have z7 := z9.2.1; have z6 : (fl es).length + (nm1.length + ([] : List Nat).length) ≤ 65536 := z9.2.2; exfalso; omega), rfl, (sm_tr (sm_tr (sm_tr (sm_mo sn1 (by decide)) (sm_mo sI118 (by decide))) (sm_mo sI122 (by decide))) (sm_mo sI134 (by decide))), ⟨_, by decide, zI134⟩, (sm_tr (sm_tr (sm_tr (sm_tr (sm_tr (sm_tr (sm_tr (sm_tr (sm_mo sF1 (by decide)) (sm_mo sF2 (by decide))) (sm_mo sG1 (by decide))) (sm_mo sF7 (by decide))) (sm_mo sF110 (by decide))) (sm_mo sF114 (by decide))) (sm_mo sF116 (by decide))) (sm_mo sF119 (by decide))) (sm_mo sF121 (by decide))), (BR_eq wB1 ((sF121 35 (by decide)).trans ((sF119 35 (by decide)).trans ((sF116 35 (by decide)).trans ((sF114 35 (by decide)).trans ((sF110 35 (by decide)).trans (sF7 35 (by decide)))))))).1⟩)
                    · have c133 : ¬ (1000 < (es ++ [((0, t2 t e1, t2 t (e1 + 2), nI 0, nm1, ([] : List Nat)) : En9)]).length - cn 0 (es ++ [((0, t2 t e1, t2 t (e1 + 2), nI 0, nm1, ([] : List Nat)) : En9)])) := fun z9 => c133 ((nI_ltI (a := 1000) (b := (es ++ [((0, t2 t e1, t2 t (e1 + 2), nI 0, nm1, ([] : List Nat)) : En9)]).length - cn 0 (es ++ [((0, t2 t e1, t2 t (e1 + 2), nI 0, nm1, ([] : List Nat)) : En9)])) (by omega) (by omega)).mpr z9)
                      refine lv_aload_n hx hb d_Mo_entry_324 rfl (lv_at hl 4 rfl) ?_
                      refine va_get (D := D9) (ci := 7) (C := R_Mo) (T := F_Mo) (N := 30) hx hb hts i_Mo hown hK hP 33 ww_33 rfl 4 (by decide) (hts _ g_726) (fun _ h9 => h9) rfl d_Mo_entry_325 ?_
                      refine lv_topq (y := nI ((fl es ++ nm1).length)) (((sI122 17 (by decide)).trans ((sI118 17 (by decide)).trans z171))) ?_
                      refine lv_ldc hx hb hown (hts _ g_718) d_Mo_entry_328 ?_
                      refine lv_topq (y := nI 65536) (rfl) ?_
                      refine lv_icmp_le (tgt := 340) hx hb d_Mo_entry_330 (by decide) (fun c137 => ?_) (fun c137 => ?_)
                      · have c137 : (fl es ++ nm1).length ≤ 65536 := (nI_leI (a := (fl es ++ nm1).length) (b := 65536) (by omega) (by omega)).mp c137
                        exact hret _ _ _ _ _ _ hS hP hD d_Mo_entry_340 (Or.inl ⟨((0, t2 t e1, t2 t (e1 + 2), nI 0, nm1, ([] : List Nat)) : En9), _, _, (by unfold rdE; rw [if_pos hsc0]; unfold rdQ; rw [hr1]; simp only; rw [if_neg (by omega)]), hokc.mpr ⟨by omega, by omega, by show (fl es).length + (nm1.length + ([] : List Nat).length) ≤ 65536; omega⟩, hok0.mpr (hokc.mpr ⟨by omega, by omega, by show (fl es).length + (nm1.length + ([] : List Nat).length) ≤ 65536; omega⟩), rfl, (sm_tr (sm_tr (sm_mo sn1 (by decide)) (sm_mo sI118 (by decide))) (sm_mo sI122 (by decide))), (((sI122 17 (by decide)).trans ((sI118 17 (by decide)).trans z171))).trans (congrArg nI (by rw [fl_add, ← hfl, List.length_append, List.length_append]; rfl)), h18k, ((sI122 25 (by decide)).trans aI118), (((sI122 22 (by decide)).trans ((sI118 22 (by decide)).trans z221))).trans (congrArg nI (by omega)), ((sI122 24 (by decide)).trans ((sI118 24 (by decide)).trans ((sn1 24 (by decide)).trans h24))), (sm_tr (sm_tr (sm_tr (sm_tr (sm_tr (sm_tr (sm_tr (sm_tr (sm_mo sF1 (by decide)) (sm_mo sF2 (by decide))) (sm_mo sG1 (by decide))) (sm_mo sF7 (by decide))) (sm_mo sF110 (by decide))) (sm_mo sF114 (by decide))) (sm_mo sF116 (by decide))) (sm_mo sF119 (by decide))) (sm_mo sF121 (by decide))), hRk⟩)
                      · have c137 : ¬ ((fl es ++ nm1).length ≤ 65536) := fun z9 => c137 ((nI_leI (a := (fl es ++ nm1).length) (b := 65536) (by omega) (by omega)).mpr z9)
                        refine lv_aload_n hx hb d_Mo_entry_333 rfl (lv_at hl 4 rfl) ?_
                        refine lv_bipush (v := 7) hx hb d_Mo_entry_334 (by decide) ?_
                        refine lv_topq (y := nI 7) (rfl) ?_
                        refine lv_iload_n hx hb d_Mo_entry_336 rfl (lv_at hl 3 rfl) ?_
                        refine mw_cV (ci := 7) (k := 33) C0 (m_Mo_wrong l D9 cB cI cJ cG a O _ _ (nI 7) _ ((sI122 24 (by decide)).trans ((sI118 24 (by decide)).trans ((sn1 24 (by decide)).trans h24)))) g_824 g_8 g_821 g_823 gs_Mo_wrong ⟨by decide +kernel, by decide +kernel, show Option.map (fun d => d.parameters.length) (parseMethodDescriptor y_Mo_wrong.desc) = some 2 by decide +kernel⟩ ⟨by decide, by decide⟩ rfl rfl hP hD hS hA rfl ww_33 hl.1 (Nat.le_of_ble_eq_true rfl) rfl d_Mo_entry_337 ⟨by decide, by decide⟩ (fun v9 w9 H locs hq hP hD hS => ?_)
                        obtain ⟨I138, F139, hw9, q140⟩ := hq
                        subst hw9
                        obtain ⟨rfl, sI138, zI138, rfl⟩ := q140
                        exact hret _ _ _ _ _ _ hS hP hD d_Mo_entry_340 (Or.inr ⟨(fun x e c hx9 => by rw [show rdE t sc pos = some (((0, t2 t e1, t2 t (e1 + 2), nI 0, nm1, ([] : List Nat)) : En9), _, _) from (by unfold rdE; rw [if_pos hsc0]; unfold rdQ; rw [hr1]; simp only; rw [if_neg (by omega)])] at hx9; simp only [Option.some.injEq, Prod.mk.injEq] at hx9; rw [← hx9.1]; cases hb9 : okB es _ with | false => rfl | true => have z9 := hokc.mp hb9; have z8 := z9.1; have z7 := z9.2.1; have z6 : (fl es).length + (nm1.length + ([] : List Nat).length) ≤ 65536 := z9.2.2; exfalso; omega), rfl, (sm_tr (sm_tr (sm_tr (sm_mo sn1 (by decide)) (sm_mo sI118 (by decide))) (sm_mo sI122 (by decide))) (sm_mo sI138 (by decide))), ⟨_, by decide, zI138⟩, (sm_tr (sm_tr (sm_tr (sm_tr (sm_tr (sm_tr (sm_tr (sm_tr (sm_mo sF1 (by decide)) (sm_mo sF2 (by decide))) (sm_mo sG1 (by decide))) (sm_mo sF7 (by decide))) (sm_mo sF110 (by decide))) (sm_mo sF114 (by decide))) (sm_mo sF116 (by decide))) (sm_mo sF119 (by decide))) (sm_mo sF121 (by decide))), (BR_eq wB1 ((sF121 35 (by decide)).trans ((sF119 35 (by decide)).trans ((sF116 35 (by decide)).trans ((sF114 35 (by decide)).trans ((sF110 35 (by decide)).trans (sF7 35 (by decide)))))))).1⟩)
                · have c120 : ¬ (sc ≤ 0) := fun z9 => c120 ((nI_leI (a := sc) (b := 0) (by omega) (by omega)).mpr z9)
                  exfalso; omega
          · exact absurd c106 (by decide)
        · have hnf : ¬ e1 + 4 ≤ t.length := fun z9 => g104 ⟨z9, fun z8 => by cases z8.1⟩
          refine lv_if_ne (tgt := 86) hx hb d_Mo_entry_82 (by decide) (fun c141 => ?_) (fun c141 => ?_)
          · exact absurd c141 (by decide)
          · exact hret _ _ _ _ _ _ hS hP hD d_Mo_entry_85 (Or.inr ⟨(fun x e c hx9 => by rw [show rdE t sc pos = none from (by unfold rdE; rw [if_pos hsc0]; unfold rdQ; rw [hr1]; simp only; rw [if_pos (by omega)])] at hx9; cases hx9), rfl, (sm_tr (sm_mo sn1 (by decide)) (sm_mo sI101 (by decide))), ⟨_, by omega, xz105⟩, (sm_tr (sm_tr (sm_tr (sm_mo sF1 (by decide)) (sm_mo sF2 (by decide))) (sm_mo sG1 (by decide))) (sm_mo sF7 (by decide))), (BR_eq wB1 (sF7 35 (by decide))).1⟩)
    · exact absurd c6 (by decide)
  · rw [rnS_t] at hr1
    refine lv_aload_n hx hb d_Mo_entry_33 rfl (lv_at hl 2 rfl) ?_
    refine va_get (D := D9) (ci := 7) (C := R_Mo) (T := F_Mo) (N := 30) hx hb hts i_Mo hown hK hP 33 ww_33 rfl 19 (by decide) (hts _ g_741) (fun _ h9 => h9) rfl d_Mo_entry_34 ?_
    refine lv_topq (y := nI fz1) (fx1) ?_
    refine lv_if_le (tgt := 41) hx hb d_Mo_entry_37 (by decide) (fun c142 => ?_) (fun c142 => ?_)
    · have c142 : fz1 ≤ 0 := (nI_leI (a := fz1) (b := 0) (by omega) (by omega)).mp c142
      exfalso; omega
    · have c142 : ¬ (fz1 ≤ 0) := fun z9 => c142 ((nI_leI (a := fz1) (b := 0) (by omega) (by omega)).mpr z9)
      exact hret _ _ _ _ _ _ hS hP hD d_Mo_entry_40 (Or.inr ⟨(fun x e c hx9 => by rw [show rdE t sc pos = none from (by unfold rdE; split; unfold rdQ; rw [hr1]; unfold rdR; rw [hr1])] at hx9; cases hx9), rfl, (sm_mo sn1 (by decide)), ⟨_, by omega, fx1⟩, (sm_tr (sm_tr (sm_mo sF1 (by decide)) (sm_mo sF2 (by decide))) (sm_mo sG1 (by decide))), wB1.1⟩)
