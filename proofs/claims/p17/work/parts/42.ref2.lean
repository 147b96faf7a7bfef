/-! THE REFERENCE: names, bytes and data on the tape -/
def rnS (sh : Bool) (x : Option (List Nat × Nat × Nat)) : Option (List Nat × Nat × Nat) := match x with
  | none => none
  | some (nm, e, c) => if sh = false ∧ 0 < c then none else some (nm, e, c)
theorem rnS_p {x : Option (List Nat × Nat × Nat)} {acc : List Nat} {c : Nat} : rnS false (x.map (fun r => (acc ++ r.1, r.2.1, (c + 1) + r.2.2))) = none := by
  cases x with
  | none => rfl
  | some r => show (if false = false ∧ 0 < (c + 1) + r.2.2 then none else _) = none; rw [if_pos ⟨rfl, by omega⟩]
theorem rnS_t {x : Option (List Nat × Nat × Nat)} : rnS true x = x := by
  cases x with
  | none => rfl
  | some r => obtain ⟨a, b, c⟩ := r; unfold rnS; simp
theorem rnS_s {nm : List Nat} {e c : Nat} {sh : Bool} (h : sh = false → c = 0) : rnS sh (some (nm, e, c)) = some (nm, e, c) := by
  show (if sh = false ∧ 0 < c then none else _) = _
  rw [if_neg (fun z => by have := h z.1; omega)]
theorem rn_out {f : Nat} {t : List Nat} {b pos low sz : Nat} (h : b < pos + 1) : rn (f + 1) t b pos low sz none = none := by
  by_cases h1 : t.length ≤ pos
  · exact rn_short h1
  · by_cases h2 : tb t pos = 0
    · rw [rn_end (by omega) h2, if_neg (show ¬ (Option.getD none (pos + 1) ≤ b) by show ¬ (pos + 1 ≤ b); omega)]
    · by_cases h3 : 192 ≤ tb t pos
      · rw [rn_ptr (by omega) h3, if_pos (show t.length < pos + 2 ∨ rch t b none < pos + 2 ∨ low ≤ tg t pos from Or.inr (Or.inl (show b < pos + 2 by omega)))]
      · rw [rn_lab (t := t) (pos := pos) (by omega) h2 (by omega), if_pos (show 63 < tb t pos ∨ 255 < sz + tb t pos + 2 ∨ t.length < pos + 1 + tb t pos ∨ rch t b none < pos + 1 + tb t pos from Or.inr (Or.inr (Or.inr (show b < pos + 1 + tb t pos by omega))))]
theorem BR_put2 {n : Nat} {f : Nat → Int32} {L : List Nat} {x : Int32} {k v : Nat} (h : BR 0 n f L) (hk : L.length = k) (hv : ub x = v) : BR 0 n (upd f k (vp_nar .byte x)) (L ++ [v]) := by
  rw [nar_b, ← hk, ← hv]; exact BR_put h
theorem g_739 : (Cond.fieldLink "WireMessagesModel" (109 : Nat) "WireMessagesModel" "followed" "I") ∈ GT := gt_mem 739 (by decide +kernel) rfl
theorem g_742 : (Cond.fieldLink "WireMessagesModel" (99 : Nat) "WireMessagesModel" "at" "I") ∈ GT := gt_mem 742 (by decide +kernel) rfl
theorem g_825 : (Cond.methodLink "WireMessagesModel" (106 : Nat) ({ cls := "WireMessagesModel", name := "two", desc := "(I)I" } : MethodName)) ∈ GT := gt_mem 825 (by decide +kernel) rfl
theorem g_827 : (Cond.instanceMethod ({ cls := "WireMessagesModel", name := "two", desc := "(I)I" } : MethodName)) ∈ GT := gt_mem 827 (by decide +kernel) rfl
theorem g_828 : (Cond.code ({ cls := "WireMessagesModel", name := "two", desc := "(I)I" } : MethodName) prog_10_method_10_code (2 : Nat) (Option.some FieldType.int)) ∈ GT := gt_mem 828 (by decide +kernel) rfl
theorem g_841 : (Cond.methodLink "WireMessagesModel" (102 : Nat) ({ cls := "WireMessagesModel", name := "there", desc := "(IIZZ)Z" } : MethodName)) ∈ GT := gt_mem 841 (by decide +kernel) rfl
theorem g_843 : (Cond.instanceMethod ({ cls := "WireMessagesModel", name := "there", desc := "(IIZZ)Z" } : MethodName)) ∈ GT := gt_mem 843 (by decide +kernel) rfl
theorem g_844 : (Cond.code ({ cls := "WireMessagesModel", name := "there", desc := "(IIZZ)Z" } : MethodName) prog_10_method_11_code (5 : Nat) (Option.some FieldType.boolean)) ∈ GT := gt_mem 844 (by decide +kernel) rfl
theorem gs_Mo_there : Cond.selects R_Mo y_Mo_there y_Mo_there ∈ GT := gt_sel (q := (⟨"WireMessagesModel", "there", "(IIZZ)Z"⟩, 30)) (by decide +kernel)
theorem gs_Mo_two : Cond.selects R_Mo y_Mo_two y_Mo_two ∈ GT := gt_sel (q := (⟨"WireMessagesModel", "two", "(I)I"⟩, 30)) (by decide +kernel)
theorem d_Mo_name_0 : decode b_Mo_name 0 = .ok (.aload_n 0, 1) := by decide +kernel
theorem d_Mo_name_1 : decode b_Mo_name 1 = .ok (.getfield 99, 3) := by decide +kernel
theorem d_Mo_name_4 : decode b_Mo_name 4 = .ok (.istore_n 3, 1) := by decide +kernel
theorem d_Mo_name_5 : decode b_Mo_name 5 = .ok (.aload_n 0, 1) := by decide +kernel
theorem d_Mo_name_6 : decode b_Mo_name 6 = .ok (.getfield 99, 3) := by decide +kernel
theorem d_Mo_name_9 : decode b_Mo_name 9 = .ok (.istore 4, 2) := by decide +kernel
theorem d_Mo_name_11 : decode b_Mo_name 11 = .ok (.aload_n 0, 1) := by decide +kernel
theorem d_Mo_name_12 : decode b_Mo_name 12 = .ok (.getfield 99, 3) := by decide +kernel
theorem d_Mo_name_15 : decode b_Mo_name 15 = .ok (.istore 5, 2) := by decide +kernel
theorem d_Mo_name_17 : decode b_Mo_name 17 = .ok (.iconst (-1), 1) := by decide +kernel
theorem d_Mo_name_18 : decode b_Mo_name 18 = .ok (.istore 6, 2) := by decide +kernel
theorem d_Mo_name_20 : decode b_Mo_name 20 = .ok (.aload_n 0, 1) := by decide +kernel
theorem d_Mo_name_21 : decode b_Mo_name 21 = .ok (.getfield 64, 3) := by decide +kernel
theorem d_Mo_name_24 : decode b_Mo_name 24 = .ok (.istore 7, 2) := by decide +kernel
theorem d_Mo_name_26 : decode b_Mo_name 26 = .ok (.iconst 1, 1) := by decide +kernel
theorem d_Mo_name_27 : decode b_Mo_name 27 = .ok (.istore 8, 2) := by decide +kernel
theorem d_Mo_name_29 : decode b_Mo_name 29 = .ok (.iload 8, 2) := by decide +kernel
theorem d_Mo_name_31 : decode b_Mo_name 31 = .ok (.ifCond .eq 285, 3) := by decide +kernel
theorem d_Mo_name_34 : decode b_Mo_name 34 = .ok (.aload_n 0, 1) := by decide +kernel
theorem d_Mo_name_35 : decode b_Mo_name 35 = .ok (.iload 4, 2) := by decide +kernel
theorem d_Mo_name_37 : decode b_Mo_name 37 = .ok (.iconst 1, 1) := by decide +kernel
theorem d_Mo_name_38 : decode b_Mo_name 38 = .ok (.iload_n 1, 1) := by decide +kernel
theorem d_Mo_name_39 : decode b_Mo_name 39 = .ok (.iload 6, 2) := by decide +kernel
theorem d_Mo_name_41 : decode b_Mo_name 41 = .ok (.ifCond .lt 7, 3) := by decide +kernel
theorem d_Mo_name_44 : decode b_Mo_name 44 = .ok (.iconst 1, 1) := by decide +kernel
theorem d_Mo_name_45 : decode b_Mo_name 45 = .ok (.goto 4, 3) := by decide +kernel
theorem d_Mo_name_48 : decode b_Mo_name 48 = .ok (.iconst 0, 1) := by decide +kernel
theorem d_Mo_name_49 : decode b_Mo_name 49 = .ok (.invokevirtual 102, 3) := by decide +kernel
theorem d_Mo_name_52 : decode b_Mo_name 52 = .ok (.ifCond .eq 264, 3) := by decide +kernel
theorem d_Mo_name_55 : decode b_Mo_name 55 = .ok (.aload_n 0, 1) := by decide +kernel
theorem d_Mo_name_56 : decode b_Mo_name 56 = .ok (.iload 4, 2) := by decide +kernel
theorem d_Mo_name_58 : decode b_Mo_name 58 = .ok (.invokevirtual 83, 3) := by decide +kernel
theorem d_Mo_name_61 : decode b_Mo_name 61 = .ok (.istore 9, 2) := by decide +kernel
theorem d_Mo_name_63 : decode b_Mo_name 63 = .ok (.iload 9, 2) := by decide +kernel
theorem d_Mo_name_65 : decode b_Mo_name 65 = .ok (.sipush 192, 3) := by decide +kernel
theorem d_Mo_name_68 : decode b_Mo_name 68 = .ok (.if_icmp .lt 98, 3) := by decide +kernel
theorem d_Mo_name_71 : decode b_Mo_name 71 = .ok (.aload_n 0, 1) := by decide +kernel
theorem d_Mo_name_72 : decode b_Mo_name 72 = .ok (.iload 4, 2) := by decide +kernel
theorem d_Mo_name_74 : decode b_Mo_name 74 = .ok (.iconst 2, 1) := by decide +kernel
theorem d_Mo_name_75 : decode b_Mo_name 75 = .ok (.iload_n 1, 1) := by decide +kernel
theorem d_Mo_name_76 : decode b_Mo_name 76 = .ok (.iload 6, 2) := by decide +kernel
theorem d_Mo_name_78 : decode b_Mo_name 78 = .ok (.ifCond .lt 7, 3) := by decide +kernel
theorem d_Mo_name_81 : decode b_Mo_name 81 = .ok (.iconst 1, 1) := by decide +kernel
theorem d_Mo_name_82 : decode b_Mo_name 82 = .ok (.goto 4, 3) := by decide +kernel
theorem d_Mo_name_85 : decode b_Mo_name 85 = .ok (.iconst 0, 1) := by decide +kernel
theorem d_Mo_name_86 : decode b_Mo_name 86 = .ok (.invokevirtual 102, 3) := by decide +kernel
theorem d_Mo_name_89 : decode b_Mo_name 89 = .ok (.ifCond .ne 4, 3) := by decide +kernel
theorem d_Mo_name_92 : decode b_Mo_name 92 = .ok (.return_, 1) := by decide +kernel
theorem d_Mo_name_93 : decode b_Mo_name 93 = .ok (.iload_n 2, 1) := by decide +kernel
theorem d_Mo_name_94 : decode b_Mo_name 94 = .ok (.ifCond .ne 13, 3) := by decide +kernel
theorem d_Mo_name_97 : decode b_Mo_name 97 = .ok (.aload_n 0, 1) := by decide +kernel
theorem d_Mo_name_98 : decode b_Mo_name 98 = .ok (.iconst 5, 1) := by decide +kernel
theorem d_Mo_name_99 : decode b_Mo_name 99 = .ok (.aload_n 0, 1) := by decide +kernel
theorem d_Mo_name_100 : decode b_Mo_name 100 = .ok (.getfield 96, 3) := by decide +kernel
theorem d_Mo_name_103 : decode b_Mo_name 103 = .ok (.invokevirtual 89, 3) := by decide +kernel
theorem d_Mo_name_106 : decode b_Mo_name 106 = .ok (.return_, 1) := by decide +kernel
theorem d_Mo_name_107 : decode b_Mo_name 107 = .ok (.aload_n 0, 1) := by decide +kernel
theorem d_Mo_name_108 : decode b_Mo_name 108 = .ok (.iload 4, 2) := by decide +kernel
theorem d_Mo_name_110 : decode b_Mo_name 110 = .ok (.invokevirtual 106, 3) := by decide +kernel
theorem d_Mo_name_113 : decode b_Mo_name 113 = .ok (.sipush 16383, 3) := by decide +kernel
theorem d_Mo_name_116 : decode b_Mo_name 116 = .ok (.iand, 1) := by decide +kernel
theorem d_Mo_name_117 : decode b_Mo_name 117 = .ok (.istore 10, 2) := by decide +kernel
theorem d_Mo_name_119 : decode b_Mo_name 119 = .ok (.iload 10, 2) := by decide +kernel
theorem d_Mo_name_121 : decode b_Mo_name 121 = .ok (.iload 5, 2) := by decide +kernel
theorem d_Mo_name_123 : decode b_Mo_name 123 = .ok (.if_icmp .lt 11, 3) := by decide +kernel
theorem d_Mo_name_126 : decode b_Mo_name 126 = .ok (.aload_n 0, 1) := by decide +kernel
theorem d_Mo_name_127 : decode b_Mo_name 127 = .ok (.iconst 3, 1) := by decide +kernel
theorem d_Mo_name_128 : decode b_Mo_name 128 = .ok (.iload 4, 2) := by decide +kernel
theorem d_Mo_name_130 : decode b_Mo_name 130 = .ok (.invokevirtual 89, 3) := by decide +kernel
theorem d_Mo_name_133 : decode b_Mo_name 133 = .ok (.return_, 1) := by decide +kernel
theorem d_Mo_name_134 : decode b_Mo_name 134 = .ok (.aload_n 0, 1) := by decide +kernel
theorem d_Mo_name_135 : decode b_Mo_name 135 = .ok (.dup, 1) := by decide +kernel
theorem d_Mo_name_136 : decode b_Mo_name 136 = .ok (.getfield 109, 3) := by decide +kernel
theorem d_Mo_name_139 : decode b_Mo_name 139 = .ok (.iconst 1, 1) := by decide +kernel
theorem d_Mo_name_140 : decode b_Mo_name 140 = .ok (.iadd, 1) := by decide +kernel
theorem d_Mo_name_141 : decode b_Mo_name 141 = .ok (.putfield 109, 3) := by decide +kernel
theorem d_Mo_name_144 : decode b_Mo_name 144 = .ok (.iload 10, 2) := by decide +kernel
theorem d_Mo_name_146 : decode b_Mo_name 146 = .ok (.istore 5, 2) := by decide +kernel
theorem d_Mo_name_148 : decode b_Mo_name 148 = .ok (.iload 6, 2) := by decide +kernel
theorem d_Mo_name_150 : decode b_Mo_name 150 = .ok (.ifCond .ge 9, 3) := by decide +kernel
theorem d_Mo_name_153 : decode b_Mo_name 153 = .ok (.iload 4, 2) := by decide +kernel
theorem d_Mo_name_155 : decode b_Mo_name 155 = .ok (.iconst 2, 1) := by decide +kernel
theorem d_Mo_name_156 : decode b_Mo_name 156 = .ok (.iadd, 1) := by decide +kernel
theorem d_Mo_name_157 : decode b_Mo_name 157 = .ok (.istore 6, 2) := by decide +kernel
theorem d_Mo_name_159 : decode b_Mo_name 159 = .ok (.iload 10, 2) := by decide +kernel
theorem d_Mo_name_161 : decode b_Mo_name 161 = .ok (.istore 4, 2) := by decide +kernel
theorem d_Mo_name_163 : decode b_Mo_name 163 = .ok (.goto (-134), 3) := by decide +kernel
theorem d_Mo_name_166 : decode b_Mo_name 166 = .ok (.iload 9, 2) := by decide +kernel
theorem d_Mo_name_168 : decode b_Mo_name 168 = .ok (.bipush 63, 2) := by decide +kernel
theorem d_Mo_name_170 : decode b_Mo_name 170 = .ok (.if_icmp .le 11, 3) := by decide +kernel
theorem d_Mo_name_173 : decode b_Mo_name 173 = .ok (.aload_n 0, 1) := by decide +kernel
theorem d_Mo_name_174 : decode b_Mo_name 174 = .ok (.iconst 2, 1) := by decide +kernel
theorem d_Mo_name_175 : decode b_Mo_name 175 = .ok (.iload 4, 2) := by decide +kernel
theorem d_Mo_name_177 : decode b_Mo_name 177 = .ok (.invokevirtual 89, 3) := by decide +kernel
theorem d_Mo_name_180 : decode b_Mo_name 180 = .ok (.return_, 1) := by decide +kernel
theorem d_Mo_name_181 : decode b_Mo_name 181 = .ok (.iload 9, 2) := by decide +kernel
theorem d_Mo_name_183 : decode b_Mo_name 183 = .ok (.ifCond .le 7, 3) := by decide +kernel
theorem d_Mo_name_186 : decode b_Mo_name 186 = .ok (.iconst 1, 1) := by decide +kernel
theorem d_Mo_name_187 : decode b_Mo_name 187 = .ok (.goto 4, 3) := by decide +kernel
theorem d_Mo_name_190 : decode b_Mo_name 190 = .ok (.iconst 0, 1) := by decide +kernel
theorem d_Mo_name_191 : decode b_Mo_name 191 = .ok (.istore 8, 2) := by decide +kernel
theorem d_Mo_name_193 : decode b_Mo_name 193 = .ok (.iload 8, 2) := by decide +kernel
theorem d_Mo_name_195 : decode b_Mo_name 195 = .ok (.ifCond .eq 28, 3) := by decide +kernel
theorem d_Mo_name_198 : decode b_Mo_name 198 = .ok (.aload_n 0, 1) := by decide +kernel
theorem d_Mo_name_199 : decode b_Mo_name 199 = .ok (.getfield 64, 3) := by decide +kernel
theorem d_Mo_name_202 : decode b_Mo_name 202 = .ok (.iload 7, 2) := by decide +kernel
theorem d_Mo_name_204 : decode b_Mo_name 204 = .ok (.isub, 1) := by decide +kernel
theorem d_Mo_name_205 : decode b_Mo_name 205 = .ok (.iload 9, 2) := by decide +kernel
theorem d_Mo_name_207 : decode b_Mo_name 207 = .ok (.iadd, 1) := by decide +kernel
theorem d_Mo_name_208 : decode b_Mo_name 208 = .ok (.iconst 2, 1) := by decide +kernel
theorem d_Mo_name_209 : decode b_Mo_name 209 = .ok (.iadd, 1) := by decide +kernel
theorem d_Mo_name_210 : decode b_Mo_name 210 = .ok (.sipush 255, 3) := by decide +kernel
theorem d_Mo_name_213 : decode b_Mo_name 213 = .ok (.if_icmp .le 10, 3) := by decide +kernel
theorem d_Mo_name_216 : decode b_Mo_name 216 = .ok (.aload_n 0, 1) := by decide +kernel
theorem d_Mo_name_217 : decode b_Mo_name 217 = .ok (.iconst 4, 1) := by decide +kernel
theorem d_Mo_name_218 : decode b_Mo_name 218 = .ok (.iload_n 3, 1) := by decide +kernel
theorem d_Mo_name_219 : decode b_Mo_name 219 = .ok (.invokevirtual 89, 3) := by decide +kernel
theorem d_Mo_name_222 : decode b_Mo_name 222 = .ok (.return_, 1) := by decide +kernel
theorem d_Mo_name_223 : decode b_Mo_name 223 = .ok (.iload 8, 2) := by decide +kernel
theorem d_Mo_name_225 : decode b_Mo_name 225 = .ok (.ifCond .eq 28, 3) := by decide +kernel
theorem d_Mo_name_228 : decode b_Mo_name 228 = .ok (.aload_n 0, 1) := by decide +kernel
theorem d_Mo_name_229 : decode b_Mo_name 229 = .ok (.iload 4, 2) := by decide +kernel
theorem d_Mo_name_231 : decode b_Mo_name 231 = .ok (.iconst 1, 1) := by decide +kernel
theorem d_Mo_name_232 : decode b_Mo_name 232 = .ok (.iload 9, 2) := by decide +kernel
theorem d_Mo_name_234 : decode b_Mo_name 234 = .ok (.iadd, 1) := by decide +kernel
theorem d_Mo_name_235 : decode b_Mo_name 235 = .ok (.iload_n 1, 1) := by decide +kernel
theorem d_Mo_name_236 : decode b_Mo_name 236 = .ok (.iload 6, 2) := by decide +kernel
theorem d_Mo_name_238 : decode b_Mo_name 238 = .ok (.ifCond .lt 7, 3) := by decide +kernel
theorem d_Mo_name_241 : decode b_Mo_name 241 = .ok (.iconst 1, 1) := by decide +kernel
theorem d_Mo_name_242 : decode b_Mo_name 242 = .ok (.goto 4, 3) := by decide +kernel
theorem d_Mo_name_245 : decode b_Mo_name 245 = .ok (.iconst 0, 1) := by decide +kernel
theorem d_Mo_name_246 : decode b_Mo_name 246 = .ok (.invokevirtual 102, 3) := by decide +kernel
theorem d_Mo_name_249 : decode b_Mo_name 249 = .ok (.ifCond .ne 4, 3) := by decide +kernel
theorem d_Mo_name_252 : decode b_Mo_name 252 = .ok (.return_, 1) := by decide +kernel
theorem d_Mo_name_253 : decode b_Mo_name 253 = .ok (.iconst 0, 1) := by decide +kernel
theorem d_Mo_name_254 : decode b_Mo_name 254 = .ok (.istore 10, 2) := by decide +kernel
theorem d_Mo_name_256 : decode b_Mo_name 256 = .ok (.iload 10, 2) := by decide +kernel
theorem d_Mo_name_258 : decode b_Mo_name 258 = .ok (.iload 9, 2) := by decide +kernel
theorem d_Mo_name_260 : decode b_Mo_name 260 = .ok (.if_icmp .gt 31, 3) := by decide +kernel
theorem d_Mo_name_263 : decode b_Mo_name 263 = .ok (.aload_n 0, 1) := by decide +kernel
theorem d_Mo_name_264 : decode b_Mo_name 264 = .ok (.getfield 15, 3) := by decide +kernel
theorem d_Mo_name_267 : decode b_Mo_name 267 = .ok (.aload_n 0, 1) := by decide +kernel
theorem d_Mo_name_268 : decode b_Mo_name 268 = .ok (.getfield 64, 3) := by decide +kernel
theorem d_Mo_name_271 : decode b_Mo_name 271 = .ok (.iload 10, 2) := by decide +kernel
theorem d_Mo_name_273 : decode b_Mo_name 273 = .ok (.iadd, 1) := by decide +kernel
theorem d_Mo_name_274 : decode b_Mo_name 274 = .ok (.aload_n 0, 1) := by decide +kernel
theorem d_Mo_name_275 : decode b_Mo_name 275 = .ok (.getfield 8, 3) := by decide +kernel
theorem d_Mo_name_278 : decode b_Mo_name 278 = .ok (.iload 4, 2) := by decide +kernel
theorem d_Mo_name_280 : decode b_Mo_name 280 = .ok (.iload 10, 2) := by decide +kernel
theorem d_Mo_name_282 : decode b_Mo_name 282 = .ok (.iadd, 1) := by decide +kernel
theorem d_Mo_name_283 : decode b_Mo_name 283 = .ok (.baload, 1) := by decide +kernel
theorem d_Mo_name_284 : decode b_Mo_name 284 = .ok (.bastore, 1) := by decide +kernel
theorem d_Mo_name_285 : decode b_Mo_name 285 = .ok (.iinc 10 1, 3) := by decide +kernel
theorem d_Mo_name_288 : decode b_Mo_name 288 = .ok (.goto (-32), 3) := by decide +kernel
theorem d_Mo_name_291 : decode b_Mo_name 291 = .ok (.aload_n 0, 1) := by decide +kernel
theorem d_Mo_name_292 : decode b_Mo_name 292 = .ok (.dup, 1) := by decide +kernel
theorem d_Mo_name_293 : decode b_Mo_name 293 = .ok (.getfield 64, 3) := by decide +kernel
theorem d_Mo_name_296 : decode b_Mo_name 296 = .ok (.iload 9, 2) := by decide +kernel
theorem d_Mo_name_298 : decode b_Mo_name 298 = .ok (.iconst 1, 1) := by decide +kernel
theorem d_Mo_name_299 : decode b_Mo_name 299 = .ok (.iadd, 1) := by decide +kernel
theorem d_Mo_name_300 : decode b_Mo_name 300 = .ok (.iadd, 1) := by decide +kernel
theorem d_Mo_name_301 : decode b_Mo_name 301 = .ok (.putfield 64, 3) := by decide +kernel
theorem d_Mo_name_304 : decode b_Mo_name 304 = .ok (.iload 4, 2) := by decide +kernel
theorem d_Mo_name_306 : decode b_Mo_name 306 = .ok (.iload 9, 2) := by decide +kernel
theorem d_Mo_name_308 : decode b_Mo_name 308 = .ok (.iconst 1, 1) := by decide +kernel
theorem d_Mo_name_309 : decode b_Mo_name 309 = .ok (.iadd, 1) := by decide +kernel
theorem d_Mo_name_310 : decode b_Mo_name 310 = .ok (.iadd, 1) := by decide +kernel
theorem d_Mo_name_311 : decode b_Mo_name 311 = .ok (.istore 4, 2) := by decide +kernel
theorem d_Mo_name_313 : decode b_Mo_name 313 = .ok (.goto (-284), 3) := by decide +kernel
theorem d_Mo_name_316 : decode b_Mo_name 316 = .ok (.aload_n 0, 1) := by decide +kernel
theorem d_Mo_name_317 : decode b_Mo_name 317 = .ok (.getfield 80, 3) := by decide +kernel
theorem d_Mo_name_320 : decode b_Mo_name 320 = .ok (.ifCond .ne 19, 3) := by decide +kernel
theorem d_Mo_name_323 : decode b_Mo_name 323 = .ok (.aload_n 0, 1) := by decide +kernel
theorem d_Mo_name_324 : decode b_Mo_name 324 = .ok (.iload 6, 2) := by decide +kernel
theorem d_Mo_name_326 : decode b_Mo_name 326 = .ok (.ifCond .ge 8, 3) := by decide +kernel
theorem d_Mo_name_329 : decode b_Mo_name 329 = .ok (.iload 4, 2) := by decide +kernel
theorem d_Mo_name_331 : decode b_Mo_name 331 = .ok (.goto 5, 3) := by decide +kernel
theorem d_Mo_name_334 : decode b_Mo_name 334 = .ok (.iload 6, 2) := by decide +kernel
theorem d_Mo_name_336 : decode b_Mo_name 336 = .ok (.putfield 99, 3) := by decide +kernel
theorem d_Mo_name_339 : decode b_Mo_name 339 = .ok (.return_, 1) := by decide +kernel
set_option maxHeartbeats 4000000 in
set_option maxRecDepth 100000 in
/-- the reference: name -/
theorem m_Mo_name (l : Launch) (D9 : va_G) (cB cI cJ cG : ClassId) (a : Nat → Nat) (O : Nat → Int64) (I : Nat → Int32) (F : Nat → Nat → Int32) (t : List Nat) (hT : BR 0 65536 (F 34) t) (h16 : I 16 = nI t.length) (htl : t.length ≤ 65536) (L : List Nat) (b st9 fw : Nat) (ind sh : Bool) (hbe : ind = true → I 27 = nI b) (hbn : ind = false → b = t.length) (hb9 : b ≤ t.length) (h24 : I 24 = nI 0) (h25 : I 25 = nI st9) (hst9 : st9 ≤ 65536) (h17 : I 17 = nI L.length) (hLb : L.length < 139000) (hBL : BR 0 140000 (F 35) L) (h22 : I 22 = nI fw) : MC l D9 cB cI cJ cG a O y_Mo_name b_Mo_name 11 (none) 2 [.ref (a 33), .int (bI ind), .int (bI sh)] I F (fun v I' F' => (∃ nm e c, rnS sh (rn 16639 t b st9 st9 0 none) = some (nm, e, c) ∧ v = none ∧ sm [17, 22, 25] I I' ∧ I' 17 = nI (L ++ nm).length ∧ I' 25 = nI e ∧ I' 22 = nI (fw + c) ∧ sm [35] F F' ∧ BR 0 140000 (F' 35) (L ++ nm)) ∨ (rnS sh (rn 16639 t b st9 st9 0 none) = none ∧ v = none ∧ sm [17, 21, 22, 24, 25] I I' ∧ (∃ z : Nat, (0 < z ∧ z < 100) ∧ I' 24 = nI z) ∧ sm [35] F F' ∧ BR 0 140000 (F' 35) L)) := by
  refine mc_ofv (by decide) (Nat.le_of_ble_eq_true rfl) ?_
  intro p e s m below meth c ls A0 Q C0 hP hD hA hS hl hret
  obtain ⟨hx, hb, hml, hr, hlocks, hown, hts, hK⟩ := id C0
  have hl : lv_has ls 11 [(0, .ref (a 33)), (1, .int (bI ind)), (2, .int (bI sh))] := hl
  refine lv_aload_n hx hb d_Mo_name_0 rfl (lv_at hl 0 rfl) ?_
  refine va_get (D := D9) (ci := 7) (C := R_Mo) (T := F_Mo) (N := 30) hx hb hts i_Mo hown hK hP 33 ww_33 rfl 20 (by decide) (hts _ g_742) (fun _ h9 => h9) rfl d_Mo_name_1 ?_
  refine lv_topq (y := nI st9) (h25) ?_
  refine lv_istore_n (lv' := [(3, _), (0, _), (1, _), (2, _)]) hx hb d_Mo_name_4 rfl hl (by decide) rfl (fun ls hl => ?_)
  refine lv_aload_n hx hb d_Mo_name_5 rfl (lv_at hl 1 rfl) ?_
  refine va_get (D := D9) (ci := 7) (C := R_Mo) (T := F_Mo) (N := 30) hx hb hts i_Mo hown hK hP 33 ww_33 rfl 20 (by decide) (hts _ g_742) (fun _ h9 => h9) rfl d_Mo_name_6 ?_
  refine lv_topq (y := nI st9) (h25) ?_
  refine lv_istore (lv' := [(4, _), (3, _), (0, _), (1, _), (2, _)]) hx hb d_Mo_name_9 hl (by decide) rfl (fun ls hl => ?_)
  refine lv_aload_n hx hb d_Mo_name_11 rfl (lv_at hl 2 rfl) ?_
  refine va_get (D := D9) (ci := 7) (C := R_Mo) (T := F_Mo) (N := 30) hx hb hts i_Mo hown hK hP 33 ww_33 rfl 20 (by decide) (hts _ g_742) (fun _ h9 => h9) rfl d_Mo_name_12 ?_
  refine lv_topq (y := nI st9) (h25) ?_
  refine lv_istore (lv' := [(5, _), (4, _), (3, _), (0, _), (1, _), (2, _)]) hx hb d_Mo_name_15 hl (by decide) rfl (fun ls hl => ?_)
  refine lv_iconst (v := -1) hx hb d_Mo_name_17 (by decide) ?_
  refine lv_topq (y := (-1 : Int32)) rfl ?_
  refine lv_istore (lv' := [(6, _), (5, _), (4, _), (3, _), (0, _), (1, _), (2, _)]) hx hb d_Mo_name_18 hl (by decide) rfl (fun ls hl => ?_)
  refine lv_aload_n hx hb d_Mo_name_20 rfl (lv_at hl 4 rfl) ?_
  refine va_get (D := D9) (ci := 7) (C := R_Mo) (T := F_Mo) (N := 30) hx hb hts i_Mo hown hK hP 33 ww_33 rfl 4 (by decide) (hts _ g_726) (fun _ h9 => h9) rfl d_Mo_name_21 ?_
  refine lv_topq (y := nI L.length) (h17) ?_
  refine lv_istore (lv' := [(7, _), (6, _), (5, _), (4, _), (3, _), (0, _), (1, _), (2, _)]) hx hb d_Mo_name_24 hl (by decide) rfl (fun ls hl => ?_)
  refine lv_iconst (v := 1) hx hb d_Mo_name_26 (by decide) ?_
  refine lv_topq (y := nI 1) (rfl) ?_
  refine lv_istore (lv' := [(8, _), (7, _), (6, _), (5, _), (4, _), (3, _), (0, _), (1, _), (2, _)]) hx hb d_Mo_name_27 hl (by decide) rfl (fun ls hl => ?_)
  have loop1 : ∀ (n9 : Nat) (pos : Nat) (low : Nat) (sz : Nat) (nx : Option Nat) (cc : Nat) (acc : List Nat) (I9 : Nat → Int32) (F9 : Nat → Nat → Int32) (H : Heap) (locs : List Loc) (ls : Array Slot), (sm [17, 22, 25] I I9) → (sm [35] F F9) → (n9 = n9) → ((match nx with | none => 16384 | some _ => low) + (254 - sz) < n9) → (rn 16639 t b st9 st9 0 none = (rn n9 t b pos low sz nx).map (fun r => (acc ++ r.1, r.2.1, cc + r.2.2))) → (acc.length = sz ∧ sz ≤ 254) → (pos ≤ 65536 ∧ low ≤ 65536) → (∀ z, nx = some z → z ≤ b) → (sh = false → cc = 0) → (I9 17 = nI (L ++ acc).length) → (I9 25 = nI st9) → (I9 22 = nI (fw + cc)) → (BR 0 140000 (F9 35) (L ++ acc)) → va_P D9 cls9 (WW a cB cI cJ cG I9 F9 O) H → va_D A0 (WW a cB cI cJ cG I9 F9 O) → va_S A0 s.heap H locs → lv_has ls 11 [(0, .ref (a 33)), (1, .int (bI ind)), (2, .int (bI sh)), (3, .int (nI st9)), (4, .int (nI pos)), (5, .int (nI low)), (6, .int (oI nx)), (7, .int (nI L.length)), (8, .int (nI 1))] → W p l e (rm9 2 0 0) s m ([.ref (a 33), .int (bI ind), .int (bI sh)] : List Value).toArray below meth c H locs 0 0 Q (F0 m 29 ls []) := by
    intro n9
    induction n9 using Nat.strongRecOn with
    | ind n9 ih =>
      intro pos low sz nx cc acc I9 F9 H locs ls hsI hsF hn9 hmu hRr hz hpo hnz hcs k17 k25 k22 hB hP hD hS hl
      obtain ⟨f9, rfl⟩ : ∃ f9, n9 = f9 + 1 := ⟨n9 - 1, by omega⟩
      have hT9 : BR 0 65536 (F9 34) t := BR_eq hT (hsF 34 (by decide))
      have hLn : (L ++ acc).length = L.length + sz := by rw [List.length_append]; omega
      cases nx with
      | none =>
        have hl : lv_has ls 11 [(0, .ref (a 33)), (1, .int (bI ind)), (2, .int (bI sh)), (3, .int (nI st9)), (4, .int (nI pos)), (5, .int (nI low)), (6, .int ((-1 : Int32))), (7, .int (nI L.length)), (8, .int (nI 1))] := hl
        have hmu : 16384 + (254 - sz) < f9 + 1 := hmu
        refine lv_iload hx hb d_Mo_name_29 (lv_at hl 8 rfl) ?_
        refine lv_if_eq (tgt := 316) hx hb d_Mo_name_31 (by decide) (fun c1 => ?_) (fun c1 => ?_)
        · exact absurd c1 (by decide)
        · refine lv_aload_n hx hb d_Mo_name_34 rfl (lv_at hl 0 rfl) ?_
          refine lv_iload hx hb d_Mo_name_35 (lv_at hl 4 rfl) ?_
          refine lv_iconst (v := 1) hx hb d_Mo_name_37 (by decide) ?_
          refine lv_topq (y := nI 1) (rfl) ?_
          refine lv_iload_n hx hb d_Mo_name_38 rfl (lv_at hl 1 rfl) ?_
          refine lv_iload hx hb d_Mo_name_39 (lv_at hl 6 rfl) ?_
          refine lv_if_lt (tgt := 48) hx hb d_Mo_name_41 (by decide) (fun c2 => ?_) (fun c2 => ?_)
          · refine lv_iconst (v := 0) hx hb d_Mo_name_48 (by decide) ?_
            refine lv_topq (y := nI 0) (rfl) ?_
            refine mw_cV (ci := 7) (k := 33) C0 (m_Mo_there l D9 cB cI cJ cG a O _ _ t (BR_eq hT (hsF 34 (by decide))) ((hsI 16 (by decide)).trans h16) htl pos 1 b ind false (fun z9 => ((hsI 27 (by decide)).trans (hbe z9))) ((hsI 24 (by decide)).trans h24) (by omega) (by omega) (by omega)) g_844 g_8 g_841 g_843 gs_Mo_there ⟨by decide +kernel, by decide +kernel, show Option.map (fun d => d.parameters.length) (parseMethodDescriptor y_Mo_there.desc) = some 4 by decide +kernel⟩ ⟨by decide, by decide⟩ rfl rfl hP hD hS hA rfl ww_33 hl.1 (Nat.le_of_ble_eq_true rfl) rfl d_Mo_name_49 ⟨by decide, by decide⟩ (fun v9 w9 H locs hq hP hD hS => ?_)
            obtain ⟨I3, F4, hw9, q5⟩ := hq
            subst hw9
            rcases q5 with ⟨g6, rfl, rfl, rfl⟩ | ⟨g6, rfl, sI3, ⟨z7, yz7, xz7⟩, rfl⟩
            · have hr1 : pos + 1 ≤ t.length ∧ pos + 1 ≤ b := ⟨g6.1, by cases hi9 : ind with | true => exact g6.2 ⟨hi9, rfl⟩ | false => rw [hbn hi9]; exact g6.1⟩
              have hby : tb t pos < 256 := BR_lt hT (by omega) (by omega) (by omega)
              refine lv_if_eq (tgt := 316) hx hb d_Mo_name_52 (by decide) (fun c8 => ?_) (fun c8 => ?_)
              · exact absurd c8 (by decide)
              · refine lv_aload_n hx hb d_Mo_name_55 rfl (lv_at hl 0 rfl) ?_
                refine lv_iload hx hb d_Mo_name_56 (lv_at hl 4 rfl) ?_
                refine mw_cV (ci := 7) (k := 33) C0 (m_Mo_here l D9 cB cI cJ cG a O _ _ t (BR_eq hT (hsF 34 (by decide))) ((hsI 16 (by decide)).trans h16) htl pos (by omega)) g_832 g_8 g_829 g_831 gs_Mo_here ⟨by decide +kernel, by decide +kernel, show Option.map (fun d => d.parameters.length) (parseMethodDescriptor y_Mo_here.desc) = some 1 by decide +kernel⟩ ⟨by decide, by decide⟩ rfl rfl hP hD hS hA rfl ww_33 hl.1 (Nat.le_of_ble_eq_true rfl) rfl d_Mo_name_58 ⟨by decide, by decide⟩ (fun v9 w9 H locs hq hP hD hS => ?_)
                obtain ⟨I9, F10, hw9, q11⟩ := hq
                subst hw9
                obtain ⟨rfl, rfl, rfl⟩ := q11
                refine lv_istore (lv' := [(9, _), (0, _), (1, _), (2, _), (3, _), (4, _), (5, _), (6, _), (7, _), (8, _)]) hx hb d_Mo_name_61 hl (by decide) rfl (fun ls hl => ?_)
                refine lv_iload hx hb d_Mo_name_63 (lv_at hl 0 rfl) ?_
                refine lv_sipush (v := 192) hx hb d_Mo_name_65 (by decide) ?_
                refine lv_topq (y := nI 192) (rfl) ?_
                refine lv_icmp_lt (tgt := 166) hx hb d_Mo_name_68 (by decide) (fun c12 => ?_) (fun c12 => ?_)
                · have c12 : tb t pos < 192 := (nI_ltI (a := tb t pos) (b := 192) (by omega) (by omega)).mp c12
                  refine lv_iload hx hb d_Mo_name_166 (lv_at hl 0 rfl) ?_
                  refine lv_bipush (v := 63) hx hb d_Mo_name_168 (by decide) ?_
                  refine lv_topq (y := nI 63) (rfl) ?_
                  refine lv_icmp_le (tgt := 181) hx hb d_Mo_name_170 (by decide) (fun c13 => ?_) (fun c13 => ?_)
                  · have c13 : tb t pos ≤ 63 := (nI_leI (a := tb t pos) (b := 63) (by omega) (by omega)).mp c13
                    refine lv_iload hx hb d_Mo_name_181 (lv_at hl 0 rfl) ?_
                    refine lv_if_le (tgt := 190) hx hb d_Mo_name_183 (by decide) (fun c14 => ?_) (fun c14 => ?_)
                    · have c14 : tb t pos ≤ 0 := (nI_leI (a := tb t pos) (b := 0) (by omega) (by omega)).mp c14
                      refine lv_iconst (v := 0) hx hb d_Mo_name_190 (by decide) ?_
                      refine lv_topq (y := nI 0) (rfl) ?_
                      refine lv_istore (lv' := [(8, _), (9, _), (0, _), (1, _), (2, _), (3, _), (4, _), (5, _), (6, _), (7, _)]) hx hb d_Mo_name_191 hl (by decide) rfl (fun ls hl => ?_)
                      refine lv_iload hx hb d_Mo_name_193 (lv_at hl 0 rfl) ?_
                      refine lv_if_eq (tgt := 223) hx hb d_Mo_name_195 (by decide) (fun c15 => ?_) (fun c15 => ?_)
                      · refine lv_iload hx hb d_Mo_name_223 (lv_at hl 0 rfl) ?_
                        refine lv_if_eq (tgt := 253) hx hb d_Mo_name_225 (by decide) (fun c16 => ?_) (fun c16 => ?_)
                        · refine lv_iconst (v := 0) hx hb d_Mo_name_253 (by decide) ?_
                          refine lv_topq (y := nI 0) (rfl) ?_
                          refine lv_istore (lv' := [(10, _), (8, _), (9, _), (0, _), (1, _), (2, _), (3, _), (4, _), (5, _), (6, _), (7, _)]) hx hb d_Mo_name_254 hl (by decide) rfl (fun ls hl => ?_)
                          have loopC : ∀ (nc : Nat) (i9 : Nat) (Fc : Nat → Nat → Int32) (H : Heap) (locs : List Loc) (ls : Array Slot), (sm [35] F9 Fc) → (tb t pos + 1 - i9 = nc) → (i9 ≤ tb t pos + 1) → (BR 0 140000 (Fc 35) ((L ++ acc) ++ sl9 t pos i9)) → va_P D9 cls9 (WW a cB cI cJ cG I9 Fc O) H → va_D A0 (WW a cB cI cJ cG I9 Fc O) → va_S A0 s.heap H locs → lv_has ls 11 [(0, .ref (a 33)), (1, .int (bI ind)), (2, .int (bI sh)), (3, .int (nI st9)), (4, .int (nI pos)), (5, .int (nI low)), (6, .int ((-1 : Int32))), (7, .int (nI L.length)), (8, .int (nI 0)), (9, .int (nI (tb t pos))), (10, .int (nI i9))] → W p l e (rm9 2 0 0) s m ([.ref (a 33), .int (bI ind), .int (bI sh)] : List Value).toArray below meth c H locs 0 0 Q (F0 m 256 ls []) := by
                            intro nc
                            induction nc using Nat.strongRecOn with
                            | ind nc ihc =>
                              intro i9 Fc H locs ls hsFc hnc hi9 hB9 hP hD hS hl
                              have hLc : ((L ++ acc) ++ sl9 t pos i9).length = (L ++ acc).length + i9 := by rw [List.length_append, sl9_len (by omega)]
                              refine lv_iload hx hb d_Mo_name_256 (lv_at hl 10 rfl) ?_
                              refine lv_iload hx hb d_Mo_name_258 (lv_at hl 9 rfl) ?_
                              refine lv_icmp_gt (tgt := 291) hx hb d_Mo_name_260 (by decide) (fun c17 => ?_) (fun c17 => ?_)
                              · have c17 : tb t pos < i9 := (nI_ltI (a := tb t pos) (b := i9) (by omega) (by omega)).mp c17
                                obtain rfl : i9 = tb t pos + 1 := by omega
                                refine lv_aload_n hx hb d_Mo_name_291 rfl (lv_at hl 0 rfl) ?_
                                refine lv_dup hx hb d_Mo_name_292 rfl ?_
                                refine va_get (D := D9) (ci := 7) (C := R_Mo) (T := F_Mo) (N := 30) hx hb hts i_Mo hown hK hP 33 ww_33 rfl 4 (by decide) (hts _ g_726) (fun _ h9 => h9) rfl d_Mo_name_293 ?_
                                refine lv_topq (y := nI ((L ++ acc).length)) (k17) ?_
                                refine lv_iload hx hb d_Mo_name_296 (lv_at hl 9 rfl) ?_
                                refine lv_iconst (v := 1) hx hb d_Mo_name_298 (by decide) ?_
                                refine lv_topq (y := nI 1) (rfl) ?_
                                refine lv_iadd hx hb d_Mo_name_299 ?_
                                refine lv_topq (y := nI (tb t pos + 1)) (nI_add _ _) ?_
                                refine lv_iadd hx hb d_Mo_name_300 ?_
                                refine lv_topq (y := nI ((L ++ acc).length + (tb t pos + 1))) (nI_add _ _) ?_
                                refine va_put (D := D9) (ty := .int) (ci := 7) (C := R_Mo) (T := F_Mo) (N := 30) hx hb hts i_Mo t_Mo t_Mo_ok n_Mo hown hK hP hD hS 33 ww_33 rfl 4 (by decide) (hts _ g_726) (fun _ h9 => h9) rfl (by decide +kernel) rfl rfl (Nat.le_of_ble_eq_true rfl) d_Mo_name_301 (fun H locs hP hD hS => ?_)
                                obtain ⟨I18, aI18, sI18, hP, hD⟩ := fx (P := fun z => va_P D9 cls9 (WW a cB cI cJ cG z _ O) H ∧ va_D A0 (WW a cB cI cJ cG z _ O)) ⟨wp_17 hP, wd_17 hD⟩
                                refine lv_iload hx hb d_Mo_name_304 (lv_at hl 4 rfl) ?_
                                refine lv_iload hx hb d_Mo_name_306 (lv_at hl 9 rfl) ?_
                                refine lv_iconst (v := 1) hx hb d_Mo_name_308 (by decide) ?_
                                refine lv_topq (y := nI 1) (rfl) ?_
                                refine lv_iadd hx hb d_Mo_name_309 ?_
                                refine lv_topq (y := nI (tb t pos + 1)) (nI_add _ _) ?_
                                refine lv_iadd hx hb d_Mo_name_310 ?_
                                refine lv_topq (y := nI (pos + (tb t pos + 1))) (nI_add _ _) ?_
                                refine lv_istore (lv' := [(4, _), (0, _), (1, _), (2, _), (3, _), (5, _), (6, _), (7, _), (8, _), (9, _), (10, _)]) hx hb d_Mo_name_311 hl (by decide) rfl (fun ls hl => ?_)
                                refine lv_goto (tgt := 29) hx hb d_Mo_name_313 (by decide) ?_
                                refine lv_iload hx hb d_Mo_name_29 (lv_at hl 8 rfl) ?_
                                refine lv_if_eq (tgt := 316) hx hb d_Mo_name_31 (by decide) (fun c19 => ?_) (fun c19 => ?_)
                                · refine lv_aload_n hx hb d_Mo_name_316 rfl (lv_at hl 1 rfl) ?_
                                  refine va_get (D := D9) (ci := 7) (C := R_Mo) (T := F_Mo) (N := 30) hx hb hts i_Mo hown hK hP 33 ww_33 rfl 19 (by decide) (hts _ g_741) (fun _ h9 => h9) rfl d_Mo_name_317 ?_
                                  refine lv_topq (y := nI 0) (((sI18 24 (by decide)).trans ((hsI 24 (by decide)).trans h24))) ?_
                                  refine lv_if_ne (tgt := 339) hx hb d_Mo_name_320 (by decide) (fun c20 => ?_) (fun c20 => ?_)
                                  · exact absurd c20 (by decide)
                                  · have hsl0 : sl9 t pos (tb t pos + 1) = [0] := by rw [show tb t pos + 1 = 0 + 1 by omega, sl9_s (by omega), sl9_0, Nat.add_zero, show tb t pos = 0 by omega]; rfl
                                    refine lv_aload_n hx hb d_Mo_name_323 rfl (lv_at hl 1 rfl) ?_
                                    refine lv_iload hx hb d_Mo_name_324 (lv_at hl 6 rfl) ?_
                                    refine lv_if_ge (tgt := 334) hx hb d_Mo_name_326 (by decide) (fun c21 => ?_) (fun c21 => ?_)
                                    · exact absurd c21 (by decide)
                                    · refine lv_iload hx hb d_Mo_name_329 (lv_at hl 0 rfl) ?_
                                      refine lv_goto (tgt := 336) hx hb d_Mo_name_331 (by decide) ?_
                                      refine va_put (D := D9) (ty := .int) (ci := 7) (C := R_Mo) (T := F_Mo) (N := 30) hx hb hts i_Mo t_Mo t_Mo_ok n_Mo hown hK hP hD hS 33 ww_33 rfl 20 (by decide) (hts _ g_742) (fun _ h9 => h9) rfl (by decide +kernel) rfl rfl (Nat.le_of_ble_eq_true rfl) d_Mo_name_336 (fun H locs hP hD hS => ?_)
                                      obtain ⟨I22, aI22, sI22, hP, hD⟩ := fx (P := fun z => va_P D9 cls9 (WW a cB cI cJ cG z _ O) H ∧ va_D A0 (WW a cB cI cJ cG z _ O)) ⟨wp_25 hP, wd_25 hD⟩
                                      exact hret _ _ _ _ _ _ hS hP hD d_Mo_name_339 (Or.inl ⟨acc ++ [0], pos + 1, cc, by rw [hRr, rn_end (t := t) (pos := pos) (by omega) (by omega), if_pos (show Option.getD none (pos + 1) ≤ b from by show pos + 1 ≤ b; omega)]; exact rnS_s hcs, rfl, (sm_tr (sm_tr (sm_mo hsI (by decide)) (sm_mo sI18 (by decide))) (sm_mo sI22 (by decide))), by rw [((sI22 17 (by decide)).trans aI18), ← hLc, List.append_assoc, hsl0], (aI22).trans (congrArg nI (by omega)), ((sI22 22 (by decide)).trans ((sI18 22 (by decide)).trans k22)), (sm_tr (sm_mo hsF (by decide)) (sm_mo hsFc (by decide))), by rw [← List.append_assoc, ← hsl0]; exact hB9⟩)
                                · exact absurd c19 (by decide)
                              · have c17 : ¬ (tb t pos < i9) := fun z9 => c17 ((nI_ltI (a := tb t pos) (b := i9) (by omega) (by omega)).mpr z9)
                                refine lv_aload_n hx hb d_Mo_name_263 rfl (lv_at hl 0 rfl) ?_
                                refine va_get (D := D9) (ci := 7) (C := R_Mo) (T := F_Mo) (N := 30) hx hb hts i_Mo hown hK hP 33 ww_33 rfl 3 (by decide) (hts _ g_725) (fun _ h9 => h9) rfl d_Mo_name_264 ?_
                                refine lv_aload_n hx hb d_Mo_name_267 rfl (lv_at hl 0 rfl) ?_
                                refine va_get (D := D9) (ci := 7) (C := R_Mo) (T := F_Mo) (N := 30) hx hb hts i_Mo hown hK hP 33 ww_33 rfl 4 (by decide) (hts _ g_726) (fun _ h9 => h9) rfl d_Mo_name_268 ?_
                                refine lv_topq (y := nI ((L ++ acc).length)) (k17) ?_
                                refine lv_iload hx hb d_Mo_name_271 (lv_at hl 10 rfl) ?_
                                refine lv_iadd hx hb d_Mo_name_273 ?_
                                refine lv_topq (y := nI ((L ++ acc).length + i9)) (nI_add _ _) ?_
                                refine lv_aload_n hx hb d_Mo_name_274 rfl (lv_at hl 0 rfl) ?_
                                refine va_get (D := D9) (ci := 7) (C := R_Mo) (T := F_Mo) (N := 30) hx hb hts i_Mo hown hK hP 33 ww_33 rfl 1 (by decide) (hts _ g_723) (fun _ h9 => h9) rfl d_Mo_name_275 ?_
                                refine lv_iload hx hb d_Mo_name_278 (lv_at hl 4 rfl) ?_
                                refine lv_iload hx hb d_Mo_name_280 (lv_at hl 10 rfl) ?_
                                refine lv_iadd hx hb d_Mo_name_282 ?_
                                refine lv_topq (y := nI (pos + i9)) (nI_add _ _) ?_
                                refine va_bald (D := D9) hx hb hK hP 34 0 ww_34 rfl (vp_in_nI (by omega) (by decide)) d_Mo_name_283 ?_
                                refine lv_topq (y := F9 34 (pos + i9)) (by rw [nI_clamp (by omega)]; exact ((congrFun (hsFc 34 (by decide)) _).trans rfl)) ?_
                                refine va_bast (D := D9) hx hb hK hP hD hS 35 0 ww_35 rfl (vp_in_nI (by omega) (by decide)) d_Mo_name_284 (fun H locs hP hD hS => ?_)
                                obtain ⟨F23, aF23, sF23, hP, hD⟩ := fx (P := fun z => va_P D9 cls9 (WW a cB cI cJ cG _ z O) H ∧ va_D A0 (WW a cB cI cJ cG _ z O)) ⟨wpa_35 hP, wda_35 hD⟩
                                rw [nI_clamp (by omega)] at aF23
                                refine lv_iinc (lv' := [(10, .int (nI (i9 + 1))), (0, _), (1, _), (2, _), (3, _), (4, _), (5, _), (6, _), (7, _), (8, _), (9, _)]) hx hb d_Mo_name_285 hl (k := 10) rfl (nI_add _ 1) (by decide) rfl (fun ls hl => ?_)
                                refine lv_goto (tgt := 256) hx hb d_Mo_name_288 (by decide) ?_
                                have hBn := BR_put2 hB9 hLc (BR_tb hT9 (show pos + i9 < t.length by omega) (by omega) (by omega))
                                rw [List.append_assoc, ← sl9_s (by omega)] at hBn
                                exact ihc _ (by omega) (i9 + 1) _ _ _ _ (sm_tr (sm_mo hsFc (by decide)) (sm_mo sF23 (by decide))) rfl (by omega) (BR_eq hBn aF23) hP hD hS (lv_pk hl [1, 2, 3, 4, 5, 6, 7, 8, 9, 10, 0] rfl)
                          exact loopC _ 0 _ _ _ _ sm_rf rfl (Nat.zero_le _) (by rw [sl9_0, List.append_nil]; exact hB) hP hD hS (lv_pk hl [3, 4, 5, 6, 7, 8, 9, 10, 1, 2, 0] rfl)
                        · exact absurd c16 (by decide)
                      · exact absurd c15 (by decide)
                    · have c14 : ¬ (tb t pos ≤ 0) := fun z9 => c14 ((nI_leI (a := tb t pos) (b := 0) (by omega) (by omega)).mpr z9)
                      refine lv_iconst (v := 1) hx hb d_Mo_name_186 (by decide) ?_
                      refine lv_topq (y := nI 1) (rfl) ?_
                      refine lv_goto (tgt := 191) hx hb d_Mo_name_187 (by decide) ?_
                      refine lv_istore (lv' := [(8, _), (9, _), (0, _), (1, _), (2, _), (3, _), (4, _), (5, _), (6, _), (7, _)]) hx hb d_Mo_name_191 hl (by decide) rfl (fun ls hl => ?_)
                      refine lv_iload hx hb d_Mo_name_193 (lv_at hl 0 rfl) ?_
                      refine lv_if_eq (tgt := 223) hx hb d_Mo_name_195 (by decide) (fun c24 => ?_) (fun c24 => ?_)
                      · exact absurd c24 (by decide)
                      · refine lv_aload_n hx hb d_Mo_name_198 rfl (lv_at hl 2 rfl) ?_
                        refine va_get (D := D9) (ci := 7) (C := R_Mo) (T := F_Mo) (N := 30) hx hb hts i_Mo hown hK hP 33 ww_33 rfl 4 (by decide) (hts _ g_726) (fun _ h9 => h9) rfl d_Mo_name_199 ?_
                        refine lv_topq (y := nI ((L ++ acc).length)) (k17) ?_
                        refine lv_iload hx hb d_Mo_name_202 (lv_at hl 9 rfl) ?_
                        refine lv_isub hx hb d_Mo_name_204 ?_
                        refine lv_topq (y := nI sz) ((pk_sub (by omega)).trans (congrArg nI (by omega))) ?_
                        refine lv_iload hx hb d_Mo_name_205 (lv_at hl 1 rfl) ?_
                        refine lv_iadd hx hb d_Mo_name_207 ?_
                        refine lv_topq (y := nI (sz + (tb t pos))) (nI_add _ _) ?_
                        refine lv_iconst (v := 2) hx hb d_Mo_name_208 (by decide) ?_
                        refine lv_topq (y := nI 2) (rfl) ?_
                        refine lv_iadd hx hb d_Mo_name_209 ?_
                        refine lv_topq (y := nI (sz + (tb t pos) + 2)) (nI_add _ _) ?_
                        refine lv_sipush (v := 255) hx hb d_Mo_name_210 (by decide) ?_
                        refine lv_topq (y := nI 255) (rfl) ?_
                        refine lv_icmp_le (tgt := 223) hx hb d_Mo_name_213 (by decide) (fun c25 => ?_) (fun c25 => ?_)
                        · have c25 : sz + (tb t pos) + 2 ≤ 255 := (nI_leI (a := sz + (tb t pos) + 2) (b := 255) (by omega) (by omega)).mp c25
                          refine lv_iload hx hb d_Mo_name_223 (lv_at hl 0 rfl) ?_
                          refine lv_if_eq (tgt := 253) hx hb d_Mo_name_225 (by decide) (fun c26 => ?_) (fun c26 => ?_)
                          · exact absurd c26 (by decide)
                          · refine lv_aload_n hx hb d_Mo_name_228 rfl (lv_at hl 2 rfl) ?_
                            refine lv_iload hx hb d_Mo_name_229 (lv_at hl 6 rfl) ?_
                            refine lv_iconst (v := 1) hx hb d_Mo_name_231 (by decide) ?_
                            refine lv_topq (y := nI 1) (rfl) ?_
                            refine lv_iload hx hb d_Mo_name_232 (lv_at hl 1 rfl) ?_
                            refine lv_iadd hx hb d_Mo_name_234 ?_
                            refine lv_topq (y := nI (1 + (tb t pos))) (nI_add _ _) ?_
                            refine lv_iload_n hx hb d_Mo_name_235 rfl (lv_at hl 3 rfl) ?_
                            refine lv_iload hx hb d_Mo_name_236 (lv_at hl 8 rfl) ?_
                            refine lv_if_lt (tgt := 245) hx hb d_Mo_name_238 (by decide) (fun c27 => ?_) (fun c27 => ?_)
                            · refine lv_iconst (v := 0) hx hb d_Mo_name_245 (by decide) ?_
                              refine lv_topq (y := nI 0) (rfl) ?_
                              refine mw_cV (ci := 7) (k := 33) C0 (m_Mo_there l D9 cB cI cJ cG a O _ _ t (BR_eq hT (hsF 34 (by decide))) ((hsI 16 (by decide)).trans h16) htl pos (1 + tb t pos) b ind false (fun z9 => ((hsI 27 (by decide)).trans (hbe z9))) ((hsI 24 (by decide)).trans h24) (by omega) (by omega) (by omega)) g_844 g_8 g_841 g_843 gs_Mo_there ⟨by decide +kernel, by decide +kernel, show Option.map (fun d => d.parameters.length) (parseMethodDescriptor y_Mo_there.desc) = some 4 by decide +kernel⟩ ⟨by decide, by decide⟩ rfl rfl hP hD hS hA rfl ww_33 hl.1 (Nat.le_of_ble_eq_true rfl) rfl d_Mo_name_246 ⟨by decide, by decide⟩ (fun v9 w9 H locs hq hP hD hS => ?_)
                              obtain ⟨I28, F29, hw9, q30⟩ := hq
                              subst hw9
                              rcases q30 with ⟨g31, rfl, rfl, rfl⟩ | ⟨g31, rfl, sI28, ⟨z32, yz32, xz32⟩, rfl⟩
                              · have hr3 : pos + (1 + tb t pos) ≤ t.length ∧ pos + (1 + tb t pos) ≤ b := ⟨g31.1, by cases hi9 : ind with | true => exact g31.2 ⟨hi9, rfl⟩ | false => rw [hbn hi9]; exact g31.1⟩
                                rw [rn_lab (t := t) (pos := pos) (by omega) (by omega) (by omega), if_neg (show ¬ (63 < tb t pos ∨ 255 < sz + tb t pos + 2 ∨ t.length < pos + 1 + tb t pos ∨ rch t b none < pos + 1 + tb t pos) by show ¬ (_ ∨ _ ∨ _ ∨ b < _); omega), rn_ml] at hRr
                                refine lv_if_ne (tgt := 253) hx hb d_Mo_name_249 (by decide) (fun c33 => ?_) (fun c33 => ?_)
                                · refine lv_iconst (v := 0) hx hb d_Mo_name_253 (by decide) ?_
                                  refine lv_topq (y := nI 0) (rfl) ?_
                                  refine lv_istore (lv' := [(10, _), (8, _), (9, _), (0, _), (1, _), (2, _), (3, _), (4, _), (5, _), (6, _), (7, _)]) hx hb d_Mo_name_254 hl (by decide) rfl (fun ls hl => ?_)
                                  have loopC : ∀ (nc : Nat) (i9 : Nat) (Fc : Nat → Nat → Int32) (H : Heap) (locs : List Loc) (ls : Array Slot), (sm [35] F9 Fc) → (tb t pos + 1 - i9 = nc) → (i9 ≤ tb t pos + 1) → (BR 0 140000 (Fc 35) ((L ++ acc) ++ sl9 t pos i9)) → va_P D9 cls9 (WW a cB cI cJ cG I9 Fc O) H → va_D A0 (WW a cB cI cJ cG I9 Fc O) → va_S A0 s.heap H locs → lv_has ls 11 [(0, .ref (a 33)), (1, .int (bI ind)), (2, .int (bI sh)), (3, .int (nI st9)), (4, .int (nI pos)), (5, .int (nI low)), (6, .int ((-1 : Int32))), (7, .int (nI L.length)), (8, .int (nI 1)), (9, .int (nI (tb t pos))), (10, .int (nI i9))] → W p l e (rm9 2 0 0) s m ([.ref (a 33), .int (bI ind), .int (bI sh)] : List Value).toArray below meth c H locs 0 0 Q (F0 m 256 ls []) := by
                                    intro nc
                                    induction nc using Nat.strongRecOn with
                                    | ind nc ihc =>
                                      intro i9 Fc H locs ls hsFc hnc hi9 hB9 hP hD hS hl
                                      have hLc : ((L ++ acc) ++ sl9 t pos i9).length = (L ++ acc).length + i9 := by rw [List.length_append, sl9_len (by omega)]
                                      refine lv_iload hx hb d_Mo_name_256 (lv_at hl 10 rfl) ?_
                                      refine lv_iload hx hb d_Mo_name_258 (lv_at hl 9 rfl) ?_
                                      refine lv_icmp_gt (tgt := 291) hx hb d_Mo_name_260 (by decide) (fun c34 => ?_) (fun c34 => ?_)
                                      · have c34 : tb t pos < i9 := (nI_ltI (a := tb t pos) (b := i9) (by omega) (by omega)).mp c34
                                        obtain rfl : i9 = tb t pos + 1 := by omega
                                        refine lv_aload_n hx hb d_Mo_name_291 rfl (lv_at hl 0 rfl) ?_
                                        refine lv_dup hx hb d_Mo_name_292 rfl ?_
                                        refine va_get (D := D9) (ci := 7) (C := R_Mo) (T := F_Mo) (N := 30) hx hb hts i_Mo hown hK hP 33 ww_33 rfl 4 (by decide) (hts _ g_726) (fun _ h9 => h9) rfl d_Mo_name_293 ?_
                                        refine lv_topq (y := nI ((L ++ acc).length)) (k17) ?_
                                        refine lv_iload hx hb d_Mo_name_296 (lv_at hl 9 rfl) ?_
                                        refine lv_iconst (v := 1) hx hb d_Mo_name_298 (by decide) ?_
                                        refine lv_topq (y := nI 1) (rfl) ?_
                                        refine lv_iadd hx hb d_Mo_name_299 ?_
                                        refine lv_topq (y := nI (tb t pos + 1)) (nI_add _ _) ?_
                                        refine lv_iadd hx hb d_Mo_name_300 ?_
                                        refine lv_topq (y := nI ((L ++ acc).length + (tb t pos + 1))) (nI_add _ _) ?_
                                        refine va_put (D := D9) (ty := .int) (ci := 7) (C := R_Mo) (T := F_Mo) (N := 30) hx hb hts i_Mo t_Mo t_Mo_ok n_Mo hown hK hP hD hS 33 ww_33 rfl 4 (by decide) (hts _ g_726) (fun _ h9 => h9) rfl (by decide +kernel) rfl rfl (Nat.le_of_ble_eq_true rfl) d_Mo_name_301 (fun H locs hP hD hS => ?_)
                                        obtain ⟨I35, aI35, sI35, hP, hD⟩ := fx (P := fun z => va_P D9 cls9 (WW a cB cI cJ cG z _ O) H ∧ va_D A0 (WW a cB cI cJ cG z _ O)) ⟨wp_17 hP, wd_17 hD⟩
                                        refine lv_iload hx hb d_Mo_name_304 (lv_at hl 4 rfl) ?_
                                        refine lv_iload hx hb d_Mo_name_306 (lv_at hl 9 rfl) ?_
                                        refine lv_iconst (v := 1) hx hb d_Mo_name_308 (by decide) ?_
                                        refine lv_topq (y := nI 1) (rfl) ?_
                                        refine lv_iadd hx hb d_Mo_name_309 ?_
                                        refine lv_topq (y := nI (tb t pos + 1)) (nI_add _ _) ?_
                                        refine lv_iadd hx hb d_Mo_name_310 ?_
                                        refine lv_topq (y := nI (pos + (tb t pos + 1))) (nI_add _ _) ?_
                                        refine lv_istore (lv' := [(4, _), (0, _), (1, _), (2, _), (3, _), (5, _), (6, _), (7, _), (8, _), (9, _), (10, _)]) hx hb d_Mo_name_311 hl (by decide) rfl (fun ls hl => ?_)
                                        refine lv_goto (tgt := 29) hx hb d_Mo_name_313 (by decide) ?_
                                        exact ih _ (by omega) (pos + (tb t pos + 1)) low (sz + (tb t pos + 1)) none cc (acc ++ sl9 t pos (tb t pos + 1)) _ _ _ _ _ (sm_tr (sm_mo hsI (by decide)) (sm_mo sI35 (by decide))) (sm_tr (sm_mo hsF (by decide)) (sm_mo hsFc (by decide))) rfl (by show 16384 + (254 - (sz + (tb t pos + 1))) < f9; omega) hRr ⟨by rw [List.length_append, sl9_len (by omega)]; omega, by omega⟩ ⟨by omega, by omega⟩ hnz hcs (by rw [aI35, ← hLc, List.append_assoc]) ((sI35 25 (by decide)).trans k25) ((sI35 22 (by decide)).trans k22) (by rw [← List.append_assoc]; exact hB9) hP hD hS (lv_pk hl [1, 2, 3, 4, 0, 5, 6, 7, 8] rfl)
                                      · have c34 : ¬ (tb t pos < i9) := fun z9 => c34 ((nI_ltI (a := tb t pos) (b := i9) (by omega) (by omega)).mpr z9)
                                        refine lv_aload_n hx hb d_Mo_name_263 rfl (lv_at hl 0 rfl) ?_
                                        refine va_get (D := D9) (ci := 7) (C := R_Mo) (T := F_Mo) (N := 30) hx hb hts i_Mo hown hK hP 33 ww_33 rfl 3 (by decide) (hts _ g_725) (fun _ h9 => h9) rfl d_Mo_name_264 ?_
                                        refine lv_aload_n hx hb d_Mo_name_267 rfl (lv_at hl 0 rfl) ?_
                                        refine va_get (D := D9) (ci := 7) (C := R_Mo) (T := F_Mo) (N := 30) hx hb hts i_Mo hown hK hP 33 ww_33 rfl 4 (by decide) (hts _ g_726) (fun _ h9 => h9) rfl d_Mo_name_268 ?_
                                        refine lv_topq (y := nI ((L ++ acc).length)) (k17) ?_
                                        refine lv_iload hx hb d_Mo_name_271 (lv_at hl 10 rfl) ?_
                                        refine lv_iadd hx hb d_Mo_name_273 ?_
                                        refine lv_topq (y := nI ((L ++ acc).length + i9)) (nI_add _ _) ?_
                                        refine lv_aload_n hx hb d_Mo_name_274 rfl (lv_at hl 0 rfl) ?_
                                        refine va_get (D := D9) (ci := 7) (C := R_Mo) (T := F_Mo) (N := 30) hx hb hts i_Mo hown hK hP 33 ww_33 rfl 1 (by decide) (hts _ g_723) (fun _ h9 => h9) rfl d_Mo_name_275 ?_
                                        refine lv_iload hx hb d_Mo_name_278 (lv_at hl 4 rfl) ?_
                                        refine lv_iload hx hb d_Mo_name_280 (lv_at hl 10 rfl) ?_
                                        refine lv_iadd hx hb d_Mo_name_282 ?_
                                        refine lv_topq (y := nI (pos + i9)) (nI_add _ _) ?_
                                        refine va_bald (D := D9) hx hb hK hP 34 0 ww_34 rfl (vp_in_nI (by omega) (by decide)) d_Mo_name_283 ?_
                                        refine lv_topq (y := F9 34 (pos + i9)) (by rw [nI_clamp (by omega)]; exact ((congrFun (hsFc 34 (by decide)) _).trans rfl)) ?_
                                        refine va_bast (D := D9) hx hb hK hP hD hS 35 0 ww_35 rfl (vp_in_nI (by omega) (by decide)) d_Mo_name_284 (fun H locs hP hD hS => ?_)
                                        obtain ⟨F36, aF36, sF36, hP, hD⟩ := fx (P := fun z => va_P D9 cls9 (WW a cB cI cJ cG _ z O) H ∧ va_D A0 (WW a cB cI cJ cG _ z O)) ⟨wpa_35 hP, wda_35 hD⟩
                                        rw [nI_clamp (by omega)] at aF36
                                        refine lv_iinc (lv' := [(10, .int (nI (i9 + 1))), (0, _), (1, _), (2, _), (3, _), (4, _), (5, _), (6, _), (7, _), (8, _), (9, _)]) hx hb d_Mo_name_285 hl (k := 10) rfl (nI_add _ 1) (by decide) rfl (fun ls hl => ?_)
                                        refine lv_goto (tgt := 256) hx hb d_Mo_name_288 (by decide) ?_
                                        have hBn := BR_put2 hB9 hLc (BR_tb hT9 (show pos + i9 < t.length by omega) (by omega) (by omega))
                                        rw [List.append_assoc, ← sl9_s (by omega)] at hBn
                                        exact ihc _ (by omega) (i9 + 1) _ _ _ _ (sm_tr (sm_mo hsFc (by decide)) (sm_mo sF36 (by decide))) rfl (by omega) (BR_eq hBn aF36) hP hD hS (lv_pk hl [1, 2, 3, 4, 5, 6, 7, 8, 9, 10, 0] rfl)
                                  exact loopC _ 0 _ _ _ _ sm_rf rfl (Nat.zero_le _) (by rw [sl9_0, List.append_nil]; exact hB) hP hD hS (lv_pk hl [3, 4, 5, 6, 7, 8, 9, 10, 1, 2, 0] rfl)
                                · exact absurd c33 (by decide)
                              · have hno : rnS sh (rn 16639 t b st9 st9 0 none) = none := by
                                  have hq9 : 63 < tb t pos ∨ 255 < sz + tb t pos + 2 ∨ t.length < pos + 1 + tb t pos ∨ rch t b none < pos + 1 + tb t pos := by
                                    rcases Nat.lt_or_ge t.length (pos + (1 + tb t pos)) with z9 | z9; exact Or.inr (Or.inr (Or.inl (by omega))); exact Or.inr (Or.inr (Or.inr (by show b < _; rcases Nat.lt_or_ge b (pos + (1 + tb t pos)) with z8 | z8; omega; exact absurd ⟨z9, fun _ => z8⟩ g31)))
                                  rw [hRr, rn_lab (t := t) (pos := pos) (by omega) (by omega) (by omega), if_pos hq9]; rfl
                                refine lv_if_ne (tgt := 253) hx hb d_Mo_name_249 (by decide) (fun c37 => ?_) (fun c37 => ?_)
                                · exact absurd c37 (by decide)
                                · exact hret _ _ _ _ _ _ hS hP hD d_Mo_name_252 (Or.inr ⟨hno, rfl, (sm_tr (sm_mo hsI (by decide)) (sm_mo sI28 (by decide))), ⟨_, yz32, xz32⟩, (sm_mo hsF (by decide)), BR_pre hB⟩)
                            · exact absurd c27 (by decide)
                        · have c25 : ¬ (sz + (tb t pos) + 2 ≤ 255) := fun z9 => c25 ((nI_leI (a := sz + (tb t pos) + 2) (b := 255) (by omega) (by omega)).mpr z9)
                          have hno : rnS sh (rn 16639 t b st9 st9 0 none) = none := by rw [hRr, rn_lab (t := t) (pos := pos) (by omega) (by omega) (by omega), if_pos (Or.inr (Or.inl (by omega)))]; rfl
                          refine lv_aload_n hx hb d_Mo_name_216 rfl (lv_at hl 2 rfl) ?_
                          refine lv_iconst (v := 4) hx hb d_Mo_name_217 (by decide) ?_
                          refine lv_topq (y := nI 4) (rfl) ?_
                          refine lv_iload_n hx hb d_Mo_name_218 rfl (lv_at hl 5 rfl) ?_
                          refine mw_cV (ci := 7) (k := 33) C0 (m_Mo_wrong l D9 cB cI cJ cG a O _ _ (nI 4) _ ((hsI 24 (by decide)).trans h24)) g_824 g_8 g_821 g_823 gs_Mo_wrong ⟨by decide +kernel, by decide +kernel, show Option.map (fun d => d.parameters.length) (parseMethodDescriptor y_Mo_wrong.desc) = some 2 by decide +kernel⟩ ⟨by decide, by decide⟩ rfl rfl hP hD hS hA rfl ww_33 hl.1 (Nat.le_of_ble_eq_true rfl) rfl d_Mo_name_219 ⟨by decide, by decide⟩ (fun v9 w9 H locs hq hP hD hS => ?_)
                          obtain ⟨I38, F39, hw9, q40⟩ := hq
                          subst hw9
                          obtain ⟨rfl, sI38, zI38, rfl⟩ := q40
                          exact hret _ _ _ _ _ _ hS hP hD d_Mo_name_222 (Or.inr ⟨hno, rfl, (sm_tr (sm_mo hsI (by decide)) (sm_mo sI38 (by decide))), ⟨_, by decide, zI38⟩, (sm_mo hsF (by decide)), BR_pre hB⟩)
                  · have c13 : ¬ (tb t pos ≤ 63) := fun z9 => c13 ((nI_leI (a := tb t pos) (b := 63) (by omega) (by omega)).mpr z9)
                    have hno : rnS sh (rn 16639 t b st9 st9 0 none) = none := by rw [hRr, rn_lab (t := t) (pos := pos) (by omega) (by omega) (by omega), if_pos (Or.inl (by omega))]; rfl
                    refine lv_aload_n hx hb d_Mo_name_173 rfl (lv_at hl 1 rfl) ?_
                    refine lv_iconst (v := 2) hx hb d_Mo_name_174 (by decide) ?_
                    refine lv_topq (y := nI 2) (rfl) ?_
                    refine lv_iload hx hb d_Mo_name_175 (lv_at hl 5 rfl) ?_
                    refine mw_cV (ci := 7) (k := 33) C0 (m_Mo_wrong l D9 cB cI cJ cG a O _ _ (nI 2) _ ((hsI 24 (by decide)).trans h24)) g_824 g_8 g_821 g_823 gs_Mo_wrong ⟨by decide +kernel, by decide +kernel, show Option.map (fun d => d.parameters.length) (parseMethodDescriptor y_Mo_wrong.desc) = some 2 by decide +kernel⟩ ⟨by decide, by decide⟩ rfl rfl hP hD hS hA rfl ww_33 hl.1 (Nat.le_of_ble_eq_true rfl) rfl d_Mo_name_177 ⟨by decide, by decide⟩ (fun v9 w9 H locs hq hP hD hS => ?_)
                    obtain ⟨I41, F42, hw9, q43⟩ := hq
                    subst hw9
                    obtain ⟨rfl, sI41, zI41, rfl⟩ := q43
                    exact hret _ _ _ _ _ _ hS hP hD d_Mo_name_180 (Or.inr ⟨hno, rfl, (sm_tr (sm_mo hsI (by decide)) (sm_mo sI41 (by decide))), ⟨_, by decide, zI41⟩, (sm_mo hsF (by decide)), BR_pre hB⟩)
                · have c12 : ¬ (tb t pos < 192) := fun z9 => c12 ((nI_ltI (a := tb t pos) (b := 192) (by omega) (by omega)).mpr z9)
                  refine lv_aload_n hx hb d_Mo_name_71 rfl (lv_at hl 1 rfl) ?_
                  refine lv_iload hx hb d_Mo_name_72 (lv_at hl 5 rfl) ?_
                  refine lv_iconst (v := 2) hx hb d_Mo_name_74 (by decide) ?_
                  refine lv_topq (y := nI 2) (rfl) ?_
                  refine lv_iload_n hx hb d_Mo_name_75 rfl (lv_at hl 2 rfl) ?_
                  refine lv_iload hx hb d_Mo_name_76 (lv_at hl 7 rfl) ?_
                  refine lv_if_lt (tgt := 85) hx hb d_Mo_name_78 (by decide) (fun c44 => ?_) (fun c44 => ?_)
                  · refine lv_iconst (v := 0) hx hb d_Mo_name_85 (by decide) ?_
                    refine lv_topq (y := nI 0) (rfl) ?_
                    refine mw_cV (ci := 7) (k := 33) C0 (m_Mo_there l D9 cB cI cJ cG a O _ _ t (BR_eq hT (hsF 34 (by decide))) ((hsI 16 (by decide)).trans h16) htl pos 2 b ind false (fun z9 => ((hsI 27 (by decide)).trans (hbe z9))) ((hsI 24 (by decide)).trans h24) (by omega) (by omega) (by omega)) g_844 g_8 g_841 g_843 gs_Mo_there ⟨by decide +kernel, by decide +kernel, show Option.map (fun d => d.parameters.length) (parseMethodDescriptor y_Mo_there.desc) = some 4 by decide +kernel⟩ ⟨by decide, by decide⟩ rfl rfl hP hD hS hA rfl ww_33 hl.1 (Nat.le_of_ble_eq_true rfl) rfl d_Mo_name_86 ⟨by decide, by decide⟩ (fun v9 w9 H locs hq hP hD hS => ?_)
                    obtain ⟨I45, F46, hw9, q47⟩ := hq
                    subst hw9
                    rcases q47 with ⟨g48, rfl, rfl, rfl⟩ | ⟨g48, rfl, sI45, ⟨z49, yz49, xz49⟩, rfl⟩
                    · have hr2 : pos + 2 ≤ t.length ∧ pos + 2 ≤ b := ⟨g48.1, by cases hi9 : ind with | true => exact g48.2 ⟨hi9, rfl⟩ | false => rw [hbn hi9]; exact g48.1⟩
                      have hby2 : tb t (pos + 1) < 256 := BR_lt hT (by omega) (by omega) (by omega)
                      have htg : tg t pos < 16384 := Nat.mod_lt _ (by decide)
                      refine lv_if_ne (tgt := 93) hx hb d_Mo_name_89 (by decide) (fun c50 => ?_) (fun c50 => ?_)
                      · refine lv_iload_n hx hb d_Mo_name_93 rfl (lv_at hl 3 rfl) ?_
                        refine lv_if_ne (tgt := 107) hx hb d_Mo_name_94 (by decide) (fun c51 => ?_) (fun c51 => ?_)
                        · have c51 : sh = true := bI_t c51
                          have hsh := c51
                          refine lv_aload_n hx hb d_Mo_name_107 rfl (lv_at hl 1 rfl) ?_
                          refine lv_iload hx hb d_Mo_name_108 (lv_at hl 5 rfl) ?_
                          refine mw_cV (ci := 7) (k := 33) C0 (m_Mo_two l D9 cB cI cJ cG a O _ _ t (BR_eq hT (hsF 34 (by decide))) ((hsI 16 (by decide)).trans h16) htl pos (by omega)) g_828 g_8 g_825 g_827 gs_Mo_two ⟨by decide +kernel, by decide +kernel, show Option.map (fun d => d.parameters.length) (parseMethodDescriptor y_Mo_two.desc) = some 1 by decide +kernel⟩ ⟨by decide, by decide⟩ rfl rfl hP hD hS hA rfl ww_33 hl.1 (Nat.le_of_ble_eq_true rfl) rfl d_Mo_name_110 ⟨by decide, by decide⟩ (fun v9 w9 H locs hq hP hD hS => ?_)
                          obtain ⟨I52, F53, hw9, q54⟩ := hq
                          subst hw9
                          obtain ⟨rfl, rfl, rfl⟩ := q54
                          refine lv_sipush (v := 16383) hx hb d_Mo_name_113 (by decide) ?_
                          refine lv_topq (y := nI 16383) (rfl) ?_
                          refine lv_iand hx hb d_Mo_name_116 ?_
                          refine lv_topq (y := nI (tg t pos)) (pk_andN (show tb t pos * 256 + tb t (pos + 1) < 2 ^ 32 by omega) 14 (by decide)) ?_
                          refine lv_istore (lv' := [(10, _), (9, _), (0, _), (1, _), (2, _), (3, _), (4, _), (5, _), (6, _), (7, _), (8, _)]) hx hb d_Mo_name_117 hl (by decide) rfl (fun ls hl => ?_)
                          refine lv_iload hx hb d_Mo_name_119 (lv_at hl 0 rfl) ?_
                          refine lv_iload hx hb d_Mo_name_121 (lv_at hl 7 rfl) ?_
                          refine lv_icmp_lt (tgt := 134) hx hb d_Mo_name_123 (by decide) (fun c55 => ?_) (fun c55 => ?_)
                          · have c55 : tg t pos < low := (nI_ltI (a := tg t pos) (b := low) (by omega) (by omega)).mp c55
                            rw [rn_ptr (t := t) (pos := pos) (by omega) (by omega), if_neg (show ¬ (t.length < pos + 2 ∨ rch t b none < pos + 2 ∨ low ≤ tg t pos) by show ¬ (_ ∨ b < pos + 2 ∨ _); omega), rn_mp] at hRr
                            refine lv_aload_n hx hb d_Mo_name_134 rfl (lv_at hl 2 rfl) ?_
                            refine lv_dup hx hb d_Mo_name_135 rfl ?_
                            refine va_get (D := D9) (ci := 7) (C := R_Mo) (T := F_Mo) (N := 30) hx hb hts i_Mo hown hK hP 33 ww_33 rfl 17 (by decide) (hts _ g_739) (fun _ h9 => h9) rfl d_Mo_name_136 ?_
                            refine lv_topq (y := nI (fw + cc)) (k22) ?_
                            refine lv_iconst (v := 1) hx hb d_Mo_name_139 (by decide) ?_
                            refine lv_topq (y := nI 1) (rfl) ?_
                            refine lv_iadd hx hb d_Mo_name_140 ?_
                            refine lv_topq (y := nI (fw + cc + 1)) (nI_add _ _) ?_
                            refine va_put (D := D9) (ty := .int) (ci := 7) (C := R_Mo) (T := F_Mo) (N := 30) hx hb hts i_Mo t_Mo t_Mo_ok n_Mo hown hK hP hD hS 33 ww_33 rfl 17 (by decide) (hts _ g_739) (fun _ h9 => h9) rfl (by decide +kernel) rfl rfl (Nat.le_of_ble_eq_true rfl) d_Mo_name_141 (fun H locs hP hD hS => ?_)
                            obtain ⟨I56, aI56, sI56, hP, hD⟩ := fx (P := fun z => va_P D9 cls9 (WW a cB cI cJ cG z _ O) H ∧ va_D A0 (WW a cB cI cJ cG z _ O)) ⟨wp_22 hP, wd_22 hD⟩
                            refine lv_iload hx hb d_Mo_name_144 (lv_at hl 0 rfl) ?_
                            refine lv_istore (lv' := [(5, _), (10, _), (9, _), (0, _), (1, _), (2, _), (3, _), (4, _), (6, _), (7, _), (8, _)]) hx hb d_Mo_name_146 hl (by decide) rfl (fun ls hl => ?_)
                            refine lv_iload hx hb d_Mo_name_148 (lv_at hl 8 rfl) ?_
                            refine lv_if_ge (tgt := 159) hx hb d_Mo_name_150 (by decide) (fun c57 => ?_) (fun c57 => ?_)
                            · exact absurd c57 (by decide)
                            · refine lv_iload hx hb d_Mo_name_153 (lv_at hl 7 rfl) ?_
                              refine lv_iconst (v := 2) hx hb d_Mo_name_155 (by decide) ?_
                              refine lv_topq (y := nI 2) (rfl) ?_
                              refine lv_iadd hx hb d_Mo_name_156 ?_
                              refine lv_topq (y := nI (pos + 2)) (nI_add _ _) ?_
                              refine lv_istore (lv' := [(6, _), (5, _), (10, _), (9, _), (0, _), (1, _), (2, _), (3, _), (4, _), (7, _), (8, _)]) hx hb d_Mo_name_157 hl (by decide) rfl (fun ls hl => ?_)
                              refine lv_iload hx hb d_Mo_name_159 (lv_at hl 2 rfl) ?_
                              refine lv_istore (lv' := [(4, _), (6, _), (5, _), (10, _), (9, _), (0, _), (1, _), (2, _), (3, _), (7, _), (8, _)]) hx hb d_Mo_name_161 hl (by decide) rfl (fun ls hl => ?_)
                              refine lv_goto (tgt := 29) hx hb d_Mo_name_163 (by decide) ?_
                              exact ih _ (by omega) (tg t pos) (tg t pos) sz (some (pos + 2)) (cc + 1) acc _ _ _ _ _ (sm_tr (sm_mo hsI (by decide)) (sm_mo sI56 (by decide))) (sm_mo hsF (by decide)) rfl (by show tg t pos + (254 - sz) < f9; omega) hRr hz ⟨by omega, by omega⟩ (fun y hy => by cases hy; omega) (fun z9 => by rw [hsh] at z9; cases z9) ((sI56 17 (by decide)).trans k17) ((sI56 25 (by decide)).trans k25) aI56 hB hP hD hS (lv_pk hl [5, 6, 7, 8, 0, 2, 1, 9, 10] rfl)
                          · have c55 : ¬ (tg t pos < low) := fun z9 => c55 ((nI_ltI (a := tg t pos) (b := low) (by omega) (by omega)).mpr z9)
                            have hno : rnS sh (rn 16639 t b st9 st9 0 none) = none := by rw [hRr, rn_ptr (t := t) (pos := pos) (by omega) (by omega), if_pos (Or.inr (Or.inr (by omega)))]; rfl
                            refine lv_aload_n hx hb d_Mo_name_126 rfl (lv_at hl 2 rfl) ?_
                            refine lv_iconst (v := 3) hx hb d_Mo_name_127 (by decide) ?_
                            refine lv_topq (y := nI 3) (rfl) ?_
                            refine lv_iload hx hb d_Mo_name_128 (lv_at hl 6 rfl) ?_
                            refine mw_cV (ci := 7) (k := 33) C0 (m_Mo_wrong l D9 cB cI cJ cG a O _ _ (nI 3) _ ((hsI 24 (by decide)).trans h24)) g_824 g_8 g_821 g_823 gs_Mo_wrong ⟨by decide +kernel, by decide +kernel, show Option.map (fun d => d.parameters.length) (parseMethodDescriptor y_Mo_wrong.desc) = some 2 by decide +kernel⟩ ⟨by decide, by decide⟩ rfl rfl hP hD hS hA rfl ww_33 hl.1 (Nat.le_of_ble_eq_true rfl) rfl d_Mo_name_130 ⟨by decide, by decide⟩ (fun v9 w9 H locs hq hP hD hS => ?_)
                            obtain ⟨I58, F59, hw9, q60⟩ := hq
                            subst hw9
                            obtain ⟨rfl, sI58, zI58, rfl⟩ := q60
                            exact hret _ _ _ _ _ _ hS hP hD d_Mo_name_133 (Or.inr ⟨hno, rfl, (sm_tr (sm_mo hsI (by decide)) (sm_mo sI58 (by decide))), ⟨_, by decide, zI58⟩, (sm_mo hsF (by decide)), BR_pre hB⟩)
                        · have c51 : sh = false := bI_f c51
                          have hno : rnS sh (rn 16639 t b st9 st9 0 none) = none := by
                            rw [hRr, c51, rn_ptr (t := t) (pos := pos) (by omega) (by omega)]
                            split
                            · rfl
                            · rw [rn_mp]; exact rnS_p
                          refine lv_aload_n hx hb d_Mo_name_97 rfl (lv_at hl 1 rfl) ?_
                          refine lv_iconst (v := 5) hx hb d_Mo_name_98 (by decide) ?_
                          refine lv_topq (y := nI 5) (rfl) ?_
                          refine lv_aload_n hx hb d_Mo_name_99 rfl (lv_at hl 1 rfl) ?_
                          refine va_get (D := D9) (ci := 7) (C := R_Mo) (T := F_Mo) (N := 30) hx hb hts i_Mo hown hK hP 33 ww_33 rfl 21 (by decide) (hts _ g_743) (fun _ h9 => h9) rfl d_Mo_name_100 ?_
                          refine mw_cV (ci := 7) (k := 33) C0 (m_Mo_wrong l D9 cB cI cJ cG a O _ _ (nI 5) _ ((hsI 24 (by decide)).trans h24)) g_824 g_8 g_821 g_823 gs_Mo_wrong ⟨by decide +kernel, by decide +kernel, show Option.map (fun d => d.parameters.length) (parseMethodDescriptor y_Mo_wrong.desc) = some 2 by decide +kernel⟩ ⟨by decide, by decide⟩ rfl rfl hP hD hS hA rfl ww_33 hl.1 (Nat.le_of_ble_eq_true rfl) rfl d_Mo_name_103 ⟨by decide, by decide⟩ (fun v9 w9 H locs hq hP hD hS => ?_)
                          obtain ⟨I61, F62, hw9, q63⟩ := hq
                          subst hw9
                          obtain ⟨rfl, sI61, zI61, rfl⟩ := q63
                          exact hret _ _ _ _ _ _ hS hP hD d_Mo_name_106 (Or.inr ⟨hno, rfl, (sm_tr (sm_mo hsI (by decide)) (sm_mo sI61 (by decide))), ⟨_, by decide, zI61⟩, (sm_mo hsF (by decide)), BR_pre hB⟩)
                      · exact absurd c50 (by decide)
                    · have hno : rnS sh (rn 16639 t b st9 st9 0 none) = none := by
                        have hq9 : t.length < pos + 2 ∨ rch t b none < pos + 2 ∨ low ≤ tg t pos := by
                          rcases Nat.lt_or_ge t.length (pos + 2) with z9 | z9; exact Or.inl z9; exact Or.inr (Or.inl (by show b < pos + 2; rcases Nat.lt_or_ge b (pos + 2) with z8 | z8; exact z8; exact absurd ⟨z9, fun _ => z8⟩ g48))
                        rw [hRr, rn_ptr (t := t) (pos := pos) (by omega) (by omega), if_pos hq9]; rfl
                      refine lv_if_ne (tgt := 93) hx hb d_Mo_name_89 (by decide) (fun c64 => ?_) (fun c64 => ?_)
                      · exact absurd c64 (by decide)
                      · exact hret _ _ _ _ _ _ hS hP hD d_Mo_name_92 (Or.inr ⟨hno, rfl, (sm_tr (sm_mo hsI (by decide)) (sm_mo sI45 (by decide))), ⟨_, yz49, xz49⟩, (sm_mo hsF (by decide)), BR_pre hB⟩)
                  · exact absurd c44 (by decide)
            · have hno : rnS sh (rn 16639 t b st9 st9 0 none) = none := by
                rcases Nat.lt_or_ge pos t.length with z9 | z9
                · rw [hRr, rn_out (by rcases Nat.lt_or_ge b (pos + 1) with z8 | z8; exact z8; exact absurd ⟨by omega, fun _ => z8⟩ g6)]; rfl
                · rw [hRr, rn_short z9]; rfl
              refine lv_if_eq (tgt := 316) hx hb d_Mo_name_52 (by decide) (fun c65 => ?_) (fun c65 => ?_)
              · refine lv_aload_n hx hb d_Mo_name_316 rfl (lv_at hl 0 rfl) ?_
                refine va_get (D := D9) (ci := 7) (C := R_Mo) (T := F_Mo) (N := 30) hx hb hts i_Mo hown hK hP 33 ww_33 rfl 19 (by decide) (hts _ g_741) (fun _ h9 => h9) rfl d_Mo_name_317 ?_
                refine lv_topq (y := nI z7) (xz7) ?_
                refine lv_if_ne (tgt := 339) hx hb d_Mo_name_320 (by decide) (fun c66 => ?_) (fun c66 => ?_)
                · have c66 : ¬ (z7 = 0) := fun z9 => c66 ((nI_eq (a := z7) (b := 0) (by omega) (by omega)).mpr z9)
                  exact hret _ _ _ _ _ _ hS hP hD d_Mo_name_339 (Or.inr ⟨hno, rfl, (sm_tr (sm_mo hsI (by decide)) (sm_mo sI3 (by decide))), ⟨_, yz7, xz7⟩, (sm_mo hsF (by decide)), BR_pre hB⟩)
                · have c66 : z7 = 0 := (nI_eq (a := z7) (b := 0) (by omega) (by omega)).mp c66
                  refine lv_aload_n hx hb d_Mo_name_323 rfl (lv_at hl 0 rfl) ?_
                  refine lv_iload hx hb d_Mo_name_324 (lv_at hl 6 rfl) ?_
                  refine lv_if_ge (tgt := 334) hx hb d_Mo_name_326 (by decide) (fun c67 => ?_) (fun c67 => ?_)
                  · exact absurd c67 (by decide)
                  · refine lv_iload hx hb d_Mo_name_329 (lv_at hl 4 rfl) ?_
                    refine lv_goto (tgt := 336) hx hb d_Mo_name_331 (by decide) ?_
                    refine va_put (D := D9) (ty := .int) (ci := 7) (C := R_Mo) (T := F_Mo) (N := 30) hx hb hts i_Mo t_Mo t_Mo_ok n_Mo hown hK hP hD hS 33 ww_33 rfl 20 (by decide) (hts _ g_742) (fun _ h9 => h9) rfl (by decide +kernel) rfl rfl (Nat.le_of_ble_eq_true rfl) d_Mo_name_336 (fun H locs hP hD hS => ?_)
                    obtain ⟨I68, aI68, sI68, hP, hD⟩ := fx (P := fun z => va_P D9 cls9 (WW a cB cI cJ cG z _ O) H ∧ va_D A0 (WW a cB cI cJ cG z _ O)) ⟨wp_25 hP, wd_25 hD⟩
                    exact hret _ _ _ _ _ _ hS hP hD d_Mo_name_339 (Or.inr ⟨hno, rfl, (sm_tr (sm_tr (sm_mo hsI (by decide)) (sm_mo sI3 (by decide))) (sm_mo sI68 (by decide))), ⟨_, yz7, ((sI68 24 (by decide)).trans xz7)⟩, (sm_mo hsF (by decide)), BR_pre hB⟩)
              · exact absurd c65 (by decide)
          · exact absurd c2 (by decide)
      | some z =>
        have hl : lv_has ls 11 [(0, .ref (a 33)), (1, .int (bI ind)), (2, .int (bI sh)), (3, .int (nI st9)), (4, .int (nI pos)), (5, .int (nI low)), (6, .int (nI z)), (7, .int (nI L.length)), (8, .int (nI 1))] := hl
        have hzb := hnz z rfl
        have hmu : low + (254 - sz) < f9 + 1 := hmu
        refine lv_iload hx hb d_Mo_name_29 (lv_at hl 8 rfl) ?_
        refine lv_if_eq (tgt := 316) hx hb d_Mo_name_31 (by decide) (fun c69 => ?_) (fun c69 => ?_)
        · exact absurd c69 (by decide)
        · refine lv_aload_n hx hb d_Mo_name_34 rfl (lv_at hl 0 rfl) ?_
          refine lv_iload hx hb d_Mo_name_35 (lv_at hl 4 rfl) ?_
          refine lv_iconst (v := 1) hx hb d_Mo_name_37 (by decide) ?_
          refine lv_topq (y := nI 1) (rfl) ?_
          refine lv_iload_n hx hb d_Mo_name_38 rfl (lv_at hl 1 rfl) ?_
          refine lv_iload hx hb d_Mo_name_39 (lv_at hl 6 rfl) ?_
          refine lv_if_lt (tgt := 48) hx hb d_Mo_name_41 (by decide) (fun c70 => ?_) (fun c70 => ?_)
          · have c70 : z < 0 := (nI_ltI (a := z) (b := 0) (by omega) (by omega)).mp c70
            exfalso; omega
          · have c70 : ¬ (z < 0) := fun z9 => c70 ((nI_ltI (a := z) (b := 0) (by omega) (by omega)).mpr z9)
            refine lv_iconst (v := 1) hx hb d_Mo_name_44 (by decide) ?_
            refine lv_topq (y := nI 1) (rfl) ?_
            refine lv_goto (tgt := 49) hx hb d_Mo_name_45 (by decide) ?_
            refine mw_cV (ci := 7) (k := 33) C0 (m_Mo_there l D9 cB cI cJ cG a O _ _ t (BR_eq hT (hsF 34 (by decide))) ((hsI 16 (by decide)).trans h16) htl pos 1 b ind true (fun z9 => ((hsI 27 (by decide)).trans (hbe z9))) ((hsI 24 (by decide)).trans h24) (by omega) (by omega) (by omega)) g_844 g_8 g_841 g_843 gs_Mo_there ⟨by decide +kernel, by decide +kernel, show Option.map (fun d => d.parameters.length) (parseMethodDescriptor y_Mo_there.desc) = some 4 by decide +kernel⟩ ⟨by decide, by decide⟩ rfl rfl hP hD hS hA rfl ww_33 hl.1 (Nat.le_of_ble_eq_true rfl) rfl d_Mo_name_49 ⟨by decide, by decide⟩ (fun v9 w9 H locs hq hP hD hS => ?_)
            obtain ⟨I71, F72, hw9, q73⟩ := hq
            subst hw9
            rcases q73 with ⟨g74, rfl, rfl, rfl⟩ | ⟨g74, rfl, sI71, ⟨z75, yz75, xz75⟩, rfl⟩
            · have hr1 : pos + 1 ≤ t.length := g74.1
              have hby : tb t pos < 256 := BR_lt hT (by omega) (by omega) (by omega)
              refine lv_if_eq (tgt := 316) hx hb d_Mo_name_52 (by decide) (fun c76 => ?_) (fun c76 => ?_)
              · exact absurd c76 (by decide)
              · refine lv_aload_n hx hb d_Mo_name_55 rfl (lv_at hl 0 rfl) ?_
                refine lv_iload hx hb d_Mo_name_56 (lv_at hl 4 rfl) ?_
                refine mw_cV (ci := 7) (k := 33) C0 (m_Mo_here l D9 cB cI cJ cG a O _ _ t (BR_eq hT (hsF 34 (by decide))) ((hsI 16 (by decide)).trans h16) htl pos (by omega)) g_832 g_8 g_829 g_831 gs_Mo_here ⟨by decide +kernel, by decide +kernel, show Option.map (fun d => d.parameters.length) (parseMethodDescriptor y_Mo_here.desc) = some 1 by decide +kernel⟩ ⟨by decide, by decide⟩ rfl rfl hP hD hS hA rfl ww_33 hl.1 (Nat.le_of_ble_eq_true rfl) rfl d_Mo_name_58 ⟨by decide, by decide⟩ (fun v9 w9 H locs hq hP hD hS => ?_)
                obtain ⟨I77, F78, hw9, q79⟩ := hq
                subst hw9
                obtain ⟨rfl, rfl, rfl⟩ := q79
                refine lv_istore (lv' := [(9, _), (0, _), (1, _), (2, _), (3, _), (4, _), (5, _), (6, _), (7, _), (8, _)]) hx hb d_Mo_name_61 hl (by decide) rfl (fun ls hl => ?_)
                refine lv_iload hx hb d_Mo_name_63 (lv_at hl 0 rfl) ?_
                refine lv_sipush (v := 192) hx hb d_Mo_name_65 (by decide) ?_
                refine lv_topq (y := nI 192) (rfl) ?_
                refine lv_icmp_lt (tgt := 166) hx hb d_Mo_name_68 (by decide) (fun c80 => ?_) (fun c80 => ?_)
                · have c80 : tb t pos < 192 := (nI_ltI (a := tb t pos) (b := 192) (by omega) (by omega)).mp c80
                  refine lv_iload hx hb d_Mo_name_166 (lv_at hl 0 rfl) ?_
                  refine lv_bipush (v := 63) hx hb d_Mo_name_168 (by decide) ?_
                  refine lv_topq (y := nI 63) (rfl) ?_
                  refine lv_icmp_le (tgt := 181) hx hb d_Mo_name_170 (by decide) (fun c81 => ?_) (fun c81 => ?_)
                  · have c81 : tb t pos ≤ 63 := (nI_leI (a := tb t pos) (b := 63) (by omega) (by omega)).mp c81
                    refine lv_iload hx hb d_Mo_name_181 (lv_at hl 0 rfl) ?_
                    refine lv_if_le (tgt := 190) hx hb d_Mo_name_183 (by decide) (fun c82 => ?_) (fun c82 => ?_)
                    · have c82 : tb t pos ≤ 0 := (nI_leI (a := tb t pos) (b := 0) (by omega) (by omega)).mp c82
                      refine lv_iconst (v := 0) hx hb d_Mo_name_190 (by decide) ?_
                      refine lv_topq (y := nI 0) (rfl) ?_
                      refine lv_istore (lv' := [(8, _), (9, _), (0, _), (1, _), (2, _), (3, _), (4, _), (5, _), (6, _), (7, _)]) hx hb d_Mo_name_191 hl (by decide) rfl (fun ls hl => ?_)
                      refine lv_iload hx hb d_Mo_name_193 (lv_at hl 0 rfl) ?_
                      refine lv_if_eq (tgt := 223) hx hb d_Mo_name_195 (by decide) (fun c83 => ?_) (fun c83 => ?_)
                      · refine lv_iload hx hb d_Mo_name_223 (lv_at hl 0 rfl) ?_
                        refine lv_if_eq (tgt := 253) hx hb d_Mo_name_225 (by decide) (fun c84 => ?_) (fun c84 => ?_)
                        · refine lv_iconst (v := 0) hx hb d_Mo_name_253 (by decide) ?_
                          refine lv_topq (y := nI 0) (rfl) ?_
                          refine lv_istore (lv' := [(10, _), (8, _), (9, _), (0, _), (1, _), (2, _), (3, _), (4, _), (5, _), (6, _), (7, _)]) hx hb d_Mo_name_254 hl (by decide) rfl (fun ls hl => ?_)
                          have loopC : ∀ (nc : Nat) (i9 : Nat) (Fc : Nat → Nat → Int32) (H : Heap) (locs : List Loc) (ls : Array Slot), (sm [35] F9 Fc) → (tb t pos + 1 - i9 = nc) → (i9 ≤ tb t pos + 1) → (BR 0 140000 (Fc 35) ((L ++ acc) ++ sl9 t pos i9)) → va_P D9 cls9 (WW a cB cI cJ cG I9 Fc O) H → va_D A0 (WW a cB cI cJ cG I9 Fc O) → va_S A0 s.heap H locs → lv_has ls 11 [(0, .ref (a 33)), (1, .int (bI ind)), (2, .int (bI sh)), (3, .int (nI st9)), (4, .int (nI pos)), (5, .int (nI low)), (6, .int (nI z)), (7, .int (nI L.length)), (8, .int (nI 0)), (9, .int (nI (tb t pos))), (10, .int (nI i9))] → W p l e (rm9 2 0 0) s m ([.ref (a 33), .int (bI ind), .int (bI sh)] : List Value).toArray below meth c H locs 0 0 Q (F0 m 256 ls []) := by
                            intro nc
                            induction nc using Nat.strongRecOn with
                            | ind nc ihc =>
                              intro i9 Fc H locs ls hsFc hnc hi9 hB9 hP hD hS hl
                              have hLc : ((L ++ acc) ++ sl9 t pos i9).length = (L ++ acc).length + i9 := by rw [List.length_append, sl9_len (by omega)]
                              refine lv_iload hx hb d_Mo_name_256 (lv_at hl 10 rfl) ?_
                              refine lv_iload hx hb d_Mo_name_258 (lv_at hl 9 rfl) ?_
                              refine lv_icmp_gt (tgt := 291) hx hb d_Mo_name_260 (by decide) (fun c85 => ?_) (fun c85 => ?_)
                              · have c85 : tb t pos < i9 := (nI_ltI (a := tb t pos) (b := i9) (by omega) (by omega)).mp c85
                                obtain rfl : i9 = tb t pos + 1 := by omega
                                refine lv_aload_n hx hb d_Mo_name_291 rfl (lv_at hl 0 rfl) ?_
                                refine lv_dup hx hb d_Mo_name_292 rfl ?_
                                refine va_get (D := D9) (ci := 7) (C := R_Mo) (T := F_Mo) (N := 30) hx hb hts i_Mo hown hK hP 33 ww_33 rfl 4 (by decide) (hts _ g_726) (fun _ h9 => h9) rfl d_Mo_name_293 ?_
                                refine lv_topq (y := nI ((L ++ acc).length)) (k17) ?_
                                refine lv_iload hx hb d_Mo_name_296 (lv_at hl 9 rfl) ?_
                                refine lv_iconst (v := 1) hx hb d_Mo_name_298 (by decide) ?_
                                refine lv_topq (y := nI 1) (rfl) ?_
                                refine lv_iadd hx hb d_Mo_name_299 ?_
                                refine lv_topq (y := nI (tb t pos + 1)) (nI_add _ _) ?_
                                refine lv_iadd hx hb d_Mo_name_300 ?_
                                refine lv_topq (y := nI ((L ++ acc).length + (tb t pos + 1))) (nI_add _ _) ?_
                                refine va_put (D := D9) (ty := .int) (ci := 7) (C := R_Mo) (T := F_Mo) (N := 30) hx hb hts i_Mo t_Mo t_Mo_ok n_Mo hown hK hP hD hS 33 ww_33 rfl 4 (by decide) (hts _ g_726) (fun _ h9 => h9) rfl (by decide +kernel) rfl rfl (Nat.le_of_ble_eq_true rfl) d_Mo_name_301 (fun H locs hP hD hS => ?_)
                                obtain ⟨I86, aI86, sI86, hP, hD⟩ := fx (P := fun z => va_P D9 cls9 (WW a cB cI cJ cG z _ O) H ∧ va_D A0 (WW a cB cI cJ cG z _ O)) ⟨wp_17 hP, wd_17 hD⟩
                                refine lv_iload hx hb d_Mo_name_304 (lv_at hl 4 rfl) ?_
                                refine lv_iload hx hb d_Mo_name_306 (lv_at hl 9 rfl) ?_
                                refine lv_iconst (v := 1) hx hb d_Mo_name_308 (by decide) ?_
                                refine lv_topq (y := nI 1) (rfl) ?_
                                refine lv_iadd hx hb d_Mo_name_309 ?_
                                refine lv_topq (y := nI (tb t pos + 1)) (nI_add _ _) ?_
                                refine lv_iadd hx hb d_Mo_name_310 ?_
                                refine lv_topq (y := nI (pos + (tb t pos + 1))) (nI_add _ _) ?_
                                refine lv_istore (lv' := [(4, _), (0, _), (1, _), (2, _), (3, _), (5, _), (6, _), (7, _), (8, _), (9, _), (10, _)]) hx hb d_Mo_name_311 hl (by decide) rfl (fun ls hl => ?_)
                                refine lv_goto (tgt := 29) hx hb d_Mo_name_313 (by decide) ?_
                                refine lv_iload hx hb d_Mo_name_29 (lv_at hl 8 rfl) ?_
                                refine lv_if_eq (tgt := 316) hx hb d_Mo_name_31 (by decide) (fun c87 => ?_) (fun c87 => ?_)
                                · refine lv_aload_n hx hb d_Mo_name_316 rfl (lv_at hl 1 rfl) ?_
                                  refine va_get (D := D9) (ci := 7) (C := R_Mo) (T := F_Mo) (N := 30) hx hb hts i_Mo hown hK hP 33 ww_33 rfl 19 (by decide) (hts _ g_741) (fun _ h9 => h9) rfl d_Mo_name_317 ?_
                                  refine lv_topq (y := nI 0) (((sI86 24 (by decide)).trans ((hsI 24 (by decide)).trans h24))) ?_
                                  refine lv_if_ne (tgt := 339) hx hb d_Mo_name_320 (by decide) (fun c88 => ?_) (fun c88 => ?_)
                                  · exact absurd c88 (by decide)
                                  · have hsl0 : sl9 t pos (tb t pos + 1) = [0] := by rw [show tb t pos + 1 = 0 + 1 by omega, sl9_s (by omega), sl9_0, Nat.add_zero, show tb t pos = 0 by omega]; rfl
                                    refine lv_aload_n hx hb d_Mo_name_323 rfl (lv_at hl 1 rfl) ?_
                                    refine lv_iload hx hb d_Mo_name_324 (lv_at hl 6 rfl) ?_
                                    refine lv_if_ge (tgt := 334) hx hb d_Mo_name_326 (by decide) (fun c89 => ?_) (fun c89 => ?_)
                                    · have c89 : 0 ≤ z := (nI_leI (a := 0) (b := z) (by omega) (by omega)).mp c89
                                      refine lv_iload hx hb d_Mo_name_334 (lv_at hl 6 rfl) ?_
                                      refine va_put (D := D9) (ty := .int) (ci := 7) (C := R_Mo) (T := F_Mo) (N := 30) hx hb hts i_Mo t_Mo t_Mo_ok n_Mo hown hK hP hD hS 33 ww_33 rfl 20 (by decide) (hts _ g_742) (fun _ h9 => h9) rfl (by decide +kernel) rfl rfl (Nat.le_of_ble_eq_true rfl) d_Mo_name_336 (fun H locs hP hD hS => ?_)
                                      obtain ⟨I90, aI90, sI90, hP, hD⟩ := fx (P := fun z => va_P D9 cls9 (WW a cB cI cJ cG z _ O) H ∧ va_D A0 (WW a cB cI cJ cG z _ O)) ⟨wp_25 hP, wd_25 hD⟩
                                      exact hret _ _ _ _ _ _ hS hP hD d_Mo_name_339 (Or.inl ⟨acc ++ [0], z, cc, by rw [hRr, rn_end (t := t) (pos := pos) (by omega) (by omega), if_pos (show Option.getD (some z) (pos + 1) ≤ b from by show z ≤ b; omega)]; exact rnS_s hcs, rfl, (sm_tr (sm_tr (sm_mo hsI (by decide)) (sm_mo sI86 (by decide))) (sm_mo sI90 (by decide))), by rw [((sI90 17 (by decide)).trans aI86), ← hLc, List.append_assoc, hsl0], (aI90).trans (congrArg nI (by omega)), ((sI90 22 (by decide)).trans ((sI86 22 (by decide)).trans k22)), (sm_tr (sm_mo hsF (by decide)) (sm_mo hsFc (by decide))), by rw [← List.append_assoc, ← hsl0]; exact hB9⟩)
                                    · have c89 : ¬ (0 ≤ z) := fun z9 => c89 ((nI_leI (a := 0) (b := z) (by omega) (by omega)).mpr z9)
                                      exfalso; omega
                                · exact absurd c87 (by decide)
                              · have c85 : ¬ (tb t pos < i9) := fun z9 => c85 ((nI_ltI (a := tb t pos) (b := i9) (by omega) (by omega)).mpr z9)
                                refine lv_aload_n hx hb d_Mo_name_263 rfl (lv_at hl 0 rfl) ?_
                                refine va_get (D := D9) (ci := 7) (C := R_Mo) (T := F_Mo) (N := 30) hx hb hts i_Mo hown hK hP 33 ww_33 rfl 3 (by decide) (hts _ g_725) (fun _ h9 => h9) rfl d_Mo_name_264 ?_
                                refine lv_aload_n hx hb d_Mo_name_267 rfl (lv_at hl 0 rfl) ?_
                                refine va_get (D := D9) (ci := 7) (C := R_Mo) (T := F_Mo) (N := 30) hx hb hts i_Mo hown hK hP 33 ww_33 rfl 4 (by decide) (hts _ g_726) (fun _ h9 => h9) rfl d_Mo_name_268 ?_
                                refine lv_topq (y := nI ((L ++ acc).length)) (k17) ?_
                                refine lv_iload hx hb d_Mo_name_271 (lv_at hl 10 rfl) ?_
                                refine lv_iadd hx hb d_Mo_name_273 ?_
                                refine lv_topq (y := nI ((L ++ acc).length + i9)) (nI_add _ _) ?_
                                refine lv_aload_n hx hb d_Mo_name_274 rfl (lv_at hl 0 rfl) ?_
                                refine va_get (D := D9) (ci := 7) (C := R_Mo) (T := F_Mo) (N := 30) hx hb hts i_Mo hown hK hP 33 ww_33 rfl 1 (by decide) (hts _ g_723) (fun _ h9 => h9) rfl d_Mo_name_275 ?_
                                refine lv_iload hx hb d_Mo_name_278 (lv_at hl 4 rfl) ?_
                                refine lv_iload hx hb d_Mo_name_280 (lv_at hl 10 rfl) ?_
                                refine lv_iadd hx hb d_Mo_name_282 ?_
                                refine lv_topq (y := nI (pos + i9)) (nI_add _ _) ?_
                                refine va_bald (D := D9) hx hb hK hP 34 0 ww_34 rfl (vp_in_nI (by omega) (by decide)) d_Mo_name_283 ?_
                                refine lv_topq (y := F9 34 (pos + i9)) (by rw [nI_clamp (by omega)]; exact ((congrFun (hsFc 34 (by decide)) _).trans rfl)) ?_
                                refine va_bast (D := D9) hx hb hK hP hD hS 35 0 ww_35 rfl (vp_in_nI (by omega) (by decide)) d_Mo_name_284 (fun H locs hP hD hS => ?_)
                                obtain ⟨F91, aF91, sF91, hP, hD⟩ := fx (P := fun z => va_P D9 cls9 (WW a cB cI cJ cG _ z O) H ∧ va_D A0 (WW a cB cI cJ cG _ z O)) ⟨wpa_35 hP, wda_35 hD⟩
                                rw [nI_clamp (by omega)] at aF91
                                refine lv_iinc (lv' := [(10, .int (nI (i9 + 1))), (0, _), (1, _), (2, _), (3, _), (4, _), (5, _), (6, _), (7, _), (8, _), (9, _)]) hx hb d_Mo_name_285 hl (k := 10) rfl (nI_add _ 1) (by decide) rfl (fun ls hl => ?_)
                                refine lv_goto (tgt := 256) hx hb d_Mo_name_288 (by decide) ?_
                                have hBn := BR_put2 hB9 hLc (BR_tb hT9 (show pos + i9 < t.length by omega) (by omega) (by omega))
                                rw [List.append_assoc, ← sl9_s (by omega)] at hBn
                                exact ihc _ (by omega) (i9 + 1) _ _ _ _ (sm_tr (sm_mo hsFc (by decide)) (sm_mo sF91 (by decide))) rfl (by omega) (BR_eq hBn aF91) hP hD hS (lv_pk hl [1, 2, 3, 4, 5, 6, 7, 8, 9, 10, 0] rfl)
                          exact loopC _ 0 _ _ _ _ sm_rf rfl (Nat.zero_le _) (by rw [sl9_0, List.append_nil]; exact hB) hP hD hS (lv_pk hl [3, 4, 5, 6, 7, 8, 9, 10, 1, 2, 0] rfl)
                        · exact absurd c84 (by decide)
                      · exact absurd c83 (by decide)
                    · have c82 : ¬ (tb t pos ≤ 0) := fun z9 => c82 ((nI_leI (a := tb t pos) (b := 0) (by omega) (by omega)).mpr z9)
                      refine lv_iconst (v := 1) hx hb d_Mo_name_186 (by decide) ?_
                      refine lv_topq (y := nI 1) (rfl) ?_
                      refine lv_goto (tgt := 191) hx hb d_Mo_name_187 (by decide) ?_
                      refine lv_istore (lv' := [(8, _), (9, _), (0, _), (1, _), (2, _), (3, _), (4, _), (5, _), (6, _), (7, _)]) hx hb d_Mo_name_191 hl (by decide) rfl (fun ls hl => ?_)
                      refine lv_iload hx hb d_Mo_name_193 (lv_at hl 0 rfl) ?_
                      refine lv_if_eq (tgt := 223) hx hb d_Mo_name_195 (by decide) (fun c92 => ?_) (fun c92 => ?_)
                      · exact absurd c92 (by decide)
                      · refine lv_aload_n hx hb d_Mo_name_198 rfl (lv_at hl 2 rfl) ?_
                        refine va_get (D := D9) (ci := 7) (C := R_Mo) (T := F_Mo) (N := 30) hx hb hts i_Mo hown hK hP 33 ww_33 rfl 4 (by decide) (hts _ g_726) (fun _ h9 => h9) rfl d_Mo_name_199 ?_
                        refine lv_topq (y := nI ((L ++ acc).length)) (k17) ?_
                        refine lv_iload hx hb d_Mo_name_202 (lv_at hl 9 rfl) ?_
                        refine lv_isub hx hb d_Mo_name_204 ?_
                        refine lv_topq (y := nI sz) ((pk_sub (by omega)).trans (congrArg nI (by omega))) ?_
                        refine lv_iload hx hb d_Mo_name_205 (lv_at hl 1 rfl) ?_
                        refine lv_iadd hx hb d_Mo_name_207 ?_
                        refine lv_topq (y := nI (sz + (tb t pos))) (nI_add _ _) ?_
                        refine lv_iconst (v := 2) hx hb d_Mo_name_208 (by decide) ?_
                        refine lv_topq (y := nI 2) (rfl) ?_
                        refine lv_iadd hx hb d_Mo_name_209 ?_
                        refine lv_topq (y := nI (sz + (tb t pos) + 2)) (nI_add _ _) ?_
                        refine lv_sipush (v := 255) hx hb d_Mo_name_210 (by decide) ?_
                        refine lv_topq (y := nI 255) (rfl) ?_
                        refine lv_icmp_le (tgt := 223) hx hb d_Mo_name_213 (by decide) (fun c93 => ?_) (fun c93 => ?_)
                        · have c93 : sz + (tb t pos) + 2 ≤ 255 := (nI_leI (a := sz + (tb t pos) + 2) (b := 255) (by omega) (by omega)).mp c93
                          refine lv_iload hx hb d_Mo_name_223 (lv_at hl 0 rfl) ?_
                          refine lv_if_eq (tgt := 253) hx hb d_Mo_name_225 (by decide) (fun c94 => ?_) (fun c94 => ?_)
                          · exact absurd c94 (by decide)
                          · refine lv_aload_n hx hb d_Mo_name_228 rfl (lv_at hl 2 rfl) ?_
                            refine lv_iload hx hb d_Mo_name_229 (lv_at hl 6 rfl) ?_
                            refine lv_iconst (v := 1) hx hb d_Mo_name_231 (by decide) ?_
                            refine lv_topq (y := nI 1) (rfl) ?_
                            refine lv_iload hx hb d_Mo_name_232 (lv_at hl 1 rfl) ?_
                            refine lv_iadd hx hb d_Mo_name_234 ?_
                            refine lv_topq (y := nI (1 + (tb t pos))) (nI_add _ _) ?_
                            refine lv_iload_n hx hb d_Mo_name_235 rfl (lv_at hl 3 rfl) ?_
                            refine lv_iload hx hb d_Mo_name_236 (lv_at hl 8 rfl) ?_
                            refine lv_if_lt (tgt := 245) hx hb d_Mo_name_238 (by decide) (fun c95 => ?_) (fun c95 => ?_)
                            · have c95 : z < 0 := (nI_ltI (a := z) (b := 0) (by omega) (by omega)).mp c95
                              exfalso; omega
                            · have c95 : ¬ (z < 0) := fun z9 => c95 ((nI_ltI (a := z) (b := 0) (by omega) (by omega)).mpr z9)
                              refine lv_iconst (v := 1) hx hb d_Mo_name_241 (by decide) ?_
                              refine lv_topq (y := nI 1) (rfl) ?_
                              refine lv_goto (tgt := 246) hx hb d_Mo_name_242 (by decide) ?_
                              refine mw_cV (ci := 7) (k := 33) C0 (m_Mo_there l D9 cB cI cJ cG a O _ _ t (BR_eq hT (hsF 34 (by decide))) ((hsI 16 (by decide)).trans h16) htl pos (1 + tb t pos) b ind true (fun z9 => ((hsI 27 (by decide)).trans (hbe z9))) ((hsI 24 (by decide)).trans h24) (by omega) (by omega) (by omega)) g_844 g_8 g_841 g_843 gs_Mo_there ⟨by decide +kernel, by decide +kernel, show Option.map (fun d => d.parameters.length) (parseMethodDescriptor y_Mo_there.desc) = some 4 by decide +kernel⟩ ⟨by decide, by decide⟩ rfl rfl hP hD hS hA rfl ww_33 hl.1 (Nat.le_of_ble_eq_true rfl) rfl d_Mo_name_246 ⟨by decide, by decide⟩ (fun v9 w9 H locs hq hP hD hS => ?_)
                              obtain ⟨I96, F97, hw9, q98⟩ := hq
                              subst hw9
                              rcases q98 with ⟨g99, rfl, rfl, rfl⟩ | ⟨g99, rfl, sI96, ⟨z100, yz100, xz100⟩, rfl⟩
                              · have hr3 : pos + (1 + tb t pos) ≤ t.length := g99.1
                                rw [rn_lab (t := t) (pos := pos) (by omega) (by omega) (by omega), if_neg (show ¬ (63 < tb t pos ∨ 255 < sz + tb t pos + 2 ∨ t.length < pos + 1 + tb t pos ∨ rch t b (some z) < pos + 1 + tb t pos) by show ¬ (_ ∨ _ ∨ _ ∨ t.length < _); omega), rn_ml] at hRr
                                refine lv_if_ne (tgt := 253) hx hb d_Mo_name_249 (by decide) (fun c101 => ?_) (fun c101 => ?_)
                                · refine lv_iconst (v := 0) hx hb d_Mo_name_253 (by decide) ?_
                                  refine lv_topq (y := nI 0) (rfl) ?_
                                  refine lv_istore (lv' := [(10, _), (8, _), (9, _), (0, _), (1, _), (2, _), (3, _), (4, _), (5, _), (6, _), (7, _)]) hx hb d_Mo_name_254 hl (by decide) rfl (fun ls hl => ?_)
                                  have loopC : ∀ (nc : Nat) (i9 : Nat) (Fc : Nat → Nat → Int32) (H : Heap) (locs : List Loc) (ls : Array Slot), (sm [35] F9 Fc) → (tb t pos + 1 - i9 = nc) → (i9 ≤ tb t pos + 1) → (BR 0 140000 (Fc 35) ((L ++ acc) ++ sl9 t pos i9)) → va_P D9 cls9 (WW a cB cI cJ cG I9 Fc O) H → va_D A0 (WW a cB cI cJ cG I9 Fc O) → va_S A0 s.heap H locs → lv_has ls 11 [(0, .ref (a 33)), (1, .int (bI ind)), (2, .int (bI sh)), (3, .int (nI st9)), (4, .int (nI pos)), (5, .int (nI low)), (6, .int (nI z)), (7, .int (nI L.length)), (8, .int (nI 1)), (9, .int (nI (tb t pos))), (10, .int (nI i9))] → W p l e (rm9 2 0 0) s m ([.ref (a 33), .int (bI ind), .int (bI sh)] : List Value).toArray below meth c H locs 0 0 Q (F0 m 256 ls []) := by
                                    intro nc
                                    induction nc using Nat.strongRecOn with
                                    | ind nc ihc =>
                                      intro i9 Fc H locs ls hsFc hnc hi9 hB9 hP hD hS hl
                                      have hLc : ((L ++ acc) ++ sl9 t pos i9).length = (L ++ acc).length + i9 := by rw [List.length_append, sl9_len (by omega)]
                                      refine lv_iload hx hb d_Mo_name_256 (lv_at hl 10 rfl) ?_
                                      refine lv_iload hx hb d_Mo_name_258 (lv_at hl 9 rfl) ?_
                                      refine lv_icmp_gt (tgt := 291) hx hb d_Mo_name_260 (by decide) (fun c102 => ?_) (fun c102 => ?_)
                                      · have c102 : tb t pos < i9 := (nI_ltI (a := tb t pos) (b := i9) (by omega) (by omega)).mp c102
                                        obtain rfl : i9 = tb t pos + 1 := by omega
                                        refine lv_aload_n hx hb d_Mo_name_291 rfl (lv_at hl 0 rfl) ?_
                                        refine lv_dup hx hb d_Mo_name_292 rfl ?_
                                        refine va_get (D := D9) (ci := 7) (C := R_Mo) (T := F_Mo) (N := 30) hx hb hts i_Mo hown hK hP 33 ww_33 rfl 4 (by decide) (hts _ g_726) (fun _ h9 => h9) rfl d_Mo_name_293 ?_
                                        refine lv_topq (y := nI ((L ++ acc).length)) (k17) ?_
                                        refine lv_iload hx hb d_Mo_name_296 (lv_at hl 9 rfl) ?_
                                        refine lv_iconst (v := 1) hx hb d_Mo_name_298 (by decide) ?_
                                        refine lv_topq (y := nI 1) (rfl) ?_
                                        refine lv_iadd hx hb d_Mo_name_299 ?_
                                        refine lv_topq (y := nI (tb t pos + 1)) (nI_add _ _) ?_
                                        refine lv_iadd hx hb d_Mo_name_300 ?_
                                        refine lv_topq (y := nI ((L ++ acc).length + (tb t pos + 1))) (nI_add _ _) ?_
                                        refine va_put (D := D9) (ty := .int) (ci := 7) (C := R_Mo) (T := F_Mo) (N := 30) hx hb hts i_Mo t_Mo t_Mo_ok n_Mo hown hK hP hD hS 33 ww_33 rfl 4 (by decide) (hts _ g_726) (fun _ h9 => h9) rfl (by decide +kernel) rfl rfl (Nat.le_of_ble_eq_true rfl) d_Mo_name_301 (fun H locs hP hD hS => ?_)
                                        obtain ⟨I103, aI103, sI103, hP, hD⟩ := fx (P := fun z => va_P D9 cls9 (WW a cB cI cJ cG z _ O) H ∧ va_D A0 (WW a cB cI cJ cG z _ O)) ⟨wp_17 hP, wd_17 hD⟩
                                        refine lv_iload hx hb d_Mo_name_304 (lv_at hl 4 rfl) ?_
                                        refine lv_iload hx hb d_Mo_name_306 (lv_at hl 9 rfl) ?_
                                        refine lv_iconst (v := 1) hx hb d_Mo_name_308 (by decide) ?_
                                        refine lv_topq (y := nI 1) (rfl) ?_
                                        refine lv_iadd hx hb d_Mo_name_309 ?_
                                        refine lv_topq (y := nI (tb t pos + 1)) (nI_add _ _) ?_
                                        refine lv_iadd hx hb d_Mo_name_310 ?_
                                        refine lv_topq (y := nI (pos + (tb t pos + 1))) (nI_add _ _) ?_
                                        refine lv_istore (lv' := [(4, _), (0, _), (1, _), (2, _), (3, _), (5, _), (6, _), (7, _), (8, _), (9, _), (10, _)]) hx hb d_Mo_name_311 hl (by decide) rfl (fun ls hl => ?_)
                                        refine lv_goto (tgt := 29) hx hb d_Mo_name_313 (by decide) ?_
                                        exact ih _ (by omega) (pos + (tb t pos + 1)) low (sz + (tb t pos + 1)) (some z) cc (acc ++ sl9 t pos (tb t pos + 1)) _ _ _ _ _ (sm_tr (sm_mo hsI (by decide)) (sm_mo sI103 (by decide))) (sm_tr (sm_mo hsF (by decide)) (sm_mo hsFc (by decide))) rfl (by show low + (254 - (sz + (tb t pos + 1))) < f9; omega) hRr ⟨by rw [List.length_append, sl9_len (by omega)]; omega, by omega⟩ ⟨by omega, by omega⟩ hnz hcs (by rw [aI103, ← hLc, List.append_assoc]) ((sI103 25 (by decide)).trans k25) ((sI103 22 (by decide)).trans k22) (by rw [← List.append_assoc]; exact hB9) hP hD hS (lv_pk hl [1, 2, 3, 4, 0, 5, 6, 7, 8] rfl)
                                      · have c102 : ¬ (tb t pos < i9) := fun z9 => c102 ((nI_ltI (a := tb t pos) (b := i9) (by omega) (by omega)).mpr z9)
                                        refine lv_aload_n hx hb d_Mo_name_263 rfl (lv_at hl 0 rfl) ?_
                                        refine va_get (D := D9) (ci := 7) (C := R_Mo) (T := F_Mo) (N := 30) hx hb hts i_Mo hown hK hP 33 ww_33 rfl 3 (by decide) (hts _ g_725) (fun _ h9 => h9) rfl d_Mo_name_264 ?_
                                        refine lv_aload_n hx hb d_Mo_name_267 rfl (lv_at hl 0 rfl) ?_
                                        refine va_get (D := D9) (ci := 7) (C := R_Mo) (T := F_Mo) (N := 30) hx hb hts i_Mo hown hK hP 33 ww_33 rfl 4 (by decide) (hts _ g_726) (fun _ h9 => h9) rfl d_Mo_name_268 ?_
                                        refine lv_topq (y := nI ((L ++ acc).length)) (k17) ?_
                                        refine lv_iload hx hb d_Mo_name_271 (lv_at hl 10 rfl) ?_
                                        refine lv_iadd hx hb d_Mo_name_273 ?_
                                        refine lv_topq (y := nI ((L ++ acc).length + i9)) (nI_add _ _) ?_
                                        refine lv_aload_n hx hb d_Mo_name_274 rfl (lv_at hl 0 rfl) ?_
                                        refine va_get (D := D9) (ci := 7) (C := R_Mo) (T := F_Mo) (N := 30) hx hb hts i_Mo hown hK hP 33 ww_33 rfl 1 (by decide) (hts _ g_723) (fun _ h9 => h9) rfl d_Mo_name_275 ?_
                                        refine lv_iload hx hb d_Mo_name_278 (lv_at hl 4 rfl) ?_
                                        refine lv_iload hx hb d_Mo_name_280 (lv_at hl 10 rfl) ?_
                                        refine lv_iadd hx hb d_Mo_name_282 ?_
                                        refine lv_topq (y := nI (pos + i9)) (nI_add _ _) ?_
                                        refine va_bald (D := D9) hx hb hK hP 34 0 ww_34 rfl (vp_in_nI (by omega) (by decide)) d_Mo_name_283 ?_
                                        refine lv_topq (y := F9 34 (pos + i9)) (by rw [nI_clamp (by omega)]; exact ((congrFun (hsFc 34 (by decide)) _).trans rfl)) ?_
                                        refine va_bast (D := D9) hx hb hK hP hD hS 35 0 ww_35 rfl (vp_in_nI (by omega) (by decide)) d_Mo_name_284 (fun H locs hP hD hS => ?_)
                                        obtain ⟨F104, aF104, sF104, hP, hD⟩ := fx (P := fun z => va_P D9 cls9 (WW a cB cI cJ cG _ z O) H ∧ va_D A0 (WW a cB cI cJ cG _ z O)) ⟨wpa_35 hP, wda_35 hD⟩
                                        rw [nI_clamp (by omega)] at aF104
                                        refine lv_iinc (lv' := [(10, .int (nI (i9 + 1))), (0, _), (1, _), (2, _), (3, _), (4, _), (5, _), (6, _), (7, _), (8, _), (9, _)]) hx hb d_Mo_name_285 hl (k := 10) rfl (nI_add _ 1) (by decide) rfl (fun ls hl => ?_)
                                        refine lv_goto (tgt := 256) hx hb d_Mo_name_288 (by decide) ?_
                                        have hBn := BR_put2 hB9 hLc (BR_tb hT9 (show pos + i9 < t.length by omega) (by omega) (by omega))
                                        rw [List.append_assoc, ← sl9_s (by omega)] at hBn
                                        exact ihc _ (by omega) (i9 + 1) _ _ _ _ (sm_tr (sm_mo hsFc (by decide)) (sm_mo sF104 (by decide))) rfl (by omega) (BR_eq hBn aF104) hP hD hS (lv_pk hl [1, 2, 3, 4, 5, 6, 7, 8, 9, 10, 0] rfl)
                                  exact loopC _ 0 _ _ _ _ sm_rf rfl (Nat.zero_le _) (by rw [sl9_0, List.append_nil]; exact hB) hP hD hS (lv_pk hl [3, 4, 5, 6, 7, 8, 9, 10, 1, 2, 0] rfl)
                                · exact absurd c101 (by decide)
                              · have hno : rnS sh (rn 16639 t b st9 st9 0 none) = none := by
                                  have hq9 : 63 < tb t pos ∨ 255 < sz + tb t pos + 2 ∨ t.length < pos + 1 + tb t pos ∨ rch t b (some z) < pos + 1 + tb t pos := by
                                    rcases Nat.lt_or_ge t.length (pos + (1 + tb t pos)) with z9 | z9; exact Or.inr (Or.inr (Or.inl (by omega))); exact absurd ⟨z9, fun z8 => by cases z8.2⟩ g99
                                  rw [hRr, rn_lab (t := t) (pos := pos) (by omega) (by omega) (by omega), if_pos hq9]; rfl
                                refine lv_if_ne (tgt := 253) hx hb d_Mo_name_249 (by decide) (fun c105 => ?_) (fun c105 => ?_)
                                · exact absurd c105 (by decide)
                                · exact hret _ _ _ _ _ _ hS hP hD d_Mo_name_252 (Or.inr ⟨hno, rfl, (sm_tr (sm_mo hsI (by decide)) (sm_mo sI96 (by decide))), ⟨_, yz100, xz100⟩, (sm_mo hsF (by decide)), BR_pre hB⟩)
                        · have c93 : ¬ (sz + (tb t pos) + 2 ≤ 255) := fun z9 => c93 ((nI_leI (a := sz + (tb t pos) + 2) (b := 255) (by omega) (by omega)).mpr z9)
                          have hno : rnS sh (rn 16639 t b st9 st9 0 none) = none := by rw [hRr, rn_lab (t := t) (pos := pos) (by omega) (by omega) (by omega), if_pos (Or.inr (Or.inl (by omega)))]; rfl
                          refine lv_aload_n hx hb d_Mo_name_216 rfl (lv_at hl 2 rfl) ?_
                          refine lv_iconst (v := 4) hx hb d_Mo_name_217 (by decide) ?_
                          refine lv_topq (y := nI 4) (rfl) ?_
                          refine lv_iload_n hx hb d_Mo_name_218 rfl (lv_at hl 5 rfl) ?_
                          refine mw_cV (ci := 7) (k := 33) C0 (m_Mo_wrong l D9 cB cI cJ cG a O _ _ (nI 4) _ ((hsI 24 (by decide)).trans h24)) g_824 g_8 g_821 g_823 gs_Mo_wrong ⟨by decide +kernel, by decide +kernel, show Option.map (fun d => d.parameters.length) (parseMethodDescriptor y_Mo_wrong.desc) = some 2 by decide +kernel⟩ ⟨by decide, by decide⟩ rfl rfl hP hD hS hA rfl ww_33 hl.1 (Nat.le_of_ble_eq_true rfl) rfl d_Mo_name_219 ⟨by decide, by decide⟩ (fun v9 w9 H locs hq hP hD hS => ?_)
                          obtain ⟨I106, F107, hw9, q108⟩ := hq
                          subst hw9
                          obtain ⟨rfl, sI106, zI106, rfl⟩ := q108
                          exact hret _ _ _ _ _ _ hS hP hD d_Mo_name_222 (Or.inr ⟨hno, rfl, (sm_tr (sm_mo hsI (by decide)) (sm_mo sI106 (by decide))), ⟨_, by decide, zI106⟩, (sm_mo hsF (by decide)), BR_pre hB⟩)
                  · have c81 : ¬ (tb t pos ≤ 63) := fun z9 => c81 ((nI_leI (a := tb t pos) (b := 63) (by omega) (by omega)).mpr z9)
                    have hno : rnS sh (rn 16639 t b st9 st9 0 none) = none := by rw [hRr, rn_lab (t := t) (pos := pos) (by omega) (by omega) (by omega), if_pos (Or.inl (by omega))]; rfl
                    refine lv_aload_n hx hb d_Mo_name_173 rfl (lv_at hl 1 rfl) ?_
                    refine lv_iconst (v := 2) hx hb d_Mo_name_174 (by decide) ?_
                    refine lv_topq (y := nI 2) (rfl) ?_
                    refine lv_iload hx hb d_Mo_name_175 (lv_at hl 5 rfl) ?_
                    refine mw_cV (ci := 7) (k := 33) C0 (m_Mo_wrong l D9 cB cI cJ cG a O _ _ (nI 2) _ ((hsI 24 (by decide)).trans h24)) g_824 g_8 g_821 g_823 gs_Mo_wrong ⟨by decide +kernel, by decide +kernel, show Option.map (fun d => d.parameters.length) (parseMethodDescriptor y_Mo_wrong.desc) = some 2 by decide +kernel⟩ ⟨by decide, by decide⟩ rfl rfl hP hD hS hA rfl ww_33 hl.1 (Nat.le_of_ble_eq_true rfl) rfl d_Mo_name_177 ⟨by decide, by decide⟩ (fun v9 w9 H locs hq hP hD hS => ?_)
                    obtain ⟨I109, F110, hw9, q111⟩ := hq
                    subst hw9
                    obtain ⟨rfl, sI109, zI109, rfl⟩ := q111
                    exact hret _ _ _ _ _ _ hS hP hD d_Mo_name_180 (Or.inr ⟨hno, rfl, (sm_tr (sm_mo hsI (by decide)) (sm_mo sI109 (by decide))), ⟨_, by decide, zI109⟩, (sm_mo hsF (by decide)), BR_pre hB⟩)
                · have c80 : ¬ (tb t pos < 192) := fun z9 => c80 ((nI_ltI (a := tb t pos) (b := 192) (by omega) (by omega)).mpr z9)
                  refine lv_aload_n hx hb d_Mo_name_71 rfl (lv_at hl 1 rfl) ?_
                  refine lv_iload hx hb d_Mo_name_72 (lv_at hl 5 rfl) ?_
                  refine lv_iconst (v := 2) hx hb d_Mo_name_74 (by decide) ?_
                  refine lv_topq (y := nI 2) (rfl) ?_
                  refine lv_iload_n hx hb d_Mo_name_75 rfl (lv_at hl 2 rfl) ?_
                  refine lv_iload hx hb d_Mo_name_76 (lv_at hl 7 rfl) ?_
                  refine lv_if_lt (tgt := 85) hx hb d_Mo_name_78 (by decide) (fun c112 => ?_) (fun c112 => ?_)
                  · have c112 : z < 0 := (nI_ltI (a := z) (b := 0) (by omega) (by omega)).mp c112
                    exfalso; omega
                  · have c112 : ¬ (z < 0) := fun z9 => c112 ((nI_ltI (a := z) (b := 0) (by omega) (by omega)).mpr z9)
                    refine lv_iconst (v := 1) hx hb d_Mo_name_81 (by decide) ?_
                    refine lv_topq (y := nI 1) (rfl) ?_
                    refine lv_goto (tgt := 86) hx hb d_Mo_name_82 (by decide) ?_
                    refine mw_cV (ci := 7) (k := 33) C0 (m_Mo_there l D9 cB cI cJ cG a O _ _ t (BR_eq hT (hsF 34 (by decide))) ((hsI 16 (by decide)).trans h16) htl pos 2 b ind true (fun z9 => ((hsI 27 (by decide)).trans (hbe z9))) ((hsI 24 (by decide)).trans h24) (by omega) (by omega) (by omega)) g_844 g_8 g_841 g_843 gs_Mo_there ⟨by decide +kernel, by decide +kernel, show Option.map (fun d => d.parameters.length) (parseMethodDescriptor y_Mo_there.desc) = some 4 by decide +kernel⟩ ⟨by decide, by decide⟩ rfl rfl hP hD hS hA rfl ww_33 hl.1 (Nat.le_of_ble_eq_true rfl) rfl d_Mo_name_86 ⟨by decide, by decide⟩ (fun v9 w9 H locs hq hP hD hS => ?_)
                    obtain ⟨I113, F114, hw9, q115⟩ := hq
                    subst hw9
                    rcases q115 with ⟨g116, rfl, rfl, rfl⟩ | ⟨g116, rfl, sI113, ⟨z117, yz117, xz117⟩, rfl⟩
                    · have hr2 : pos + 2 ≤ t.length := g116.1
                      have hby2 : tb t (pos + 1) < 256 := BR_lt hT (by omega) (by omega) (by omega)
                      have htg : tg t pos < 16384 := Nat.mod_lt _ (by decide)
                      refine lv_if_ne (tgt := 93) hx hb d_Mo_name_89 (by decide) (fun c118 => ?_) (fun c118 => ?_)
                      · refine lv_iload_n hx hb d_Mo_name_93 rfl (lv_at hl 3 rfl) ?_
                        refine lv_if_ne (tgt := 107) hx hb d_Mo_name_94 (by decide) (fun c119 => ?_) (fun c119 => ?_)
                        · have c119 : sh = true := bI_t c119
                          have hsh := c119
                          refine lv_aload_n hx hb d_Mo_name_107 rfl (lv_at hl 1 rfl) ?_
                          refine lv_iload hx hb d_Mo_name_108 (lv_at hl 5 rfl) ?_
                          refine mw_cV (ci := 7) (k := 33) C0 (m_Mo_two l D9 cB cI cJ cG a O _ _ t (BR_eq hT (hsF 34 (by decide))) ((hsI 16 (by decide)).trans h16) htl pos (by omega)) g_828 g_8 g_825 g_827 gs_Mo_two ⟨by decide +kernel, by decide +kernel, show Option.map (fun d => d.parameters.length) (parseMethodDescriptor y_Mo_two.desc) = some 1 by decide +kernel⟩ ⟨by decide, by decide⟩ rfl rfl hP hD hS hA rfl ww_33 hl.1 (Nat.le_of_ble_eq_true rfl) rfl d_Mo_name_110 ⟨by decide, by decide⟩ (fun v9 w9 H locs hq hP hD hS => ?_)
                          obtain ⟨I120, F121, hw9, q122⟩ := hq
                          subst hw9
                          obtain ⟨rfl, rfl, rfl⟩ := q122
                          refine lv_sipush (v := 16383) hx hb d_Mo_name_113 (by decide) ?_
                          refine lv_topq (y := nI 16383) (rfl) ?_
                          refine lv_iand hx hb d_Mo_name_116 ?_
                          refine lv_topq (y := nI (tg t pos)) (pk_andN (show tb t pos * 256 + tb t (pos + 1) < 2 ^ 32 by omega) 14 (by decide)) ?_
                          refine lv_istore (lv' := [(10, _), (9, _), (0, _), (1, _), (2, _), (3, _), (4, _), (5, _), (6, _), (7, _), (8, _)]) hx hb d_Mo_name_117 hl (by decide) rfl (fun ls hl => ?_)
                          refine lv_iload hx hb d_Mo_name_119 (lv_at hl 0 rfl) ?_
                          refine lv_iload hx hb d_Mo_name_121 (lv_at hl 7 rfl) ?_
                          refine lv_icmp_lt (tgt := 134) hx hb d_Mo_name_123 (by decide) (fun c123 => ?_) (fun c123 => ?_)
                          · have c123 : tg t pos < low := (nI_ltI (a := tg t pos) (b := low) (by omega) (by omega)).mp c123
                            rw [rn_ptr (t := t) (pos := pos) (by omega) (by omega), if_neg (show ¬ (t.length < pos + 2 ∨ rch t b (some z) < pos + 2 ∨ low ≤ tg t pos) by show ¬ (_ ∨ t.length < pos + 2 ∨ _); omega), rn_mp] at hRr
                            refine lv_aload_n hx hb d_Mo_name_134 rfl (lv_at hl 2 rfl) ?_
                            refine lv_dup hx hb d_Mo_name_135 rfl ?_
                            refine va_get (D := D9) (ci := 7) (C := R_Mo) (T := F_Mo) (N := 30) hx hb hts i_Mo hown hK hP 33 ww_33 rfl 17 (by decide) (hts _ g_739) (fun _ h9 => h9) rfl d_Mo_name_136 ?_
                            refine lv_topq (y := nI (fw + cc)) (k22) ?_
                            refine lv_iconst (v := 1) hx hb d_Mo_name_139 (by decide) ?_
                            refine lv_topq (y := nI 1) (rfl) ?_
                            refine lv_iadd hx hb d_Mo_name_140 ?_
                            refine lv_topq (y := nI (fw + cc + 1)) (nI_add _ _) ?_
                            refine va_put (D := D9) (ty := .int) (ci := 7) (C := R_Mo) (T := F_Mo) (N := 30) hx hb hts i_Mo t_Mo t_Mo_ok n_Mo hown hK hP hD hS 33 ww_33 rfl 17 (by decide) (hts _ g_739) (fun _ h9 => h9) rfl (by decide +kernel) rfl rfl (Nat.le_of_ble_eq_true rfl) d_Mo_name_141 (fun H locs hP hD hS => ?_)
                            obtain ⟨I124, aI124, sI124, hP, hD⟩ := fx (P := fun z => va_P D9 cls9 (WW a cB cI cJ cG z _ O) H ∧ va_D A0 (WW a cB cI cJ cG z _ O)) ⟨wp_22 hP, wd_22 hD⟩
                            refine lv_iload hx hb d_Mo_name_144 (lv_at hl 0 rfl) ?_
                            refine lv_istore (lv' := [(5, _), (10, _), (9, _), (0, _), (1, _), (2, _), (3, _), (4, _), (6, _), (7, _), (8, _)]) hx hb d_Mo_name_146 hl (by decide) rfl (fun ls hl => ?_)
                            refine lv_iload hx hb d_Mo_name_148 (lv_at hl 8 rfl) ?_
                            refine lv_if_ge (tgt := 159) hx hb d_Mo_name_150 (by decide) (fun c125 => ?_) (fun c125 => ?_)
                            · have c125 : 0 ≤ z := (nI_leI (a := 0) (b := z) (by omega) (by omega)).mp c125
                              refine lv_iload hx hb d_Mo_name_159 (lv_at hl 1 rfl) ?_
                              refine lv_istore (lv' := [(4, _), (5, _), (10, _), (9, _), (0, _), (1, _), (2, _), (3, _), (6, _), (7, _), (8, _)]) hx hb d_Mo_name_161 hl (by decide) rfl (fun ls hl => ?_)
                              refine lv_goto (tgt := 29) hx hb d_Mo_name_163 (by decide) ?_
                              exact ih _ (by omega) (tg t pos) (tg t pos) sz (some z) (cc + 1) acc _ _ _ _ _ (sm_tr (sm_mo hsI (by decide)) (sm_mo sI124 (by decide))) (sm_mo hsF (by decide)) rfl (by show tg t pos + (254 - sz) < f9; omega) hRr hz ⟨by omega, by omega⟩ (fun y hy => by cases hy; omega) (fun z9 => by rw [hsh] at z9; cases z9) ((sI124 17 (by decide)).trans k17) ((sI124 25 (by decide)).trans k25) aI124 hB hP hD hS (lv_pk hl [4, 5, 6, 7, 0, 1, 8, 9, 10] rfl)
                            · have c125 : ¬ (0 ≤ z) := fun z9 => c125 ((nI_leI (a := 0) (b := z) (by omega) (by omega)).mpr z9)
                              exfalso; omega
                          · have c123 : ¬ (tg t pos < low) := fun z9 => c123 ((nI_ltI (a := tg t pos) (b := low) (by omega) (by omega)).mpr z9)
                            have hno : rnS sh (rn 16639 t b st9 st9 0 none) = none := by rw [hRr, rn_ptr (t := t) (pos := pos) (by omega) (by omega), if_pos (Or.inr (Or.inr (by omega)))]; rfl
                            refine lv_aload_n hx hb d_Mo_name_126 rfl (lv_at hl 2 rfl) ?_
                            refine lv_iconst (v := 3) hx hb d_Mo_name_127 (by decide) ?_
                            refine lv_topq (y := nI 3) (rfl) ?_
                            refine lv_iload hx hb d_Mo_name_128 (lv_at hl 6 rfl) ?_
                            refine mw_cV (ci := 7) (k := 33) C0 (m_Mo_wrong l D9 cB cI cJ cG a O _ _ (nI 3) _ ((hsI 24 (by decide)).trans h24)) g_824 g_8 g_821 g_823 gs_Mo_wrong ⟨by decide +kernel, by decide +kernel, show Option.map (fun d => d.parameters.length) (parseMethodDescriptor y_Mo_wrong.desc) = some 2 by decide +kernel⟩ ⟨by decide, by decide⟩ rfl rfl hP hD hS hA rfl ww_33 hl.1 (Nat.le_of_ble_eq_true rfl) rfl d_Mo_name_130 ⟨by decide, by decide⟩ (fun v9 w9 H locs hq hP hD hS => ?_)
                            obtain ⟨I126, F127, hw9, q128⟩ := hq
                            subst hw9
                            obtain ⟨rfl, sI126, zI126, rfl⟩ := q128
                            exact hret _ _ _ _ _ _ hS hP hD d_Mo_name_133 (Or.inr ⟨hno, rfl, (sm_tr (sm_mo hsI (by decide)) (sm_mo sI126 (by decide))), ⟨_, by decide, zI126⟩, (sm_mo hsF (by decide)), BR_pre hB⟩)
                        · have c119 : sh = false := bI_f c119
                          have hno : rnS sh (rn 16639 t b st9 st9 0 none) = none := by
                            rw [hRr, c119, rn_ptr (t := t) (pos := pos) (by omega) (by omega)]
                            split
                            · rfl
                            · rw [rn_mp]; exact rnS_p
                          refine lv_aload_n hx hb d_Mo_name_97 rfl (lv_at hl 1 rfl) ?_
                          refine lv_iconst (v := 5) hx hb d_Mo_name_98 (by decide) ?_
                          refine lv_topq (y := nI 5) (rfl) ?_
                          refine lv_aload_n hx hb d_Mo_name_99 rfl (lv_at hl 1 rfl) ?_
                          refine va_get (D := D9) (ci := 7) (C := R_Mo) (T := F_Mo) (N := 30) hx hb hts i_Mo hown hK hP 33 ww_33 rfl 21 (by decide) (hts _ g_743) (fun _ h9 => h9) rfl d_Mo_name_100 ?_
                          refine mw_cV (ci := 7) (k := 33) C0 (m_Mo_wrong l D9 cB cI cJ cG a O _ _ (nI 5) _ ((hsI 24 (by decide)).trans h24)) g_824 g_8 g_821 g_823 gs_Mo_wrong ⟨by decide +kernel, by decide +kernel, show Option.map (fun d => d.parameters.length) (parseMethodDescriptor y_Mo_wrong.desc) = some 2 by decide +kernel⟩ ⟨by decide, by decide⟩ rfl rfl hP hD hS hA rfl ww_33 hl.1 (Nat.le_of_ble_eq_true rfl) rfl d_Mo_name_103 ⟨by decide, by decide⟩ (fun v9 w9 H locs hq hP hD hS => ?_)
                          obtain ⟨I129, F130, hw9, q131⟩ := hq
                          subst hw9
                          obtain ⟨rfl, sI129, zI129, rfl⟩ := q131
                          exact hret _ _ _ _ _ _ hS hP hD d_Mo_name_106 (Or.inr ⟨hno, rfl, (sm_tr (sm_mo hsI (by decide)) (sm_mo sI129 (by decide))), ⟨_, by decide, zI129⟩, (sm_mo hsF (by decide)), BR_pre hB⟩)
                      · exact absurd c118 (by decide)
                    · have hno : rnS sh (rn 16639 t b st9 st9 0 none) = none := by
                        have hq9 : t.length < pos + 2 ∨ rch t b (some z) < pos + 2 ∨ low ≤ tg t pos := by
                          rcases Nat.lt_or_ge t.length (pos + 2) with z9 | z9; exact Or.inl z9; exact absurd ⟨z9, fun z8 => by cases z8.2⟩ g116
                        rw [hRr, rn_ptr (t := t) (pos := pos) (by omega) (by omega), if_pos hq9]; rfl
                      refine lv_if_ne (tgt := 93) hx hb d_Mo_name_89 (by decide) (fun c132 => ?_) (fun c132 => ?_)
                      · exact absurd c132 (by decide)
                      · exact hret _ _ _ _ _ _ hS hP hD d_Mo_name_92 (Or.inr ⟨hno, rfl, (sm_tr (sm_mo hsI (by decide)) (sm_mo sI113 (by decide))), ⟨_, yz117, xz117⟩, (sm_mo hsF (by decide)), BR_pre hB⟩)
            · have hno : rnS sh (rn 16639 t b st9 st9 0 none) = none := by
                have hq9 : t.length ≤ pos := by rcases Nat.lt_or_ge pos t.length with z9 | z9; exact absurd ⟨by omega, fun z8 => by cases z8.2⟩ g74; exact z9
                rw [hRr, rn_short hq9]; rfl
              refine lv_if_eq (tgt := 316) hx hb d_Mo_name_52 (by decide) (fun c133 => ?_) (fun c133 => ?_)
              · refine lv_aload_n hx hb d_Mo_name_316 rfl (lv_at hl 0 rfl) ?_
                refine va_get (D := D9) (ci := 7) (C := R_Mo) (T := F_Mo) (N := 30) hx hb hts i_Mo hown hK hP 33 ww_33 rfl 19 (by decide) (hts _ g_741) (fun _ h9 => h9) rfl d_Mo_name_317 ?_
                refine lv_topq (y := nI z75) (xz75) ?_
                refine lv_if_ne (tgt := 339) hx hb d_Mo_name_320 (by decide) (fun c134 => ?_) (fun c134 => ?_)
                · have c134 : ¬ (z75 = 0) := fun z9 => c134 ((nI_eq (a := z75) (b := 0) (by omega) (by omega)).mpr z9)
                  exact hret _ _ _ _ _ _ hS hP hD d_Mo_name_339 (Or.inr ⟨hno, rfl, (sm_tr (sm_mo hsI (by decide)) (sm_mo sI71 (by decide))), ⟨_, yz75, xz75⟩, (sm_mo hsF (by decide)), BR_pre hB⟩)
                · have c134 : z75 = 0 := (nI_eq (a := z75) (b := 0) (by omega) (by omega)).mp c134
                  refine lv_aload_n hx hb d_Mo_name_323 rfl (lv_at hl 0 rfl) ?_
                  refine lv_iload hx hb d_Mo_name_324 (lv_at hl 6 rfl) ?_
                  refine lv_if_ge (tgt := 334) hx hb d_Mo_name_326 (by decide) (fun c135 => ?_) (fun c135 => ?_)
                  · have c135 : 0 ≤ z := (nI_leI (a := 0) (b := z) (by omega) (by omega)).mp c135
                    refine lv_iload hx hb d_Mo_name_334 (lv_at hl 6 rfl) ?_
                    refine va_put (D := D9) (ty := .int) (ci := 7) (C := R_Mo) (T := F_Mo) (N := 30) hx hb hts i_Mo t_Mo t_Mo_ok n_Mo hown hK hP hD hS 33 ww_33 rfl 20 (by decide) (hts _ g_742) (fun _ h9 => h9) rfl (by decide +kernel) rfl rfl (Nat.le_of_ble_eq_true rfl) d_Mo_name_336 (fun H locs hP hD hS => ?_)
                    obtain ⟨I136, aI136, sI136, hP, hD⟩ := fx (P := fun z => va_P D9 cls9 (WW a cB cI cJ cG z _ O) H ∧ va_D A0 (WW a cB cI cJ cG z _ O)) ⟨wp_25 hP, wd_25 hD⟩
                    exact hret _ _ _ _ _ _ hS hP hD d_Mo_name_339 (Or.inr ⟨hno, rfl, (sm_tr (sm_tr (sm_mo hsI (by decide)) (sm_mo sI71 (by decide))) (sm_mo sI136 (by decide))), ⟨_, yz75, ((sI136 24 (by decide)).trans xz75)⟩, (sm_mo hsF (by decide)), BR_pre hB⟩)
                  · have c135 : ¬ (0 ≤ z) := fun z9 => c135 ((nI_leI (a := 0) (b := z) (by omega) (by omega)).mpr z9)
                    exfalso; omega
              · exact absurd c133 (by decide)
  exact loop1 _ st9 st9 0 none 0 [] _ _ _ _ _ sm_rf sm_rf rfl (by show 16384 + (254 - 0) < 16639; decide) (rn_id _) ⟨rfl, by decide⟩ ⟨hst9, hst9⟩ (fun z hz => by cases hz) (fun _ => rfl) (by rw [List.append_nil]; exact h17) h25 h22 (by rw [List.append_nil]; exact hBL) hP hD hS (lv_pk hl [6, 7, 8, 5, 4, 3, 2, 1, 0] rfl)
