theorem lo16 (x : Int32) {m : Int32} (hm : m = nI 65535) : x &&& m = nI (un x % 65536) := by rw [hm]; exact pk_and x 16 (by decide)
theorem lo16_lt (x : Int32) : un x % 65536 < 65536 := Nat.mod_lt _ (by decide)
theorem m1_ne {n : Nat} (h : n < 2 ^ 31) : ¬ (-1 : Int32) = nI n := fun z => by
  have := nI_pos h
  rw [← z] at this
  exact this (by decide)
theorem g_882 : (Cond.constant "WireMessagesModel" (141 : Nat) (65535 : Int32)) ∈ GT := gt_mem 882 (by decide +kernel) rfl
theorem g_887 : (Cond.methodLink "WireMessagesModel" (142 : Nat) ({ cls := "WireMessagesModel", name := "wholeName", desc := "(I)I" } : MethodName)) ∈ GT := gt_mem 887 (by decide +kernel) rfl
theorem g_889 : (Cond.instanceMethod ({ cls := "WireMessagesModel", name := "wholeName", desc := "(I)I" } : MethodName)) ∈ GT := gt_mem 889 (by decide +kernel) rfl
theorem g_890 : (Cond.code ({ cls := "WireMessagesModel", name := "wholeName", desc := "(I)I" } : MethodName) prog_10_method_21_code (3 : Nat) (Option.some FieldType.int)) ∈ GT := gt_mem 890 (by decide +kernel) rfl
theorem gs_Mo_wholeName : Cond.selects R_Mo y_Mo_wholeName y_Mo_wholeName ∈ GT := gt_sel (q := (⟨"WireMessagesModel", "wholeName", "(I)I"⟩, 30)) (by decide +kernel)
theorem d_Mo_fits_0 : decode b_Mo_fits 0 = .ok (.aload_n 0, 1) := by decide +kernel
theorem d_Mo_fits_1 : decode b_Mo_fits 1 = .ok (.getfield 86, 3) := by decide +kernel
theorem d_Mo_fits_4 : decode b_Mo_fits 4 = .ok (.iload_n 2, 1) := by decide +kernel
theorem d_Mo_fits_5 : decode b_Mo_fits 5 = .ok (.isub, 1) := by decide +kernel
theorem d_Mo_fits_6 : decode b_Mo_fits 6 = .ok (.istore 4, 2) := by decide +kernel
theorem d_Mo_fits_8 : decode b_Mo_fits 8 = .ok (.iload_n 1, 1) := by decide +kernel
theorem d_Mo_fits_9 : decode b_Mo_fits 9 = .ok (.lookupswitch 285 #[(1, 91), (2, 116), (5, 116), (6, 188), (12, 116), (15, 134), (16, 235), (28, 103), (33, 160), (41, 283)], 91) := by decide +kernel
theorem d_Mo_fits_100 : decode b_Mo_fits 100 = .ok (.iload 4, 2) := by decide +kernel
theorem d_Mo_fits_102 : decode b_Mo_fits 102 = .ok (.iconst 4, 1) := by decide +kernel
theorem d_Mo_fits_103 : decode b_Mo_fits 103 = .ok (.if_icmp .ne 7, 3) := by decide +kernel
theorem d_Mo_fits_106 : decode b_Mo_fits 106 = .ok (.iconst 1, 1) := by decide +kernel
theorem d_Mo_fits_107 : decode b_Mo_fits 107 = .ok (.goto 4, 3) := by decide +kernel
theorem d_Mo_fits_110 : decode b_Mo_fits 110 = .ok (.iconst 0, 1) := by decide +kernel
theorem d_Mo_fits_111 : decode b_Mo_fits 111 = .ok (.ireturn, 1) := by decide +kernel
theorem d_Mo_fits_112 : decode b_Mo_fits 112 = .ok (.iload 4, 2) := by decide +kernel
theorem d_Mo_fits_114 : decode b_Mo_fits 114 = .ok (.bipush 16, 2) := by decide +kernel
theorem d_Mo_fits_116 : decode b_Mo_fits 116 = .ok (.if_icmp .ne 7, 3) := by decide +kernel
theorem d_Mo_fits_119 : decode b_Mo_fits 119 = .ok (.iconst 1, 1) := by decide +kernel
theorem d_Mo_fits_120 : decode b_Mo_fits 120 = .ok (.goto 4, 3) := by decide +kernel
theorem d_Mo_fits_123 : decode b_Mo_fits 123 = .ok (.iconst 0, 1) := by decide +kernel
theorem d_Mo_fits_124 : decode b_Mo_fits 124 = .ok (.ireturn, 1) := by decide +kernel
theorem d_Mo_fits_125 : decode b_Mo_fits 125 = .ok (.aload_n 0, 1) := by decide +kernel
theorem d_Mo_fits_126 : decode b_Mo_fits 126 = .ok (.iload_n 2, 1) := by decide +kernel
theorem d_Mo_fits_127 : decode b_Mo_fits 127 = .ok (.invokevirtual 142, 3) := by decide +kernel
theorem d_Mo_fits_130 : decode b_Mo_fits 130 = .ok (.aload_n 0, 1) := by decide +kernel
theorem d_Mo_fits_131 : decode b_Mo_fits 131 = .ok (.getfield 86, 3) := by decide +kernel
theorem d_Mo_fits_134 : decode b_Mo_fits 134 = .ok (.if_icmp .ne 7, 3) := by decide +kernel
theorem d_Mo_fits_137 : decode b_Mo_fits 137 = .ok (.iconst 1, 1) := by decide +kernel
theorem d_Mo_fits_138 : decode b_Mo_fits 138 = .ok (.goto 4, 3) := by decide +kernel
theorem d_Mo_fits_141 : decode b_Mo_fits 141 = .ok (.iconst 0, 1) := by decide +kernel
theorem d_Mo_fits_142 : decode b_Mo_fits 142 = .ok (.ireturn, 1) := by decide +kernel
theorem d_Mo_fits_143 : decode b_Mo_fits 143 = .ok (.iload 4, 2) := by decide +kernel
theorem d_Mo_fits_145 : decode b_Mo_fits 145 = .ok (.iconst 2, 1) := by decide +kernel
theorem d_Mo_fits_146 : decode b_Mo_fits 146 = .ok (.if_icmp .le 21, 3) := by decide +kernel
theorem d_Mo_fits_149 : decode b_Mo_fits 149 = .ok (.aload_n 0, 1) := by decide +kernel
theorem d_Mo_fits_150 : decode b_Mo_fits 150 = .ok (.iload_n 2, 1) := by decide +kernel
theorem d_Mo_fits_151 : decode b_Mo_fits 151 = .ok (.iconst 2, 1) := by decide +kernel
theorem d_Mo_fits_152 : decode b_Mo_fits 152 = .ok (.iadd, 1) := by decide +kernel
theorem d_Mo_fits_153 : decode b_Mo_fits 153 = .ok (.invokevirtual 142, 3) := by decide +kernel
theorem d_Mo_fits_156 : decode b_Mo_fits 156 = .ok (.aload_n 0, 1) := by decide +kernel
theorem d_Mo_fits_157 : decode b_Mo_fits 157 = .ok (.getfield 86, 3) := by decide +kernel
theorem d_Mo_fits_160 : decode b_Mo_fits 160 = .ok (.if_icmp .ne 7, 3) := by decide +kernel
theorem d_Mo_fits_163 : decode b_Mo_fits 163 = .ok (.iconst 1, 1) := by decide +kernel
theorem d_Mo_fits_164 : decode b_Mo_fits 164 = .ok (.goto 4, 3) := by decide +kernel
theorem d_Mo_fits_167 : decode b_Mo_fits 167 = .ok (.iconst 0, 1) := by decide +kernel
theorem d_Mo_fits_168 : decode b_Mo_fits 168 = .ok (.ireturn, 1) := by decide +kernel
theorem d_Mo_fits_169 : decode b_Mo_fits 169 = .ok (.iload 4, 2) := by decide +kernel
theorem d_Mo_fits_171 : decode b_Mo_fits 171 = .ok (.bipush 6, 2) := by decide +kernel
theorem d_Mo_fits_173 : decode b_Mo_fits 173 = .ok (.if_icmp .le 22, 3) := by decide +kernel
theorem d_Mo_fits_176 : decode b_Mo_fits 176 = .ok (.aload_n 0, 1) := by decide +kernel
theorem d_Mo_fits_177 : decode b_Mo_fits 177 = .ok (.iload_n 2, 1) := by decide +kernel
theorem d_Mo_fits_178 : decode b_Mo_fits 178 = .ok (.bipush 6, 2) := by decide +kernel
theorem d_Mo_fits_180 : decode b_Mo_fits 180 = .ok (.iadd, 1) := by decide +kernel
theorem d_Mo_fits_181 : decode b_Mo_fits 181 = .ok (.invokevirtual 142, 3) := by decide +kernel
theorem d_Mo_fits_184 : decode b_Mo_fits 184 = .ok (.aload_n 0, 1) := by decide +kernel
theorem d_Mo_fits_185 : decode b_Mo_fits 185 = .ok (.getfield 86, 3) := by decide +kernel
theorem d_Mo_fits_188 : decode b_Mo_fits 188 = .ok (.if_icmp .ne 7, 3) := by decide +kernel
theorem d_Mo_fits_191 : decode b_Mo_fits 191 = .ok (.iconst 1, 1) := by decide +kernel
theorem d_Mo_fits_192 : decode b_Mo_fits 192 = .ok (.goto 4, 3) := by decide +kernel
theorem d_Mo_fits_195 : decode b_Mo_fits 195 = .ok (.iconst 0, 1) := by decide +kernel
theorem d_Mo_fits_196 : decode b_Mo_fits 196 = .ok (.ireturn, 1) := by decide +kernel
theorem d_Mo_fits_197 : decode b_Mo_fits 197 = .ok (.aload_n 0, 1) := by decide +kernel
theorem d_Mo_fits_198 : decode b_Mo_fits 198 = .ok (.iload_n 2, 1) := by decide +kernel
theorem d_Mo_fits_199 : decode b_Mo_fits 199 = .ok (.invokevirtual 142, 3) := by decide +kernel
theorem d_Mo_fits_202 : decode b_Mo_fits 202 = .ok (.istore 5, 2) := by decide +kernel
theorem d_Mo_fits_204 : decode b_Mo_fits 204 = .ok (.iload 5, 2) := by decide +kernel
theorem d_Mo_fits_206 : decode b_Mo_fits 206 = .ok (.ifCond .ge 7, 3) := by decide +kernel
theorem d_Mo_fits_209 : decode b_Mo_fits 209 = .ok (.iconst (-1), 1) := by decide +kernel
theorem d_Mo_fits_210 : decode b_Mo_fits 210 = .ok (.goto 9, 3) := by decide +kernel
theorem d_Mo_fits_213 : decode b_Mo_fits 213 = .ok (.aload_n 0, 1) := by decide +kernel
theorem d_Mo_fits_214 : decode b_Mo_fits 214 = .ok (.iload 5, 2) := by decide +kernel
theorem d_Mo_fits_216 : decode b_Mo_fits 216 = .ok (.invokevirtual 142, 3) := by decide +kernel
theorem d_Mo_fits_219 : decode b_Mo_fits 219 = .ok (.istore 6, 2) := by decide +kernel
theorem d_Mo_fits_221 : decode b_Mo_fits 221 = .ok (.iload 6, 2) := by decide +kernel
theorem d_Mo_fits_223 : decode b_Mo_fits 223 = .ok (.ifCond .le 19, 3) := by decide +kernel
theorem d_Mo_fits_226 : decode b_Mo_fits 226 = .ok (.iload 6, 2) := by decide +kernel
theorem d_Mo_fits_228 : decode b_Mo_fits 228 = .ok (.bipush 20, 2) := by decide +kernel
theorem d_Mo_fits_230 : decode b_Mo_fits 230 = .ok (.iadd, 1) := by decide +kernel
theorem d_Mo_fits_231 : decode b_Mo_fits 231 = .ok (.aload_n 0, 1) := by decide +kernel
theorem d_Mo_fits_232 : decode b_Mo_fits 232 = .ok (.getfield 86, 3) := by decide +kernel
theorem d_Mo_fits_235 : decode b_Mo_fits 235 = .ok (.if_icmp .ne 7, 3) := by decide +kernel
theorem d_Mo_fits_238 : decode b_Mo_fits 238 = .ok (.iconst 1, 1) := by decide +kernel
theorem d_Mo_fits_239 : decode b_Mo_fits 239 = .ok (.goto 4, 3) := by decide +kernel
theorem d_Mo_fits_242 : decode b_Mo_fits 242 = .ok (.iconst 0, 1) := by decide +kernel
theorem d_Mo_fits_243 : decode b_Mo_fits 243 = .ok (.ireturn, 1) := by decide +kernel
theorem d_Mo_fits_244 : decode b_Mo_fits 244 = .ok (.iload_n 2, 1) := by decide +kernel
theorem d_Mo_fits_245 : decode b_Mo_fits 245 = .ok (.istore 7, 2) := by decide +kernel
theorem d_Mo_fits_247 : decode b_Mo_fits 247 = .ok (.iload 7, 2) := by decide +kernel
theorem d_Mo_fits_249 : decode b_Mo_fits 249 = .ok (.aload_n 0, 1) := by decide +kernel
theorem d_Mo_fits_250 : decode b_Mo_fits 250 = .ok (.getfield 86, 3) := by decide +kernel
theorem d_Mo_fits_253 : decode b_Mo_fits 253 = .ok (.if_icmp .ge 19, 3) := by decide +kernel
theorem d_Mo_fits_256 : decode b_Mo_fits 256 = .ok (.iload 7, 2) := by decide +kernel
theorem d_Mo_fits_258 : decode b_Mo_fits 258 = .ok (.iconst 1, 1) := by decide +kernel
theorem d_Mo_fits_259 : decode b_Mo_fits 259 = .ok (.aload_n 0, 1) := by decide +kernel
theorem d_Mo_fits_260 : decode b_Mo_fits 260 = .ok (.iload 7, 2) := by decide +kernel
theorem d_Mo_fits_262 : decode b_Mo_fits 262 = .ok (.invokevirtual 83, 3) := by decide +kernel
theorem d_Mo_fits_265 : decode b_Mo_fits 265 = .ok (.iadd, 1) := by decide +kernel
theorem d_Mo_fits_266 : decode b_Mo_fits 266 = .ok (.iadd, 1) := by decide +kernel
theorem d_Mo_fits_267 : decode b_Mo_fits 267 = .ok (.istore 7, 2) := by decide +kernel
theorem d_Mo_fits_269 : decode b_Mo_fits 269 = .ok (.goto (-22), 3) := by decide +kernel
theorem d_Mo_fits_272 : decode b_Mo_fits 272 = .ok (.iload 4, 2) := by decide +kernel
theorem d_Mo_fits_274 : decode b_Mo_fits 274 = .ok (.ifCond .le 16, 3) := by decide +kernel
theorem d_Mo_fits_277 : decode b_Mo_fits 277 = .ok (.iload 7, 2) := by decide +kernel
theorem d_Mo_fits_279 : decode b_Mo_fits 279 = .ok (.aload_n 0, 1) := by decide +kernel
theorem d_Mo_fits_280 : decode b_Mo_fits 280 = .ok (.getfield 86, 3) := by decide +kernel
theorem d_Mo_fits_283 : decode b_Mo_fits 283 = .ok (.if_icmp .ne 7, 3) := by decide +kernel
theorem d_Mo_fits_286 : decode b_Mo_fits 286 = .ok (.iconst 1, 1) := by decide +kernel
theorem d_Mo_fits_287 : decode b_Mo_fits 287 = .ok (.goto 4, 3) := by decide +kernel
theorem d_Mo_fits_290 : decode b_Mo_fits 290 = .ok (.iconst 0, 1) := by decide +kernel
theorem d_Mo_fits_291 : decode b_Mo_fits 291 = .ok (.ireturn, 1) := by decide +kernel
theorem d_Mo_fits_292 : decode b_Mo_fits 292 = .ok (.iload_n 3, 1) := by decide +kernel
theorem d_Mo_fits_293 : decode b_Mo_fits 293 = .ok (.ireturn, 1) := by decide +kernel
theorem d_Mo_fits_294 : decode b_Mo_fits 294 = .ok (.iconst 1, 1) := by decide +kernel
theorem d_Mo_fits_295 : decode b_Mo_fits 295 = .ok (.ireturn, 1) := by decide +kernel
theorem d_Mo_gathered_0 : decode b_Mo_gathered 0 = .ok (.aload_n 0, 1) := by decide +kernel
theorem d_Mo_gathered_1 : decode b_Mo_gathered 1 = .ok (.getfield 67, 3) := by decide +kernel
theorem d_Mo_gathered_4 : decode b_Mo_gathered 4 = .ok (.istore 6, 2) := by decide +kernel
theorem d_Mo_gathered_6 : decode b_Mo_gathered 6 = .ok (.aload_n 0, 1) := by decide +kernel
theorem d_Mo_gathered_7 : decode b_Mo_gathered 7 = .ok (.getfield 18, 3) := by decide +kernel
theorem d_Mo_gathered_10 : decode b_Mo_gathered 10 = .ok (.iload 6, 2) := by decide +kernel
theorem d_Mo_gathered_12 : decode b_Mo_gathered 12 = .ok (.iload_n 1, 1) := by decide +kernel
theorem d_Mo_gathered_13 : decode b_Mo_gathered 13 = .ok (.iastore, 1) := by decide +kernel
theorem d_Mo_gathered_14 : decode b_Mo_gathered 14 = .ok (.aload_n 0, 1) := by decide +kernel
theorem d_Mo_gathered_15 : decode b_Mo_gathered 15 = .ok (.getfield 22, 3) := by decide +kernel
theorem d_Mo_gathered_18 : decode b_Mo_gathered 18 = .ok (.iload 6, 2) := by decide +kernel
theorem d_Mo_gathered_20 : decode b_Mo_gathered 20 = .ok (.iload_n 2, 1) := by decide +kernel
theorem d_Mo_gathered_21 : decode b_Mo_gathered 21 = .ok (.iastore, 1) := by decide +kernel
theorem d_Mo_gathered_22 : decode b_Mo_gathered 22 = .ok (.aload_n 0, 1) := by decide +kernel
theorem d_Mo_gathered_23 : decode b_Mo_gathered 23 = .ok (.getfield 25, 3) := by decide +kernel
theorem d_Mo_gathered_26 : decode b_Mo_gathered 26 = .ok (.iload 6, 2) := by decide +kernel
theorem d_Mo_gathered_28 : decode b_Mo_gathered 28 = .ok (.iload_n 3, 1) := by decide +kernel
theorem d_Mo_gathered_29 : decode b_Mo_gathered 29 = .ok (.ldc 141, 2) := by decide +kernel
theorem d_Mo_gathered_31 : decode b_Mo_gathered 31 = .ok (.iand, 1) := by decide +kernel
theorem d_Mo_gathered_32 : decode b_Mo_gathered 32 = .ok (.iastore, 1) := by decide +kernel
theorem d_Mo_gathered_33 : decode b_Mo_gathered 33 = .ok (.aload_n 0, 1) := by decide +kernel
theorem d_Mo_gathered_34 : decode b_Mo_gathered 34 = .ok (.getfield 28, 3) := by decide +kernel
theorem d_Mo_gathered_37 : decode b_Mo_gathered 37 = .ok (.iload 6, 2) := by decide +kernel
theorem d_Mo_gathered_39 : decode b_Mo_gathered 39 = .ok (.iload 4, 2) := by decide +kernel
theorem d_Mo_gathered_41 : decode b_Mo_gathered 41 = .ok (.iastore, 1) := by decide +kernel
theorem d_Mo_gathered_42 : decode b_Mo_gathered 42 = .ok (.aload_n 0, 1) := by decide +kernel
theorem d_Mo_gathered_43 : decode b_Mo_gathered 43 = .ok (.getfield 31, 3) := by decide +kernel
theorem d_Mo_gathered_46 : decode b_Mo_gathered 46 = .ok (.iload 6, 2) := by decide +kernel
theorem d_Mo_gathered_48 : decode b_Mo_gathered 48 = .ok (.aload_n 0, 1) := by decide +kernel
theorem d_Mo_gathered_49 : decode b_Mo_gathered 49 = .ok (.getfield 64, 3) := by decide +kernel
theorem d_Mo_gathered_52 : decode b_Mo_gathered 52 = .ok (.iastore, 1) := by decide +kernel
theorem d_Mo_gathered_53 : decode b_Mo_gathered 53 = .ok (.aload_n 0, 1) := by decide +kernel
theorem d_Mo_gathered_54 : decode b_Mo_gathered 54 = .ok (.getfield 34, 3) := by decide +kernel
theorem d_Mo_gathered_57 : decode b_Mo_gathered 57 = .ok (.iload 6, 2) := by decide +kernel
theorem d_Mo_gathered_59 : decode b_Mo_gathered 59 = .ok (.iload 5, 2) := by decide +kernel
theorem d_Mo_gathered_61 : decode b_Mo_gathered 61 = .ok (.iastore, 1) := by decide +kernel
theorem d_Mo_gathered_62 : decode b_Mo_gathered 62 = .ok (.aload_n 0, 1) := by decide +kernel
theorem d_Mo_gathered_63 : decode b_Mo_gathered 63 = .ok (.getfield 37, 3) := by decide +kernel
theorem d_Mo_gathered_66 : decode b_Mo_gathered 66 = .ok (.iload 6, 2) := by decide +kernel
theorem d_Mo_gathered_68 : decode b_Mo_gathered 68 = .ok (.aload_n 0, 1) := by decide +kernel
theorem d_Mo_gathered_69 : decode b_Mo_gathered 69 = .ok (.getfield 64, 3) := by decide +kernel
theorem d_Mo_gathered_72 : decode b_Mo_gathered 72 = .ok (.iload 5, 2) := by decide +kernel
theorem d_Mo_gathered_74 : decode b_Mo_gathered 74 = .ok (.iadd, 1) := by decide +kernel
theorem d_Mo_gathered_75 : decode b_Mo_gathered 75 = .ok (.iastore, 1) := by decide +kernel
theorem d_Mo_gathered_76 : decode b_Mo_gathered 76 = .ok (.aload_n 0, 1) := by decide +kernel
theorem d_Mo_gathered_77 : decode b_Mo_gathered 77 = .ok (.getfield 40, 3) := by decide +kernel
theorem d_Mo_gathered_80 : decode b_Mo_gathered 80 = .ok (.iload 6, 2) := by decide +kernel
theorem d_Mo_gathered_82 : decode b_Mo_gathered 82 = .ok (.aload_n 0, 1) := by decide +kernel
theorem d_Mo_gathered_83 : decode b_Mo_gathered 83 = .ok (.getfield 86, 3) := by decide +kernel
theorem d_Mo_gathered_86 : decode b_Mo_gathered 86 = .ok (.iload 5, 2) := by decide +kernel
theorem d_Mo_gathered_88 : decode b_Mo_gathered 88 = .ok (.isub, 1) := by decide +kernel
theorem d_Mo_gathered_89 : decode b_Mo_gathered 89 = .ok (.iastore, 1) := by decide +kernel
theorem d_Mo_gathered_90 : decode b_Mo_gathered 90 = .ok (.iconst 0, 1) := by decide +kernel
theorem d_Mo_gathered_91 : decode b_Mo_gathered 91 = .ok (.istore 7, 2) := by decide +kernel
theorem d_Mo_gathered_93 : decode b_Mo_gathered 93 = .ok (.iload 7, 2) := by decide +kernel
theorem d_Mo_gathered_95 : decode b_Mo_gathered 95 = .ok (.aload_n 0, 1) := by decide +kernel
theorem d_Mo_gathered_96 : decode b_Mo_gathered 96 = .ok (.getfield 86, 3) := by decide +kernel
theorem d_Mo_gathered_99 : decode b_Mo_gathered 99 = .ok (.if_icmp .ge 28, 3) := by decide +kernel
theorem d_Mo_gathered_102 : decode b_Mo_gathered 102 = .ok (.aload_n 0, 1) := by decide +kernel
theorem d_Mo_gathered_103 : decode b_Mo_gathered 103 = .ok (.getfield 15, 3) := by decide +kernel
theorem d_Mo_gathered_106 : decode b_Mo_gathered 106 = .ok (.aload_n 0, 1) := by decide +kernel
theorem d_Mo_gathered_107 : decode b_Mo_gathered 107 = .ok (.getfield 64, 3) := by decide +kernel
theorem d_Mo_gathered_110 : decode b_Mo_gathered 110 = .ok (.iload 7, 2) := by decide +kernel
theorem d_Mo_gathered_112 : decode b_Mo_gathered 112 = .ok (.iadd, 1) := by decide +kernel
theorem d_Mo_gathered_113 : decode b_Mo_gathered 113 = .ok (.aload_n 0, 1) := by decide +kernel
theorem d_Mo_gathered_114 : decode b_Mo_gathered 114 = .ok (.getfield 8, 3) := by decide +kernel
theorem d_Mo_gathered_117 : decode b_Mo_gathered 117 = .ok (.iload 7, 2) := by decide +kernel
theorem d_Mo_gathered_119 : decode b_Mo_gathered 119 = .ok (.baload, 1) := by decide +kernel
theorem d_Mo_gathered_120 : decode b_Mo_gathered 120 = .ok (.bastore, 1) := by decide +kernel
theorem d_Mo_gathered_121 : decode b_Mo_gathered 121 = .ok (.iinc 7 1, 3) := by decide +kernel
theorem d_Mo_gathered_124 : decode b_Mo_gathered 124 = .ok (.goto (-31), 3) := by decide +kernel
theorem d_Mo_gathered_127 : decode b_Mo_gathered 127 = .ok (.aload_n 0, 1) := by decide +kernel
theorem d_Mo_gathered_128 : decode b_Mo_gathered 128 = .ok (.dup, 1) := by decide +kernel
theorem d_Mo_gathered_129 : decode b_Mo_gathered 129 = .ok (.getfield 64, 3) := by decide +kernel
theorem d_Mo_gathered_132 : decode b_Mo_gathered 132 = .ok (.aload_n 0, 1) := by decide +kernel
theorem d_Mo_gathered_133 : decode b_Mo_gathered 133 = .ok (.getfield 86, 3) := by decide +kernel
theorem d_Mo_gathered_136 : decode b_Mo_gathered 136 = .ok (.iadd, 1) := by decide +kernel
theorem d_Mo_gathered_137 : decode b_Mo_gathered 137 = .ok (.putfield 64, 3) := by decide +kernel
theorem d_Mo_gathered_140 : decode b_Mo_gathered 140 = .ok (.aload_n 0, 1) := by decide +kernel
theorem d_Mo_gathered_141 : decode b_Mo_gathered 141 = .ok (.iconst 0, 1) := by decide +kernel
theorem d_Mo_gathered_142 : decode b_Mo_gathered 142 = .ok (.putfield 86, 3) := by decide +kernel
theorem d_Mo_gathered_145 : decode b_Mo_gathered 145 = .ok (.aload_n 0, 1) := by decide +kernel
theorem d_Mo_gathered_146 : decode b_Mo_gathered 146 = .ok (.dup, 1) := by decide +kernel
theorem d_Mo_gathered_147 : decode b_Mo_gathered 147 = .ok (.getfield 67, 3) := by decide +kernel
theorem d_Mo_gathered_150 : decode b_Mo_gathered 150 = .ok (.iconst 1, 1) := by decide +kernel
theorem d_Mo_gathered_151 : decode b_Mo_gathered 151 = .ok (.iadd, 1) := by decide +kernel
theorem d_Mo_gathered_152 : decode b_Mo_gathered 152 = .ok (.putfield 67, 3) := by decide +kernel
theorem d_Mo_gathered_155 : decode b_Mo_gathered 155 = .ok (.aload_n 0, 1) := by decide +kernel
theorem d_Mo_gathered_156 : decode b_Mo_gathered 156 = .ok (.iload_n 1, 1) := by decide +kernel
theorem d_Mo_gathered_157 : decode b_Mo_gathered 157 = .ok (.invokevirtual 76, 3) := by decide +kernel
theorem d_Mo_gathered_160 : decode b_Mo_gathered 160 = .ok (.ireturn, 1) := by decide +kernel
theorem d_Mo_wholeName_0 : decode b_Mo_wholeName 0 = .ok (.iload_n 1, 1) := by decide +kernel
theorem d_Mo_wholeName_1 : decode b_Mo_wholeName 1 = .ok (.istore_n 2, 1) := by decide +kernel
theorem d_Mo_wholeName_2 : decode b_Mo_wholeName 2 = .ok (.iload_n 2, 1) := by decide +kernel
theorem d_Mo_wholeName_3 : decode b_Mo_wholeName 3 = .ok (.aload_n 0, 1) := by decide +kernel
theorem d_Mo_wholeName_4 : decode b_Mo_wholeName 4 = .ok (.getfield 86, 3) := by decide +kernel
theorem d_Mo_wholeName_7 : decode b_Mo_wholeName 7 = .ok (.if_icmp .ge 36, 3) := by decide +kernel
theorem d_Mo_wholeName_10 : decode b_Mo_wholeName 10 = .ok (.aload_n 0, 1) := by decide +kernel
theorem d_Mo_wholeName_11 : decode b_Mo_wholeName 11 = .ok (.iload_n 2, 1) := by decide +kernel
theorem d_Mo_wholeName_12 : decode b_Mo_wholeName 12 = .ok (.invokevirtual 83, 3) := by decide +kernel
theorem d_Mo_wholeName_15 : decode b_Mo_wholeName 15 = .ok (.ifCond .le 28, 3) := by decide +kernel
theorem d_Mo_wholeName_18 : decode b_Mo_wholeName 18 = .ok (.aload_n 0, 1) := by decide +kernel
theorem d_Mo_wholeName_19 : decode b_Mo_wholeName 19 = .ok (.iload_n 2, 1) := by decide +kernel
theorem d_Mo_wholeName_20 : decode b_Mo_wholeName 20 = .ok (.invokevirtual 83, 3) := by decide +kernel
theorem d_Mo_wholeName_23 : decode b_Mo_wholeName 23 = .ok (.bipush 63, 2) := by decide +kernel
theorem d_Mo_wholeName_25 : decode b_Mo_wholeName 25 = .ok (.if_icmp .le 5, 3) := by decide +kernel
theorem d_Mo_wholeName_28 : decode b_Mo_wholeName 28 = .ok (.iconst (-1), 1) := by decide +kernel
theorem d_Mo_wholeName_29 : decode b_Mo_wholeName 29 = .ok (.ireturn, 1) := by decide +kernel
theorem d_Mo_wholeName_30 : decode b_Mo_wholeName 30 = .ok (.iload_n 2, 1) := by decide +kernel
theorem d_Mo_wholeName_31 : decode b_Mo_wholeName 31 = .ok (.iconst 1, 1) := by decide +kernel
theorem d_Mo_wholeName_32 : decode b_Mo_wholeName 32 = .ok (.aload_n 0, 1) := by decide +kernel
theorem d_Mo_wholeName_33 : decode b_Mo_wholeName 33 = .ok (.iload_n 2, 1) := by decide +kernel
theorem d_Mo_wholeName_34 : decode b_Mo_wholeName 34 = .ok (.invokevirtual 83, 3) := by decide +kernel
theorem d_Mo_wholeName_37 : decode b_Mo_wholeName 37 = .ok (.iadd, 1) := by decide +kernel
theorem d_Mo_wholeName_38 : decode b_Mo_wholeName 38 = .ok (.iadd, 1) := by decide +kernel
theorem d_Mo_wholeName_39 : decode b_Mo_wholeName 39 = .ok (.istore_n 2, 1) := by decide +kernel
theorem d_Mo_wholeName_40 : decode b_Mo_wholeName 40 = .ok (.goto (-38), 3) := by decide +kernel
theorem d_Mo_wholeName_43 : decode b_Mo_wholeName 43 = .ok (.iload_n 2, 1) := by decide +kernel
theorem d_Mo_wholeName_44 : decode b_Mo_wholeName 44 = .ok (.aload_n 0, 1) := by decide +kernel
theorem d_Mo_wholeName_45 : decode b_Mo_wholeName 45 = .ok (.getfield 86, 3) := by decide +kernel
theorem d_Mo_wholeName_48 : decode b_Mo_wholeName 48 = .ok (.if_icmp .ge 14, 3) := by decide +kernel
theorem d_Mo_wholeName_51 : decode b_Mo_wholeName 51 = .ok (.iload_n 2, 1) := by decide +kernel
theorem d_Mo_wholeName_52 : decode b_Mo_wholeName 52 = .ok (.iconst 1, 1) := by decide +kernel
theorem d_Mo_wholeName_53 : decode b_Mo_wholeName 53 = .ok (.iadd, 1) := by decide +kernel
theorem d_Mo_wholeName_54 : decode b_Mo_wholeName 54 = .ok (.iload_n 1, 1) := by decide +kernel
theorem d_Mo_wholeName_55 : decode b_Mo_wholeName 55 = .ok (.isub, 1) := by decide +kernel
theorem d_Mo_wholeName_56 : decode b_Mo_wholeName 56 = .ok (.sipush 255, 3) := by decide +kernel
theorem d_Mo_wholeName_59 : decode b_Mo_wholeName 59 = .ok (.if_icmp .le 7, 3) := by decide +kernel
theorem d_Mo_wholeName_62 : decode b_Mo_wholeName 62 = .ok (.iconst (-1), 1) := by decide +kernel
theorem d_Mo_wholeName_63 : decode b_Mo_wholeName 63 = .ok (.goto 6, 3) := by decide +kernel
theorem d_Mo_wholeName_66 : decode b_Mo_wholeName 66 = .ok (.iload_n 2, 1) := by decide +kernel
theorem d_Mo_wholeName_67 : decode b_Mo_wholeName 67 = .ok (.iconst 1, 1) := by decide +kernel
theorem d_Mo_wholeName_68 : decode b_Mo_wholeName 68 = .ok (.iadd, 1) := by decide +kernel
theorem d_Mo_wholeName_69 : decode b_Mo_wholeName 69 = .ok (.ireturn, 1) := by decide +kernel
set_option maxHeartbeats 4000000 in
set_option maxRecDepth 100000 in
/-- the reference: wholeName -/
theorem m_Mo_wholeName (l : Launch) (D9 : va_G) (cB cI cJ cG : ClassId) (a : Nat → Nat) (O : Nat → Int64) (I : Nat → Int32) (F : Nat → Nat → Int32) (t : List Nat) (hT : BR 0 65536 (F 34) t) (h16 : I 16 = nI t.length) (htl : t.length ≤ 65536) (fr : Nat) (hfr : fr ≤ 66000) : MC l D9 cB cI cJ cG a O y_Mo_wholeName b_Mo_wholeName 3 (some .int) 1 [.ref (a 33), .int (nI fr)] I F (fun v I' F' => v = some (.int (oI (wnO t fr))) ∧ I = I' ∧ F = F') := by
  refine mc_of (by decide) (Nat.le_of_ble_eq_true rfl) ?_
  intro p e s m below meth c ls A0 Q C0 hP hD hA hS hl hret
  obtain ⟨hx, hb, hml, hr, hlocks, hown, hts, hK⟩ := id C0
  have hl : lv_has ls 3 [(0, .ref (a 33)), (1, .int (nI fr))] := hl
  refine lv_iload_n hx hb d_Mo_wholeName_0 rfl (lv_at hl 1 rfl) ?_
  refine lv_istore_n (lv' := [(2, _), (0, _), (1, _)]) hx hb d_Mo_wholeName_1 rfl hl (by decide) rfl (fun ls hl => ?_)
  have loop1 : ∀ (n9 : Nat) (pos : Nat) (g9 : Nat) (I9 : Nat → Int32) (F9 : Nat → Nat → Int32) (H : Heap) (locs : List Loc) (ls : Array Slot), (I = I9) → (F = F9) → (t.length - pos = n9) → (t.length - pos < g9) → (fr ≤ pos ∧ pos ≤ 66000) → (wn (t.length + 1) t fr = wn g9 t pos) → va_P D9 cls9 (WW a cB cI cJ cG I9 F9 O) H → va_D A0 (WW a cB cI cJ cG I9 F9 O) → va_S A0 s.heap H locs → lv_has ls 3 [(0, .ref (a 33)), (1, .int (nI fr)), (2, .int (nI pos))] → W p l e (rm9 1 0 0) s m ([.ref (a 33), .int (nI fr)] : List Value).toArray below meth c H locs 0 0 Q (F0 m 2 ls []) := by
    intro n9
    induction n9 using Nat.strongRecOn with
    | ind n9 ih =>
      intro pos g9 I9 F9 H locs ls hsI hsF hn9 hg hfp hE hP hD hS hl
      subst hsI
      subst hsF
      obtain ⟨k9, rfl⟩ : ∃ k9, g9 = k9 + 1 := ⟨g9 - 1, by omega⟩
      have hE2 : wn (k9 + 1) t pos = if t.length ≤ pos then none else if tb t pos = 0 then some (pos + 1) else if 63 < tb t pos then none else wn k9 t (pos + (1 + tb t pos)) := rfl
      rw [hE2] at hE
      refine lv_iload_n hx hb d_Mo_wholeName_2 rfl (lv_at hl 2 rfl) ?_
      refine lv_aload_n hx hb d_Mo_wholeName_3 rfl (lv_at hl 0 rfl) ?_
      refine va_get (D := D9) (ci := 7) (C := R_Mo) (T := F_Mo) (N := 30) hx hb hts i_Mo hown hK hP 33 ww_33 rfl 2 (by decide) (hts _ g_724) (fun _ h9 => h9) rfl d_Mo_wholeName_4 ?_
      refine lv_topq (y := nI t.length) (h16) ?_
      refine lv_icmp_ge (tgt := 43) hx hb d_Mo_wholeName_7 (by decide) (fun c1 => ?_) (fun c1 => ?_)
      · have c1 : t.length ≤ pos := (nI_leI (a := t.length) (b := pos) (by omega) (by omega)).mp c1
        rw [if_pos (by omega)] at hE
        refine lv_iload_n hx hb d_Mo_wholeName_43 rfl (lv_at hl 2 rfl) ?_
        refine lv_aload_n hx hb d_Mo_wholeName_44 rfl (lv_at hl 0 rfl) ?_
        refine va_get (D := D9) (ci := 7) (C := R_Mo) (T := F_Mo) (N := 30) hx hb hts i_Mo hown hK hP 33 ww_33 rfl 2 (by decide) (hts _ g_724) (fun _ h9 => h9) rfl d_Mo_wholeName_45 ?_
        refine lv_topq (y := nI t.length) (h16) ?_
        refine lv_icmp_ge (tgt := 62) hx hb d_Mo_wholeName_48 (by decide) (fun c2 => ?_) (fun c2 => ?_)
        · have c2 : t.length ≤ pos := (nI_leI (a := t.length) (b := pos) (by omega) (by omega)).mp c2
          refine lv_iconst (v := -1) hx hb d_Mo_wholeName_62 (by decide) ?_
          refine lv_topq (y := (-1 : Int32)) rfl ?_
          refine lv_goto (tgt := 69) hx hb d_Mo_wholeName_63 (by decide) ?_
          exact hret _ _ _ _ _ _ _ hS hP hD d_Mo_wholeName_69 nr_i (⟨by rw [wnO_wn, hE]; rfl, rfl, rfl⟩)
        · have c2 : ¬ (t.length ≤ pos) := fun z9 => c2 ((nI_leI (a := t.length) (b := pos) (by omega) (by omega)).mpr z9)
          exfalso; omega
      · have c1 : ¬ (t.length ≤ pos) := fun z9 => c1 ((nI_leI (a := t.length) (b := pos) (by omega) (by omega)).mpr z9)
        rw [if_neg (by omega)] at hE
        have hby : tb t pos < 256 := BR_lt hT (by omega) (by omega) (by omega)
        refine lv_aload_n hx hb d_Mo_wholeName_10 rfl (lv_at hl 0 rfl) ?_
        refine lv_iload_n hx hb d_Mo_wholeName_11 rfl (lv_at hl 2 rfl) ?_
        refine mw_cV (ci := 7) (k := 33) C0 (m_Mo_here l D9 cB cI cJ cG a O _ _ t hT h16 htl pos (by omega)) g_832 g_8 g_829 g_831 gs_Mo_here ⟨by decide +kernel, by decide +kernel, show Option.map (fun d => d.parameters.length) (parseMethodDescriptor y_Mo_here.desc) = some 1 by decide +kernel⟩ ⟨by decide, by decide⟩ rfl rfl hP hD hS hA rfl ww_33 hl.1 (Nat.le_of_ble_eq_true rfl) rfl d_Mo_wholeName_12 ⟨by decide, by decide⟩ (fun v9 w9 H locs hq hP hD hS => ?_)
        obtain ⟨I3, F4, hw9, q5⟩ := hq
        subst hw9
        obtain ⟨rfl, rfl, rfl⟩ := q5
        refine lv_if_le (tgt := 43) hx hb d_Mo_wholeName_15 (by decide) (fun c6 => ?_) (fun c6 => ?_)
        · have c6 : tb t pos ≤ 0 := (nI_leI (a := tb t pos) (b := 0) (by omega) (by omega)).mp c6
          rw [if_pos (by omega)] at hE
          refine lv_iload_n hx hb d_Mo_wholeName_43 rfl (lv_at hl 2 rfl) ?_
          refine lv_aload_n hx hb d_Mo_wholeName_44 rfl (lv_at hl 0 rfl) ?_
          refine va_get (D := D9) (ci := 7) (C := R_Mo) (T := F_Mo) (N := 30) hx hb hts i_Mo hown hK hP 33 ww_33 rfl 2 (by decide) (hts _ g_724) (fun _ h9 => h9) rfl d_Mo_wholeName_45 ?_
          refine lv_topq (y := nI t.length) (h16) ?_
          refine lv_icmp_ge (tgt := 62) hx hb d_Mo_wholeName_48 (by decide) (fun c7 => ?_) (fun c7 => ?_)
          · have c7 : t.length ≤ pos := (nI_leI (a := t.length) (b := pos) (by omega) (by omega)).mp c7
            exfalso; omega
          · have c7 : ¬ (t.length ≤ pos) := fun z9 => c7 ((nI_leI (a := t.length) (b := pos) (by omega) (by omega)).mpr z9)
            refine lv_iload_n hx hb d_Mo_wholeName_51 rfl (lv_at hl 2 rfl) ?_
            refine lv_iconst (v := 1) hx hb d_Mo_wholeName_52 (by decide) ?_
            refine lv_topq (y := nI 1) (rfl) ?_
            refine lv_iadd hx hb d_Mo_wholeName_53 ?_
            refine lv_topq (y := nI (pos + 1)) (nI_add _ _) ?_
            refine lv_iload_n hx hb d_Mo_wholeName_54 rfl (lv_at hl 1 rfl) ?_
            refine lv_isub hx hb d_Mo_wholeName_55 ?_
            refine lv_topq (y := nI ((pos + 1) - fr)) (pk_sub (by omega)) ?_
            refine lv_sipush (v := 255) hx hb d_Mo_wholeName_56 (by decide) ?_
            refine lv_topq (y := nI 255) (rfl) ?_
            refine lv_icmp_le (tgt := 66) hx hb d_Mo_wholeName_59 (by decide) (fun c8 => ?_) (fun c8 => ?_)
            · have c8 : (pos + 1) - fr ≤ 255 := (nI_leI (a := (pos + 1) - fr) (b := 255) (by omega) (by omega)).mp c8
              refine lv_iload_n hx hb d_Mo_wholeName_66 rfl (lv_at hl 2 rfl) ?_
              refine lv_iconst (v := 1) hx hb d_Mo_wholeName_67 (by decide) ?_
              refine lv_topq (y := nI 1) (rfl) ?_
              refine lv_iadd hx hb d_Mo_wholeName_68 ?_
              refine lv_topq (y := nI (pos + 1)) (nI_add _ _) ?_
              exact hret _ _ _ _ _ _ _ hS hP hD d_Mo_wholeName_69 nr_i (⟨by rw [wnO_wn, hE]; show _ = some (Value.int (oI (if pos + 1 - fr ≤ 255 then some (pos + 1) else none))); rw [if_pos (by omega)]; rfl, rfl, rfl⟩)
            · have c8 : ¬ ((pos + 1) - fr ≤ 255) := fun z9 => c8 ((nI_leI (a := (pos + 1) - fr) (b := 255) (by omega) (by omega)).mpr z9)
              refine lv_iconst (v := -1) hx hb d_Mo_wholeName_62 (by decide) ?_
              refine lv_topq (y := (-1 : Int32)) rfl ?_
              refine lv_goto (tgt := 69) hx hb d_Mo_wholeName_63 (by decide) ?_
              exact hret _ _ _ _ _ _ _ hS hP hD d_Mo_wholeName_69 nr_i (⟨by rw [wnO_wn, hE]; show _ = some (Value.int (oI (if pos + 1 - fr ≤ 255 then some (pos + 1) else none))); rw [if_neg (by omega)]; rfl, rfl, rfl⟩)
        · have c6 : ¬ (tb t pos ≤ 0) := fun z9 => c6 ((nI_leI (a := tb t pos) (b := 0) (by omega) (by omega)).mpr z9)
          rw [if_neg (by omega)] at hE
          refine lv_aload_n hx hb d_Mo_wholeName_18 rfl (lv_at hl 0 rfl) ?_
          refine lv_iload_n hx hb d_Mo_wholeName_19 rfl (lv_at hl 2 rfl) ?_
          refine mw_cV (ci := 7) (k := 33) C0 (m_Mo_here l D9 cB cI cJ cG a O _ _ t hT h16 htl pos (by omega)) g_832 g_8 g_829 g_831 gs_Mo_here ⟨by decide +kernel, by decide +kernel, show Option.map (fun d => d.parameters.length) (parseMethodDescriptor y_Mo_here.desc) = some 1 by decide +kernel⟩ ⟨by decide, by decide⟩ rfl rfl hP hD hS hA rfl ww_33 hl.1 (Nat.le_of_ble_eq_true rfl) rfl d_Mo_wholeName_20 ⟨by decide, by decide⟩ (fun v9 w9 H locs hq hP hD hS => ?_)
          obtain ⟨I9, F10, hw9, q11⟩ := hq
          subst hw9
          obtain ⟨rfl, rfl, rfl⟩ := q11
          refine lv_bipush (v := 63) hx hb d_Mo_wholeName_23 (by decide) ?_
          refine lv_topq (y := nI 63) (rfl) ?_
          refine lv_icmp_le (tgt := 30) hx hb d_Mo_wholeName_25 (by decide) (fun c12 => ?_) (fun c12 => ?_)
          · have c12 : tb t pos ≤ 63 := (nI_leI (a := tb t pos) (b := 63) (by omega) (by omega)).mp c12
            rw [if_neg (by omega)] at hE
            refine lv_iload_n hx hb d_Mo_wholeName_30 rfl (lv_at hl 2 rfl) ?_
            refine lv_iconst (v := 1) hx hb d_Mo_wholeName_31 (by decide) ?_
            refine lv_topq (y := nI 1) (rfl) ?_
            refine lv_aload_n hx hb d_Mo_wholeName_32 rfl (lv_at hl 0 rfl) ?_
            refine lv_iload_n hx hb d_Mo_wholeName_33 rfl (lv_at hl 2 rfl) ?_
            refine mw_cV (ci := 7) (k := 33) C0 (m_Mo_here l D9 cB cI cJ cG a O _ _ t hT h16 htl pos (by omega)) g_832 g_8 g_829 g_831 gs_Mo_here ⟨by decide +kernel, by decide +kernel, show Option.map (fun d => d.parameters.length) (parseMethodDescriptor y_Mo_here.desc) = some 1 by decide +kernel⟩ ⟨by decide, by decide⟩ rfl rfl hP hD hS hA rfl ww_33 hl.1 (Nat.le_of_ble_eq_true rfl) rfl d_Mo_wholeName_34 ⟨by decide, by decide⟩ (fun v9 w9 H locs hq hP hD hS => ?_)
            obtain ⟨I13, F14, hw9, q15⟩ := hq
            subst hw9
            obtain ⟨rfl, rfl, rfl⟩ := q15
            refine lv_iadd hx hb d_Mo_wholeName_37 ?_
            refine lv_topq (y := nI (1 + (tb t pos))) (nI_add _ _) ?_
            refine lv_iadd hx hb d_Mo_wholeName_38 ?_
            refine lv_topq (y := nI (pos + (1 + (tb t pos)))) (nI_add _ _) ?_
            refine lv_istore_n (lv' := [(2, _), (0, _), (1, _)]) hx hb d_Mo_wholeName_39 rfl hl (by decide) rfl (fun ls hl => ?_)
            refine lv_goto (tgt := 2) hx hb d_Mo_wholeName_40 (by decide) ?_
            exact ih _ (by omega) (pos + (1 + tb t pos)) k9 _ _ _ _ _ rfl rfl rfl (by omega) ⟨by omega, by omega⟩ hE hP hD hS (lv_pk hl [1, 2, 0] rfl)
          · have c12 : ¬ (tb t pos ≤ 63) := fun z9 => c12 ((nI_leI (a := tb t pos) (b := 63) (by omega) (by omega)).mpr z9)
            rw [if_pos (by omega)] at hE
            refine lv_iconst (v := -1) hx hb d_Mo_wholeName_28 (by decide) ?_
            refine lv_topq (y := (-1 : Int32)) rfl ?_
            exact hret _ _ _ _ _ _ _ hS hP hD d_Mo_wholeName_29 nr_i (⟨by rw [wnO_wn, hE]; rfl, rfl, rfl⟩)
  exact loop1 _ fr (t.length + 1) _ _ _ _ _ rfl rfl rfl (by omega) ⟨Nat.le_refl _, by omega⟩ rfl hP hD hS (lv_pk hl [1, 2, 0] rfl)
set_option maxHeartbeats 4000000 in
set_option maxRecDepth 100000 in
/-- the reference: fits -/
theorem m_Mo_fits (l : Launch) (D9 : va_G) (cB cI cJ cG : ClassId) (a : Nat → Nat) (O : Nat → Int64) (I : Nat → Int32) (F : Nat → Nat → Int32) (t : List Nat) (hT : BR 0 65536 (F 34) t) (h16 : I 16 = nI t.length) (htl : t.length ≤ 65536) (ty e0 ol : Nat) (hty : ty < 65536) (he : e0 ≤ t.length) : MC l D9 cB cI cJ cG a O y_Mo_fits b_Mo_fits 8 (some .boolean) 2 [.ref (a 33), .int (nI ty), .int (nI e0), .int (bI (decide (ol = 1)))] I F (fun v I' F' => v = some (.int (bI (ftB t ty e0 ol))) ∧ I = I' ∧ F = F') := by
  refine mc_of (by decide) (Nat.le_of_ble_eq_true rfl) ?_
  intro p e s m below meth c ls A0 Q C0 hP hD hA hS hl hret
  obtain ⟨hx, hb, hml, hr, hlocks, hown, hts, hK⟩ := id C0
  have hl : lv_has ls 8 [(0, .ref (a 33)), (1, .int (nI ty)), (2, .int (nI e0)), (3, .int (bI (decide (ol = 1))))] := hl
  refine lv_aload_n hx hb d_Mo_fits_0 rfl (lv_at hl 0 rfl) ?_
  refine va_get (D := D9) (ci := 7) (C := R_Mo) (T := F_Mo) (N := 30) hx hb hts i_Mo hown hK hP 33 ww_33 rfl 2 (by decide) (hts _ g_724) (fun _ h9 => h9) rfl d_Mo_fits_1 ?_
  refine lv_topq (y := nI t.length) (h16) ?_
  refine lv_iload_n hx hb d_Mo_fits_4 rfl (lv_at hl 2 rfl) ?_
  refine lv_isub hx hb d_Mo_fits_5 ?_
  refine lv_topq (y := nI (t.length - e0)) (pk_sub (by omega)) ?_
  refine lv_istore (lv' := [(4, _), (0, _), (1, _), (2, _), (3, _)]) hx hb d_Mo_fits_6 hl (by decide) rfl (fun ls hl => ?_)
  refine lv_iload_n hx hb d_Mo_fits_8 rfl (lv_at hl 2 rfl) ?_
  by_cases ty1 : ty = 1
  · subst ty1
    refine lv_lookup (tgt := 100) hx hb d_Mo_fits_9 (by decide) rfl (by decide) ?_
    refine lv_iload hx hb d_Mo_fits_100 (lv_at hl 0 rfl) ?_
    refine lv_iconst (v := 4) hx hb d_Mo_fits_102 (by decide) ?_
    refine lv_topq (y := nI 4) (rfl) ?_
    refine lv_icmp_ne (tgt := 110) hx hb d_Mo_fits_103 (by decide) (fun c1 => ?_) (fun c1 => ?_)
    · have c1 : ¬ (t.length - e0 = 4) := fun z9 => c1 ((nI_eq (a := t.length - e0) (b := 4) (by omega) (by omega)).mpr z9)
      refine lv_iconst (v := 0) hx hb d_Mo_fits_110 (by decide) ?_
      refine lv_topq (y := nI 0) (rfl) ?_
      exact hret _ _ _ _ _ _ _ hS hP hD d_Mo_fits_111 (nr_z (Or.inl rfl)) (by have e9 : ftB t 1 e0 ol = false := (by show decide (t.length - e0 = 4) = false; simp; omega); rw [e9]; exact ⟨rfl, rfl, rfl⟩)
    · have c1 : t.length - e0 = 4 := (nI_eq (a := t.length - e0) (b := 4) (by omega) (by omega)).mp c1
      refine lv_iconst (v := 1) hx hb d_Mo_fits_106 (by decide) ?_
      refine lv_topq (y := nI 1) (rfl) ?_
      refine lv_goto (tgt := 111) hx hb d_Mo_fits_107 (by decide) ?_
      exact hret _ _ _ _ _ _ _ hS hP hD d_Mo_fits_111 (nr_z (Or.inr rfl)) (by have e9 : ftB t 1 e0 ol = true := (by show decide (t.length - e0 = 4) = true; simp; omega); rw [e9]; exact ⟨rfl, rfl, rfl⟩)
  · by_cases ty2 : ty = 2
    · subst ty2
      refine lv_lookup (tgt := 125) hx hb d_Mo_fits_9 (by decide) rfl (by decide) ?_
      refine lv_aload_n hx hb d_Mo_fits_125 rfl (lv_at hl 1 rfl) ?_
      refine lv_iload_n hx hb d_Mo_fits_126 rfl (lv_at hl 3 rfl) ?_
      refine mw_cV (ci := 7) (k := 33) C0 (m_Mo_wholeName l D9 cB cI cJ cG a O _ _ t hT h16 htl e0 (by omega)) g_890 g_8 g_887 g_889 gs_Mo_wholeName ⟨by decide +kernel, by decide +kernel, show Option.map (fun d => d.parameters.length) (parseMethodDescriptor y_Mo_wholeName.desc) = some 1 by decide +kernel⟩ ⟨by decide, by decide⟩ rfl rfl hP hD hS hA rfl ww_33 hl.1 (Nat.le_of_ble_eq_true rfl) rfl d_Mo_fits_127 ⟨by decide, by decide⟩ (fun v9 w9 H locs hq hP hD hS => ?_)
      obtain ⟨I2, F3, hw9, q4⟩ := hq
      subst hw9
      obtain ⟨rfl, rfl, rfl⟩ := q4
      cases hm : wnO t e0 with
      | none =>
        refine lv_topq (y := (-1 : Int32)) (rfl) ?_
        refine lv_aload_n hx hb d_Mo_fits_130 rfl (lv_at hl 1 rfl) ?_
        refine va_get (D := D9) (ci := 7) (C := R_Mo) (T := F_Mo) (N := 30) hx hb hts i_Mo hown hK hP 33 ww_33 rfl 2 (by decide) (hts _ g_724) (fun _ h9 => h9) rfl d_Mo_fits_131 ?_
        refine lv_topq (y := nI t.length) (h16) ?_
        refine lv_icmp_ne (tgt := 141) hx hb d_Mo_fits_134 (by decide) (fun c5 => ?_) (fun c5 => ?_)
        · refine lv_iconst (v := 0) hx hb d_Mo_fits_141 (by decide) ?_
          refine lv_topq (y := nI 0) (rfl) ?_
          exact hret _ _ _ _ _ _ _ hS hP hD d_Mo_fits_142 (nr_z (Or.inl rfl)) (by have e9 : ftB t 2 e0 ol = false := (by show decide (wnO t e0 = some t.length) = false; rw [hm]; simp <;> omega); rw [e9]; exact ⟨rfl, rfl, rfl⟩)
        · exact absurd c5 (m1_ne (n := t.length) (by omega))
      | some m =>
        refine lv_topq (y := nI m) (rfl) ?_
        have hbm := (wnO_s hm).2
        refine lv_aload_n hx hb d_Mo_fits_130 rfl (lv_at hl 1 rfl) ?_
        refine va_get (D := D9) (ci := 7) (C := R_Mo) (T := F_Mo) (N := 30) hx hb hts i_Mo hown hK hP 33 ww_33 rfl 2 (by decide) (hts _ g_724) (fun _ h9 => h9) rfl d_Mo_fits_131 ?_
        refine lv_topq (y := nI t.length) (h16) ?_
        refine lv_icmp_ne (tgt := 141) hx hb d_Mo_fits_134 (by decide) (fun c6 => ?_) (fun c6 => ?_)
        · have c6 : ¬ (m = t.length) := fun z9 => c6 ((nI_eq (a := m) (b := t.length) (by omega) (by omega)).mpr z9)
          refine lv_iconst (v := 0) hx hb d_Mo_fits_141 (by decide) ?_
          refine lv_topq (y := nI 0) (rfl) ?_
          exact hret _ _ _ _ _ _ _ hS hP hD d_Mo_fits_142 (nr_z (Or.inl rfl)) (by have e9 : ftB t 2 e0 ol = false := (by show decide (wnO t e0 = some t.length) = false; rw [hm]; simp <;> omega); rw [e9]; exact ⟨rfl, rfl, rfl⟩)
        · have c6 : m = t.length := (nI_eq (a := m) (b := t.length) (by omega) (by omega)).mp c6
          refine lv_iconst (v := 1) hx hb d_Mo_fits_137 (by decide) ?_
          refine lv_topq (y := nI 1) (rfl) ?_
          refine lv_goto (tgt := 142) hx hb d_Mo_fits_138 (by decide) ?_
          exact hret _ _ _ _ _ _ _ hS hP hD d_Mo_fits_142 (nr_z (Or.inr rfl)) (by have e9 : ftB t 2 e0 ol = true := (by show decide (wnO t e0 = some t.length) = true; rw [hm]; simp <;> omega); rw [e9]; exact ⟨rfl, rfl, rfl⟩)
    · by_cases ty5 : ty = 5
      · subst ty5
        refine lv_lookup (tgt := 125) hx hb d_Mo_fits_9 (by decide) rfl (by decide) ?_
        refine lv_aload_n hx hb d_Mo_fits_125 rfl (lv_at hl 1 rfl) ?_
        refine lv_iload_n hx hb d_Mo_fits_126 rfl (lv_at hl 3 rfl) ?_
        refine mw_cV (ci := 7) (k := 33) C0 (m_Mo_wholeName l D9 cB cI cJ cG a O _ _ t hT h16 htl e0 (by omega)) g_890 g_8 g_887 g_889 gs_Mo_wholeName ⟨by decide +kernel, by decide +kernel, show Option.map (fun d => d.parameters.length) (parseMethodDescriptor y_Mo_wholeName.desc) = some 1 by decide +kernel⟩ ⟨by decide, by decide⟩ rfl rfl hP hD hS hA rfl ww_33 hl.1 (Nat.le_of_ble_eq_true rfl) rfl d_Mo_fits_127 ⟨by decide, by decide⟩ (fun v9 w9 H locs hq hP hD hS => ?_)
        obtain ⟨I7, F8, hw9, q9⟩ := hq
        subst hw9
        obtain ⟨rfl, rfl, rfl⟩ := q9
        cases hm : wnO t e0 with
        | none =>
          refine lv_topq (y := (-1 : Int32)) (rfl) ?_
          refine lv_aload_n hx hb d_Mo_fits_130 rfl (lv_at hl 1 rfl) ?_
          refine va_get (D := D9) (ci := 7) (C := R_Mo) (T := F_Mo) (N := 30) hx hb hts i_Mo hown hK hP 33 ww_33 rfl 2 (by decide) (hts _ g_724) (fun _ h9 => h9) rfl d_Mo_fits_131 ?_
          refine lv_topq (y := nI t.length) (h16) ?_
          refine lv_icmp_ne (tgt := 141) hx hb d_Mo_fits_134 (by decide) (fun c10 => ?_) (fun c10 => ?_)
          · refine lv_iconst (v := 0) hx hb d_Mo_fits_141 (by decide) ?_
            refine lv_topq (y := nI 0) (rfl) ?_
            exact hret _ _ _ _ _ _ _ hS hP hD d_Mo_fits_142 (nr_z (Or.inl rfl)) (by have e9 : ftB t 5 e0 ol = false := (by show decide (wnO t e0 = some t.length) = false; rw [hm]; simp <;> omega); rw [e9]; exact ⟨rfl, rfl, rfl⟩)
          · exact absurd c10 (m1_ne (n := t.length) (by omega))
        | some m =>
          refine lv_topq (y := nI m) (rfl) ?_
          have hbm := (wnO_s hm).2
          refine lv_aload_n hx hb d_Mo_fits_130 rfl (lv_at hl 1 rfl) ?_
          refine va_get (D := D9) (ci := 7) (C := R_Mo) (T := F_Mo) (N := 30) hx hb hts i_Mo hown hK hP 33 ww_33 rfl 2 (by decide) (hts _ g_724) (fun _ h9 => h9) rfl d_Mo_fits_131 ?_
          refine lv_topq (y := nI t.length) (h16) ?_
          refine lv_icmp_ne (tgt := 141) hx hb d_Mo_fits_134 (by decide) (fun c11 => ?_) (fun c11 => ?_)
          · have c11 : ¬ (m = t.length) := fun z9 => c11 ((nI_eq (a := m) (b := t.length) (by omega) (by omega)).mpr z9)
            refine lv_iconst (v := 0) hx hb d_Mo_fits_141 (by decide) ?_
            refine lv_topq (y := nI 0) (rfl) ?_
            exact hret _ _ _ _ _ _ _ hS hP hD d_Mo_fits_142 (nr_z (Or.inl rfl)) (by have e9 : ftB t 5 e0 ol = false := (by show decide (wnO t e0 = some t.length) = false; rw [hm]; simp <;> omega); rw [e9]; exact ⟨rfl, rfl, rfl⟩)
          · have c11 : m = t.length := (nI_eq (a := m) (b := t.length) (by omega) (by omega)).mp c11
            refine lv_iconst (v := 1) hx hb d_Mo_fits_137 (by decide) ?_
            refine lv_topq (y := nI 1) (rfl) ?_
            refine lv_goto (tgt := 142) hx hb d_Mo_fits_138 (by decide) ?_
            exact hret _ _ _ _ _ _ _ hS hP hD d_Mo_fits_142 (nr_z (Or.inr rfl)) (by have e9 : ftB t 5 e0 ol = true := (by show decide (wnO t e0 = some t.length) = true; rw [hm]; simp <;> omega); rw [e9]; exact ⟨rfl, rfl, rfl⟩)
      · by_cases ty6 : ty = 6
        · subst ty6
          refine lv_lookup (tgt := 197) hx hb d_Mo_fits_9 (by decide) rfl (by decide) ?_
          refine lv_aload_n hx hb d_Mo_fits_197 rfl (lv_at hl 1 rfl) ?_
          refine lv_iload_n hx hb d_Mo_fits_198 rfl (lv_at hl 3 rfl) ?_
          refine mw_cV (ci := 7) (k := 33) C0 (m_Mo_wholeName l D9 cB cI cJ cG a O _ _ t hT h16 htl e0 (by omega)) g_890 g_8 g_887 g_889 gs_Mo_wholeName ⟨by decide +kernel, by decide +kernel, show Option.map (fun d => d.parameters.length) (parseMethodDescriptor y_Mo_wholeName.desc) = some 1 by decide +kernel⟩ ⟨by decide, by decide⟩ rfl rfl hP hD hS hA rfl ww_33 hl.1 (Nat.le_of_ble_eq_true rfl) rfl d_Mo_fits_199 ⟨by decide, by decide⟩ (fun v9 w9 H locs hq hP hD hS => ?_)
          obtain ⟨I12, F13, hw9, q14⟩ := hq
          subst hw9
          obtain ⟨rfl, rfl, rfl⟩ := q14
          cases hm : wnO t e0 with
          | none =>
            refine lv_topq (y := (-1 : Int32)) (rfl) ?_
            refine lv_istore (lv' := [(5, _), (4, _), (0, _), (1, _), (2, _), (3, _)]) hx hb d_Mo_fits_202 hl (by decide) rfl (fun ls hl => ?_)
            refine lv_iload hx hb d_Mo_fits_204 (lv_at hl 0 rfl) ?_
            refine lv_if_ge (tgt := 213) hx hb d_Mo_fits_206 (by decide) (fun c15 => ?_) (fun c15 => ?_)
            · exact absurd c15 (by decide)
            · refine lv_iconst (v := -1) hx hb d_Mo_fits_209 (by decide) ?_
              refine lv_topq (y := (-1 : Int32)) rfl ?_
              refine lv_goto (tgt := 219) hx hb d_Mo_fits_210 (by decide) ?_
              refine lv_istore (lv' := [(6, _), (5, _), (4, _), (0, _), (1, _), (2, _), (3, _)]) hx hb d_Mo_fits_219 hl (by decide) rfl (fun ls hl => ?_)
              refine lv_iload hx hb d_Mo_fits_221 (lv_at hl 0 rfl) ?_
              refine lv_if_le (tgt := 242) hx hb d_Mo_fits_223 (by decide) (fun c16 => ?_) (fun c16 => ?_)
              · refine lv_iconst (v := 0) hx hb d_Mo_fits_242 (by decide) ?_
                refine lv_topq (y := nI 0) (rfl) ?_
                exact hret _ _ _ _ _ _ _ hS hP hD d_Mo_fits_243 (nr_z (Or.inl rfl)) (by have e9 : ftB t 6 e0 ol = false := (by show (match wnO t e0 with | none => false | some m => match wnO t m with | none => false | some n => decide (n + 20 = t.length)) = false; rw [hm]); rw [e9]; exact ⟨rfl, rfl, rfl⟩)
              · exact absurd c16 (by decide)
          | some m =>
            refine lv_topq (y := nI m) (rfl) ?_
            have hbm := (wnO_s hm).2
            refine lv_istore (lv' := [(5, _), (4, _), (0, _), (1, _), (2, _), (3, _)]) hx hb d_Mo_fits_202 hl (by decide) rfl (fun ls hl => ?_)
            refine lv_iload hx hb d_Mo_fits_204 (lv_at hl 0 rfl) ?_
            refine lv_if_ge (tgt := 213) hx hb d_Mo_fits_206 (by decide) (fun c17 => ?_) (fun c17 => ?_)
            · have c17 : 0 ≤ m := (nI_leI (a := 0) (b := m) (by omega) (by omega)).mp c17
              refine lv_aload_n hx hb d_Mo_fits_213 rfl (lv_at hl 2 rfl) ?_
              refine lv_iload hx hb d_Mo_fits_214 (lv_at hl 0 rfl) ?_
              refine mw_cV (ci := 7) (k := 33) C0 (m_Mo_wholeName l D9 cB cI cJ cG a O _ _ t hT h16 htl m (by omega)) g_890 g_8 g_887 g_889 gs_Mo_wholeName ⟨by decide +kernel, by decide +kernel, show Option.map (fun d => d.parameters.length) (parseMethodDescriptor y_Mo_wholeName.desc) = some 1 by decide +kernel⟩ ⟨by decide, by decide⟩ rfl rfl hP hD hS hA rfl ww_33 hl.1 (Nat.le_of_ble_eq_true rfl) rfl d_Mo_fits_216 ⟨by decide, by decide⟩ (fun v9 w9 H locs hq hP hD hS => ?_)
              obtain ⟨I18, F19, hw9, q20⟩ := hq
              subst hw9
              obtain ⟨rfl, rfl, rfl⟩ := q20
              cases hn : wnO t m with
              | none =>
                refine lv_topq (y := (-1 : Int32)) (rfl) ?_
                refine lv_istore (lv' := [(6, _), (5, _), (4, _), (0, _), (1, _), (2, _), (3, _)]) hx hb d_Mo_fits_219 hl (by decide) rfl (fun ls hl => ?_)
                refine lv_iload hx hb d_Mo_fits_221 (lv_at hl 0 rfl) ?_
                refine lv_if_le (tgt := 242) hx hb d_Mo_fits_223 (by decide) (fun c21 => ?_) (fun c21 => ?_)
                · refine lv_iconst (v := 0) hx hb d_Mo_fits_242 (by decide) ?_
                  refine lv_topq (y := nI 0) (rfl) ?_
                  exact hret _ _ _ _ _ _ _ hS hP hD d_Mo_fits_243 (nr_z (Or.inl rfl)) (by have e9 : ftB t 6 e0 ol = false := (by show (match wnO t e0 with | none => false | some m => match wnO t m with | none => false | some n => decide (n + 20 = t.length)) = false; rw [hm]; simp only; rw [hn]); rw [e9]; exact ⟨rfl, rfl, rfl⟩)
                · exact absurd c21 (by decide)
              | some n =>
                refine lv_topq (y := nI n) (rfl) ?_
                have hbn := (wnO_s hn).2
                refine lv_istore (lv' := [(6, _), (5, _), (4, _), (0, _), (1, _), (2, _), (3, _)]) hx hb d_Mo_fits_219 hl (by decide) rfl (fun ls hl => ?_)
                refine lv_iload hx hb d_Mo_fits_221 (lv_at hl 0 rfl) ?_
                refine lv_if_le (tgt := 242) hx hb d_Mo_fits_223 (by decide) (fun c22 => ?_) (fun c22 => ?_)
                · have c22 : n ≤ 0 := (nI_leI (a := n) (b := 0) (by omega) (by omega)).mp c22
                  exfalso; omega
                · have c22 : ¬ (n ≤ 0) := fun z9 => c22 ((nI_leI (a := n) (b := 0) (by omega) (by omega)).mpr z9)
                  refine lv_iload hx hb d_Mo_fits_226 (lv_at hl 0 rfl) ?_
                  refine lv_bipush (v := 20) hx hb d_Mo_fits_228 (by decide) ?_
                  refine lv_topq (y := nI 20) (rfl) ?_
                  refine lv_iadd hx hb d_Mo_fits_230 ?_
                  refine lv_topq (y := nI (n + 20)) (nI_add _ _) ?_
                  refine lv_aload_n hx hb d_Mo_fits_231 rfl (lv_at hl 3 rfl) ?_
                  refine va_get (D := D9) (ci := 7) (C := R_Mo) (T := F_Mo) (N := 30) hx hb hts i_Mo hown hK hP 33 ww_33 rfl 2 (by decide) (hts _ g_724) (fun _ h9 => h9) rfl d_Mo_fits_232 ?_
                  refine lv_topq (y := nI t.length) (h16) ?_
                  refine lv_icmp_ne (tgt := 242) hx hb d_Mo_fits_235 (by decide) (fun c23 => ?_) (fun c23 => ?_)
                  · have c23 : ¬ (n + 20 = t.length) := fun z9 => c23 ((nI_eq (a := n + 20) (b := t.length) (by omega) (by omega)).mpr z9)
                    refine lv_iconst (v := 0) hx hb d_Mo_fits_242 (by decide) ?_
                    refine lv_topq (y := nI 0) (rfl) ?_
                    exact hret _ _ _ _ _ _ _ hS hP hD d_Mo_fits_243 (nr_z (Or.inl rfl)) (by have e9 : ftB t 6 e0 ol = false := (by show (match wnO t e0 with | none => false | some m => match wnO t m with | none => false | some n => decide (n + 20 = t.length)) = false; rw [hm]; simp only; rw [hn]; simp <;> omega); rw [e9]; exact ⟨rfl, rfl, rfl⟩)
                  · have c23 : n + 20 = t.length := (nI_eq (a := n + 20) (b := t.length) (by omega) (by omega)).mp c23
                    refine lv_iconst (v := 1) hx hb d_Mo_fits_238 (by decide) ?_
                    refine lv_topq (y := nI 1) (rfl) ?_
                    refine lv_goto (tgt := 243) hx hb d_Mo_fits_239 (by decide) ?_
                    exact hret _ _ _ _ _ _ _ hS hP hD d_Mo_fits_243 (nr_z (Or.inr rfl)) (by have e9 : ftB t 6 e0 ol = true := (by show (match wnO t e0 with | none => false | some m => match wnO t m with | none => false | some n => decide (n + 20 = t.length)) = true; rw [hm]; simp only; rw [hn]; simp <;> omega); rw [e9]; exact ⟨rfl, rfl, rfl⟩)
            · have c17 : ¬ (0 ≤ m) := fun z9 => c17 ((nI_leI (a := 0) (b := m) (by omega) (by omega)).mpr z9)
              exfalso; omega
        · by_cases ty12 : ty = 12
          · subst ty12
            refine lv_lookup (tgt := 125) hx hb d_Mo_fits_9 (by decide) rfl (by decide) ?_
            refine lv_aload_n hx hb d_Mo_fits_125 rfl (lv_at hl 1 rfl) ?_
            refine lv_iload_n hx hb d_Mo_fits_126 rfl (lv_at hl 3 rfl) ?_
            refine mw_cV (ci := 7) (k := 33) C0 (m_Mo_wholeName l D9 cB cI cJ cG a O _ _ t hT h16 htl e0 (by omega)) g_890 g_8 g_887 g_889 gs_Mo_wholeName ⟨by decide +kernel, by decide +kernel, show Option.map (fun d => d.parameters.length) (parseMethodDescriptor y_Mo_wholeName.desc) = some 1 by decide +kernel⟩ ⟨by decide, by decide⟩ rfl rfl hP hD hS hA rfl ww_33 hl.1 (Nat.le_of_ble_eq_true rfl) rfl d_Mo_fits_127 ⟨by decide, by decide⟩ (fun v9 w9 H locs hq hP hD hS => ?_)
            obtain ⟨I24, F25, hw9, q26⟩ := hq
            subst hw9
            obtain ⟨rfl, rfl, rfl⟩ := q26
            cases hm : wnO t e0 with
            | none =>
              refine lv_topq (y := (-1 : Int32)) (rfl) ?_
              refine lv_aload_n hx hb d_Mo_fits_130 rfl (lv_at hl 1 rfl) ?_
              refine va_get (D := D9) (ci := 7) (C := R_Mo) (T := F_Mo) (N := 30) hx hb hts i_Mo hown hK hP 33 ww_33 rfl 2 (by decide) (hts _ g_724) (fun _ h9 => h9) rfl d_Mo_fits_131 ?_
              refine lv_topq (y := nI t.length) (h16) ?_
              refine lv_icmp_ne (tgt := 141) hx hb d_Mo_fits_134 (by decide) (fun c27 => ?_) (fun c27 => ?_)
              · refine lv_iconst (v := 0) hx hb d_Mo_fits_141 (by decide) ?_
                refine lv_topq (y := nI 0) (rfl) ?_
                exact hret _ _ _ _ _ _ _ hS hP hD d_Mo_fits_142 (nr_z (Or.inl rfl)) (by have e9 : ftB t 12 e0 ol = false := (by show decide (wnO t e0 = some t.length) = false; rw [hm]; simp <;> omega); rw [e9]; exact ⟨rfl, rfl, rfl⟩)
              · exact absurd c27 (m1_ne (n := t.length) (by omega))
            | some m =>
              refine lv_topq (y := nI m) (rfl) ?_
              have hbm := (wnO_s hm).2
              refine lv_aload_n hx hb d_Mo_fits_130 rfl (lv_at hl 1 rfl) ?_
              refine va_get (D := D9) (ci := 7) (C := R_Mo) (T := F_Mo) (N := 30) hx hb hts i_Mo hown hK hP 33 ww_33 rfl 2 (by decide) (hts _ g_724) (fun _ h9 => h9) rfl d_Mo_fits_131 ?_
              refine lv_topq (y := nI t.length) (h16) ?_
              refine lv_icmp_ne (tgt := 141) hx hb d_Mo_fits_134 (by decide) (fun c28 => ?_) (fun c28 => ?_)
              · have c28 : ¬ (m = t.length) := fun z9 => c28 ((nI_eq (a := m) (b := t.length) (by omega) (by omega)).mpr z9)
                refine lv_iconst (v := 0) hx hb d_Mo_fits_141 (by decide) ?_
                refine lv_topq (y := nI 0) (rfl) ?_
                exact hret _ _ _ _ _ _ _ hS hP hD d_Mo_fits_142 (nr_z (Or.inl rfl)) (by have e9 : ftB t 12 e0 ol = false := (by show decide (wnO t e0 = some t.length) = false; rw [hm]; simp <;> omega); rw [e9]; exact ⟨rfl, rfl, rfl⟩)
              · have c28 : m = t.length := (nI_eq (a := m) (b := t.length) (by omega) (by omega)).mp c28
                refine lv_iconst (v := 1) hx hb d_Mo_fits_137 (by decide) ?_
                refine lv_topq (y := nI 1) (rfl) ?_
                refine lv_goto (tgt := 142) hx hb d_Mo_fits_138 (by decide) ?_
                exact hret _ _ _ _ _ _ _ hS hP hD d_Mo_fits_142 (nr_z (Or.inr rfl)) (by have e9 : ftB t 12 e0 ol = true := (by show decide (wnO t e0 = some t.length) = true; rw [hm]; simp <;> omega); rw [e9]; exact ⟨rfl, rfl, rfl⟩)
          · by_cases ty15 : ty = 15
            · subst ty15
              refine lv_lookup (tgt := 143) hx hb d_Mo_fits_9 (by decide) rfl (by decide) ?_
              refine lv_iload hx hb d_Mo_fits_143 (lv_at hl 0 rfl) ?_
              refine lv_iconst (v := 2) hx hb d_Mo_fits_145 (by decide) ?_
              refine lv_topq (y := nI 2) (rfl) ?_
              refine lv_icmp_le (tgt := 167) hx hb d_Mo_fits_146 (by decide) (fun c29 => ?_) (fun c29 => ?_)
              · have c29 : t.length - e0 ≤ 2 := (nI_leI (a := t.length - e0) (b := 2) (by omega) (by omega)).mp c29
                refine lv_iconst (v := 0) hx hb d_Mo_fits_167 (by decide) ?_
                refine lv_topq (y := nI 0) (rfl) ?_
                exact hret _ _ _ _ _ _ _ hS hP hD d_Mo_fits_168 (nr_z (Or.inl rfl)) (by have e9 : ftB t 15 e0 ol = false := (by show (decide (2 < t.length - e0) && decide (wnO t (e0 + 2) = some t.length)) = false; simp <;> omega); rw [e9]; exact ⟨rfl, rfl, rfl⟩)
              · have c29 : ¬ (t.length - e0 ≤ 2) := fun z9 => c29 ((nI_leI (a := t.length - e0) (b := 2) (by omega) (by omega)).mpr z9)
                refine lv_aload_n hx hb d_Mo_fits_149 rfl (lv_at hl 1 rfl) ?_
                refine lv_iload_n hx hb d_Mo_fits_150 rfl (lv_at hl 3 rfl) ?_
                refine lv_iconst (v := 2) hx hb d_Mo_fits_151 (by decide) ?_
                refine lv_topq (y := nI 2) (rfl) ?_
                refine lv_iadd hx hb d_Mo_fits_152 ?_
                refine lv_topq (y := nI (e0 + 2)) (nI_add _ _) ?_
                refine mw_cV (ci := 7) (k := 33) C0 (m_Mo_wholeName l D9 cB cI cJ cG a O _ _ t hT h16 htl (e0 + 2) (by omega)) g_890 g_8 g_887 g_889 gs_Mo_wholeName ⟨by decide +kernel, by decide +kernel, show Option.map (fun d => d.parameters.length) (parseMethodDescriptor y_Mo_wholeName.desc) = some 1 by decide +kernel⟩ ⟨by decide, by decide⟩ rfl rfl hP hD hS hA rfl ww_33 hl.1 (Nat.le_of_ble_eq_true rfl) rfl d_Mo_fits_153 ⟨by decide, by decide⟩ (fun v9 w9 H locs hq hP hD hS => ?_)
                obtain ⟨I30, F31, hw9, q32⟩ := hq
                subst hw9
                obtain ⟨rfl, rfl, rfl⟩ := q32
                cases hm : wnO t (e0 + 2) with
                | none =>
                  refine lv_topq (y := (-1 : Int32)) (rfl) ?_
                  refine lv_aload_n hx hb d_Mo_fits_156 rfl (lv_at hl 1 rfl) ?_
                  refine va_get (D := D9) (ci := 7) (C := R_Mo) (T := F_Mo) (N := 30) hx hb hts i_Mo hown hK hP 33 ww_33 rfl 2 (by decide) (hts _ g_724) (fun _ h9 => h9) rfl d_Mo_fits_157 ?_
                  refine lv_topq (y := nI t.length) (h16) ?_
                  refine lv_icmp_ne (tgt := 167) hx hb d_Mo_fits_160 (by decide) (fun c33 => ?_) (fun c33 => ?_)
                  · refine lv_iconst (v := 0) hx hb d_Mo_fits_167 (by decide) ?_
                    refine lv_topq (y := nI 0) (rfl) ?_
                    exact hret _ _ _ _ _ _ _ hS hP hD d_Mo_fits_168 (nr_z (Or.inl rfl)) (by have e9 : ftB t 15 e0 ol = false := (by show (decide (2 < t.length - e0) && decide (wnO t (e0 + 2) = some t.length)) = false; rw [hm]; simp <;> omega); rw [e9]; exact ⟨rfl, rfl, rfl⟩)
                  · exact absurd c33 (m1_ne (n := t.length) (by omega))
                | some m =>
                  refine lv_topq (y := nI m) (rfl) ?_
                  have hbm := (wnO_s hm).2
                  refine lv_aload_n hx hb d_Mo_fits_156 rfl (lv_at hl 1 rfl) ?_
                  refine va_get (D := D9) (ci := 7) (C := R_Mo) (T := F_Mo) (N := 30) hx hb hts i_Mo hown hK hP 33 ww_33 rfl 2 (by decide) (hts _ g_724) (fun _ h9 => h9) rfl d_Mo_fits_157 ?_
                  refine lv_topq (y := nI t.length) (h16) ?_
                  refine lv_icmp_ne (tgt := 167) hx hb d_Mo_fits_160 (by decide) (fun c34 => ?_) (fun c34 => ?_)
                  · have c34 : ¬ (m = t.length) := fun z9 => c34 ((nI_eq (a := m) (b := t.length) (by omega) (by omega)).mpr z9)
                    refine lv_iconst (v := 0) hx hb d_Mo_fits_167 (by decide) ?_
                    refine lv_topq (y := nI 0) (rfl) ?_
                    exact hret _ _ _ _ _ _ _ hS hP hD d_Mo_fits_168 (nr_z (Or.inl rfl)) (by have e9 : ftB t 15 e0 ol = false := (by show (decide (2 < t.length - e0) && decide (wnO t (e0 + 2) = some t.length)) = false; rw [hm]; simp <;> omega); rw [e9]; exact ⟨rfl, rfl, rfl⟩)
                  · have c34 : m = t.length := (nI_eq (a := m) (b := t.length) (by omega) (by omega)).mp c34
                    refine lv_iconst (v := 1) hx hb d_Mo_fits_163 (by decide) ?_
                    refine lv_topq (y := nI 1) (rfl) ?_
                    refine lv_goto (tgt := 168) hx hb d_Mo_fits_164 (by decide) ?_
                    exact hret _ _ _ _ _ _ _ hS hP hD d_Mo_fits_168 (nr_z (Or.inr rfl)) (by have e9 : ftB t 15 e0 ol = true := (by show (decide (2 < t.length - e0) && decide (wnO t (e0 + 2) = some t.length)) = true; rw [hm]; simp <;> omega); rw [e9]; exact ⟨rfl, rfl, rfl⟩)
            · by_cases ty16 : ty = 16
              · subst ty16
                refine lv_lookup (tgt := 244) hx hb d_Mo_fits_9 (by decide) rfl (by decide) ?_
                refine lv_iload_n hx hb d_Mo_fits_244 rfl (lv_at hl 3 rfl) ?_
                refine lv_istore (lv' := [(7, _), (4, _), (0, _), (1, _), (2, _), (3, _)]) hx hb d_Mo_fits_245 hl (by decide) rfl (fun ls hl => ?_)
                have loopS : ∀ (nc : Nat) (ap : Nat) (f9 : Nat) (H : Heap) (locs : List Loc) (ls : Array Slot), (t.length - ap = nc) → (e0 ≤ ap ∧ ap ≤ 66000) → (t.length - ap < f9) → (se (t.length - e0 + 1) t e0 t.length = se f9 t ap t.length) → va_P D9 cls9 (WW a cB cI cJ cG I F O) H → va_D A0 (WW a cB cI cJ cG I F O) → va_S A0 s.heap H locs → lv_has ls 8 [(0, .ref (a 33)), (1, .int (nI 16)), (2, .int (nI e0)), (4, .int (nI (t.length - e0))), (7, .int (nI ap))] → W p l e (rm9 2 0 0) s m ([.ref (a 33), .int (nI 16), .int (nI e0), .int (bI (decide (ol = 1)))] : List Value).toArray below meth c H locs 0 0 Q (F0 m 247 ls []) := by
                  intro nc
                  induction nc using Nat.strongRecOn with
                  | ind nc ihc =>
                    intro ap f9 H locs ls hnc hap hf9 hE hP hD hS hl
                    obtain ⟨g9, rfl⟩ : ∃ g9, f9 = g9 + 1 := ⟨f9 - 1, by omega⟩
                    have hE2 : se (g9 + 1) t ap t.length = if ap < t.length then se g9 t (ap + (1 + tb t ap)) t.length else decide (ap = t.length) := rfl
                    rw [hE2] at hE
                    refine lv_iload hx hb d_Mo_fits_247 (lv_at hl 4 rfl) ?_
                    refine lv_aload_n hx hb d_Mo_fits_249 rfl (lv_at hl 0 rfl) ?_
                    refine va_get (D := D9) (ci := 7) (C := R_Mo) (T := F_Mo) (N := 30) hx hb hts i_Mo hown hK hP 33 ww_33 rfl 2 (by decide) (hts _ g_724) (fun _ h9 => h9) rfl d_Mo_fits_250 ?_
                    refine lv_topq (y := nI t.length) (h16) ?_
                    refine lv_icmp_ge (tgt := 272) hx hb d_Mo_fits_253 (by decide) (fun c35 => ?_) (fun c35 => ?_)
                    · have c35 : t.length ≤ ap := (nI_leI (a := t.length) (b := ap) (by omega) (by omega)).mp c35
                      rw [if_neg (by omega)] at hE
                      refine lv_iload hx hb d_Mo_fits_272 (lv_at hl 3 rfl) ?_
                      refine lv_if_le (tgt := 290) hx hb d_Mo_fits_274 (by decide) (fun c36 => ?_) (fun c36 => ?_)
                      · have c36 : t.length - e0 ≤ 0 := (nI_leI (a := t.length - e0) (b := 0) (by omega) (by omega)).mp c36
                        refine lv_iconst (v := 0) hx hb d_Mo_fits_290 (by decide) ?_
                        refine lv_topq (y := nI 0) (rfl) ?_
                        exact hret _ _ _ _ _ _ _ hS hP hD d_Mo_fits_291 (nr_z (Or.inl rfl)) (by have e9 : ftB t 16 e0 ol = false := (by show strs t e0 t.length = false; unfold strs; rw [hE]; simp <;> omega); rw [e9]; exact ⟨rfl, rfl, rfl⟩)
                      · have c36 : ¬ (t.length - e0 ≤ 0) := fun z9 => c36 ((nI_leI (a := t.length - e0) (b := 0) (by omega) (by omega)).mpr z9)
                        refine lv_iload hx hb d_Mo_fits_277 (lv_at hl 4 rfl) ?_
                        refine lv_aload_n hx hb d_Mo_fits_279 rfl (lv_at hl 0 rfl) ?_
                        refine va_get (D := D9) (ci := 7) (C := R_Mo) (T := F_Mo) (N := 30) hx hb hts i_Mo hown hK hP 33 ww_33 rfl 2 (by decide) (hts _ g_724) (fun _ h9 => h9) rfl d_Mo_fits_280 ?_
                        refine lv_topq (y := nI t.length) (h16) ?_
                        refine lv_icmp_ne (tgt := 290) hx hb d_Mo_fits_283 (by decide) (fun c37 => ?_) (fun c37 => ?_)
                        · have c37 : ¬ (ap = t.length) := fun z9 => c37 ((nI_eq (a := ap) (b := t.length) (by omega) (by omega)).mpr z9)
                          refine lv_iconst (v := 0) hx hb d_Mo_fits_290 (by decide) ?_
                          refine lv_topq (y := nI 0) (rfl) ?_
                          exact hret _ _ _ _ _ _ _ hS hP hD d_Mo_fits_291 (nr_z (Or.inl rfl)) (by have e9 : ftB t 16 e0 ol = false := (by show strs t e0 t.length = false; unfold strs; rw [hE]; simp <;> omega); rw [e9]; exact ⟨rfl, rfl, rfl⟩)
                        · have c37 : ap = t.length := (nI_eq (a := ap) (b := t.length) (by omega) (by omega)).mp c37
                          refine lv_iconst (v := 1) hx hb d_Mo_fits_286 (by decide) ?_
                          refine lv_topq (y := nI 1) (rfl) ?_
                          refine lv_goto (tgt := 291) hx hb d_Mo_fits_287 (by decide) ?_
                          exact hret _ _ _ _ _ _ _ hS hP hD d_Mo_fits_291 (nr_z (Or.inr rfl)) (by have e9 : ftB t 16 e0 ol = true := (by show strs t e0 t.length = true; unfold strs; rw [hE]; simp <;> omega); rw [e9]; exact ⟨rfl, rfl, rfl⟩)
                    · have c35 : ¬ (t.length ≤ ap) := fun z9 => c35 ((nI_leI (a := t.length) (b := ap) (by omega) (by omega)).mpr z9)
                      rw [if_pos (by omega)] at hE
                      have hby : tb t ap < 256 := BR_lt hT (by omega) (by omega) (by omega)
                      refine lv_iload hx hb d_Mo_fits_256 (lv_at hl 4 rfl) ?_
                      refine lv_iconst (v := 1) hx hb d_Mo_fits_258 (by decide) ?_
                      refine lv_topq (y := nI 1) (rfl) ?_
                      refine lv_aload_n hx hb d_Mo_fits_259 rfl (lv_at hl 0 rfl) ?_
                      refine lv_iload hx hb d_Mo_fits_260 (lv_at hl 4 rfl) ?_
                      refine mw_cV (ci := 7) (k := 33) C0 (m_Mo_here l D9 cB cI cJ cG a O _ _ t hT h16 htl ap (by omega)) g_832 g_8 g_829 g_831 gs_Mo_here ⟨by decide +kernel, by decide +kernel, show Option.map (fun d => d.parameters.length) (parseMethodDescriptor y_Mo_here.desc) = some 1 by decide +kernel⟩ ⟨by decide, by decide⟩ rfl rfl hP hD hS hA rfl ww_33 hl.1 (Nat.le_of_ble_eq_true rfl) rfl d_Mo_fits_262 ⟨by decide, by decide⟩ (fun v9 w9 H locs hq hP hD hS => ?_)
                      obtain ⟨I38, F39, hw9, q40⟩ := hq
                      subst hw9
                      obtain ⟨rfl, rfl, rfl⟩ := q40
                      refine lv_iadd hx hb d_Mo_fits_265 ?_
                      refine lv_topq (y := nI (1 + (tb t ap))) (nI_add _ _) ?_
                      refine lv_iadd hx hb d_Mo_fits_266 ?_
                      refine lv_topq (y := nI (ap + (1 + (tb t ap)))) (nI_add _ _) ?_
                      refine lv_istore (lv' := [(7, _), (0, _), (1, _), (2, _), (4, _)]) hx hb d_Mo_fits_267 hl (by decide) rfl (fun ls hl => ?_)
                      refine lv_goto (tgt := 247) hx hb d_Mo_fits_269 (by decide) ?_
                      exact ihc _ (by omega) (ap + (1 + tb t ap)) g9  _ _ _ rfl ⟨by omega, by omega⟩ (by omega) hE hP hD hS (lv_pk hl [1, 2, 3, 4, 0] rfl)
                exact loopS _ e0 (t.length - e0 + 1)  _ _ _ rfl ⟨Nat.le_refl _, by omega⟩ (by omega) rfl hP hD hS (lv_pk hl [2, 3, 4, 1, 0] rfl)
              · by_cases ty28 : ty = 28
                · subst ty28
                  refine lv_lookup (tgt := 112) hx hb d_Mo_fits_9 (by decide) rfl (by decide) ?_
                  refine lv_iload hx hb d_Mo_fits_112 (lv_at hl 0 rfl) ?_
                  refine lv_bipush (v := 16) hx hb d_Mo_fits_114 (by decide) ?_
                  refine lv_topq (y := nI 16) (rfl) ?_
                  refine lv_icmp_ne (tgt := 123) hx hb d_Mo_fits_116 (by decide) (fun c41 => ?_) (fun c41 => ?_)
                  · have c41 : ¬ (t.length - e0 = 16) := fun z9 => c41 ((nI_eq (a := t.length - e0) (b := 16) (by omega) (by omega)).mpr z9)
                    refine lv_iconst (v := 0) hx hb d_Mo_fits_123 (by decide) ?_
                    refine lv_topq (y := nI 0) (rfl) ?_
                    exact hret _ _ _ _ _ _ _ hS hP hD d_Mo_fits_124 (nr_z (Or.inl rfl)) (by have e9 : ftB t 28 e0 ol = false := (by show decide (t.length - e0 = 16) = false; simp; omega); rw [e9]; exact ⟨rfl, rfl, rfl⟩)
                  · have c41 : t.length - e0 = 16 := (nI_eq (a := t.length - e0) (b := 16) (by omega) (by omega)).mp c41
                    refine lv_iconst (v := 1) hx hb d_Mo_fits_119 (by decide) ?_
                    refine lv_topq (y := nI 1) (rfl) ?_
                    refine lv_goto (tgt := 124) hx hb d_Mo_fits_120 (by decide) ?_
                    exact hret _ _ _ _ _ _ _ hS hP hD d_Mo_fits_124 (nr_z (Or.inr rfl)) (by have e9 : ftB t 28 e0 ol = true := (by show decide (t.length - e0 = 16) = true; simp; omega); rw [e9]; exact ⟨rfl, rfl, rfl⟩)
                · by_cases ty33 : ty = 33
                  · subst ty33
                    refine lv_lookup (tgt := 169) hx hb d_Mo_fits_9 (by decide) rfl (by decide) ?_
                    refine lv_iload hx hb d_Mo_fits_169 (lv_at hl 0 rfl) ?_
                    refine lv_bipush (v := 6) hx hb d_Mo_fits_171 (by decide) ?_
                    refine lv_topq (y := nI 6) (rfl) ?_
                    refine lv_icmp_le (tgt := 195) hx hb d_Mo_fits_173 (by decide) (fun c42 => ?_) (fun c42 => ?_)
                    · have c42 : t.length - e0 ≤ 6 := (nI_leI (a := t.length - e0) (b := 6) (by omega) (by omega)).mp c42
                      refine lv_iconst (v := 0) hx hb d_Mo_fits_195 (by decide) ?_
                      refine lv_topq (y := nI 0) (rfl) ?_
                      exact hret _ _ _ _ _ _ _ hS hP hD d_Mo_fits_196 (nr_z (Or.inl rfl)) (by have e9 : ftB t 33 e0 ol = false := (by show (decide (6 < t.length - e0) && decide (wnO t (e0 + 6) = some t.length)) = false; simp <;> omega); rw [e9]; exact ⟨rfl, rfl, rfl⟩)
                    · have c42 : ¬ (t.length - e0 ≤ 6) := fun z9 => c42 ((nI_leI (a := t.length - e0) (b := 6) (by omega) (by omega)).mpr z9)
                      refine lv_aload_n hx hb d_Mo_fits_176 rfl (lv_at hl 1 rfl) ?_
                      refine lv_iload_n hx hb d_Mo_fits_177 rfl (lv_at hl 3 rfl) ?_
                      refine lv_bipush (v := 6) hx hb d_Mo_fits_178 (by decide) ?_
                      refine lv_topq (y := nI 6) (rfl) ?_
                      refine lv_iadd hx hb d_Mo_fits_180 ?_
                      refine lv_topq (y := nI (e0 + 6)) (nI_add _ _) ?_
                      refine mw_cV (ci := 7) (k := 33) C0 (m_Mo_wholeName l D9 cB cI cJ cG a O _ _ t hT h16 htl (e0 + 6) (by omega)) g_890 g_8 g_887 g_889 gs_Mo_wholeName ⟨by decide +kernel, by decide +kernel, show Option.map (fun d => d.parameters.length) (parseMethodDescriptor y_Mo_wholeName.desc) = some 1 by decide +kernel⟩ ⟨by decide, by decide⟩ rfl rfl hP hD hS hA rfl ww_33 hl.1 (Nat.le_of_ble_eq_true rfl) rfl d_Mo_fits_181 ⟨by decide, by decide⟩ (fun v9 w9 H locs hq hP hD hS => ?_)
                      obtain ⟨I43, F44, hw9, q45⟩ := hq
                      subst hw9
                      obtain ⟨rfl, rfl, rfl⟩ := q45
                      cases hm : wnO t (e0 + 6) with
                      | none =>
                        refine lv_topq (y := (-1 : Int32)) (rfl) ?_
                        refine lv_aload_n hx hb d_Mo_fits_184 rfl (lv_at hl 1 rfl) ?_
                        refine va_get (D := D9) (ci := 7) (C := R_Mo) (T := F_Mo) (N := 30) hx hb hts i_Mo hown hK hP 33 ww_33 rfl 2 (by decide) (hts _ g_724) (fun _ h9 => h9) rfl d_Mo_fits_185 ?_
                        refine lv_topq (y := nI t.length) (h16) ?_
                        refine lv_icmp_ne (tgt := 195) hx hb d_Mo_fits_188 (by decide) (fun c46 => ?_) (fun c46 => ?_)
                        · refine lv_iconst (v := 0) hx hb d_Mo_fits_195 (by decide) ?_
                          refine lv_topq (y := nI 0) (rfl) ?_
                          exact hret _ _ _ _ _ _ _ hS hP hD d_Mo_fits_196 (nr_z (Or.inl rfl)) (by have e9 : ftB t 33 e0 ol = false := (by show (decide (6 < t.length - e0) && decide (wnO t (e0 + 6) = some t.length)) = false; rw [hm]; simp <;> omega); rw [e9]; exact ⟨rfl, rfl, rfl⟩)
                        · exact absurd c46 (m1_ne (n := t.length) (by omega))
                      | some m =>
                        refine lv_topq (y := nI m) (rfl) ?_
                        have hbm := (wnO_s hm).2
                        refine lv_aload_n hx hb d_Mo_fits_184 rfl (lv_at hl 1 rfl) ?_
                        refine va_get (D := D9) (ci := 7) (C := R_Mo) (T := F_Mo) (N := 30) hx hb hts i_Mo hown hK hP 33 ww_33 rfl 2 (by decide) (hts _ g_724) (fun _ h9 => h9) rfl d_Mo_fits_185 ?_
                        refine lv_topq (y := nI t.length) (h16) ?_
                        refine lv_icmp_ne (tgt := 195) hx hb d_Mo_fits_188 (by decide) (fun c47 => ?_) (fun c47 => ?_)
                        · have c47 : ¬ (m = t.length) := fun z9 => c47 ((nI_eq (a := m) (b := t.length) (by omega) (by omega)).mpr z9)
                          refine lv_iconst (v := 0) hx hb d_Mo_fits_195 (by decide) ?_
                          refine lv_topq (y := nI 0) (rfl) ?_
                          exact hret _ _ _ _ _ _ _ hS hP hD d_Mo_fits_196 (nr_z (Or.inl rfl)) (by have e9 : ftB t 33 e0 ol = false := (by show (decide (6 < t.length - e0) && decide (wnO t (e0 + 6) = some t.length)) = false; rw [hm]; simp <;> omega); rw [e9]; exact ⟨rfl, rfl, rfl⟩)
                        · have c47 : m = t.length := (nI_eq (a := m) (b := t.length) (by omega) (by omega)).mp c47
                          refine lv_iconst (v := 1) hx hb d_Mo_fits_191 (by decide) ?_
                          refine lv_topq (y := nI 1) (rfl) ?_
                          refine lv_goto (tgt := 196) hx hb d_Mo_fits_192 (by decide) ?_
                          exact hret _ _ _ _ _ _ _ hS hP hD d_Mo_fits_196 (nr_z (Or.inr rfl)) (by have e9 : ftB t 33 e0 ol = true := (by show (decide (6 < t.length - e0) && decide (wnO t (e0 + 6) = some t.length)) = true; rw [hm]; simp <;> omega); rw [e9]; exact ⟨rfl, rfl, rfl⟩)
                  · by_cases ty41 : ty = 41
                    · subst ty41
                      refine lv_lookup (tgt := 292) hx hb d_Mo_fits_9 (by decide) rfl (by decide) ?_
                      refine lv_iload_n hx hb d_Mo_fits_292 rfl (lv_at hl 4 rfl) ?_
                      exact hret _ _ _ _ _ _ _ hS hP hD d_Mo_fits_293 (nr_z (bI_01 _)) (⟨rfl, rfl, rfl⟩)
                    · refine lv_lookup (tgt := 294) hx hb d_Mo_fits_9 (by decide) (show Op.lookupswitch.offset [(1, 91), (2, 116), (5, 116), (6, 188), (12, 116), (15, 134), (16, 235), (28, 103), (33, 160), (41, 283)] (285) (nI ty).toInt = 285 by rw [nI_toInt (by omega), Op.lookupswitch.offset_cons, if_neg (by omega), Op.lookupswitch.offset_cons, if_neg (by omega), Op.lookupswitch.offset_cons, if_neg (by omega), Op.lookupswitch.offset_cons, if_neg (by omega), Op.lookupswitch.offset_cons, if_neg (by omega), Op.lookupswitch.offset_cons, if_neg (by omega), Op.lookupswitch.offset_cons, if_neg (by omega), Op.lookupswitch.offset_cons, if_neg (by omega), Op.lookupswitch.offset_cons, if_neg (by omega), Op.lookupswitch.offset_cons, if_neg (by omega), Op.lookupswitch.offset_nil]) (by decide) ?_
                      refine lv_iconst (v := 1) hx hb d_Mo_fits_294 (by decide) ?_
                      refine lv_topq (y := nI 1) (rfl) ?_
                      exact hret _ _ _ _ _ _ _ hS hP hD d_Mo_fits_295 (nr_z (Or.inr rfl)) (by have e9 : ftB t ty e0 ol = true := (by unfold ftB; rw [if_neg ty1, if_neg ty28, if_neg ty16, if_neg ty41, if_neg (by omega), if_neg ty15, if_neg ty33, if_neg ty6]); rw [e9]; exact ⟨rfl, rfl, rfl⟩)
set_option maxHeartbeats 4000000 in
set_option maxRecDepth 100000 in
/-- the reference: gathered -/
theorem m_Mo_gathered (l : Launch) (D9 : va_G) (cB cI cJ cG : ClassId) (a : Nat → Nat) (O : Nat → Int64) (I : Nat → Int32) (F : Nat → Nat → Int32) (t : List Nat) (hT : BR 0 65536 (F 34) t) (h16 : I 16 = nI t.length) (htl : t.length ≤ 65536) (es : List En9) (hR : MoR F es) (h18 : I 18 = nI es.length) (hO : okE es) (sc ty nn : Nat) (y z : Int32) (h17 : I 17 = nI (fl es).length) (hsc : sc < 4) (hnn : nn ≤ t.length) : MC l D9 cB cI cJ cG a O y_Mo_gathered b_Mo_gathered 8 (some .int) 1 [.ref (a 33), .int (nI sc), .int (nI ty), .int (y), .int (z), .int (nI nn)] I F (fun v I' F' => v = some (.int (nI (cn sc (es ++ [((sc, ty, un y % 65536, z, sl9 t 0 nn, sl9 t nn (t.length - nn)) : En9)])))) ∧ sm [16, 17, 18] I I' ∧ I' 16 = nI 0 ∧ I' 17 = nI (fl (es ++ [((sc, ty, un y % 65536, z, sl9 t 0 nn, sl9 t nn (t.length - nn)) : En9)])).length ∧ I' 18 = nI (es ++ [((sc, ty, un y % 65536, z, sl9 t 0 nn, sl9 t nn (t.length - nn)) : En9)]).length ∧ sm [35, 36, 37, 38, 39, 40, 41, 42, 43] F F' ∧ MoR F' (es ++ [((sc, ty, un y % 65536, z, sl9 t 0 nn, sl9 t nn (t.length - nn)) : En9)])) := by
  refine mc_of (by decide) (Nat.le_of_ble_eq_true rfl) ?_
  intro p e s m below meth c ls A0 Q C0 hP hD hA hS hl hret
  obtain ⟨hx, hb, hml, hr, hlocks, hown, hts, hK⟩ := id C0
  have hl : lv_has ls 8 [(0, .ref (a 33)), (1, .int (nI sc)), (2, .int (nI ty)), (3, .int (y)), (4, .int (z)), (5, .int (nI nn))] := hl
  have hln := okE_len hO
  have k2 := hO.2.2.1
  refine lv_aload_n hx hb d_Mo_gathered_0 rfl (lv_at hl 0 rfl) ?_
  refine va_get (D := D9) (ci := 7) (C := R_Mo) (T := F_Mo) (N := 30) hx hb hts i_Mo hown hK hP 33 ww_33 rfl 5 (by decide) (hts _ g_727) (fun _ h9 => h9) rfl d_Mo_gathered_1 ?_
  refine lv_topq (y := nI es.length) (h18) ?_
  refine lv_istore (lv' := [(6, _), (0, _), (1, _), (2, _), (3, _), (4, _), (5, _)]) hx hb d_Mo_gathered_4 hl (by decide) rfl (fun ls hl => ?_)
  refine lv_aload_n hx hb d_Mo_gathered_6 rfl (lv_at hl 1 rfl) ?_
  refine va_get (D := D9) (ci := 7) (C := R_Mo) (T := F_Mo) (N := 30) hx hb hts i_Mo hown hK hP 33 ww_33 rfl 8 (by decide) (hts _ g_730) (fun _ h9 => h9) rfl d_Mo_gathered_7 ?_
  refine lv_iload hx hb d_Mo_gathered_10 (lv_at hl 0 rfl) ?_
  refine lv_iload_n hx hb d_Mo_gathered_12 rfl (lv_at hl 2 rfl) ?_
  refine va_iast (D := D9) hx hb hK hP hD hS 36 1 ww_36 rfl (vp_in_nI (by omega) (by decide)) d_Mo_gathered_13 (fun H locs hP hD hS => ?_)
  obtain ⟨F1, aF1, sF1, hP, hD⟩ := fx (P := fun z => va_P D9 cls9 (WW a cB cI cJ cG _ z O) H ∧ va_D A0 (WW a cB cI cJ cG _ z O)) ⟨wpa_36 hP, wda_36 hD⟩
  rw [nI_clamp (by omega)] at aF1
  refine lv_aload_n hx hb d_Mo_gathered_14 rfl (lv_at hl 1 rfl) ?_
  refine va_get (D := D9) (ci := 7) (C := R_Mo) (T := F_Mo) (N := 30) hx hb hts i_Mo hown hK hP 33 ww_33 rfl 9 (by decide) (hts _ g_731) (fun _ h9 => h9) rfl d_Mo_gathered_15 ?_
  refine lv_iload hx hb d_Mo_gathered_18 (lv_at hl 0 rfl) ?_
  refine lv_iload_n hx hb d_Mo_gathered_20 rfl (lv_at hl 3 rfl) ?_
  refine va_iast (D := D9) hx hb hK hP hD hS 37 1 ww_37 rfl (vp_in_nI (by omega) (by decide)) d_Mo_gathered_21 (fun H locs hP hD hS => ?_)
  obtain ⟨F2, aF2, sF2, hP, hD⟩ := fx (P := fun z => va_P D9 cls9 (WW a cB cI cJ cG _ z O) H ∧ va_D A0 (WW a cB cI cJ cG _ z O)) ⟨wpa_37 hP, wda_37 hD⟩
  rw [nI_clamp (by omega)] at aF2
  rw [(sF1 37 (by decide))] at aF2
  refine lv_aload_n hx hb d_Mo_gathered_22 rfl (lv_at hl 1 rfl) ?_
  refine va_get (D := D9) (ci := 7) (C := R_Mo) (T := F_Mo) (N := 30) hx hb hts i_Mo hown hK hP 33 ww_33 rfl 10 (by decide) (hts _ g_732) (fun _ h9 => h9) rfl d_Mo_gathered_23 ?_
  refine lv_iload hx hb d_Mo_gathered_26 (lv_at hl 0 rfl) ?_
  refine lv_iload_n hx hb d_Mo_gathered_28 rfl (lv_at hl 4 rfl) ?_
  refine lv_ldc hx hb hown (hts _ g_882) d_Mo_gathered_29 ?_
  refine lv_topq (y := nI 65535) (rfl) ?_
  refine lv_iand hx hb d_Mo_gathered_31 ?_
  refine lv_topq (y := nI (un y % 65536)) (lo16 _ rfl) ?_
  refine va_iast (D := D9) hx hb hK hP hD hS 38 1 ww_38 rfl (vp_in_nI (by omega) (by decide)) d_Mo_gathered_32 (fun H locs hP hD hS => ?_)
  obtain ⟨F3, aF3, sF3, hP, hD⟩ := fx (P := fun z => va_P D9 cls9 (WW a cB cI cJ cG _ z O) H ∧ va_D A0 (WW a cB cI cJ cG _ z O)) ⟨wpa_38 hP, wda_38 hD⟩
  rw [nI_clamp (by omega)] at aF3
  rw [((sF2 38 (by decide)).trans (sF1 38 (by decide)))] at aF3
  refine lv_aload_n hx hb d_Mo_gathered_33 rfl (lv_at hl 1 rfl) ?_
  refine va_get (D := D9) (ci := 7) (C := R_Mo) (T := F_Mo) (N := 30) hx hb hts i_Mo hown hK hP 33 ww_33 rfl 11 (by decide) (hts _ g_733) (fun _ h9 => h9) rfl d_Mo_gathered_34 ?_
  refine lv_iload hx hb d_Mo_gathered_37 (lv_at hl 0 rfl) ?_
  refine lv_iload hx hb d_Mo_gathered_39 (lv_at hl 5 rfl) ?_
  refine va_iast (D := D9) hx hb hK hP hD hS 39 1 ww_39 rfl (vp_in_nI (by omega) (by decide)) d_Mo_gathered_41 (fun H locs hP hD hS => ?_)
  obtain ⟨F4, aF4, sF4, hP, hD⟩ := fx (P := fun z => va_P D9 cls9 (WW a cB cI cJ cG _ z O) H ∧ va_D A0 (WW a cB cI cJ cG _ z O)) ⟨wpa_39 hP, wda_39 hD⟩
  rw [nI_clamp (by omega)] at aF4
  rw [((sF3 39 (by decide)).trans ((sF2 39 (by decide)).trans (sF1 39 (by decide))))] at aF4
  refine lv_aload_n hx hb d_Mo_gathered_42 rfl (lv_at hl 1 rfl) ?_
  refine va_get (D := D9) (ci := 7) (C := R_Mo) (T := F_Mo) (N := 30) hx hb hts i_Mo hown hK hP 33 ww_33 rfl 12 (by decide) (hts _ g_734) (fun _ h9 => h9) rfl d_Mo_gathered_43 ?_
  refine lv_iload hx hb d_Mo_gathered_46 (lv_at hl 0 rfl) ?_
  refine lv_aload_n hx hb d_Mo_gathered_48 rfl (lv_at hl 1 rfl) ?_
  refine va_get (D := D9) (ci := 7) (C := R_Mo) (T := F_Mo) (N := 30) hx hb hts i_Mo hown hK hP 33 ww_33 rfl 4 (by decide) (hts _ g_726) (fun _ h9 => h9) rfl d_Mo_gathered_49 ?_
  refine lv_topq (y := nI ((fl es).length)) (h17) ?_
  refine va_iast (D := D9) hx hb hK hP hD hS 40 1 ww_40 rfl (vp_in_nI (by omega) (by decide)) d_Mo_gathered_52 (fun H locs hP hD hS => ?_)
  obtain ⟨F5, aF5, sF5, hP, hD⟩ := fx (P := fun z => va_P D9 cls9 (WW a cB cI cJ cG _ z O) H ∧ va_D A0 (WW a cB cI cJ cG _ z O)) ⟨wpa_40 hP, wda_40 hD⟩
  rw [nI_clamp (by omega)] at aF5
  rw [((sF4 40 (by decide)).trans ((sF3 40 (by decide)).trans ((sF2 40 (by decide)).trans (sF1 40 (by decide)))))] at aF5
  refine lv_aload_n hx hb d_Mo_gathered_53 rfl (lv_at hl 1 rfl) ?_
  refine va_get (D := D9) (ci := 7) (C := R_Mo) (T := F_Mo) (N := 30) hx hb hts i_Mo hown hK hP 33 ww_33 rfl 13 (by decide) (hts _ g_735) (fun _ h9 => h9) rfl d_Mo_gathered_54 ?_
  refine lv_iload hx hb d_Mo_gathered_57 (lv_at hl 0 rfl) ?_
  refine lv_iload hx hb d_Mo_gathered_59 (lv_at hl 6 rfl) ?_
  refine va_iast (D := D9) hx hb hK hP hD hS 41 1 ww_41 rfl (vp_in_nI (by omega) (by decide)) d_Mo_gathered_61 (fun H locs hP hD hS => ?_)
  obtain ⟨F6, aF6, sF6, hP, hD⟩ := fx (P := fun z => va_P D9 cls9 (WW a cB cI cJ cG _ z O) H ∧ va_D A0 (WW a cB cI cJ cG _ z O)) ⟨wpa_41 hP, wda_41 hD⟩
  rw [nI_clamp (by omega)] at aF6
  rw [((sF5 41 (by decide)).trans ((sF4 41 (by decide)).trans ((sF3 41 (by decide)).trans ((sF2 41 (by decide)).trans (sF1 41 (by decide))))))] at aF6
  refine lv_aload_n hx hb d_Mo_gathered_62 rfl (lv_at hl 1 rfl) ?_
  refine va_get (D := D9) (ci := 7) (C := R_Mo) (T := F_Mo) (N := 30) hx hb hts i_Mo hown hK hP 33 ww_33 rfl 14 (by decide) (hts _ g_736) (fun _ h9 => h9) rfl d_Mo_gathered_63 ?_
  refine lv_iload hx hb d_Mo_gathered_66 (lv_at hl 0 rfl) ?_
  refine lv_aload_n hx hb d_Mo_gathered_68 rfl (lv_at hl 1 rfl) ?_
  refine va_get (D := D9) (ci := 7) (C := R_Mo) (T := F_Mo) (N := 30) hx hb hts i_Mo hown hK hP 33 ww_33 rfl 4 (by decide) (hts _ g_726) (fun _ h9 => h9) rfl d_Mo_gathered_69 ?_
  refine lv_topq (y := nI ((fl es).length)) (h17) ?_
  refine lv_iload hx hb d_Mo_gathered_72 (lv_at hl 6 rfl) ?_
  refine lv_iadd hx hb d_Mo_gathered_74 ?_
  refine lv_topq (y := nI ((fl es).length + nn)) (nI_add _ _) ?_
  refine va_iast (D := D9) hx hb hK hP hD hS 42 1 ww_42 rfl (vp_in_nI (by omega) (by decide)) d_Mo_gathered_75 (fun H locs hP hD hS => ?_)
  obtain ⟨F7, aF7, sF7, hP, hD⟩ := fx (P := fun z => va_P D9 cls9 (WW a cB cI cJ cG _ z O) H ∧ va_D A0 (WW a cB cI cJ cG _ z O)) ⟨wpa_42 hP, wda_42 hD⟩
  rw [nI_clamp (by omega)] at aF7
  rw [((sF6 42 (by decide)).trans ((sF5 42 (by decide)).trans ((sF4 42 (by decide)).trans ((sF3 42 (by decide)).trans ((sF2 42 (by decide)).trans (sF1 42 (by decide)))))))] at aF7
  refine lv_aload_n hx hb d_Mo_gathered_76 rfl (lv_at hl 1 rfl) ?_
  refine va_get (D := D9) (ci := 7) (C := R_Mo) (T := F_Mo) (N := 30) hx hb hts i_Mo hown hK hP 33 ww_33 rfl 15 (by decide) (hts _ g_737) (fun _ h9 => h9) rfl d_Mo_gathered_77 ?_
  refine lv_iload hx hb d_Mo_gathered_80 (lv_at hl 0 rfl) ?_
  refine lv_aload_n hx hb d_Mo_gathered_82 rfl (lv_at hl 1 rfl) ?_
  refine va_get (D := D9) (ci := 7) (C := R_Mo) (T := F_Mo) (N := 30) hx hb hts i_Mo hown hK hP 33 ww_33 rfl 2 (by decide) (hts _ g_724) (fun _ h9 => h9) rfl d_Mo_gathered_83 ?_
  refine lv_topq (y := nI t.length) (h16) ?_
  refine lv_iload hx hb d_Mo_gathered_86 (lv_at hl 6 rfl) ?_
  refine lv_isub hx hb d_Mo_gathered_88 ?_
  refine lv_topq (y := nI (t.length - nn)) (pk_sub (by omega)) ?_
  refine va_iast (D := D9) hx hb hK hP hD hS 43 1 ww_43 rfl (vp_in_nI (by omega) (by decide)) d_Mo_gathered_89 (fun H locs hP hD hS => ?_)
  obtain ⟨F8, aF8, sF8, hP, hD⟩ := fx (P := fun z => va_P D9 cls9 (WW a cB cI cJ cG _ z O) H ∧ va_D A0 (WW a cB cI cJ cG _ z O)) ⟨wpa_43 hP, wda_43 hD⟩
  rw [nI_clamp (by omega)] at aF8
  rw [((sF7 43 (by decide)).trans ((sF6 43 (by decide)).trans ((sF5 43 (by decide)).trans ((sF4 43 (by decide)).trans ((sF3 43 (by decide)).trans ((sF2 43 (by decide)).trans (sF1 43 (by decide))))))))] at aF8
  refine lv_iconst (v := 0) hx hb d_Mo_gathered_90 (by decide) ?_
  refine lv_topq (y := nI 0) (rfl) ?_
  refine lv_istore (lv' := [(7, _), (6, _), (0, _), (1, _), (2, _), (3, _), (4, _), (5, _)]) hx hb d_Mo_gathered_91 hl (by decide) rfl (fun ls hl => ?_)
  have loopC : ∀ (nc : Nat) (i9 : Nat) (Fc : Nat → Nat → Int32) (H : Heap) (locs : List Loc) (ls : Array Slot), (sm [35] F8 Fc) → (t.length - i9 = nc) → (i9 ≤ t.length) → (BR 0 140000 (Fc 35) (fl es ++ sl9 t 0 i9)) → va_P D9 cls9 (WW a cB cI cJ cG I Fc O) H → va_D A0 (WW a cB cI cJ cG I Fc O) → va_S A0 s.heap H locs → lv_has ls 8 [(0, .ref (a 33)), (1, .int (nI sc)), (7, .int (nI i9))] → W p l e (rm9 1 0 0) s m ([.ref (a 33), .int (nI sc), .int (nI ty), .int (y), .int (z), .int (nI nn)] : List Value).toArray below meth c H locs 0 0 Q (F0 m 93 ls []) := by
    intro nc
    induction nc using Nat.strongRecOn with
    | ind nc ihc =>
      intro i9 Fc H locs ls hsFc hnc hi9 hB9 hP hD hS hl
      have hLc : (fl es ++ sl9 t 0 i9).length = (fl es).length + i9 := by rw [List.length_append, sl9_len (by omega)]
      refine lv_iload hx hb d_Mo_gathered_93 (lv_at hl 2 rfl) ?_
      refine lv_aload_n hx hb d_Mo_gathered_95 rfl (lv_at hl 0 rfl) ?_
      refine va_get (D := D9) (ci := 7) (C := R_Mo) (T := F_Mo) (N := 30) hx hb hts i_Mo hown hK hP 33 ww_33 rfl 2 (by decide) (hts _ g_724) (fun _ h9 => h9) rfl d_Mo_gathered_96 ?_
      refine lv_topq (y := nI t.length) (h16) ?_
      refine lv_icmp_ge (tgt := 127) hx hb d_Mo_gathered_99 (by decide) (fun c9 => ?_) (fun c9 => ?_)
      · have c9 : t.length ≤ i9 := (nI_leI (a := t.length) (b := i9) (by omega) (by omega)).mp c9
        have hie : i9 = t.length := by omega
        refine lv_aload_n hx hb d_Mo_gathered_127 rfl (lv_at hl 0 rfl) ?_
        refine lv_dup hx hb d_Mo_gathered_128 rfl ?_
        refine va_get (D := D9) (ci := 7) (C := R_Mo) (T := F_Mo) (N := 30) hx hb hts i_Mo hown hK hP 33 ww_33 rfl 4 (by decide) (hts _ g_726) (fun _ h9 => h9) rfl d_Mo_gathered_129 ?_
        refine lv_topq (y := nI ((fl es).length)) (h17) ?_
        refine lv_aload_n hx hb d_Mo_gathered_132 rfl (lv_at hl 0 rfl) ?_
        refine va_get (D := D9) (ci := 7) (C := R_Mo) (T := F_Mo) (N := 30) hx hb hts i_Mo hown hK hP 33 ww_33 rfl 2 (by decide) (hts _ g_724) (fun _ h9 => h9) rfl d_Mo_gathered_133 ?_
        refine lv_topq (y := nI t.length) (h16) ?_
        refine lv_iadd hx hb d_Mo_gathered_136 ?_
        refine lv_topq (y := nI ((fl es).length + t.length)) (nI_add _ _) ?_
        refine va_put (D := D9) (ty := .int) (ci := 7) (C := R_Mo) (T := F_Mo) (N := 30) hx hb hts i_Mo t_Mo t_Mo_ok n_Mo hown hK hP hD hS 33 ww_33 rfl 4 (by decide) (hts _ g_726) (fun _ h9 => h9) rfl (by decide +kernel) rfl rfl (Nat.le_of_ble_eq_true rfl) d_Mo_gathered_137 (fun H locs hP hD hS => ?_)
        obtain ⟨I10, aI10, sI10, hP, hD⟩ := fx (P := fun z => va_P D9 cls9 (WW a cB cI cJ cG z _ O) H ∧ va_D A0 (WW a cB cI cJ cG z _ O)) ⟨wp_17 hP, wd_17 hD⟩
        refine lv_aload_n hx hb d_Mo_gathered_140 rfl (lv_at hl 0 rfl) ?_
        refine lv_iconst (v := 0) hx hb d_Mo_gathered_141 (by decide) ?_
        refine lv_topq (y := nI 0) (rfl) ?_
        refine va_put (D := D9) (ty := .int) (ci := 7) (C := R_Mo) (T := F_Mo) (N := 30) hx hb hts i_Mo t_Mo t_Mo_ok n_Mo hown hK hP hD hS 33 ww_33 rfl 2 (by decide) (hts _ g_724) (fun _ h9 => h9) rfl (by decide +kernel) rfl rfl (Nat.le_of_ble_eq_true rfl) d_Mo_gathered_142 (fun H locs hP hD hS => ?_)
        obtain ⟨I11, aI11, sI11, hP, hD⟩ := fx (P := fun z => va_P D9 cls9 (WW a cB cI cJ cG z _ O) H ∧ va_D A0 (WW a cB cI cJ cG z _ O)) ⟨wp_16 hP, wd_16 hD⟩
        refine lv_aload_n hx hb d_Mo_gathered_145 rfl (lv_at hl 0 rfl) ?_
        refine lv_dup hx hb d_Mo_gathered_146 rfl ?_
        refine va_get (D := D9) (ci := 7) (C := R_Mo) (T := F_Mo) (N := 30) hx hb hts i_Mo hown hK hP 33 ww_33 rfl 5 (by decide) (hts _ g_727) (fun _ h9 => h9) rfl d_Mo_gathered_147 ?_
        refine lv_topq (y := nI es.length) (((sI11 18 (by decide)).trans ((sI10 18 (by decide)).trans h18))) ?_
        refine lv_iconst (v := 1) hx hb d_Mo_gathered_150 (by decide) ?_
        refine lv_topq (y := nI 1) (rfl) ?_
        refine lv_iadd hx hb d_Mo_gathered_151 ?_
        refine lv_topq (y := nI (es.length + 1)) (nI_add _ _) ?_
        refine va_put (D := D9) (ty := .int) (ci := 7) (C := R_Mo) (T := F_Mo) (N := 30) hx hb hts i_Mo t_Mo t_Mo_ok n_Mo hown hK hP hD hS 33 ww_33 rfl 5 (by decide) (hts _ g_727) (fun _ h9 => h9) rfl (by decide +kernel) rfl rfl (Nat.le_of_ble_eq_true rfl) d_Mo_gathered_152 (fun H locs hP hD hS => ?_)
        obtain ⟨I12, aI12, sI12, hP, hD⟩ := fx (P := fun z => va_P D9 cls9 (WW a cB cI cJ cG z _ O) H ∧ va_D A0 (WW a cB cI cJ cG z _ O)) ⟨wp_18 hP, wd_18 hD⟩
        have hBk : BR 0 140000 (Fc 35) (fl es ++ (sl9 t 0 nn ++ sl9 t nn (t.length - nn))) := by rw [show sl9 t 0 nn ++ sl9 t nn (t.length - nn) = sl9 t 0 t.length from (by have := sl9_sl (t := t) (p := 0) (i := nn) (k := t.length - nn); rw [Nat.zero_add, show nn + (t.length - nn) = t.length by omega] at this; exact this), ← hie]; exact hB9
        have hnl : (sl9 t 0 nn).length = nn := sl9_len (by omega)
        have hdl : (sl9 t nn (t.length - nn)).length = t.length - nn := sl9_len (by omega)
        have hRk : MoR Fc (es ++ [((sc, ty, un y % 65536, z, sl9 t 0 nn, sl9 t nn (t.length - nn)) : En9)]) := MoR_add hR hBk (((hsFc 36 (by decide)).trans ((sF8 36 (by decide)).trans ((sF7 36 (by decide)).trans ((sF6 36 (by decide)).trans ((sF5 36 (by decide)).trans ((sF4 36 (by decide)).trans ((sF3 36 (by decide)).trans (sF2 36 (by decide))))))))).trans aF1) (((hsFc 37 (by decide)).trans ((sF8 37 (by decide)).trans ((sF7 37 (by decide)).trans ((sF6 37 (by decide)).trans ((sF5 37 (by decide)).trans ((sF4 37 (by decide)).trans (sF3 37 (by decide)))))))).trans aF2) (((hsFc 38 (by decide)).trans ((sF8 38 (by decide)).trans ((sF7 38 (by decide)).trans ((sF6 38 (by decide)).trans ((sF5 38 (by decide)).trans (sF4 38 (by decide))))))).trans aF3) (((hsFc 39 (by decide)).trans ((sF8 39 (by decide)).trans ((sF7 39 (by decide)).trans ((sF6 39 (by decide)).trans (sF5 39 (by decide)))))).trans aF4) (((hsFc 40 (by decide)).trans ((sF8 40 (by decide)).trans ((sF7 40 (by decide)).trans (sF6 40 (by decide))))).trans aF5) ((((hsFc 41 (by decide)).trans ((sF8 41 (by decide)).trans (sF7 41 (by decide)))).trans aF6).trans (by show _ = upd _ _ (nI (sl9 t 0 nn).length); rw [hnl])) ((((hsFc 42 (by decide)).trans (sF8 42 (by decide))).trans aF7).trans (by show _ = upd _ _ (nI ((fl es).length + (sl9 t 0 nn).length)); rw [hnl])) (((hsFc 43 (by decide)).trans aF8).trans (by show _ = upd _ _ (nI (sl9 t nn (t.length - nn)).length); rw [hdl]))
        have h18k : I12 18 = nI (es ++ [((sc, ty, un y % 65536, z, sl9 t 0 nn, sl9 t nn (t.length - nn)) : En9)]).length := (aI12).trans (congrArg nI (by rw [List.length_append]; rfl))
        have hlk : (es ++ [((sc, ty, un y % 65536, z, sl9 t 0 nn, sl9 t nn (t.length - nn)) : En9)]).length = es.length + 1 := by rw [List.length_append]; rfl
        have hSk : ∀ e ∈ es ++ [((sc, ty, un y % 65536, z, sl9 t 0 nn, sl9 t nn (t.length - nn)) : En9)], eS e < 4 := fun e he => by rcases List.mem_append.mp he with w | w; exact (hO.2.2.2 e w).1; rw [List.mem_singleton] at w; rw [w]; exact hsc
        refine lv_aload_n hx hb d_Mo_gathered_155 rfl (lv_at hl 0 rfl) ?_
        refine lv_iload_n hx hb d_Mo_gathered_156 rfl (lv_at hl 1 rfl) ?_
        refine mw_cV (ci := 7) (k := 33) C0 (m_Mo_countOf l D9 cB cI cJ cG a O _ _ (es ++ [((sc, ty, un y % 65536, z, sl9 t 0 nn, sl9 t nn (t.length - nn)) : En9)]) hRk h18k (by omega) hSk sc (by omega)) g_856 g_8 g_853 g_855 gs_Mo_countOf ⟨by decide +kernel, by decide +kernel, show Option.map (fun d => d.parameters.length) (parseMethodDescriptor y_Mo_countOf.desc) = some 1 by decide +kernel⟩ ⟨by decide, by decide⟩ rfl rfl hP hD hS hA rfl ww_33 hl.1 (Nat.le_of_ble_eq_true rfl) rfl d_Mo_gathered_157 ⟨by decide, by decide⟩ (fun v9 w9 H locs hq hP hD hS => ?_)
        obtain ⟨I13, F14, hw9, q15⟩ := hq
        subst hw9
        obtain ⟨rfl, rfl, rfl⟩ := q15
        exact hret _ _ _ _ _ _ _ hS hP hD d_Mo_gathered_160 nr_i (⟨rfl, (sm_tr (sm_tr (sm_mo sI10 (by decide)) (sm_mo sI11 (by decide))) (sm_mo sI12 (by decide))), ((sI12 16 (by decide)).trans aI11), ((((sI12 17 (by decide)).trans (sI11 17 (by decide))).trans aI10)).trans (congrArg nI (by rw [fl_add, List.length_append]; show _ = _ + (sl9 t 0 nn ++ sl9 t nn (t.length - nn)).length; rw [List.length_append, hnl, hdl]; omega)), h18k, (sm_tr (sm_tr (sm_tr (sm_tr (sm_tr (sm_tr (sm_tr (sm_tr (sm_mo sF1 (by decide)) (sm_mo sF2 (by decide))) (sm_mo sF3 (by decide))) (sm_mo sF4 (by decide))) (sm_mo sF5 (by decide))) (sm_mo sF6 (by decide))) (sm_mo sF7 (by decide))) (sm_mo sF8 (by decide))) (sm_mo hsFc (by decide))), hRk⟩)
      · have c9 : ¬ (t.length ≤ i9) := fun z9 => c9 ((nI_leI (a := t.length) (b := i9) (by omega) (by omega)).mpr z9)
        refine lv_aload_n hx hb d_Mo_gathered_102 rfl (lv_at hl 0 rfl) ?_
        refine va_get (D := D9) (ci := 7) (C := R_Mo) (T := F_Mo) (N := 30) hx hb hts i_Mo hown hK hP 33 ww_33 rfl 3 (by decide) (hts _ g_725) (fun _ h9 => h9) rfl d_Mo_gathered_103 ?_
        refine lv_aload_n hx hb d_Mo_gathered_106 rfl (lv_at hl 0 rfl) ?_
        refine va_get (D := D9) (ci := 7) (C := R_Mo) (T := F_Mo) (N := 30) hx hb hts i_Mo hown hK hP 33 ww_33 rfl 4 (by decide) (hts _ g_726) (fun _ h9 => h9) rfl d_Mo_gathered_107 ?_
        refine lv_topq (y := nI ((fl es).length)) (h17) ?_
        refine lv_iload hx hb d_Mo_gathered_110 (lv_at hl 2 rfl) ?_
        refine lv_iadd hx hb d_Mo_gathered_112 ?_
        refine lv_topq (y := nI ((fl es).length + i9)) (nI_add _ _) ?_
        refine lv_aload_n hx hb d_Mo_gathered_113 rfl (lv_at hl 0 rfl) ?_
        refine va_get (D := D9) (ci := 7) (C := R_Mo) (T := F_Mo) (N := 30) hx hb hts i_Mo hown hK hP 33 ww_33 rfl 1 (by decide) (hts _ g_723) (fun _ h9 => h9) rfl d_Mo_gathered_114 ?_
        refine lv_iload hx hb d_Mo_gathered_117 (lv_at hl 2 rfl) ?_
        refine va_bald (D := D9) hx hb hK hP 34 0 ww_34 rfl (vp_in_nI (by omega) (by decide)) d_Mo_gathered_119 ?_
        refine lv_topq (y := F 34 i9) (by rw [nI_clamp (by omega)]; exact ((congrFun (hsFc 34 (by decide)) _).trans ((congrFun (sF8 34 (by decide)) _).trans ((congrFun (sF7 34 (by decide)) _).trans ((congrFun (sF6 34 (by decide)) _).trans ((congrFun (sF5 34 (by decide)) _).trans ((congrFun (sF4 34 (by decide)) _).trans ((congrFun (sF3 34 (by decide)) _).trans ((congrFun (sF2 34 (by decide)) _).trans ((congrFun (sF1 34 (by decide)) _).trans rfl)))))))))) ?_
        refine va_bast (D := D9) hx hb hK hP hD hS 35 0 ww_35 rfl (vp_in_nI (by omega) (by decide)) d_Mo_gathered_120 (fun H locs hP hD hS => ?_)
        obtain ⟨F16, aF16, sF16, hP, hD⟩ := fx (P := fun z => va_P D9 cls9 (WW a cB cI cJ cG _ z O) H ∧ va_D A0 (WW a cB cI cJ cG _ z O)) ⟨wpa_35 hP, wda_35 hD⟩
        rw [nI_clamp (by omega)] at aF16
        refine lv_iinc (lv' := [(7, .int (nI (i9 + 1))), (0, _), (1, _)]) hx hb d_Mo_gathered_121 hl (k := 2) rfl (nI_add _ 1) (by decide) rfl (fun ls hl => ?_)
        refine lv_goto (tgt := 93) hx hb d_Mo_gathered_124 (by decide) ?_
        have hBn := BR_put2 hB9 hLc (BR_tb hT (show i9 < t.length by omega) (by omega) (by omega))
        have hsl := sl9_s (t := t) (p := 0) (k := i9) (by omega)
        rw [Nat.zero_add] at hsl
        rw [List.append_assoc, ← hsl] at hBn
        exact ihc _ (by omega) (i9 + 1) _ _ _ _ (sm_tr (sm_mo hsFc (by decide)) (sm_mo sF16 (by decide))) rfl (by omega) (BR_eq hBn aF16) hP hD hS (lv_pk hl [1, 2, 0] rfl)
  exact loopC _ 0 _ _ _ _ sm_rf rfl (Nat.zero_le _) (by rw [sl9_0, List.append_nil]; exact (BR_eq hR.2 ((sF8 35 (by decide)).trans ((sF7 35 (by decide)).trans ((sF6 35 (by decide)).trans ((sF5 35 (by decide)).trans ((sF4 35 (by decide)).trans ((sF3 35 (by decide)).trans ((sF2 35 (by decide)).trans (sF1 35 (by decide))))))))))) hP hD hS (lv_pk hl [2, 3, 0] rfl)
