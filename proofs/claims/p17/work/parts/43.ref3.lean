theorem rnS_f {x : Option (List Nat × Nat × Nat)} {nm : List Nat} {e c : Nat} (h : rnS false x = some (nm, e, c)) : x = some (nm, e, c) ∧ c = 0 := by
  cases x with
  | none => cases h
  | some r =>
    obtain ⟨a, b, d⟩ := r
    have h : (if false = false ∧ 0 < d then none else some (a, b, d)) = some (nm, e, c) := h
    by_cases hd : 0 < d
    · rw [if_pos ⟨rfl, hd⟩] at h; cases h
    · rw [if_neg (fun z => hd z.2)] at h
      simp only [Option.some.injEq, Prod.mk.injEq] at h
      obtain ⟨rfl, rfl, rfl⟩ := h
      exact ⟨rfl, by omega⟩
section RDD
variable {t : List Nat} {ty q b ol bf : Nat} {n1 n2 : List Nat} {e1 c1 e2 c2 : Nat}
theorem D_sh (hk : 0 < k_nm ty) (hbf : k_bf ty = bf) (h : b < q + bf) : rdD t ty q b ol = none := by
  unfold rdD; rw [if_pos hk]; exact rdN_short (by rw [hbf]; exact h)
theorem D_n (hk : 0 < k_nm ty) (hbf : k_bf ty = bf) (h : ¬ b < q + bf) (hr : rn 16639 t b (q + bf) (q + bf) 0 none = none) : rdD t ty q b ol = none := by
  unfold rdD; rw [if_pos hk]; exact rdN_n1 (by rw [hbf]; exact h) (by rw [hbf]; exact hr)
theorem D_s (hk : k_nm ty = 1) (hbf : k_bf ty = bf) (hbh : k_bh ty = 0) (hs : k_sh ty = true ∨ c1 = 0) (h : ¬ b < q + bf) (hr : rn 16639 t b (q + bf) (q + bf) 0 none = some (n1, e1, c1)) (he : e1 = b) : rdD t ty q b ol = some (sl9 t q bf ++ n1, c1) := by
  unfold rdD; rw [if_pos (by omega), rdN_1 (by rw [hbf]; exact h) (by rw [hbf]; exact hr) hk]
  unfold rdF
  rw [if_neg (by rintro (⟨z1, z2⟩ | z1); rcases hs with z | z; rw [z] at z2; cases z2; omega; rw [hbh] at z1; omega), hbh, sl9_0, List.append_nil, hbf]
theorem D_x (hk : k_nm ty = 1) (hbf : k_bf ty = bf) (hbh : k_bh ty = 0) (h : ¬ b < q + bf) (hr : rn 16639 t b (q + bf) (q + bf) 0 none = some (n1, e1, c1)) (he : e1 ≠ b) : rdD t ty q b ol = none := by
  unfold rdD; rw [if_pos (by omega), rdN_1 (by rw [hbf]; exact h) (by rw [hbf]; exact hr) hk]
  unfold rdF
  rw [if_pos (Or.inr (by rw [hbh]; exact he))]
theorem D_v (hk : k_nm ty = 1) (hbf : k_bf ty = bf) (hs : k_sh ty = false) (h : ¬ b < q + bf) (hr : rnS false (rn 16639 t b (q + bf) (q + bf) 0 none) = none) : rdD t ty q b ol = none := by
  unfold rdD; rw [if_pos (by omega)]
  cases hx : rn 16639 t b (q + bf) (q + bf) 0 none with
  | none => exact rdN_n1 (by rw [hbf]; exact h) (by rw [hbf]; exact hx)
  | some r =>
    obtain ⟨nm, e, c⟩ := r
    rw [rdN_1 (by rw [hbf]; exact h) (by rw [hbf]; exact hx) hk]
    unfold rdF
    have hc : 0 < c := by
      rcases Nat.eq_zero_or_pos c with z | z
      · rw [hx, rnS_s (fun _ => z)] at hr; cases hr
      · exact z
    rw [if_pos (Or.inl ⟨hc, hs⟩)]
theorem D6_n (h : rn 16639 t b q q 0 none = some (n1, e1, c1)) (hq : ¬ b < q) (h2 : rn 16639 t b e1 e1 0 none = none) : rdD t 6 q b ol = none := by
  unfold rdD; rw [if_pos (by decide)]; exact rdN_n2 (show ¬ b < q + 0 from hq) h (by decide) h2
theorem D6_s (h : rn 16639 t b q q 0 none = some (n1, e1, c1)) (hq : ¬ b < q) (h2 : rn 16639 t b e1 e1 0 none = some (n2, e2, c2)) (he : e2 + 20 = b) : rdD t 6 q b ol = some (n1 ++ n2 ++ sl9 t e2 20, c1 + c2) := by
  unfold rdD; rw [if_pos (by decide), rdN_2 (show ¬ b < q + 0 from hq) h (by decide) h2]
  unfold rdF
  rw [if_neg (by rintro (⟨z1, z2⟩ | z1); exact absurd z2 (by decide); exact z1 he)]
  rfl
theorem D6_x (h : rn 16639 t b q q 0 none = some (n1, e1, c1)) (hq : ¬ b < q) (h2 : rn 16639 t b e1 e1 0 none = some (n2, e2, c2)) (he : e2 + 20 ≠ b) : rdD t 6 q b ol = none := by
  unfold rdD; rw [if_pos (by decide), rdN_2 (show ¬ b < q + 0 from hq) h (by decide) h2]
  unfold rdF
  rw [if_pos (show (0 < c1 + c2 ∧ k_sh 6 = false) ∨ e2 + k_bh 6 ≠ b from Or.inr he)]
theorem D_a (hk : k_nm ty = 0) (ha : asT t ty q b ol = true) : rdD t ty q b ol = some (sl9 t q (b - q), 0) := by unfold rdD; rw [if_neg (by omega), if_pos ha]
theorem D_b (hk : k_nm ty = 0) (ha : asT t ty q b ol = false) : rdD t ty q b ol = none := by unfold rdD; rw [if_neg (by omega), if_neg (by rw [ha]; decide)]
theorem asT_1 : asT t 1 q b ol = decide (b - q = 4) := rfl
theorem asT_28 : asT t 28 q b ol = decide (b - q = 16) := rfl
theorem asT_41 : asT t 41 q b ol = decide (ol = 1) := rfl
theorem asT_16 : asT t 16 q b ol = strs t q b := rfl
theorem asT_o (h1 : ty ≠ 1) (h2 : ty ≠ 28) (h3 : ty ≠ 16) (h4 : ty ≠ 41) : asT t ty q b ol = true := by unfold asT fxo; rw [if_neg h3, if_neg h4, if_neg h1, if_neg h2]
theorem k_nm_o (h1 : ty ≠ 2) (h2 : ty ≠ 5) (h3 : ty ≠ 12) (h4 : ty ≠ 15) (h5 : ty ≠ 33) (h6 : ty ≠ 6) : k_nm ty = 0 := by unfold k_nm; rw [if_neg (by omega), if_neg h6]
end RDD
theorem se_gt {f : Nat} {t : List Nat} {p to : Nat} (h : to < p) : se f t p to = false := by
  cases f with
  | zero => rfl
  | succ f => unfold se; rw [if_neg (by omega)]; simp; omega
theorem sl9_sl {t : List Nat} {p i k : Nat} : sl9 t p i ++ sl9 t (p + i) k = sl9 t p (i + k) := by
  unfold sl9
  rw [List.take_add, List.drop_drop]
theorem g_837 : (Cond.methodLink "WireMessagesModel" (112 : Nat) ({ cls := "WireMessagesModel", name := "name", desc := "(ZZ)V" } : MethodName)) ∈ GT := gt_mem 837 (by decide +kernel) rfl
theorem g_839 : (Cond.instanceMethod ({ cls := "WireMessagesModel", name := "name", desc := "(ZZ)V" } : MethodName)) ∈ GT := gt_mem 839 (by decide +kernel) rfl
theorem g_840 : (Cond.code ({ cls := "WireMessagesModel", name := "name", desc := "(ZZ)V" } : MethodName) prog_10_method_12_code (11 : Nat) (Option.none : Option FieldType)) ∈ GT := gt_mem 840 (by decide +kernel) rfl
theorem g_849 : (Cond.methodLink "WireMessagesModel" (116 : Nat) ({ cls := "WireMessagesModel", name := "bytes", desc := "(I)V" } : MethodName)) ∈ GT := gt_mem 849 (by decide +kernel) rfl
theorem g_851 : (Cond.instanceMethod ({ cls := "WireMessagesModel", name := "bytes", desc := "(I)V" } : MethodName)) ∈ GT := gt_mem 851 (by decide +kernel) rfl
theorem g_852 : (Cond.code ({ cls := "WireMessagesModel", name := "bytes", desc := "(I)V" } : MethodName) prog_10_method_13_code (3 : Nat) (Option.none : Option FieldType)) ∈ GT := gt_mem 852 (by decide +kernel) rfl
theorem gs_Mo_bytes : Cond.selects R_Mo y_Mo_bytes y_Mo_bytes ∈ GT := gt_sel (q := (⟨"WireMessagesModel", "bytes", "(I)V"⟩, 30)) (by decide +kernel)
theorem gs_Mo_name : Cond.selects R_Mo y_Mo_name y_Mo_name ∈ GT := gt_sel (q := (⟨"WireMessagesModel", "name", "(ZZ)V"⟩, 30)) (by decide +kernel)
theorem d_Mo_bytes_0 : decode b_Mo_bytes 0 = .ok (.aload_n 0, 1) := by decide +kernel
theorem d_Mo_bytes_1 : decode b_Mo_bytes 1 = .ok (.getfield 99, 3) := by decide +kernel
theorem d_Mo_bytes_4 : decode b_Mo_bytes 4 = .ok (.iload_n 1, 1) := by decide +kernel
theorem d_Mo_bytes_5 : decode b_Mo_bytes 5 = .ok (.iadd, 1) := by decide +kernel
theorem d_Mo_bytes_6 : decode b_Mo_bytes 6 = .ok (.aload_n 0, 1) := by decide +kernel
theorem d_Mo_bytes_7 : decode b_Mo_bytes 7 = .ok (.getfield 93, 3) := by decide +kernel
theorem d_Mo_bytes_10 : decode b_Mo_bytes 10 = .ok (.if_icmp .le 13, 3) := by decide +kernel
theorem d_Mo_bytes_13 : decode b_Mo_bytes 13 = .ok (.aload_n 0, 1) := by decide +kernel
theorem d_Mo_bytes_14 : decode b_Mo_bytes 14 = .ok (.iconst 5, 1) := by decide +kernel
theorem d_Mo_bytes_15 : decode b_Mo_bytes 15 = .ok (.aload_n 0, 1) := by decide +kernel
theorem d_Mo_bytes_16 : decode b_Mo_bytes 16 = .ok (.getfield 96, 3) := by decide +kernel
theorem d_Mo_bytes_19 : decode b_Mo_bytes 19 = .ok (.invokevirtual 89, 3) := by decide +kernel
theorem d_Mo_bytes_22 : decode b_Mo_bytes 22 = .ok (.return_, 1) := by decide +kernel
theorem d_Mo_bytes_23 : decode b_Mo_bytes 23 = .ok (.iconst 0, 1) := by decide +kernel
theorem d_Mo_bytes_24 : decode b_Mo_bytes 24 = .ok (.istore_n 2, 1) := by decide +kernel
theorem d_Mo_bytes_25 : decode b_Mo_bytes 25 = .ok (.iload_n 2, 1) := by decide +kernel
theorem d_Mo_bytes_26 : decode b_Mo_bytes 26 = .ok (.iload_n 1, 1) := by decide +kernel
theorem d_Mo_bytes_27 : decode b_Mo_bytes 27 = .ok (.if_icmp .ge 31, 3) := by decide +kernel
theorem d_Mo_bytes_30 : decode b_Mo_bytes 30 = .ok (.aload_n 0, 1) := by decide +kernel
theorem d_Mo_bytes_31 : decode b_Mo_bytes 31 = .ok (.getfield 15, 3) := by decide +kernel
theorem d_Mo_bytes_34 : decode b_Mo_bytes 34 = .ok (.aload_n 0, 1) := by decide +kernel
theorem d_Mo_bytes_35 : decode b_Mo_bytes 35 = .ok (.getfield 64, 3) := by decide +kernel
theorem d_Mo_bytes_38 : decode b_Mo_bytes 38 = .ok (.iload_n 2, 1) := by decide +kernel
theorem d_Mo_bytes_39 : decode b_Mo_bytes 39 = .ok (.iadd, 1) := by decide +kernel
theorem d_Mo_bytes_40 : decode b_Mo_bytes 40 = .ok (.aload_n 0, 1) := by decide +kernel
theorem d_Mo_bytes_41 : decode b_Mo_bytes 41 = .ok (.getfield 8, 3) := by decide +kernel
theorem d_Mo_bytes_44 : decode b_Mo_bytes 44 = .ok (.aload_n 0, 1) := by decide +kernel
theorem d_Mo_bytes_45 : decode b_Mo_bytes 45 = .ok (.getfield 99, 3) := by decide +kernel
theorem d_Mo_bytes_48 : decode b_Mo_bytes 48 = .ok (.iload_n 2, 1) := by decide +kernel
theorem d_Mo_bytes_49 : decode b_Mo_bytes 49 = .ok (.iadd, 1) := by decide +kernel
theorem d_Mo_bytes_50 : decode b_Mo_bytes 50 = .ok (.baload, 1) := by decide +kernel
theorem d_Mo_bytes_51 : decode b_Mo_bytes 51 = .ok (.bastore, 1) := by decide +kernel
theorem d_Mo_bytes_52 : decode b_Mo_bytes 52 = .ok (.iinc 2 1, 3) := by decide +kernel
theorem d_Mo_bytes_55 : decode b_Mo_bytes 55 = .ok (.goto (-30), 3) := by decide +kernel
theorem d_Mo_bytes_58 : decode b_Mo_bytes 58 = .ok (.aload_n 0, 1) := by decide +kernel
theorem d_Mo_bytes_59 : decode b_Mo_bytes 59 = .ok (.dup, 1) := by decide +kernel
theorem d_Mo_bytes_60 : decode b_Mo_bytes 60 = .ok (.getfield 64, 3) := by decide +kernel
theorem d_Mo_bytes_63 : decode b_Mo_bytes 63 = .ok (.iload_n 1, 1) := by decide +kernel
theorem d_Mo_bytes_64 : decode b_Mo_bytes 64 = .ok (.iadd, 1) := by decide +kernel
theorem d_Mo_bytes_65 : decode b_Mo_bytes 65 = .ok (.putfield 64, 3) := by decide +kernel
theorem d_Mo_bytes_68 : decode b_Mo_bytes 68 = .ok (.aload_n 0, 1) := by decide +kernel
theorem d_Mo_bytes_69 : decode b_Mo_bytes 69 = .ok (.dup, 1) := by decide +kernel
theorem d_Mo_bytes_70 : decode b_Mo_bytes 70 = .ok (.getfield 99, 3) := by decide +kernel
theorem d_Mo_bytes_73 : decode b_Mo_bytes 73 = .ok (.iload_n 1, 1) := by decide +kernel
theorem d_Mo_bytes_74 : decode b_Mo_bytes 74 = .ok (.iadd, 1) := by decide +kernel
theorem d_Mo_bytes_75 : decode b_Mo_bytes 75 = .ok (.putfield 99, 3) := by decide +kernel
theorem d_Mo_bytes_78 : decode b_Mo_bytes 78 = .ok (.return_, 1) := by decide +kernel
theorem d_Mo_data_0 : decode b_Mo_data 0 = .ok (.aload_n 0, 1) := by decide +kernel
theorem d_Mo_data_1 : decode b_Mo_data 1 = .ok (.getfield 93, 3) := by decide +kernel
theorem d_Mo_data_4 : decode b_Mo_data 4 = .ok (.aload_n 0, 1) := by decide +kernel
theorem d_Mo_data_5 : decode b_Mo_data 5 = .ok (.getfield 96, 3) := by decide +kernel
theorem d_Mo_data_8 : decode b_Mo_data 8 = .ok (.isub, 1) := by decide +kernel
theorem d_Mo_data_9 : decode b_Mo_data 9 = .ok (.istore_n 3, 1) := by decide +kernel
theorem d_Mo_data_10 : decode b_Mo_data 10 = .ok (.iload_n 1, 1) := by decide +kernel
theorem d_Mo_data_11 : decode b_Mo_data 11 = .ok (.lookupswitch 275 #[(1, 89), (2, 124), (5, 124), (6, 154), (12, 124), (15, 133), (16, 211), (28, 106), (33, 189), (41, 259)], 89) := by decide +kernel
theorem d_Mo_data_100 : decode b_Mo_data 100 = .ok (.iload_n 3, 1) := by decide +kernel
theorem d_Mo_data_101 : decode b_Mo_data 101 = .ok (.iconst 4, 1) := by decide +kernel
theorem d_Mo_data_102 : decode b_Mo_data 102 = .ok (.if_icmp .eq 184, 3) := by decide +kernel
theorem d_Mo_data_105 : decode b_Mo_data 105 = .ok (.aload_n 0, 1) := by decide +kernel
theorem d_Mo_data_106 : decode b_Mo_data 106 = .ok (.iconst 5, 1) := by decide +kernel
theorem d_Mo_data_107 : decode b_Mo_data 107 = .ok (.aload_n 0, 1) := by decide +kernel
theorem d_Mo_data_108 : decode b_Mo_data 108 = .ok (.getfield 96, 3) := by decide +kernel
theorem d_Mo_data_111 : decode b_Mo_data 111 = .ok (.invokevirtual 89, 3) := by decide +kernel
theorem d_Mo_data_114 : decode b_Mo_data 114 = .ok (.goto 172, 3) := by decide +kernel
theorem d_Mo_data_117 : decode b_Mo_data 117 = .ok (.iload_n 3, 1) := by decide +kernel
theorem d_Mo_data_118 : decode b_Mo_data 118 = .ok (.bipush 16, 2) := by decide +kernel
theorem d_Mo_data_120 : decode b_Mo_data 120 = .ok (.if_icmp .eq 166, 3) := by decide +kernel
theorem d_Mo_data_123 : decode b_Mo_data 123 = .ok (.aload_n 0, 1) := by decide +kernel
theorem d_Mo_data_124 : decode b_Mo_data 124 = .ok (.iconst 5, 1) := by decide +kernel
theorem d_Mo_data_125 : decode b_Mo_data 125 = .ok (.aload_n 0, 1) := by decide +kernel
theorem d_Mo_data_126 : decode b_Mo_data 126 = .ok (.getfield 96, 3) := by decide +kernel
theorem d_Mo_data_129 : decode b_Mo_data 129 = .ok (.invokevirtual 89, 3) := by decide +kernel
theorem d_Mo_data_132 : decode b_Mo_data 132 = .ok (.goto 154, 3) := by decide +kernel
theorem d_Mo_data_135 : decode b_Mo_data 135 = .ok (.aload_n 0, 1) := by decide +kernel
theorem d_Mo_data_136 : decode b_Mo_data 136 = .ok (.iconst 1, 1) := by decide +kernel
theorem d_Mo_data_137 : decode b_Mo_data 137 = .ok (.iconst 1, 1) := by decide +kernel
theorem d_Mo_data_138 : decode b_Mo_data 138 = .ok (.invokevirtual 112, 3) := by decide +kernel
theorem d_Mo_data_141 : decode b_Mo_data 141 = .ok (.goto 145, 3) := by decide +kernel
theorem d_Mo_data_144 : decode b_Mo_data 144 = .ok (.aload_n 0, 1) := by decide +kernel
theorem d_Mo_data_145 : decode b_Mo_data 145 = .ok (.iconst 2, 1) := by decide +kernel
theorem d_Mo_data_146 : decode b_Mo_data 146 = .ok (.invokevirtual 116, 3) := by decide +kernel
theorem d_Mo_data_149 : decode b_Mo_data 149 = .ok (.aload_n 0, 1) := by decide +kernel
theorem d_Mo_data_150 : decode b_Mo_data 150 = .ok (.getfield 80, 3) := by decide +kernel
theorem d_Mo_data_153 : decode b_Mo_data 153 = .ok (.ifCond .ne 133, 3) := by decide +kernel
theorem d_Mo_data_156 : decode b_Mo_data 156 = .ok (.aload_n 0, 1) := by decide +kernel
theorem d_Mo_data_157 : decode b_Mo_data 157 = .ok (.iconst 1, 1) := by decide +kernel
theorem d_Mo_data_158 : decode b_Mo_data 158 = .ok (.iconst 1, 1) := by decide +kernel
theorem d_Mo_data_159 : decode b_Mo_data 159 = .ok (.invokevirtual 112, 3) := by decide +kernel
theorem d_Mo_data_162 : decode b_Mo_data 162 = .ok (.goto 124, 3) := by decide +kernel
theorem d_Mo_data_165 : decode b_Mo_data 165 = .ok (.aload_n 0, 1) := by decide +kernel
theorem d_Mo_data_166 : decode b_Mo_data 166 = .ok (.iconst 1, 1) := by decide +kernel
theorem d_Mo_data_167 : decode b_Mo_data 167 = .ok (.iconst 1, 1) := by decide +kernel
theorem d_Mo_data_168 : decode b_Mo_data 168 = .ok (.invokevirtual 112, 3) := by decide +kernel
theorem d_Mo_data_171 : decode b_Mo_data 171 = .ok (.aload_n 0, 1) := by decide +kernel
theorem d_Mo_data_172 : decode b_Mo_data 172 = .ok (.getfield 80, 3) := by decide +kernel
theorem d_Mo_data_175 : decode b_Mo_data 175 = .ok (.ifCond .ne 9, 3) := by decide +kernel
theorem d_Mo_data_178 : decode b_Mo_data 178 = .ok (.aload_n 0, 1) := by decide +kernel
theorem d_Mo_data_179 : decode b_Mo_data 179 = .ok (.iconst 1, 1) := by decide +kernel
theorem d_Mo_data_180 : decode b_Mo_data 180 = .ok (.iconst 1, 1) := by decide +kernel
theorem d_Mo_data_181 : decode b_Mo_data 181 = .ok (.invokevirtual 112, 3) := by decide +kernel
theorem d_Mo_data_184 : decode b_Mo_data 184 = .ok (.aload_n 0, 1) := by decide +kernel
theorem d_Mo_data_185 : decode b_Mo_data 185 = .ok (.getfield 80, 3) := by decide +kernel
theorem d_Mo_data_188 : decode b_Mo_data 188 = .ok (.ifCond .ne 98, 3) := by decide +kernel
theorem d_Mo_data_191 : decode b_Mo_data 191 = .ok (.aload_n 0, 1) := by decide +kernel
theorem d_Mo_data_192 : decode b_Mo_data 192 = .ok (.bipush 20, 2) := by decide +kernel
theorem d_Mo_data_194 : decode b_Mo_data 194 = .ok (.invokevirtual 116, 3) := by decide +kernel
theorem d_Mo_data_197 : decode b_Mo_data 197 = .ok (.goto 89, 3) := by decide +kernel
theorem d_Mo_data_200 : decode b_Mo_data 200 = .ok (.aload_n 0, 1) := by decide +kernel
theorem d_Mo_data_201 : decode b_Mo_data 201 = .ok (.bipush 6, 2) := by decide +kernel
theorem d_Mo_data_203 : decode b_Mo_data 203 = .ok (.invokevirtual 116, 3) := by decide +kernel
theorem d_Mo_data_206 : decode b_Mo_data 206 = .ok (.aload_n 0, 1) := by decide +kernel
theorem d_Mo_data_207 : decode b_Mo_data 207 = .ok (.getfield 80, 3) := by decide +kernel
theorem d_Mo_data_210 : decode b_Mo_data 210 = .ok (.ifCond .ne 76, 3) := by decide +kernel
theorem d_Mo_data_213 : decode b_Mo_data 213 = .ok (.aload_n 0, 1) := by decide +kernel
theorem d_Mo_data_214 : decode b_Mo_data 214 = .ok (.iconst 1, 1) := by decide +kernel
theorem d_Mo_data_215 : decode b_Mo_data 215 = .ok (.iconst 0, 1) := by decide +kernel
theorem d_Mo_data_216 : decode b_Mo_data 216 = .ok (.invokevirtual 112, 3) := by decide +kernel
theorem d_Mo_data_219 : decode b_Mo_data 219 = .ok (.goto 67, 3) := by decide +kernel
theorem d_Mo_data_222 : decode b_Mo_data 222 = .ok (.iload_n 3, 1) := by decide +kernel
theorem d_Mo_data_223 : decode b_Mo_data 223 = .ok (.ifCond .ne 12, 3) := by decide +kernel
theorem d_Mo_data_226 : decode b_Mo_data 226 = .ok (.aload_n 0, 1) := by decide +kernel
theorem d_Mo_data_227 : decode b_Mo_data 227 = .ok (.iconst 5, 1) := by decide +kernel
theorem d_Mo_data_228 : decode b_Mo_data 228 = .ok (.aload_n 0, 1) := by decide +kernel
theorem d_Mo_data_229 : decode b_Mo_data 229 = .ok (.getfield 96, 3) := by decide +kernel
theorem d_Mo_data_232 : decode b_Mo_data 232 = .ok (.invokevirtual 89, 3) := by decide +kernel
theorem d_Mo_data_235 : decode b_Mo_data 235 = .ok (.aload_n 0, 1) := by decide +kernel
theorem d_Mo_data_236 : decode b_Mo_data 236 = .ok (.getfield 80, 3) := by decide +kernel
theorem d_Mo_data_239 : decode b_Mo_data 239 = .ok (.ifCond .ne 47, 3) := by decide +kernel
theorem d_Mo_data_242 : decode b_Mo_data 242 = .ok (.aload_n 0, 1) := by decide +kernel
theorem d_Mo_data_243 : decode b_Mo_data 243 = .ok (.getfield 99, 3) := by decide +kernel
theorem d_Mo_data_246 : decode b_Mo_data 246 = .ok (.aload_n 0, 1) := by decide +kernel
theorem d_Mo_data_247 : decode b_Mo_data 247 = .ok (.getfield 93, 3) := by decide +kernel
theorem d_Mo_data_250 : decode b_Mo_data 250 = .ok (.if_icmp .ge 36, 3) := by decide +kernel
theorem d_Mo_data_253 : decode b_Mo_data 253 = .ok (.aload_n 0, 1) := by decide +kernel
theorem d_Mo_data_254 : decode b_Mo_data 254 = .ok (.iconst 1, 1) := by decide +kernel
theorem d_Mo_data_255 : decode b_Mo_data 255 = .ok (.aload_n 0, 1) := by decide +kernel
theorem d_Mo_data_256 : decode b_Mo_data 256 = .ok (.aload_n 0, 1) := by decide +kernel
theorem d_Mo_data_257 : decode b_Mo_data 257 = .ok (.getfield 99, 3) := by decide +kernel
theorem d_Mo_data_260 : decode b_Mo_data 260 = .ok (.invokevirtual 83, 3) := by decide +kernel
theorem d_Mo_data_263 : decode b_Mo_data 263 = .ok (.iadd, 1) := by decide +kernel
theorem d_Mo_data_264 : decode b_Mo_data 264 = .ok (.invokevirtual 116, 3) := by decide +kernel
theorem d_Mo_data_267 : decode b_Mo_data 267 = .ok (.goto (-32), 3) := by decide +kernel
theorem d_Mo_data_270 : decode b_Mo_data 270 = .ok (.iload_n 2, 1) := by decide +kernel
theorem d_Mo_data_271 : decode b_Mo_data 271 = .ok (.ifCond .ne 15, 3) := by decide +kernel
theorem d_Mo_data_274 : decode b_Mo_data 274 = .ok (.aload_n 0, 1) := by decide +kernel
theorem d_Mo_data_275 : decode b_Mo_data 275 = .ok (.iconst 5, 1) := by decide +kernel
theorem d_Mo_data_276 : decode b_Mo_data 276 = .ok (.aload_n 0, 1) := by decide +kernel
theorem d_Mo_data_277 : decode b_Mo_data 277 = .ok (.getfield 96, 3) := by decide +kernel
theorem d_Mo_data_280 : decode b_Mo_data 280 = .ok (.invokevirtual 89, 3) := by decide +kernel
theorem d_Mo_data_283 : decode b_Mo_data 283 = .ok (.goto 3, 3) := by decide +kernel
theorem d_Mo_data_286 : decode b_Mo_data 286 = .ok (.aload_n 0, 1) := by decide +kernel
theorem d_Mo_data_287 : decode b_Mo_data 287 = .ok (.getfield 80, 3) := by decide +kernel
theorem d_Mo_data_290 : decode b_Mo_data 290 = .ok (.ifCond .le 4, 3) := by decide +kernel
theorem d_Mo_data_293 : decode b_Mo_data 293 = .ok (.return_, 1) := by decide +kernel
theorem d_Mo_data_294 : decode b_Mo_data 294 = .ok (.iload_n 1, 1) := by decide +kernel
theorem d_Mo_data_295 : decode b_Mo_data 295 = .ok (.iconst 2, 1) := by decide +kernel
theorem d_Mo_data_296 : decode b_Mo_data 296 = .ok (.if_icmp .eq 42, 3) := by decide +kernel
theorem d_Mo_data_299 : decode b_Mo_data 299 = .ok (.iload_n 1, 1) := by decide +kernel
theorem d_Mo_data_300 : decode b_Mo_data 300 = .ok (.iconst 5, 1) := by decide +kernel
theorem d_Mo_data_301 : decode b_Mo_data 301 = .ok (.if_icmp .eq 37, 3) := by decide +kernel
theorem d_Mo_data_304 : decode b_Mo_data 304 = .ok (.iload_n 1, 1) := by decide +kernel
theorem d_Mo_data_305 : decode b_Mo_data 305 = .ok (.bipush 12, 2) := by decide +kernel
theorem d_Mo_data_307 : decode b_Mo_data 307 = .ok (.if_icmp .eq 31, 3) := by decide +kernel
theorem d_Mo_data_310 : decode b_Mo_data 310 = .ok (.iload_n 1, 1) := by decide +kernel
theorem d_Mo_data_311 : decode b_Mo_data 311 = .ok (.bipush 15, 2) := by decide +kernel
theorem d_Mo_data_313 : decode b_Mo_data 313 = .ok (.if_icmp .eq 25, 3) := by decide +kernel
theorem d_Mo_data_316 : decode b_Mo_data 316 = .ok (.iload_n 1, 1) := by decide +kernel
theorem d_Mo_data_317 : decode b_Mo_data 317 = .ok (.bipush 6, 2) := by decide +kernel
theorem d_Mo_data_319 : decode b_Mo_data 319 = .ok (.if_icmp .eq 19, 3) := by decide +kernel
theorem d_Mo_data_322 : decode b_Mo_data 322 = .ok (.iload_n 1, 1) := by decide +kernel
theorem d_Mo_data_323 : decode b_Mo_data 323 = .ok (.bipush 33, 2) := by decide +kernel
theorem d_Mo_data_325 : decode b_Mo_data 325 = .ok (.if_icmp .eq 13, 3) := by decide +kernel
theorem d_Mo_data_328 : decode b_Mo_data 328 = .ok (.iload_n 1, 1) := by decide +kernel
theorem d_Mo_data_329 : decode b_Mo_data 329 = .ok (.bipush 16, 2) := by decide +kernel
theorem d_Mo_data_331 : decode b_Mo_data 331 = .ok (.if_icmp .eq 7, 3) := by decide +kernel
theorem d_Mo_data_334 : decode b_Mo_data 334 = .ok (.iconst 1, 1) := by decide +kernel
theorem d_Mo_data_335 : decode b_Mo_data 335 = .ok (.goto 4, 3) := by decide +kernel
theorem d_Mo_data_338 : decode b_Mo_data 338 = .ok (.iconst 0, 1) := by decide +kernel
theorem d_Mo_data_339 : decode b_Mo_data 339 = .ok (.istore 4, 2) := by decide +kernel
theorem d_Mo_data_341 : decode b_Mo_data 341 = .ok (.iload 4, 2) := by decide +kernel
theorem d_Mo_data_343 : decode b_Mo_data 343 = .ok (.ifCond .eq 16, 3) := by decide +kernel
theorem d_Mo_data_346 : decode b_Mo_data 346 = .ok (.aload_n 0, 1) := by decide +kernel
theorem d_Mo_data_347 : decode b_Mo_data 347 = .ok (.aload_n 0, 1) := by decide +kernel
theorem d_Mo_data_348 : decode b_Mo_data 348 = .ok (.getfield 93, 3) := by decide +kernel
theorem d_Mo_data_351 : decode b_Mo_data 351 = .ok (.aload_n 0, 1) := by decide +kernel
theorem d_Mo_data_352 : decode b_Mo_data 352 = .ok (.getfield 99, 3) := by decide +kernel
theorem d_Mo_data_355 : decode b_Mo_data 355 = .ok (.isub, 1) := by decide +kernel
theorem d_Mo_data_356 : decode b_Mo_data 356 = .ok (.invokevirtual 116, 3) := by decide +kernel
theorem d_Mo_data_359 : decode b_Mo_data 359 = .ok (.aload_n 0, 1) := by decide +kernel
theorem d_Mo_data_360 : decode b_Mo_data 360 = .ok (.getfield 99, 3) := by decide +kernel
theorem d_Mo_data_363 : decode b_Mo_data 363 = .ok (.aload_n 0, 1) := by decide +kernel
theorem d_Mo_data_364 : decode b_Mo_data 364 = .ok (.getfield 93, 3) := by decide +kernel
theorem d_Mo_data_367 : decode b_Mo_data 367 = .ok (.if_icmp .eq 12, 3) := by decide +kernel
theorem d_Mo_data_370 : decode b_Mo_data 370 = .ok (.aload_n 0, 1) := by decide +kernel
theorem d_Mo_data_371 : decode b_Mo_data 371 = .ok (.iconst 5, 1) := by decide +kernel
theorem d_Mo_data_372 : decode b_Mo_data 372 = .ok (.aload_n 0, 1) := by decide +kernel
theorem d_Mo_data_373 : decode b_Mo_data 373 = .ok (.getfield 96, 3) := by decide +kernel
theorem d_Mo_data_376 : decode b_Mo_data 376 = .ok (.invokevirtual 89, 3) := by decide +kernel
theorem d_Mo_data_379 : decode b_Mo_data 379 = .ok (.return_, 1) := by decide +kernel
set_option maxHeartbeats 4000000 in
set_option maxRecDepth 100000 in
/-- the reference: bytes -/
theorem m_Mo_bytes (l : Launch) (D9 : va_G) (cB cI cJ cG : ClassId) (a : Nat → Nat) (O : Nat → Int64) (I : Nat → Int32) (F : Nat → Nat → Int32) (t : List Nat) (hT : BR 0 65536 (F 34) t) (h16 : I 16 = nI t.length) (htl : t.length ≤ 65536) (L : List Nat) (q n b : Nat) (h27 : I 27 = nI b) (hb9 : b ≤ t.length) (h25 : I 25 = nI q) (h24 : I 24 = nI 0) (hq9 : q ≤ 65536) (hn9 : L.length + n < 140000) (h17 : I 17 = nI L.length) (hBL : BR 0 140000 (F 35) L) : MC l D9 cB cI cJ cG a O y_Mo_bytes b_Mo_bytes 3 (none) 1 [.ref (a 33), .int (nI n)] I F (fun v I' F' => (q + n ≤ b ∧ v = none ∧ sm [17, 25] I I' ∧ I' 17 = nI (L ++ sl9 t q n).length ∧ I' 25 = nI (q + n) ∧ sm [35] F F' ∧ BR 0 140000 (F' 35) (L ++ sl9 t q n)) ∨ (¬ q + n ≤ b ∧ v = none ∧ sm [21, 24] I I' ∧ (∃ z : Nat, (0 < z ∧ z < 100) ∧ I' 24 = nI z) ∧ F = F')) := by
  refine mc_ofv (by decide) (Nat.le_of_ble_eq_true rfl) ?_
  intro p e s m below meth c ls A0 Q C0 hP hD hA hS hl hret
  obtain ⟨hx, hb, hml, hr, hlocks, hown, hts, hK⟩ := id C0
  have hl : lv_has ls 3 [(0, .ref (a 33)), (1, .int (nI n))] := hl
  refine lv_aload_n hx hb d_Mo_bytes_0 rfl (lv_at hl 0 rfl) ?_
  refine va_get (D := D9) (ci := 7) (C := R_Mo) (T := F_Mo) (N := 30) hx hb hts i_Mo hown hK hP 33 ww_33 rfl 20 (by decide) (hts _ g_742) (fun _ h9 => h9) rfl d_Mo_bytes_1 ?_
  refine lv_topq (y := nI q) (h25) ?_
  refine lv_iload_n hx hb d_Mo_bytes_4 rfl (lv_at hl 1 rfl) ?_
  refine lv_iadd hx hb d_Mo_bytes_5 ?_
  refine lv_topq (y := nI (q + n)) (nI_add _ _) ?_
  refine lv_aload_n hx hb d_Mo_bytes_6 rfl (lv_at hl 0 rfl) ?_
  refine va_get (D := D9) (ci := 7) (C := R_Mo) (T := F_Mo) (N := 30) hx hb hts i_Mo hown hK hP 33 ww_33 rfl 22 (by decide) (hts _ g_744) (fun _ h9 => h9) rfl d_Mo_bytes_7 ?_
  refine lv_topq (y := nI b) (h27) ?_
  refine lv_icmp_le (tgt := 23) hx hb d_Mo_bytes_10 (by decide) (fun c1 => ?_) (fun c1 => ?_)
  · have c1 : q + n ≤ b := (nI_leI (a := q + n) (b := b) (by omega) (by omega)).mp c1
    refine lv_iconst (v := 0) hx hb d_Mo_bytes_23 (by decide) ?_
    refine lv_topq (y := nI 0) (rfl) ?_
    refine lv_istore_n (lv' := [(2, _), (0, _), (1, _)]) hx hb d_Mo_bytes_24 rfl hl (by decide) rfl (fun ls hl => ?_)
    have loopC : ∀ (nc : Nat) (i9 : Nat) (Fc : Nat → Nat → Int32) (H : Heap) (locs : List Loc) (ls : Array Slot), (sm [35] F Fc) → (n - i9 = nc) → (i9 ≤ n) → (BR 0 140000 (Fc 35) (L ++ sl9 t q i9)) → va_P D9 cls9 (WW a cB cI cJ cG I Fc O) H → va_D A0 (WW a cB cI cJ cG I Fc O) → va_S A0 s.heap H locs → lv_has ls 3 [(0, .ref (a 33)), (1, .int (nI n)), (2, .int (nI i9))] → W p l e (rm9 1 0 0) s m ([.ref (a 33), .int (nI n)] : List Value).toArray below meth c H locs 0 0 Q (F0 m 25 ls []) := by
      intro nc
      induction nc using Nat.strongRecOn with
      | ind nc ihc =>
        intro i9 Fc H locs ls hsFc hnc hi9 hB9 hP hD hS hl
        have hLc : (L ++ sl9 t q i9).length = L.length + i9 := by rw [List.length_append, sl9_len (by omega)]
        refine lv_iload_n hx hb d_Mo_bytes_25 rfl (lv_at hl 2 rfl) ?_
        refine lv_iload_n hx hb d_Mo_bytes_26 rfl (lv_at hl 1 rfl) ?_
        refine lv_icmp_ge (tgt := 58) hx hb d_Mo_bytes_27 (by decide) (fun c2 => ?_) (fun c2 => ?_)
        · have c2 : n ≤ i9 := (nI_leI (a := n) (b := i9) (by omega) (by omega)).mp c2
          obtain rfl : n = i9 := by omega
          refine lv_aload_n hx hb d_Mo_bytes_58 rfl (lv_at hl 0 rfl) ?_
          refine lv_dup hx hb d_Mo_bytes_59 rfl ?_
          refine va_get (D := D9) (ci := 7) (C := R_Mo) (T := F_Mo) (N := 30) hx hb hts i_Mo hown hK hP 33 ww_33 rfl 4 (by decide) (hts _ g_726) (fun _ h9 => h9) rfl d_Mo_bytes_60 ?_
          refine lv_topq (y := nI L.length) (h17) ?_
          refine lv_iload_n hx hb d_Mo_bytes_63 rfl (lv_at hl 1 rfl) ?_
          refine lv_iadd hx hb d_Mo_bytes_64 ?_
          refine lv_topq (y := nI (L.length + n)) (nI_add _ _) ?_
          refine va_put (D := D9) (ty := .int) (ci := 7) (C := R_Mo) (T := F_Mo) (N := 30) hx hb hts i_Mo t_Mo t_Mo_ok n_Mo hown hK hP hD hS 33 ww_33 rfl 4 (by decide) (hts _ g_726) (fun _ h9 => h9) rfl (by decide +kernel) rfl rfl (Nat.le_of_ble_eq_true rfl) d_Mo_bytes_65 (fun H locs hP hD hS => ?_)
          obtain ⟨I3, aI3, sI3, hP, hD⟩ := fx (P := fun z => va_P D9 cls9 (WW a cB cI cJ cG z _ O) H ∧ va_D A0 (WW a cB cI cJ cG z _ O)) ⟨wp_17 hP, wd_17 hD⟩
          refine lv_aload_n hx hb d_Mo_bytes_68 rfl (lv_at hl 0 rfl) ?_
          refine lv_dup hx hb d_Mo_bytes_69 rfl ?_
          refine va_get (D := D9) (ci := 7) (C := R_Mo) (T := F_Mo) (N := 30) hx hb hts i_Mo hown hK hP 33 ww_33 rfl 20 (by decide) (hts _ g_742) (fun _ h9 => h9) rfl d_Mo_bytes_70 ?_
          refine lv_topq (y := nI q) (((sI3 25 (by decide)).trans h25)) ?_
          refine lv_iload_n hx hb d_Mo_bytes_73 rfl (lv_at hl 1 rfl) ?_
          refine lv_iadd hx hb d_Mo_bytes_74 ?_
          refine lv_topq (y := nI (q + n)) (nI_add _ _) ?_
          refine va_put (D := D9) (ty := .int) (ci := 7) (C := R_Mo) (T := F_Mo) (N := 30) hx hb hts i_Mo t_Mo t_Mo_ok n_Mo hown hK hP hD hS 33 ww_33 rfl 20 (by decide) (hts _ g_742) (fun _ h9 => h9) rfl (by decide +kernel) rfl rfl (Nat.le_of_ble_eq_true rfl) d_Mo_bytes_75 (fun H locs hP hD hS => ?_)
          obtain ⟨I4, aI4, sI4, hP, hD⟩ := fx (P := fun z => va_P D9 cls9 (WW a cB cI cJ cG z _ O) H ∧ va_D A0 (WW a cB cI cJ cG z _ O)) ⟨wp_25 hP, wd_25 hD⟩
          exact hret _ _ _ _ _ _ hS hP hD d_Mo_bytes_78 (Or.inl ⟨by omega, rfl, (sm_tr (sm_mo sI3 (by decide)) (sm_mo sI4 (by decide))), by rw [((sI4 17 (by decide)).trans aI3), ← hLc], aI4, (sm_mo hsFc (by decide)), hB9⟩)
        · have c2 : ¬ (n ≤ i9) := fun z9 => c2 ((nI_leI (a := n) (b := i9) (by omega) (by omega)).mpr z9)
          refine lv_aload_n hx hb d_Mo_bytes_30 rfl (lv_at hl 0 rfl) ?_
          refine va_get (D := D9) (ci := 7) (C := R_Mo) (T := F_Mo) (N := 30) hx hb hts i_Mo hown hK hP 33 ww_33 rfl 3 (by decide) (hts _ g_725) (fun _ h9 => h9) rfl d_Mo_bytes_31 ?_
          refine lv_aload_n hx hb d_Mo_bytes_34 rfl (lv_at hl 0 rfl) ?_
          refine va_get (D := D9) (ci := 7) (C := R_Mo) (T := F_Mo) (N := 30) hx hb hts i_Mo hown hK hP 33 ww_33 rfl 4 (by decide) (hts _ g_726) (fun _ h9 => h9) rfl d_Mo_bytes_35 ?_
          refine lv_topq (y := nI L.length) (h17) ?_
          refine lv_iload_n hx hb d_Mo_bytes_38 rfl (lv_at hl 2 rfl) ?_
          refine lv_iadd hx hb d_Mo_bytes_39 ?_
          refine lv_topq (y := nI (L.length + i9)) (nI_add _ _) ?_
          refine lv_aload_n hx hb d_Mo_bytes_40 rfl (lv_at hl 0 rfl) ?_
          refine va_get (D := D9) (ci := 7) (C := R_Mo) (T := F_Mo) (N := 30) hx hb hts i_Mo hown hK hP 33 ww_33 rfl 1 (by decide) (hts _ g_723) (fun _ h9 => h9) rfl d_Mo_bytes_41 ?_
          refine lv_aload_n hx hb d_Mo_bytes_44 rfl (lv_at hl 0 rfl) ?_
          refine va_get (D := D9) (ci := 7) (C := R_Mo) (T := F_Mo) (N := 30) hx hb hts i_Mo hown hK hP 33 ww_33 rfl 20 (by decide) (hts _ g_742) (fun _ h9 => h9) rfl d_Mo_bytes_45 ?_
          refine lv_topq (y := nI q) (h25) ?_
          refine lv_iload_n hx hb d_Mo_bytes_48 rfl (lv_at hl 2 rfl) ?_
          refine lv_iadd hx hb d_Mo_bytes_49 ?_
          refine lv_topq (y := nI (q + i9)) (nI_add _ _) ?_
          refine va_bald (D := D9) hx hb hK hP 34 0 ww_34 rfl (vp_in_nI (by omega) (by decide)) d_Mo_bytes_50 ?_
          refine lv_topq (y := F 34 (q + i9)) (by rw [nI_clamp (by omega)]; exact ((congrFun (hsFc 34 (by decide)) _).trans rfl)) ?_
          refine va_bast (D := D9) hx hb hK hP hD hS 35 0 ww_35 rfl (vp_in_nI (by omega) (by decide)) d_Mo_bytes_51 (fun H locs hP hD hS => ?_)
          obtain ⟨F5, aF5, sF5, hP, hD⟩ := fx (P := fun z => va_P D9 cls9 (WW a cB cI cJ cG _ z O) H ∧ va_D A0 (WW a cB cI cJ cG _ z O)) ⟨wpa_35 hP, wda_35 hD⟩
          rw [nI_clamp (by omega)] at aF5
          refine lv_iinc (lv' := [(2, .int (nI (i9 + 1))), (0, _), (1, _)]) hx hb d_Mo_bytes_52 hl (k := 2) rfl (nI_add _ 1) (by decide) rfl (fun ls hl => ?_)
          refine lv_goto (tgt := 25) hx hb d_Mo_bytes_55 (by decide) ?_
          have hBn := BR_put2 hB9 hLc (BR_tb hT (show q + i9 < t.length by omega) (by omega) (by omega))
          rw [List.append_assoc, ← sl9_s (by omega)] at hBn
          exact ihc _ (by omega) (i9 + 1) _ _ _ _ (sm_tr (sm_mo hsFc (by decide)) (sm_mo sF5 (by decide))) rfl (by omega) (BR_eq hBn aF5) hP hD hS (lv_pk hl [1, 2, 0] rfl)
    exact loopC _ 0 _ _ _ _ sm_rf rfl (Nat.zero_le _) (by rw [sl9_0, List.append_nil]; exact hBL) hP hD hS (lv_pk hl [1, 2, 0] rfl)
  · have c1 : ¬ (q + n ≤ b) := fun z9 => c1 ((nI_leI (a := q + n) (b := b) (by omega) (by omega)).mpr z9)
    refine lv_aload_n hx hb d_Mo_bytes_13 rfl (lv_at hl 0 rfl) ?_
    refine lv_iconst (v := 5) hx hb d_Mo_bytes_14 (by decide) ?_
    refine lv_topq (y := nI 5) (rfl) ?_
    refine lv_aload_n hx hb d_Mo_bytes_15 rfl (lv_at hl 0 rfl) ?_
    refine va_get (D := D9) (ci := 7) (C := R_Mo) (T := F_Mo) (N := 30) hx hb hts i_Mo hown hK hP 33 ww_33 rfl 21 (by decide) (hts _ g_743) (fun _ h9 => h9) rfl d_Mo_bytes_16 ?_
    refine mw_cV (ci := 7) (k := 33) C0 (m_Mo_wrong l D9 cB cI cJ cG a O _ _ (nI 5) _ h24) g_824 g_8 g_821 g_823 gs_Mo_wrong ⟨by decide +kernel, by decide +kernel, show Option.map (fun d => d.parameters.length) (parseMethodDescriptor y_Mo_wrong.desc) = some 2 by decide +kernel⟩ ⟨by decide, by decide⟩ rfl rfl hP hD hS hA rfl ww_33 hl.1 (Nat.le_of_ble_eq_true rfl) rfl d_Mo_bytes_19 ⟨by decide, by decide⟩ (fun v9 w9 H locs hq hP hD hS => ?_)
    obtain ⟨I6, F7, hw9, q8⟩ := hq
    subst hw9
    obtain ⟨rfl, sI6, zI6, rfl⟩ := q8
    exact hret _ _ _ _ _ _ hS hP hD d_Mo_bytes_22 (Or.inr ⟨by omega, rfl, (sm_mo sI6 (by decide)), ⟨_, by decide, zI6⟩, rfl⟩)
set_option maxHeartbeats 4000000 in
set_option maxRecDepth 100000 in
/-- the reference: data -/
theorem m_Mo_data (l : Launch) (D9 : va_G) (cB cI cJ cG : ClassId) (a : Nat → Nat) (O : Nat → Int64) (I : Nat → Int32) (F : Nat → Nat → Int32) (t : List Nat) (hT : BR 0 65536 (F 34) t) (h16 : I 16 = nI t.length) (htl : t.length ≤ 65536) (L : List Nat) (ty q b fw ol : Nat) (hty : ty < 65536) (h26 : I 26 = nI q) (h27 : I 27 = nI b) (h25 : I 25 = nI q) (hqb : q ≤ b) (hb9 : b ≤ t.length) (h24 : I 24 = nI 0) (h17 : I 17 = nI L.length) (hLb : L.length < 70000) (hBL : BR 0 140000 (F 35) L) (h22 : I 22 = nI fw) : MC l D9 cB cI cJ cG a O y_Mo_data b_Mo_data 5 (none) 3 [.ref (a 33), .int (nI ty), .int (bI ((decide (ol = 1))))] I F (fun v I' F' => (∃ d c, rdD t ty q b ol = some (d, c) ∧ v = none ∧ sm [17, 22, 25] I I' ∧ I' 17 = nI (L ++ d).length ∧ I' 22 = nI (fw + c) ∧ sm [35] F F' ∧ BR 0 140000 (F' 35) (L ++ d)) ∨ (rdD t ty q b ol = none ∧ v = none ∧ sm [17, 21, 22, 24, 25] I I' ∧ (∃ z : Nat, (0 < z ∧ z < 100) ∧ I' 24 = nI z) ∧ sm [35] F F' ∧ BR 0 140000 (F' 35) L)) := by
  refine mc_ofv (by decide) (Nat.le_of_ble_eq_true rfl) ?_
  intro p e s m below meth c ls A0 Q C0 hP hD hA hS hl hret
  obtain ⟨hx, hb, hml, hr, hlocks, hown, hts, hK⟩ := id C0
  have hl : lv_has ls 5 [(0, .ref (a 33)), (1, .int (nI ty)), (2, .int (bI ((decide (ol = 1)))))] := hl
  refine lv_aload_n hx hb d_Mo_data_0 rfl (lv_at hl 0 rfl) ?_
  refine va_get (D := D9) (ci := 7) (C := R_Mo) (T := F_Mo) (N := 30) hx hb hts i_Mo hown hK hP 33 ww_33 rfl 22 (by decide) (hts _ g_744) (fun _ h9 => h9) rfl d_Mo_data_1 ?_
  refine lv_topq (y := nI b) (h27) ?_
  refine lv_aload_n hx hb d_Mo_data_4 rfl (lv_at hl 0 rfl) ?_
  refine va_get (D := D9) (ci := 7) (C := R_Mo) (T := F_Mo) (N := 30) hx hb hts i_Mo hown hK hP 33 ww_33 rfl 21 (by decide) (hts _ g_743) (fun _ h9 => h9) rfl d_Mo_data_5 ?_
  refine lv_topq (y := nI q) (h26) ?_
  refine lv_isub hx hb d_Mo_data_8 ?_
  refine lv_topq (y := nI (b - q)) (pk_sub (by omega)) ?_
  refine lv_istore_n (lv' := [(3, _), (0, _), (1, _), (2, _)]) hx hb d_Mo_data_9 rfl hl (by decide) rfl (fun ls hl => ?_)
  refine lv_iload_n hx hb d_Mo_data_10 rfl (lv_at hl 2 rfl) ?_
  by_cases ty1 : ty = 1
  · subst ty1
    refine lv_lookup (tgt := 100) hx hb d_Mo_data_11 (by decide) rfl (by decide) ?_
    refine lv_iload_n hx hb d_Mo_data_100 rfl (lv_at hl 0 rfl) ?_
    refine lv_iconst (v := 4) hx hb d_Mo_data_101 (by decide) ?_
    refine lv_topq (y := nI 4) (rfl) ?_
    refine lv_icmp_eq (tgt := 286) hx hb d_Mo_data_102 (by decide) (fun c1 => ?_) (fun c1 => ?_)
    · have c1 : b - q = 4 := (nI_eq (a := b - q) (b := 4) (by omega) (by omega)).mp c1
      refine lv_aload_n hx hb d_Mo_data_286 rfl (lv_at hl 1 rfl) ?_
      refine va_get (D := D9) (ci := 7) (C := R_Mo) (T := F_Mo) (N := 30) hx hb hts i_Mo hown hK hP 33 ww_33 rfl 19 (by decide) (hts _ g_741) (fun _ h9 => h9) rfl d_Mo_data_287 ?_
      refine lv_topq (y := nI 0) (h24) ?_
      refine lv_if_le (tgt := 294) hx hb d_Mo_data_290 (by decide) (fun c2 => ?_) (fun c2 => ?_)
      · refine lv_iload_n hx hb d_Mo_data_294 rfl (lv_at hl 2 rfl) ?_
        refine lv_iconst (v := 2) hx hb d_Mo_data_295 (by decide) ?_
        refine lv_topq (y := nI 2) (rfl) ?_
        refine lv_icmp_eq (tgt := 338) hx hb d_Mo_data_296 (by decide) (fun c3 => ?_) (fun c3 => ?_)
        · exact absurd c3 (by decide)
        · refine lv_iload_n hx hb d_Mo_data_299 rfl (lv_at hl 2 rfl) ?_
          refine lv_iconst (v := 5) hx hb d_Mo_data_300 (by decide) ?_
          refine lv_topq (y := nI 5) (rfl) ?_
          refine lv_icmp_eq (tgt := 338) hx hb d_Mo_data_301 (by decide) (fun c4 => ?_) (fun c4 => ?_)
          · exact absurd c4 (by decide)
          · refine lv_iload_n hx hb d_Mo_data_304 rfl (lv_at hl 2 rfl) ?_
            refine lv_bipush (v := 12) hx hb d_Mo_data_305 (by decide) ?_
            refine lv_topq (y := nI 12) (rfl) ?_
            refine lv_icmp_eq (tgt := 338) hx hb d_Mo_data_307 (by decide) (fun c5 => ?_) (fun c5 => ?_)
            · exact absurd c5 (by decide)
            · refine lv_iload_n hx hb d_Mo_data_310 rfl (lv_at hl 2 rfl) ?_
              refine lv_bipush (v := 15) hx hb d_Mo_data_311 (by decide) ?_
              refine lv_topq (y := nI 15) (rfl) ?_
              refine lv_icmp_eq (tgt := 338) hx hb d_Mo_data_313 (by decide) (fun c6 => ?_) (fun c6 => ?_)
              · exact absurd c6 (by decide)
              · refine lv_iload_n hx hb d_Mo_data_316 rfl (lv_at hl 2 rfl) ?_
                refine lv_bipush (v := 6) hx hb d_Mo_data_317 (by decide) ?_
                refine lv_topq (y := nI 6) (rfl) ?_
                refine lv_icmp_eq (tgt := 338) hx hb d_Mo_data_319 (by decide) (fun c7 => ?_) (fun c7 => ?_)
                · exact absurd c7 (by decide)
                · refine lv_iload_n hx hb d_Mo_data_322 rfl (lv_at hl 2 rfl) ?_
                  refine lv_bipush (v := 33) hx hb d_Mo_data_323 (by decide) ?_
                  refine lv_topq (y := nI 33) (rfl) ?_
                  refine lv_icmp_eq (tgt := 338) hx hb d_Mo_data_325 (by decide) (fun c8 => ?_) (fun c8 => ?_)
                  · exact absurd c8 (by decide)
                  · refine lv_iload_n hx hb d_Mo_data_328 rfl (lv_at hl 2 rfl) ?_
                    refine lv_bipush (v := 16) hx hb d_Mo_data_329 (by decide) ?_
                    refine lv_topq (y := nI 16) (rfl) ?_
                    refine lv_icmp_eq (tgt := 338) hx hb d_Mo_data_331 (by decide) (fun c9 => ?_) (fun c9 => ?_)
                    · exact absurd c9 (by decide)
                    · refine lv_iconst (v := 1) hx hb d_Mo_data_334 (by decide) ?_
                      refine lv_topq (y := nI 1) (rfl) ?_
                      refine lv_goto (tgt := 339) hx hb d_Mo_data_335 (by decide) ?_
                      refine lv_istore (lv' := [(4, _), (3, _), (0, _), (1, _), (2, _)]) hx hb d_Mo_data_339 hl (by decide) rfl (fun ls hl => ?_)
                      refine lv_iload hx hb d_Mo_data_341 (lv_at hl 0 rfl) ?_
                      refine lv_if_eq (tgt := 359) hx hb d_Mo_data_343 (by decide) (fun c10 => ?_) (fun c10 => ?_)
                      · exact absurd c10 (by decide)
                      · refine lv_aload_n hx hb d_Mo_data_346 rfl (lv_at hl 2 rfl) ?_
                        refine lv_aload_n hx hb d_Mo_data_347 rfl (lv_at hl 2 rfl) ?_
                        refine va_get (D := D9) (ci := 7) (C := R_Mo) (T := F_Mo) (N := 30) hx hb hts i_Mo hown hK hP 33 ww_33 rfl 22 (by decide) (hts _ g_744) (fun _ h9 => h9) rfl d_Mo_data_348 ?_
                        refine lv_topq (y := nI b) (h27) ?_
                        refine lv_aload_n hx hb d_Mo_data_351 rfl (lv_at hl 2 rfl) ?_
                        refine va_get (D := D9) (ci := 7) (C := R_Mo) (T := F_Mo) (N := 30) hx hb hts i_Mo hown hK hP 33 ww_33 rfl 20 (by decide) (hts _ g_742) (fun _ h9 => h9) rfl d_Mo_data_352 ?_
                        refine lv_topq (y := nI q) (h25) ?_
                        refine lv_isub hx hb d_Mo_data_355 ?_
                        refine lv_topq (y := nI (b - q)) (pk_sub (by omega)) ?_
                        refine mw_cV (ci := 7) (k := 33) C0 (m_Mo_bytes l D9 cB cI cJ cG a O _ _ t hT h16 htl L q (b - q) b h27 hb9 h25 h24 (by omega) (by omega) h17 hBL) g_852 g_8 g_849 g_851 gs_Mo_bytes ⟨by decide +kernel, by decide +kernel, show Option.map (fun d => d.parameters.length) (parseMethodDescriptor y_Mo_bytes.desc) = some 1 by decide +kernel⟩ ⟨by decide, by decide⟩ rfl rfl hP hD hS hA rfl ww_33 hl.1 (Nat.le_of_ble_eq_true rfl) rfl d_Mo_data_356 ⟨by decide, by decide⟩ (fun v9 w9 H locs hq hP hD hS => ?_)
                        obtain ⟨I11, F12, hw9, q13⟩ := hq
                        subst hw9
                        rcases q13 with ⟨gbz, rfl, sbz, y17z, y25z, sHz, vBz⟩ | ⟨gbz, rfl, sbz, ⟨ezz, eyz, exz⟩, rfl⟩
                        · have hlmz : (L ++ sl9 t q (b - q)).length = L.length + (b - q) := by rw [List.length_append, sl9_len (by omega)]
                          refine lv_aload_n hx hb d_Mo_data_359 rfl (lv_at hl 2 rfl) ?_
                          refine va_get (D := D9) (ci := 7) (C := R_Mo) (T := F_Mo) (N := 30) hx hb hts i_Mo hown hK hP 33 ww_33 rfl 20 (by decide) (hts _ g_742) (fun _ h9 => h9) rfl d_Mo_data_360 ?_
                          refine lv_topq (y := nI (q + (b - q))) (y25z) ?_
                          refine lv_aload_n hx hb d_Mo_data_363 rfl (lv_at hl 2 rfl) ?_
                          refine va_get (D := D9) (ci := 7) (C := R_Mo) (T := F_Mo) (N := 30) hx hb hts i_Mo hown hK hP 33 ww_33 rfl 22 (by decide) (hts _ g_744) (fun _ h9 => h9) rfl d_Mo_data_364 ?_
                          refine lv_topq (y := nI b) (((sbz 27 (by decide)).trans h27)) ?_
                          refine lv_icmp_eq (tgt := 379) hx hb d_Mo_data_367 (by decide) (fun c14 => ?_) (fun c14 => ?_)
                          · have c14 : q + (b - q) = b := (nI_eq (a := q + (b - q)) (b := b) (by omega) (by omega)).mp c14
                            exact hret _ _ _ _ _ _ hS hP hD d_Mo_data_379 (Or.inl ⟨_, _, D_a (by decide) (by rw [asT_1]; simp; omega), rfl, (sm_mo sbz (by decide)), (y17z).trans (congrArg nI (by simp only [List.append_assoc, sl9_0, List.nil_append])), (((sbz 22 (by decide)).trans h22)).trans (congrArg nI (by omega)), (sm_mo sHz (by decide)), by simpa only [List.append_assoc, sl9_0, List.nil_append] using vBz⟩)
                          · have c14 : ¬ (q + (b - q) = b) := fun z9 => c14 ((nI_eq (a := q + (b - q)) (b := b) (by omega) (by omega)).mpr z9)
                            exfalso; omega
                        · exfalso; omega
      · exact absurd c2 (by decide)
    · have c1 : ¬ (b - q = 4) := fun z9 => c1 ((nI_eq (a := b - q) (b := 4) (by omega) (by omega)).mpr z9)
      refine lv_aload_n hx hb d_Mo_data_105 rfl (lv_at hl 1 rfl) ?_
      refine lv_iconst (v := 5) hx hb d_Mo_data_106 (by decide) ?_
      refine lv_topq (y := nI 5) (rfl) ?_
      refine lv_aload_n hx hb d_Mo_data_107 rfl (lv_at hl 1 rfl) ?_
      refine va_get (D := D9) (ci := 7) (C := R_Mo) (T := F_Mo) (N := 30) hx hb hts i_Mo hown hK hP 33 ww_33 rfl 21 (by decide) (hts _ g_743) (fun _ h9 => h9) rfl d_Mo_data_108 ?_
      refine lv_topq (y := nI q) (h26) ?_
      refine mw_cV (ci := 7) (k := 33) C0 (m_Mo_wrong l D9 cB cI cJ cG a O _ _ (nI 5) _ h24) g_824 g_8 g_821 g_823 gs_Mo_wrong ⟨by decide +kernel, by decide +kernel, show Option.map (fun d => d.parameters.length) (parseMethodDescriptor y_Mo_wrong.desc) = some 2 by decide +kernel⟩ ⟨by decide, by decide⟩ rfl rfl hP hD hS hA rfl ww_33 hl.1 (Nat.le_of_ble_eq_true rfl) rfl d_Mo_data_111 ⟨by decide, by decide⟩ (fun v9 w9 H locs hq hP hD hS => ?_)
      obtain ⟨I15, F16, hw9, q17⟩ := hq
      subst hw9
      obtain ⟨rfl, sI15, zI15, rfl⟩ := q17
      refine lv_goto (tgt := 286) hx hb d_Mo_data_114 (by decide) ?_
      refine lv_aload_n hx hb d_Mo_data_286 rfl (lv_at hl 1 rfl) ?_
      refine va_get (D := D9) (ci := 7) (C := R_Mo) (T := F_Mo) (N := 30) hx hb hts i_Mo hown hK hP 33 ww_33 rfl 19 (by decide) (hts _ g_741) (fun _ h9 => h9) rfl d_Mo_data_287 ?_
      refine lv_topq (y := nI 5) (zI15) ?_
      refine lv_if_le (tgt := 294) hx hb d_Mo_data_290 (by decide) (fun c18 => ?_) (fun c18 => ?_)
      · exact absurd c18 (by decide)
      · exact hret _ _ _ _ _ _ hS hP hD d_Mo_data_293 (Or.inr ⟨D_b (by decide) (by rw [asT_1]; simp; omega), rfl, (sm_mo sI15 (by decide)), ⟨_, by decide, zI15⟩, sm_rf, hBL⟩)
  · by_cases ty2 : ty = 2
    · subst ty2
      refine lv_lookup (tgt := 135) hx hb d_Mo_data_11 (by decide) rfl (by decide) ?_
      refine lv_aload_n hx hb d_Mo_data_135 rfl (lv_at hl 1 rfl) ?_
      refine lv_iconst (v := 1) hx hb d_Mo_data_136 (by decide) ?_
      refine lv_topq (y := nI 1) (rfl) ?_
      refine lv_iconst (v := 1) hx hb d_Mo_data_137 (by decide) ?_
      refine lv_topq (y := nI 1) (rfl) ?_
      refine mw_cV (ci := 7) (k := 33) C0 (m_Mo_name l D9 cB cI cJ cG a O _ _ t hT h16 htl L b q fw true true (fun _ => h27) (fun z9 => by cases z9) (by omega) h24 h25 (by omega) h17 (by omega) hBL h22) g_840 g_8 g_837 g_839 gs_Mo_name ⟨by decide +kernel, by decide +kernel, show Option.map (fun d => d.parameters.length) (parseMethodDescriptor y_Mo_name.desc) = some 2 by decide +kernel⟩ ⟨by decide, by decide⟩ rfl rfl hP hD hS hA rfl ww_33 hl.1 (Nat.le_of_ble_eq_true rfl) rfl d_Mo_data_138 ⟨by decide, by decide⟩ (fun v9 w9 H locs hq hP hD hS => ?_)
      obtain ⟨I19, F20, hw9, q21⟩ := hq
      subst hw9
      rcases q21 with ⟨nm1, e1, c_1, hr1, rfl, sn1, z171, z251, z221, sG1, wB1⟩ | ⟨hr1, rfl, sn1, ⟨fz1, fy1, fx1⟩, sG1, wB1⟩
      · rw [rnS_t] at hr1
        have hbd1 := rn_bd hr1 (by decide)
        have hln1 : (L ++ nm1).length = L.length + nm1.length := List.length_append
        refine lv_goto (tgt := 286) hx hb d_Mo_data_141 (by decide) ?_
        refine lv_aload_n hx hb d_Mo_data_286 rfl (lv_at hl 1 rfl) ?_
        refine va_get (D := D9) (ci := 7) (C := R_Mo) (T := F_Mo) (N := 30) hx hb hts i_Mo hown hK hP 33 ww_33 rfl 19 (by decide) (hts _ g_741) (fun _ h9 => h9) rfl d_Mo_data_287 ?_
        refine lv_topq (y := nI 0) (((sn1 24 (by decide)).trans h24)) ?_
        refine lv_if_le (tgt := 294) hx hb d_Mo_data_290 (by decide) (fun c22 => ?_) (fun c22 => ?_)
        · refine lv_iload_n hx hb d_Mo_data_294 rfl (lv_at hl 2 rfl) ?_
          refine lv_iconst (v := 2) hx hb d_Mo_data_295 (by decide) ?_
          refine lv_topq (y := nI 2) (rfl) ?_
          refine lv_icmp_eq (tgt := 338) hx hb d_Mo_data_296 (by decide) (fun c23 => ?_) (fun c23 => ?_)
          · refine lv_iconst (v := 0) hx hb d_Mo_data_338 (by decide) ?_
            refine lv_topq (y := nI 0) (rfl) ?_
            refine lv_istore (lv' := [(4, _), (3, _), (0, _), (1, _), (2, _)]) hx hb d_Mo_data_339 hl (by decide) rfl (fun ls hl => ?_)
            refine lv_iload hx hb d_Mo_data_341 (lv_at hl 0 rfl) ?_
            refine lv_if_eq (tgt := 359) hx hb d_Mo_data_343 (by decide) (fun c24 => ?_) (fun c24 => ?_)
            · refine lv_aload_n hx hb d_Mo_data_359 rfl (lv_at hl 2 rfl) ?_
              refine va_get (D := D9) (ci := 7) (C := R_Mo) (T := F_Mo) (N := 30) hx hb hts i_Mo hown hK hP 33 ww_33 rfl 20 (by decide) (hts _ g_742) (fun _ h9 => h9) rfl d_Mo_data_360 ?_
              refine lv_topq (y := nI e1) (z251) ?_
              refine lv_aload_n hx hb d_Mo_data_363 rfl (lv_at hl 2 rfl) ?_
              refine va_get (D := D9) (ci := 7) (C := R_Mo) (T := F_Mo) (N := 30) hx hb hts i_Mo hown hK hP 33 ww_33 rfl 22 (by decide) (hts _ g_744) (fun _ h9 => h9) rfl d_Mo_data_364 ?_
              refine lv_topq (y := nI b) (((sn1 27 (by decide)).trans h27)) ?_
              refine lv_icmp_eq (tgt := 379) hx hb d_Mo_data_367 (by decide) (fun c25 => ?_) (fun c25 => ?_)
              · have c25 : e1 = b := (nI_eq (a := e1) (b := b) (by omega) (by omega)).mp c25
                exact hret _ _ _ _ _ _ hS hP hD d_Mo_data_379 (Or.inl ⟨_, _, D_s (bf := 0) (by decide) (by decide) (by decide) (Or.inl (by decide)) (by omega) hr1 (by omega), rfl, (sm_mo sn1 (by decide)), (z171).trans (congrArg nI (by simp only [List.append_assoc, sl9_0, List.nil_append])), (z221).trans (congrArg nI (by omega)), (sm_mo sG1 (by decide)), by simpa only [List.append_assoc, sl9_0, List.nil_append] using wB1⟩)
              · have c25 : ¬ (e1 = b) := fun z9 => c25 ((nI_eq (a := e1) (b := b) (by omega) (by omega)).mpr z9)
                refine lv_aload_n hx hb d_Mo_data_370 rfl (lv_at hl 2 rfl) ?_
                refine lv_iconst (v := 5) hx hb d_Mo_data_371 (by decide) ?_
                refine lv_topq (y := nI 5) (rfl) ?_
                refine lv_aload_n hx hb d_Mo_data_372 rfl (lv_at hl 2 rfl) ?_
                refine va_get (D := D9) (ci := 7) (C := R_Mo) (T := F_Mo) (N := 30) hx hb hts i_Mo hown hK hP 33 ww_33 rfl 21 (by decide) (hts _ g_743) (fun _ h9 => h9) rfl d_Mo_data_373 ?_
                refine lv_topq (y := nI q) (((sn1 26 (by decide)).trans h26)) ?_
                refine mw_cV (ci := 7) (k := 33) C0 (m_Mo_wrong l D9 cB cI cJ cG a O _ _ (nI 5) _ ((sn1 24 (by decide)).trans h24)) g_824 g_8 g_821 g_823 gs_Mo_wrong ⟨by decide +kernel, by decide +kernel, show Option.map (fun d => d.parameters.length) (parseMethodDescriptor y_Mo_wrong.desc) = some 2 by decide +kernel⟩ ⟨by decide, by decide⟩ rfl rfl hP hD hS hA rfl ww_33 hl.1 (Nat.le_of_ble_eq_true rfl) rfl d_Mo_data_376 ⟨by decide, by decide⟩ (fun v9 w9 H locs hq hP hD hS => ?_)
                obtain ⟨I26, F27, hw9, q28⟩ := hq
                subst hw9
                obtain ⟨rfl, sI26, zI26, rfl⟩ := q28
                exact hret _ _ _ _ _ _ hS hP hD d_Mo_data_379 (Or.inr ⟨D_x (bf := 0) (by decide) (by decide) (by decide) (by omega) hr1 (by omega), rfl, (sm_tr (sm_mo sn1 (by decide)) (sm_mo sI26 (by decide))), ⟨_, by decide, zI26⟩, (sm_mo sG1 (by decide)), BR_pre (wB1)⟩)
            · exact absurd c24 (by decide)
          · exact absurd c23 (by decide)
        · exact absurd c22 (by decide)
      · rw [rnS_t] at hr1
        refine lv_goto (tgt := 286) hx hb d_Mo_data_141 (by decide) ?_
        refine lv_aload_n hx hb d_Mo_data_286 rfl (lv_at hl 1 rfl) ?_
        refine va_get (D := D9) (ci := 7) (C := R_Mo) (T := F_Mo) (N := 30) hx hb hts i_Mo hown hK hP 33 ww_33 rfl 19 (by decide) (hts _ g_741) (fun _ h9 => h9) rfl d_Mo_data_287 ?_
        refine lv_topq (y := nI fz1) (fx1) ?_
        refine lv_if_le (tgt := 294) hx hb d_Mo_data_290 (by decide) (fun c29 => ?_) (fun c29 => ?_)
        · have c29 : fz1 ≤ 0 := (nI_leI (a := fz1) (b := 0) (by omega) (by omega)).mp c29
          exfalso; omega
        · have c29 : ¬ (fz1 ≤ 0) := fun z9 => c29 ((nI_leI (a := fz1) (b := 0) (by omega) (by omega)).mpr z9)
          exact hret _ _ _ _ _ _ hS hP hD d_Mo_data_293 (Or.inr ⟨D_n (bf := 0) (by decide) (by decide) (by omega) hr1, rfl, (sm_mo sn1 (by decide)), ⟨_, by omega, fx1⟩, (sm_mo sG1 (by decide)), wB1⟩)
    · by_cases ty5 : ty = 5
      · subst ty5
        refine lv_lookup (tgt := 135) hx hb d_Mo_data_11 (by decide) rfl (by decide) ?_
        refine lv_aload_n hx hb d_Mo_data_135 rfl (lv_at hl 1 rfl) ?_
        refine lv_iconst (v := 1) hx hb d_Mo_data_136 (by decide) ?_
        refine lv_topq (y := nI 1) (rfl) ?_
        refine lv_iconst (v := 1) hx hb d_Mo_data_137 (by decide) ?_
        refine lv_topq (y := nI 1) (rfl) ?_
        refine mw_cV (ci := 7) (k := 33) C0 (m_Mo_name l D9 cB cI cJ cG a O _ _ t hT h16 htl L b q fw true true (fun _ => h27) (fun z9 => by cases z9) (by omega) h24 h25 (by omega) h17 (by omega) hBL h22) g_840 g_8 g_837 g_839 gs_Mo_name ⟨by decide +kernel, by decide +kernel, show Option.map (fun d => d.parameters.length) (parseMethodDescriptor y_Mo_name.desc) = some 2 by decide +kernel⟩ ⟨by decide, by decide⟩ rfl rfl hP hD hS hA rfl ww_33 hl.1 (Nat.le_of_ble_eq_true rfl) rfl d_Mo_data_138 ⟨by decide, by decide⟩ (fun v9 w9 H locs hq hP hD hS => ?_)
        obtain ⟨I30, F31, hw9, q32⟩ := hq
        subst hw9
        rcases q32 with ⟨nm1, e1, c_1, hr1, rfl, sn1, z171, z251, z221, sG1, wB1⟩ | ⟨hr1, rfl, sn1, ⟨fz1, fy1, fx1⟩, sG1, wB1⟩
        · rw [rnS_t] at hr1
          have hbd1 := rn_bd hr1 (by decide)
          have hln1 : (L ++ nm1).length = L.length + nm1.length := List.length_append
          refine lv_goto (tgt := 286) hx hb d_Mo_data_141 (by decide) ?_
          refine lv_aload_n hx hb d_Mo_data_286 rfl (lv_at hl 1 rfl) ?_
          refine va_get (D := D9) (ci := 7) (C := R_Mo) (T := F_Mo) (N := 30) hx hb hts i_Mo hown hK hP 33 ww_33 rfl 19 (by decide) (hts _ g_741) (fun _ h9 => h9) rfl d_Mo_data_287 ?_
          refine lv_topq (y := nI 0) (((sn1 24 (by decide)).trans h24)) ?_
          refine lv_if_le (tgt := 294) hx hb d_Mo_data_290 (by decide) (fun c33 => ?_) (fun c33 => ?_)
          · refine lv_iload_n hx hb d_Mo_data_294 rfl (lv_at hl 2 rfl) ?_
            refine lv_iconst (v := 2) hx hb d_Mo_data_295 (by decide) ?_
            refine lv_topq (y := nI 2) (rfl) ?_
            refine lv_icmp_eq (tgt := 338) hx hb d_Mo_data_296 (by decide) (fun c34 => ?_) (fun c34 => ?_)
            · exact absurd c34 (by decide)
            · refine lv_iload_n hx hb d_Mo_data_299 rfl (lv_at hl 2 rfl) ?_
              refine lv_iconst (v := 5) hx hb d_Mo_data_300 (by decide) ?_
              refine lv_topq (y := nI 5) (rfl) ?_
              refine lv_icmp_eq (tgt := 338) hx hb d_Mo_data_301 (by decide) (fun c35 => ?_) (fun c35 => ?_)
              · refine lv_iconst (v := 0) hx hb d_Mo_data_338 (by decide) ?_
                refine lv_topq (y := nI 0) (rfl) ?_
                refine lv_istore (lv' := [(4, _), (3, _), (0, _), (1, _), (2, _)]) hx hb d_Mo_data_339 hl (by decide) rfl (fun ls hl => ?_)
                refine lv_iload hx hb d_Mo_data_341 (lv_at hl 0 rfl) ?_
                refine lv_if_eq (tgt := 359) hx hb d_Mo_data_343 (by decide) (fun c36 => ?_) (fun c36 => ?_)
                · refine lv_aload_n hx hb d_Mo_data_359 rfl (lv_at hl 2 rfl) ?_
                  refine va_get (D := D9) (ci := 7) (C := R_Mo) (T := F_Mo) (N := 30) hx hb hts i_Mo hown hK hP 33 ww_33 rfl 20 (by decide) (hts _ g_742) (fun _ h9 => h9) rfl d_Mo_data_360 ?_
                  refine lv_topq (y := nI e1) (z251) ?_
                  refine lv_aload_n hx hb d_Mo_data_363 rfl (lv_at hl 2 rfl) ?_
                  refine va_get (D := D9) (ci := 7) (C := R_Mo) (T := F_Mo) (N := 30) hx hb hts i_Mo hown hK hP 33 ww_33 rfl 22 (by decide) (hts _ g_744) (fun _ h9 => h9) rfl d_Mo_data_364 ?_
                  refine lv_topq (y := nI b) (((sn1 27 (by decide)).trans h27)) ?_
                  refine lv_icmp_eq (tgt := 379) hx hb d_Mo_data_367 (by decide) (fun c37 => ?_) (fun c37 => ?_)
                  · have c37 : e1 = b := (nI_eq (a := e1) (b := b) (by omega) (by omega)).mp c37
                    exact hret _ _ _ _ _ _ hS hP hD d_Mo_data_379 (Or.inl ⟨_, _, D_s (bf := 0) (by decide) (by decide) (by decide) (Or.inl (by decide)) (by omega) hr1 (by omega), rfl, (sm_mo sn1 (by decide)), (z171).trans (congrArg nI (by simp only [List.append_assoc, sl9_0, List.nil_append])), (z221).trans (congrArg nI (by omega)), (sm_mo sG1 (by decide)), by simpa only [List.append_assoc, sl9_0, List.nil_append] using wB1⟩)
                  · have c37 : ¬ (e1 = b) := fun z9 => c37 ((nI_eq (a := e1) (b := b) (by omega) (by omega)).mpr z9)
                    refine lv_aload_n hx hb d_Mo_data_370 rfl (lv_at hl 2 rfl) ?_
                    refine lv_iconst (v := 5) hx hb d_Mo_data_371 (by decide) ?_
                    refine lv_topq (y := nI 5) (rfl) ?_
                    refine lv_aload_n hx hb d_Mo_data_372 rfl (lv_at hl 2 rfl) ?_
                    refine va_get (D := D9) (ci := 7) (C := R_Mo) (T := F_Mo) (N := 30) hx hb hts i_Mo hown hK hP 33 ww_33 rfl 21 (by decide) (hts _ g_743) (fun _ h9 => h9) rfl d_Mo_data_373 ?_
                    refine lv_topq (y := nI q) (((sn1 26 (by decide)).trans h26)) ?_
                    refine mw_cV (ci := 7) (k := 33) C0 (m_Mo_wrong l D9 cB cI cJ cG a O _ _ (nI 5) _ ((sn1 24 (by decide)).trans h24)) g_824 g_8 g_821 g_823 gs_Mo_wrong ⟨by decide +kernel, by decide +kernel, show Option.map (fun d => d.parameters.length) (parseMethodDescriptor y_Mo_wrong.desc) = some 2 by decide +kernel⟩ ⟨by decide, by decide⟩ rfl rfl hP hD hS hA rfl ww_33 hl.1 (Nat.le_of_ble_eq_true rfl) rfl d_Mo_data_376 ⟨by decide, by decide⟩ (fun v9 w9 H locs hq hP hD hS => ?_)
                    obtain ⟨I38, F39, hw9, q40⟩ := hq
                    subst hw9
                    obtain ⟨rfl, sI38, zI38, rfl⟩ := q40
                    exact hret _ _ _ _ _ _ hS hP hD d_Mo_data_379 (Or.inr ⟨D_x (bf := 0) (by decide) (by decide) (by decide) (by omega) hr1 (by omega), rfl, (sm_tr (sm_mo sn1 (by decide)) (sm_mo sI38 (by decide))), ⟨_, by decide, zI38⟩, (sm_mo sG1 (by decide)), BR_pre (wB1)⟩)
                · exact absurd c36 (by decide)
              · exact absurd c35 (by decide)
          · exact absurd c33 (by decide)
        · rw [rnS_t] at hr1
          refine lv_goto (tgt := 286) hx hb d_Mo_data_141 (by decide) ?_
          refine lv_aload_n hx hb d_Mo_data_286 rfl (lv_at hl 1 rfl) ?_
          refine va_get (D := D9) (ci := 7) (C := R_Mo) (T := F_Mo) (N := 30) hx hb hts i_Mo hown hK hP 33 ww_33 rfl 19 (by decide) (hts _ g_741) (fun _ h9 => h9) rfl d_Mo_data_287 ?_
          refine lv_topq (y := nI fz1) (fx1) ?_
          refine lv_if_le (tgt := 294) hx hb d_Mo_data_290 (by decide) (fun c41 => ?_) (fun c41 => ?_)
          · have c41 : fz1 ≤ 0 := (nI_leI (a := fz1) (b := 0) (by omega) (by omega)).mp c41
            exfalso; omega
          · have c41 : ¬ (fz1 ≤ 0) := fun z9 => c41 ((nI_leI (a := fz1) (b := 0) (by omega) (by omega)).mpr z9)
            exact hret _ _ _ _ _ _ hS hP hD d_Mo_data_293 (Or.inr ⟨D_n (bf := 0) (by decide) (by decide) (by omega) hr1, rfl, (sm_mo sn1 (by decide)), ⟨_, by omega, fx1⟩, (sm_mo sG1 (by decide)), wB1⟩)
      · by_cases ty6 : ty = 6
        · subst ty6
          refine lv_lookup (tgt := 165) hx hb d_Mo_data_11 (by decide) rfl (by decide) ?_
          refine lv_aload_n hx hb d_Mo_data_165 rfl (lv_at hl 1 rfl) ?_
          refine lv_iconst (v := 1) hx hb d_Mo_data_166 (by decide) ?_
          refine lv_topq (y := nI 1) (rfl) ?_
          refine lv_iconst (v := 1) hx hb d_Mo_data_167 (by decide) ?_
          refine lv_topq (y := nI 1) (rfl) ?_
          refine mw_cV (ci := 7) (k := 33) C0 (m_Mo_name l D9 cB cI cJ cG a O _ _ t hT h16 htl L b q fw true true (fun _ => h27) (fun z9 => by cases z9) (by omega) h24 h25 (by omega) h17 (by omega) hBL h22) g_840 g_8 g_837 g_839 gs_Mo_name ⟨by decide +kernel, by decide +kernel, show Option.map (fun d => d.parameters.length) (parseMethodDescriptor y_Mo_name.desc) = some 2 by decide +kernel⟩ ⟨by decide, by decide⟩ rfl rfl hP hD hS hA rfl ww_33 hl.1 (Nat.le_of_ble_eq_true rfl) rfl d_Mo_data_168 ⟨by decide, by decide⟩ (fun v9 w9 H locs hq hP hD hS => ?_)
          obtain ⟨I42, F43, hw9, q44⟩ := hq
          subst hw9
          rcases q44 with ⟨nm1, e1, c_1, hr1, rfl, sn1, z171, z251, z221, sG1, wB1⟩ | ⟨hr1, rfl, sn1, ⟨fz1, fy1, fx1⟩, sG1, wB1⟩
          · rw [rnS_t] at hr1
            have hbd1 := rn_bd hr1 (by decide)
            have hln1 : (L ++ nm1).length = L.length + nm1.length := List.length_append
            refine lv_aload_n hx hb d_Mo_data_171 rfl (lv_at hl 1 rfl) ?_
            refine va_get (D := D9) (ci := 7) (C := R_Mo) (T := F_Mo) (N := 30) hx hb hts i_Mo hown hK hP 33 ww_33 rfl 19 (by decide) (hts _ g_741) (fun _ h9 => h9) rfl d_Mo_data_172 ?_
            refine lv_topq (y := nI 0) (((sn1 24 (by decide)).trans h24)) ?_
            refine lv_if_ne (tgt := 184) hx hb d_Mo_data_175 (by decide) (fun c45 => ?_) (fun c45 => ?_)
            · exact absurd c45 (by decide)
            · refine lv_aload_n hx hb d_Mo_data_178 rfl (lv_at hl 1 rfl) ?_
              refine lv_iconst (v := 1) hx hb d_Mo_data_179 (by decide) ?_
              refine lv_topq (y := nI 1) (rfl) ?_
              refine lv_iconst (v := 1) hx hb d_Mo_data_180 (by decide) ?_
              refine lv_topq (y := nI 1) (rfl) ?_
              refine mw_cV (ci := 7) (k := 33) C0 (m_Mo_name l D9 cB cI cJ cG a O _ _ t (BR_eq hT (sG1 34 (by decide))) ((sn1 16 (by decide)).trans h16) htl (L ++ nm1) b e1 (fw + c_1) true true (fun _ => ((sn1 27 (by decide)).trans h27)) (fun z9 => by cases z9) (by omega) ((sn1 24 (by decide)).trans h24) z251 (by omega) z171 (by omega) wB1 z221) g_840 g_8 g_837 g_839 gs_Mo_name ⟨by decide +kernel, by decide +kernel, show Option.map (fun d => d.parameters.length) (parseMethodDescriptor y_Mo_name.desc) = some 2 by decide +kernel⟩ ⟨by decide, by decide⟩ rfl rfl hP hD hS hA rfl ww_33 hl.1 (Nat.le_of_ble_eq_true rfl) rfl d_Mo_data_181 ⟨by decide, by decide⟩ (fun v9 w9 H locs hq hP hD hS => ?_)
              obtain ⟨I46, F47, hw9, q48⟩ := hq
              subst hw9
              rcases q48 with ⟨nm2, e2, c_2, hr2, rfl, sn2, z172, z252, z222, sG2, wB2⟩ | ⟨hr2, rfl, sn2, ⟨fz2, fy2, fx2⟩, sG2, wB2⟩
              · rw [rnS_t] at hr2
                have hbd2 := rn_bd hr2 (by decide)
                have hln2 : (L ++ nm1 ++ nm2).length = (L ++ nm1).length + nm2.length := List.length_append
                refine lv_aload_n hx hb d_Mo_data_184 rfl (lv_at hl 1 rfl) ?_
                refine va_get (D := D9) (ci := 7) (C := R_Mo) (T := F_Mo) (N := 30) hx hb hts i_Mo hown hK hP 33 ww_33 rfl 19 (by decide) (hts _ g_741) (fun _ h9 => h9) rfl d_Mo_data_185 ?_
                refine lv_topq (y := nI 0) (((sn2 24 (by decide)).trans ((sn1 24 (by decide)).trans h24))) ?_
                refine lv_if_ne (tgt := 286) hx hb d_Mo_data_188 (by decide) (fun c49 => ?_) (fun c49 => ?_)
                · exact absurd c49 (by decide)
                · refine lv_aload_n hx hb d_Mo_data_191 rfl (lv_at hl 1 rfl) ?_
                  refine lv_bipush (v := 20) hx hb d_Mo_data_192 (by decide) ?_
                  refine lv_topq (y := nI 20) (rfl) ?_
                  refine mw_cV (ci := 7) (k := 33) C0 (m_Mo_bytes l D9 cB cI cJ cG a O _ _ t (BR_eq hT ((sG2 34 (by decide)).trans (sG1 34 (by decide)))) (((sn2 16 (by decide)).trans (sn1 16 (by decide))).trans h16) htl (L ++ nm1 ++ nm2) e2 20 b (((sn2 27 (by decide)).trans (sn1 27 (by decide))).trans h27) hb9 z252 ((sn2 24 (by decide)).trans ((sn1 24 (by decide)).trans h24)) (by omega) (by omega) z172 wB2) g_852 g_8 g_849 g_851 gs_Mo_bytes ⟨by decide +kernel, by decide +kernel, show Option.map (fun d => d.parameters.length) (parseMethodDescriptor y_Mo_bytes.desc) = some 1 by decide +kernel⟩ ⟨by decide, by decide⟩ rfl rfl hP hD hS hA rfl ww_33 hl.1 (Nat.le_of_ble_eq_true rfl) rfl d_Mo_data_194 ⟨by decide, by decide⟩ (fun v9 w9 H locs hq hP hD hS => ?_)
                  obtain ⟨I50, F51, hw9, q52⟩ := hq
                  subst hw9
                  rcases q52 with ⟨gba, rfl, sba, y17a, y25a, sHa, vBa⟩ | ⟨gba, rfl, sba, ⟨eza, eya, exa⟩, rfl⟩
                  · have hlma : (L ++ nm1 ++ nm2 ++ sl9 t e2 20).length = (L ++ nm1 ++ nm2).length + 20 := by rw [List.length_append, sl9_len (by omega)]
                    refine lv_goto (tgt := 286) hx hb d_Mo_data_197 (by decide) ?_
                    refine lv_aload_n hx hb d_Mo_data_286 rfl (lv_at hl 1 rfl) ?_
                    refine va_get (D := D9) (ci := 7) (C := R_Mo) (T := F_Mo) (N := 30) hx hb hts i_Mo hown hK hP 33 ww_33 rfl 19 (by decide) (hts _ g_741) (fun _ h9 => h9) rfl d_Mo_data_287 ?_
                    refine lv_topq (y := nI 0) (((sba 24 (by decide)).trans ((sn2 24 (by decide)).trans ((sn1 24 (by decide)).trans h24)))) ?_
                    refine lv_if_le (tgt := 294) hx hb d_Mo_data_290 (by decide) (fun c53 => ?_) (fun c53 => ?_)
                    · refine lv_iload_n hx hb d_Mo_data_294 rfl (lv_at hl 2 rfl) ?_
                      refine lv_iconst (v := 2) hx hb d_Mo_data_295 (by decide) ?_
                      refine lv_topq (y := nI 2) (rfl) ?_
                      refine lv_icmp_eq (tgt := 338) hx hb d_Mo_data_296 (by decide) (fun c54 => ?_) (fun c54 => ?_)
                      · exact absurd c54 (by decide)
                      · refine lv_iload_n hx hb d_Mo_data_299 rfl (lv_at hl 2 rfl) ?_
                        refine lv_iconst (v := 5) hx hb d_Mo_data_300 (by decide) ?_
                        refine lv_topq (y := nI 5) (rfl) ?_
                        refine lv_icmp_eq (tgt := 338) hx hb d_Mo_data_301 (by decide) (fun c55 => ?_) (fun c55 => ?_)
                        · exact absurd c55 (by decide)
                        · refine lv_iload_n hx hb d_Mo_data_304 rfl (lv_at hl 2 rfl) ?_
                          refine lv_bipush (v := 12) hx hb d_Mo_data_305 (by decide) ?_
                          refine lv_topq (y := nI 12) (rfl) ?_
                          refine lv_icmp_eq (tgt := 338) hx hb d_Mo_data_307 (by decide) (fun c56 => ?_) (fun c56 => ?_)
                          · exact absurd c56 (by decide)
                          · refine lv_iload_n hx hb d_Mo_data_310 rfl (lv_at hl 2 rfl) ?_
                            refine lv_bipush (v := 15) hx hb d_Mo_data_311 (by decide) ?_
                            refine lv_topq (y := nI 15) (rfl) ?_
                            refine lv_icmp_eq (tgt := 338) hx hb d_Mo_data_313 (by decide) (fun c57 => ?_) (fun c57 => ?_)
                            · exact absurd c57 (by decide)
                            · refine lv_iload_n hx hb d_Mo_data_316 rfl (lv_at hl 2 rfl) ?_
                              refine lv_bipush (v := 6) hx hb d_Mo_data_317 (by decide) ?_
                              refine lv_topq (y := nI 6) (rfl) ?_
                              refine lv_icmp_eq (tgt := 338) hx hb d_Mo_data_319 (by decide) (fun c58 => ?_) (fun c58 => ?_)
                              · refine lv_iconst (v := 0) hx hb d_Mo_data_338 (by decide) ?_
                                refine lv_topq (y := nI 0) (rfl) ?_
                                refine lv_istore (lv' := [(4, _), (3, _), (0, _), (1, _), (2, _)]) hx hb d_Mo_data_339 hl (by decide) rfl (fun ls hl => ?_)
                                refine lv_iload hx hb d_Mo_data_341 (lv_at hl 0 rfl) ?_
                                refine lv_if_eq (tgt := 359) hx hb d_Mo_data_343 (by decide) (fun c59 => ?_) (fun c59 => ?_)
                                · refine lv_aload_n hx hb d_Mo_data_359 rfl (lv_at hl 2 rfl) ?_
                                  refine va_get (D := D9) (ci := 7) (C := R_Mo) (T := F_Mo) (N := 30) hx hb hts i_Mo hown hK hP 33 ww_33 rfl 20 (by decide) (hts _ g_742) (fun _ h9 => h9) rfl d_Mo_data_360 ?_
                                  refine lv_topq (y := nI (e2 + 20)) (y25a) ?_
                                  refine lv_aload_n hx hb d_Mo_data_363 rfl (lv_at hl 2 rfl) ?_
                                  refine va_get (D := D9) (ci := 7) (C := R_Mo) (T := F_Mo) (N := 30) hx hb hts i_Mo hown hK hP 33 ww_33 rfl 22 (by decide) (hts _ g_744) (fun _ h9 => h9) rfl d_Mo_data_364 ?_
                                  refine lv_topq (y := nI b) (((sba 27 (by decide)).trans ((sn2 27 (by decide)).trans ((sn1 27 (by decide)).trans h27)))) ?_
                                  refine lv_icmp_eq (tgt := 379) hx hb d_Mo_data_367 (by decide) (fun c60 => ?_) (fun c60 => ?_)
                                  · have c60 : e2 + 20 = b := (nI_eq (a := e2 + 20) (b := b) (by omega) (by omega)).mp c60
                                    exact hret _ _ _ _ _ _ hS hP hD d_Mo_data_379 (Or.inl ⟨_, _, D6_s hr1 (by omega) hr2 (by omega), rfl, (sm_tr (sm_tr (sm_mo sn1 (by decide)) (sm_mo sn2 (by decide))) (sm_mo sba (by decide))), (y17a).trans (congrArg nI (by simp only [List.append_assoc, sl9_0, List.nil_append])), (((sba 22 (by decide)).trans z222)).trans (congrArg nI (by omega)), (sm_tr (sm_tr (sm_mo sG1 (by decide)) (sm_mo sG2 (by decide))) (sm_mo sHa (by decide))), by simpa only [List.append_assoc, sl9_0, List.nil_append] using vBa⟩)
                                  · have c60 : ¬ (e2 + 20 = b) := fun z9 => c60 ((nI_eq (a := e2 + 20) (b := b) (by omega) (by omega)).mpr z9)
                                    refine lv_aload_n hx hb d_Mo_data_370 rfl (lv_at hl 2 rfl) ?_
                                    refine lv_iconst (v := 5) hx hb d_Mo_data_371 (by decide) ?_
                                    refine lv_topq (y := nI 5) (rfl) ?_
                                    refine lv_aload_n hx hb d_Mo_data_372 rfl (lv_at hl 2 rfl) ?_
                                    refine va_get (D := D9) (ci := 7) (C := R_Mo) (T := F_Mo) (N := 30) hx hb hts i_Mo hown hK hP 33 ww_33 rfl 21 (by decide) (hts _ g_743) (fun _ h9 => h9) rfl d_Mo_data_373 ?_
                                    refine lv_topq (y := nI q) (((sba 26 (by decide)).trans ((sn2 26 (by decide)).trans ((sn1 26 (by decide)).trans h26)))) ?_
                                    refine mw_cV (ci := 7) (k := 33) C0 (m_Mo_wrong l D9 cB cI cJ cG a O _ _ (nI 5) _ ((sba 24 (by decide)).trans ((sn2 24 (by decide)).trans ((sn1 24 (by decide)).trans h24)))) g_824 g_8 g_821 g_823 gs_Mo_wrong ⟨by decide +kernel, by decide +kernel, show Option.map (fun d => d.parameters.length) (parseMethodDescriptor y_Mo_wrong.desc) = some 2 by decide +kernel⟩ ⟨by decide, by decide⟩ rfl rfl hP hD hS hA rfl ww_33 hl.1 (Nat.le_of_ble_eq_true rfl) rfl d_Mo_data_376 ⟨by decide, by decide⟩ (fun v9 w9 H locs hq hP hD hS => ?_)
                                    obtain ⟨I61, F62, hw9, q63⟩ := hq
                                    subst hw9
                                    obtain ⟨rfl, sI61, zI61, rfl⟩ := q63
                                    exact hret _ _ _ _ _ _ hS hP hD d_Mo_data_379 (Or.inr ⟨D6_x hr1 (by omega) hr2 (by omega), rfl, (sm_tr (sm_tr (sm_tr (sm_mo sn1 (by decide)) (sm_mo sn2 (by decide))) (sm_mo sba (by decide))) (sm_mo sI61 (by decide))), ⟨_, by decide, zI61⟩, (sm_tr (sm_tr (sm_mo sG1 (by decide)) (sm_mo sG2 (by decide))) (sm_mo sHa (by decide))), BR_pre (BR_pre (BR_pre (vBa)))⟩)
                                · exact absurd c59 (by decide)
                              · exact absurd c58 (by decide)
                    · exact absurd c53 (by decide)
                  · have eyza := eya
                    refine lv_goto (tgt := 286) hx hb d_Mo_data_197 (by decide) ?_
                    refine lv_aload_n hx hb d_Mo_data_286 rfl (lv_at hl 1 rfl) ?_
                    refine va_get (D := D9) (ci := 7) (C := R_Mo) (T := F_Mo) (N := 30) hx hb hts i_Mo hown hK hP 33 ww_33 rfl 19 (by decide) (hts _ g_741) (fun _ h9 => h9) rfl d_Mo_data_287 ?_
                    refine lv_topq (y := nI eza) (exa) ?_
                    refine lv_if_le (tgt := 294) hx hb d_Mo_data_290 (by decide) (fun c64 => ?_) (fun c64 => ?_)
                    · have c64 : eza ≤ 0 := (nI_leI (a := eza) (b := 0) (by omega) (by omega)).mp c64
                      exfalso; omega
                    · have c64 : ¬ (eza ≤ 0) := fun z9 => c64 ((nI_leI (a := eza) (b := 0) (by omega) (by omega)).mpr z9)
                      exact hret _ _ _ _ _ _ hS hP hD d_Mo_data_293 (Or.inr ⟨D6_x hr1 (by omega) hr2 (by omega), rfl, (sm_tr (sm_tr (sm_mo sn1 (by decide)) (sm_mo sn2 (by decide))) (sm_mo sba (by decide))), ⟨_, by omega, exa⟩, (sm_tr (sm_mo sG1 (by decide)) (sm_mo sG2 (by decide))), BR_pre (BR_pre (wB2))⟩)
              · rw [rnS_t] at hr2
                refine lv_aload_n hx hb d_Mo_data_184 rfl (lv_at hl 1 rfl) ?_
                refine va_get (D := D9) (ci := 7) (C := R_Mo) (T := F_Mo) (N := 30) hx hb hts i_Mo hown hK hP 33 ww_33 rfl 19 (by decide) (hts _ g_741) (fun _ h9 => h9) rfl d_Mo_data_185 ?_
                refine lv_topq (y := nI fz2) (fx2) ?_
                refine lv_if_ne (tgt := 286) hx hb d_Mo_data_188 (by decide) (fun c65 => ?_) (fun c65 => ?_)
                · have c65 : ¬ (fz2 = 0) := fun z9 => c65 ((nI_eq (a := fz2) (b := 0) (by omega) (by omega)).mpr z9)
                  refine lv_aload_n hx hb d_Mo_data_286 rfl (lv_at hl 1 rfl) ?_
                  refine va_get (D := D9) (ci := 7) (C := R_Mo) (T := F_Mo) (N := 30) hx hb hts i_Mo hown hK hP 33 ww_33 rfl 19 (by decide) (hts _ g_741) (fun _ h9 => h9) rfl d_Mo_data_287 ?_
                  refine lv_topq (y := nI fz2) (fx2) ?_
                  refine lv_if_le (tgt := 294) hx hb d_Mo_data_290 (by decide) (fun c66 => ?_) (fun c66 => ?_)
                  · have c66 : fz2 ≤ 0 := (nI_leI (a := fz2) (b := 0) (by omega) (by omega)).mp c66
                    exfalso; omega
                  · have c66 : ¬ (fz2 ≤ 0) := fun z9 => c66 ((nI_leI (a := fz2) (b := 0) (by omega) (by omega)).mpr z9)
                    exact hret _ _ _ _ _ _ hS hP hD d_Mo_data_293 (Or.inr ⟨D6_n hr1 (by omega) hr2, rfl, (sm_tr (sm_mo sn1 (by decide)) (sm_mo sn2 (by decide))), ⟨_, by omega, fx2⟩, (sm_tr (sm_mo sG1 (by decide)) (sm_mo sG2 (by decide))), BR_pre (wB2)⟩)
                · have c65 : fz2 = 0 := (nI_eq (a := fz2) (b := 0) (by omega) (by omega)).mp c65
                  exfalso; omega
          · rw [rnS_t] at hr1
            refine lv_aload_n hx hb d_Mo_data_171 rfl (lv_at hl 1 rfl) ?_
            refine va_get (D := D9) (ci := 7) (C := R_Mo) (T := F_Mo) (N := 30) hx hb hts i_Mo hown hK hP 33 ww_33 rfl 19 (by decide) (hts _ g_741) (fun _ h9 => h9) rfl d_Mo_data_172 ?_
            refine lv_topq (y := nI fz1) (fx1) ?_
            refine lv_if_ne (tgt := 184) hx hb d_Mo_data_175 (by decide) (fun c67 => ?_) (fun c67 => ?_)
            · have c67 : ¬ (fz1 = 0) := fun z9 => c67 ((nI_eq (a := fz1) (b := 0) (by omega) (by omega)).mpr z9)
              refine lv_aload_n hx hb d_Mo_data_184 rfl (lv_at hl 1 rfl) ?_
              refine va_get (D := D9) (ci := 7) (C := R_Mo) (T := F_Mo) (N := 30) hx hb hts i_Mo hown hK hP 33 ww_33 rfl 19 (by decide) (hts _ g_741) (fun _ h9 => h9) rfl d_Mo_data_185 ?_
              refine lv_topq (y := nI fz1) (fx1) ?_
              refine lv_if_ne (tgt := 286) hx hb d_Mo_data_188 (by decide) (fun c68 => ?_) (fun c68 => ?_)
              · have c68 : ¬ (fz1 = 0) := fun z9 => c68 ((nI_eq (a := fz1) (b := 0) (by omega) (by omega)).mpr z9)
                refine lv_aload_n hx hb d_Mo_data_286 rfl (lv_at hl 1 rfl) ?_
                refine va_get (D := D9) (ci := 7) (C := R_Mo) (T := F_Mo) (N := 30) hx hb hts i_Mo hown hK hP 33 ww_33 rfl 19 (by decide) (hts _ g_741) (fun _ h9 => h9) rfl d_Mo_data_287 ?_
                refine lv_topq (y := nI fz1) (fx1) ?_
                refine lv_if_le (tgt := 294) hx hb d_Mo_data_290 (by decide) (fun c69 => ?_) (fun c69 => ?_)
                · have c69 : fz1 ≤ 0 := (nI_leI (a := fz1) (b := 0) (by omega) (by omega)).mp c69
                  exfalso; omega
                · have c69 : ¬ (fz1 ≤ 0) := fun z9 => c69 ((nI_leI (a := fz1) (b := 0) (by omega) (by omega)).mpr z9)
                  exact hret _ _ _ _ _ _ hS hP hD d_Mo_data_293 (Or.inr ⟨D_n (bf := 0) (by decide) (by decide) (by omega) hr1, rfl, (sm_mo sn1 (by decide)), ⟨_, by omega, fx1⟩, (sm_mo sG1 (by decide)), wB1⟩)
              · have c68 : fz1 = 0 := (nI_eq (a := fz1) (b := 0) (by omega) (by omega)).mp c68
                exfalso; omega
            · have c67 : fz1 = 0 := (nI_eq (a := fz1) (b := 0) (by omega) (by omega)).mp c67
              exfalso; omega
        · by_cases ty12 : ty = 12
          · subst ty12
            refine lv_lookup (tgt := 135) hx hb d_Mo_data_11 (by decide) rfl (by decide) ?_
            refine lv_aload_n hx hb d_Mo_data_135 rfl (lv_at hl 1 rfl) ?_
            refine lv_iconst (v := 1) hx hb d_Mo_data_136 (by decide) ?_
            refine lv_topq (y := nI 1) (rfl) ?_
            refine lv_iconst (v := 1) hx hb d_Mo_data_137 (by decide) ?_
            refine lv_topq (y := nI 1) (rfl) ?_
            refine mw_cV (ci := 7) (k := 33) C0 (m_Mo_name l D9 cB cI cJ cG a O _ _ t hT h16 htl L b q fw true true (fun _ => h27) (fun z9 => by cases z9) (by omega) h24 h25 (by omega) h17 (by omega) hBL h22) g_840 g_8 g_837 g_839 gs_Mo_name ⟨by decide +kernel, by decide +kernel, show Option.map (fun d => d.parameters.length) (parseMethodDescriptor y_Mo_name.desc) = some 2 by decide +kernel⟩ ⟨by decide, by decide⟩ rfl rfl hP hD hS hA rfl ww_33 hl.1 (Nat.le_of_ble_eq_true rfl) rfl d_Mo_data_138 ⟨by decide, by decide⟩ (fun v9 w9 H locs hq hP hD hS => ?_)
            obtain ⟨I70, F71, hw9, q72⟩ := hq
            subst hw9
            rcases q72 with ⟨nm1, e1, c_1, hr1, rfl, sn1, z171, z251, z221, sG1, wB1⟩ | ⟨hr1, rfl, sn1, ⟨fz1, fy1, fx1⟩, sG1, wB1⟩
            · rw [rnS_t] at hr1
              have hbd1 := rn_bd hr1 (by decide)
              have hln1 : (L ++ nm1).length = L.length + nm1.length := List.length_append
              refine lv_goto (tgt := 286) hx hb d_Mo_data_141 (by decide) ?_
              refine lv_aload_n hx hb d_Mo_data_286 rfl (lv_at hl 1 rfl) ?_
              refine va_get (D := D9) (ci := 7) (C := R_Mo) (T := F_Mo) (N := 30) hx hb hts i_Mo hown hK hP 33 ww_33 rfl 19 (by decide) (hts _ g_741) (fun _ h9 => h9) rfl d_Mo_data_287 ?_
              refine lv_topq (y := nI 0) (((sn1 24 (by decide)).trans h24)) ?_
              refine lv_if_le (tgt := 294) hx hb d_Mo_data_290 (by decide) (fun c73 => ?_) (fun c73 => ?_)
              · refine lv_iload_n hx hb d_Mo_data_294 rfl (lv_at hl 2 rfl) ?_
                refine lv_iconst (v := 2) hx hb d_Mo_data_295 (by decide) ?_
                refine lv_topq (y := nI 2) (rfl) ?_
                refine lv_icmp_eq (tgt := 338) hx hb d_Mo_data_296 (by decide) (fun c74 => ?_) (fun c74 => ?_)
                · exact absurd c74 (by decide)
                · refine lv_iload_n hx hb d_Mo_data_299 rfl (lv_at hl 2 rfl) ?_
                  refine lv_iconst (v := 5) hx hb d_Mo_data_300 (by decide) ?_
                  refine lv_topq (y := nI 5) (rfl) ?_
                  refine lv_icmp_eq (tgt := 338) hx hb d_Mo_data_301 (by decide) (fun c75 => ?_) (fun c75 => ?_)
                  · exact absurd c75 (by decide)
                  · refine lv_iload_n hx hb d_Mo_data_304 rfl (lv_at hl 2 rfl) ?_
                    refine lv_bipush (v := 12) hx hb d_Mo_data_305 (by decide) ?_
                    refine lv_topq (y := nI 12) (rfl) ?_
                    refine lv_icmp_eq (tgt := 338) hx hb d_Mo_data_307 (by decide) (fun c76 => ?_) (fun c76 => ?_)
                    · refine lv_iconst (v := 0) hx hb d_Mo_data_338 (by decide) ?_
                      refine lv_topq (y := nI 0) (rfl) ?_
                      refine lv_istore (lv' := [(4, _), (3, _), (0, _), (1, _), (2, _)]) hx hb d_Mo_data_339 hl (by decide) rfl (fun ls hl => ?_)
                      refine lv_iload hx hb d_Mo_data_341 (lv_at hl 0 rfl) ?_
                      refine lv_if_eq (tgt := 359) hx hb d_Mo_data_343 (by decide) (fun c77 => ?_) (fun c77 => ?_)
                      · refine lv_aload_n hx hb d_Mo_data_359 rfl (lv_at hl 2 rfl) ?_
                        refine va_get (D := D9) (ci := 7) (C := R_Mo) (T := F_Mo) (N := 30) hx hb hts i_Mo hown hK hP 33 ww_33 rfl 20 (by decide) (hts _ g_742) (fun _ h9 => h9) rfl d_Mo_data_360 ?_
                        refine lv_topq (y := nI e1) (z251) ?_
                        refine lv_aload_n hx hb d_Mo_data_363 rfl (lv_at hl 2 rfl) ?_
                        refine va_get (D := D9) (ci := 7) (C := R_Mo) (T := F_Mo) (N := 30) hx hb hts i_Mo hown hK hP 33 ww_33 rfl 22 (by decide) (hts _ g_744) (fun _ h9 => h9) rfl d_Mo_data_364 ?_
                        refine lv_topq (y := nI b) (((sn1 27 (by decide)).trans h27)) ?_
                        refine lv_icmp_eq (tgt := 379) hx hb d_Mo_data_367 (by decide) (fun c78 => ?_) (fun c78 => ?_)
                        · have c78 : e1 = b := (nI_eq (a := e1) (b := b) (by omega) (by omega)).mp c78
                          exact hret _ _ _ _ _ _ hS hP hD d_Mo_data_379 (Or.inl ⟨_, _, D_s (bf := 0) (by decide) (by decide) (by decide) (Or.inl (by decide)) (by omega) hr1 (by omega), rfl, (sm_mo sn1 (by decide)), (z171).trans (congrArg nI (by simp only [List.append_assoc, sl9_0, List.nil_append])), (z221).trans (congrArg nI (by omega)), (sm_mo sG1 (by decide)), by simpa only [List.append_assoc, sl9_0, List.nil_append] using wB1⟩)
                        · have c78 : ¬ (e1 = b) := fun z9 => c78 ((nI_eq (a := e1) (b := b) (by omega) (by omega)).mpr z9)
                          refine lv_aload_n hx hb d_Mo_data_370 rfl (lv_at hl 2 rfl) ?_
                          refine lv_iconst (v := 5) hx hb d_Mo_data_371 (by decide) ?_
                          refine lv_topq (y := nI 5) (rfl) ?_
                          refine lv_aload_n hx hb d_Mo_data_372 rfl (lv_at hl 2 rfl) ?_
                          refine va_get (D := D9) (ci := 7) (C := R_Mo) (T := F_Mo) (N := 30) hx hb hts i_Mo hown hK hP 33 ww_33 rfl 21 (by decide) (hts _ g_743) (fun _ h9 => h9) rfl d_Mo_data_373 ?_
                          refine lv_topq (y := nI q) (((sn1 26 (by decide)).trans h26)) ?_
                          refine mw_cV (ci := 7) (k := 33) C0 (m_Mo_wrong l D9 cB cI cJ cG a O _ _ (nI 5) _ ((sn1 24 (by decide)).trans h24)) g_824 g_8 g_821 g_823 gs_Mo_wrong ⟨by decide +kernel, by decide +kernel, show Option.map (fun d => d.parameters.length) (parseMethodDescriptor y_Mo_wrong.desc) = some 2 by decide +kernel⟩ ⟨by decide, by decide⟩ rfl rfl hP hD hS hA rfl ww_33 hl.1 (Nat.le_of_ble_eq_true rfl) rfl d_Mo_data_376 ⟨by decide, by decide⟩ (fun v9 w9 H locs hq hP hD hS => ?_)
                          obtain ⟨I79, F80, hw9, q81⟩ := hq
                          subst hw9
                          obtain ⟨rfl, sI79, zI79, rfl⟩ := q81
                          exact hret _ _ _ _ _ _ hS hP hD d_Mo_data_379 (Or.inr ⟨D_x (bf := 0) (by decide) (by decide) (by decide) (by omega) hr1 (by omega), rfl, (sm_tr (sm_mo sn1 (by decide)) (sm_mo sI79 (by decide))), ⟨_, by decide, zI79⟩, (sm_mo sG1 (by decide)), BR_pre (wB1)⟩)
                      · exact absurd c77 (by decide)
                    · exact absurd c76 (by decide)
              · exact absurd c73 (by decide)
            · rw [rnS_t] at hr1
              refine lv_goto (tgt := 286) hx hb d_Mo_data_141 (by decide) ?_
              refine lv_aload_n hx hb d_Mo_data_286 rfl (lv_at hl 1 rfl) ?_
              refine va_get (D := D9) (ci := 7) (C := R_Mo) (T := F_Mo) (N := 30) hx hb hts i_Mo hown hK hP 33 ww_33 rfl 19 (by decide) (hts _ g_741) (fun _ h9 => h9) rfl d_Mo_data_287 ?_
              refine lv_topq (y := nI fz1) (fx1) ?_
              refine lv_if_le (tgt := 294) hx hb d_Mo_data_290 (by decide) (fun c82 => ?_) (fun c82 => ?_)
              · have c82 : fz1 ≤ 0 := (nI_leI (a := fz1) (b := 0) (by omega) (by omega)).mp c82
                exfalso; omega
              · have c82 : ¬ (fz1 ≤ 0) := fun z9 => c82 ((nI_leI (a := fz1) (b := 0) (by omega) (by omega)).mpr z9)
                exact hret _ _ _ _ _ _ hS hP hD d_Mo_data_293 (Or.inr ⟨D_n (bf := 0) (by decide) (by decide) (by omega) hr1, rfl, (sm_mo sn1 (by decide)), ⟨_, by omega, fx1⟩, (sm_mo sG1 (by decide)), wB1⟩)
          · by_cases ty15 : ty = 15
            · subst ty15
              refine lv_lookup (tgt := 144) hx hb d_Mo_data_11 (by decide) rfl (by decide) ?_
              refine lv_aload_n hx hb d_Mo_data_144 rfl (lv_at hl 1 rfl) ?_
              refine lv_iconst (v := 2) hx hb d_Mo_data_145 (by decide) ?_
              refine lv_topq (y := nI 2) (rfl) ?_
              refine mw_cV (ci := 7) (k := 33) C0 (m_Mo_bytes l D9 cB cI cJ cG a O _ _ t hT h16 htl L q 2 b h27 hb9 h25 h24 (by omega) (by omega) h17 hBL) g_852 g_8 g_849 g_851 gs_Mo_bytes ⟨by decide +kernel, by decide +kernel, show Option.map (fun d => d.parameters.length) (parseMethodDescriptor y_Mo_bytes.desc) = some 1 by decide +kernel⟩ ⟨by decide, by decide⟩ rfl rfl hP hD hS hA rfl ww_33 hl.1 (Nat.le_of_ble_eq_true rfl) rfl d_Mo_data_146 ⟨by decide, by decide⟩ (fun v9 w9 H locs hq hP hD hS => ?_)
              obtain ⟨I83, F84, hw9, q85⟩ := hq
              subst hw9
              rcases q85 with ⟨gba, rfl, sba, y17a, y25a, sHa, vBa⟩ | ⟨gba, rfl, sba, ⟨eza, eya, exa⟩, rfl⟩
              · have hlma : (L ++ sl9 t q 2).length = L.length + 2 := by rw [List.length_append, sl9_len (by omega)]
                refine lv_aload_n hx hb d_Mo_data_149 rfl (lv_at hl 1 rfl) ?_
                refine va_get (D := D9) (ci := 7) (C := R_Mo) (T := F_Mo) (N := 30) hx hb hts i_Mo hown hK hP 33 ww_33 rfl 19 (by decide) (hts _ g_741) (fun _ h9 => h9) rfl d_Mo_data_150 ?_
                refine lv_topq (y := nI 0) (((sba 24 (by decide)).trans h24)) ?_
                refine lv_if_ne (tgt := 286) hx hb d_Mo_data_153 (by decide) (fun c86 => ?_) (fun c86 => ?_)
                · exact absurd c86 (by decide)
                · refine lv_aload_n hx hb d_Mo_data_156 rfl (lv_at hl 1 rfl) ?_
                  refine lv_iconst (v := 1) hx hb d_Mo_data_157 (by decide) ?_
                  refine lv_topq (y := nI 1) (rfl) ?_
                  refine lv_iconst (v := 1) hx hb d_Mo_data_158 (by decide) ?_
                  refine lv_topq (y := nI 1) (rfl) ?_
                  refine mw_cV (ci := 7) (k := 33) C0 (m_Mo_name l D9 cB cI cJ cG a O _ _ t (BR_eq hT (sHa 34 (by decide))) ((sba 16 (by decide)).trans h16) htl (L ++ sl9 t q 2) b (q + 2) fw true true (fun _ => ((sba 27 (by decide)).trans h27)) (fun z9 => by cases z9) (by omega) ((sba 24 (by decide)).trans h24) y25a (by omega) y17a (by omega) vBa ((sba 22 (by decide)).trans h22)) g_840 g_8 g_837 g_839 gs_Mo_name ⟨by decide +kernel, by decide +kernel, show Option.map (fun d => d.parameters.length) (parseMethodDescriptor y_Mo_name.desc) = some 2 by decide +kernel⟩ ⟨by decide, by decide⟩ rfl rfl hP hD hS hA rfl ww_33 hl.1 (Nat.le_of_ble_eq_true rfl) rfl d_Mo_data_159 ⟨by decide, by decide⟩ (fun v9 w9 H locs hq hP hD hS => ?_)
                  obtain ⟨I87, F88, hw9, q89⟩ := hq
                  subst hw9
                  rcases q89 with ⟨nm1, e1, c_1, hr1, rfl, sn1, z171, z251, z221, sG1, wB1⟩ | ⟨hr1, rfl, sn1, ⟨fz1, fy1, fx1⟩, sG1, wB1⟩
                  · rw [rnS_t] at hr1
                    have hbd1 := rn_bd hr1 (by decide)
                    have hln1 : (L ++ sl9 t q 2 ++ nm1).length = (L ++ sl9 t q 2).length + nm1.length := List.length_append
                    refine lv_goto (tgt := 286) hx hb d_Mo_data_162 (by decide) ?_
                    refine lv_aload_n hx hb d_Mo_data_286 rfl (lv_at hl 1 rfl) ?_
                    refine va_get (D := D9) (ci := 7) (C := R_Mo) (T := F_Mo) (N := 30) hx hb hts i_Mo hown hK hP 33 ww_33 rfl 19 (by decide) (hts _ g_741) (fun _ h9 => h9) rfl d_Mo_data_287 ?_
                    refine lv_topq (y := nI 0) (((sn1 24 (by decide)).trans ((sba 24 (by decide)).trans h24))) ?_
                    refine lv_if_le (tgt := 294) hx hb d_Mo_data_290 (by decide) (fun c90 => ?_) (fun c90 => ?_)
                    · refine lv_iload_n hx hb d_Mo_data_294 rfl (lv_at hl 2 rfl) ?_
                      refine lv_iconst (v := 2) hx hb d_Mo_data_295 (by decide) ?_
                      refine lv_topq (y := nI 2) (rfl) ?_
                      refine lv_icmp_eq (tgt := 338) hx hb d_Mo_data_296 (by decide) (fun c91 => ?_) (fun c91 => ?_)
                      · exact absurd c91 (by decide)
                      · refine lv_iload_n hx hb d_Mo_data_299 rfl (lv_at hl 2 rfl) ?_
                        refine lv_iconst (v := 5) hx hb d_Mo_data_300 (by decide) ?_
                        refine lv_topq (y := nI 5) (rfl) ?_
                        refine lv_icmp_eq (tgt := 338) hx hb d_Mo_data_301 (by decide) (fun c92 => ?_) (fun c92 => ?_)
                        · exact absurd c92 (by decide)
                        · refine lv_iload_n hx hb d_Mo_data_304 rfl (lv_at hl 2 rfl) ?_
                          refine lv_bipush (v := 12) hx hb d_Mo_data_305 (by decide) ?_
                          refine lv_topq (y := nI 12) (rfl) ?_
                          refine lv_icmp_eq (tgt := 338) hx hb d_Mo_data_307 (by decide) (fun c93 => ?_) (fun c93 => ?_)
                          · exact absurd c93 (by decide)
                          · refine lv_iload_n hx hb d_Mo_data_310 rfl (lv_at hl 2 rfl) ?_
                            refine lv_bipush (v := 15) hx hb d_Mo_data_311 (by decide) ?_
                            refine lv_topq (y := nI 15) (rfl) ?_
                            refine lv_icmp_eq (tgt := 338) hx hb d_Mo_data_313 (by decide) (fun c94 => ?_) (fun c94 => ?_)
                            · refine lv_iconst (v := 0) hx hb d_Mo_data_338 (by decide) ?_
                              refine lv_topq (y := nI 0) (rfl) ?_
                              refine lv_istore (lv' := [(4, _), (3, _), (0, _), (1, _), (2, _)]) hx hb d_Mo_data_339 hl (by decide) rfl (fun ls hl => ?_)
                              refine lv_iload hx hb d_Mo_data_341 (lv_at hl 0 rfl) ?_
                              refine lv_if_eq (tgt := 359) hx hb d_Mo_data_343 (by decide) (fun c95 => ?_) (fun c95 => ?_)
                              · refine lv_aload_n hx hb d_Mo_data_359 rfl (lv_at hl 2 rfl) ?_
                                refine va_get (D := D9) (ci := 7) (C := R_Mo) (T := F_Mo) (N := 30) hx hb hts i_Mo hown hK hP 33 ww_33 rfl 20 (by decide) (hts _ g_742) (fun _ h9 => h9) rfl d_Mo_data_360 ?_
                                refine lv_topq (y := nI e1) (z251) ?_
                                refine lv_aload_n hx hb d_Mo_data_363 rfl (lv_at hl 2 rfl) ?_
                                refine va_get (D := D9) (ci := 7) (C := R_Mo) (T := F_Mo) (N := 30) hx hb hts i_Mo hown hK hP 33 ww_33 rfl 22 (by decide) (hts _ g_744) (fun _ h9 => h9) rfl d_Mo_data_364 ?_
                                refine lv_topq (y := nI b) (((sn1 27 (by decide)).trans ((sba 27 (by decide)).trans h27))) ?_
                                refine lv_icmp_eq (tgt := 379) hx hb d_Mo_data_367 (by decide) (fun c96 => ?_) (fun c96 => ?_)
                                · have c96 : e1 = b := (nI_eq (a := e1) (b := b) (by omega) (by omega)).mp c96
                                  exact hret _ _ _ _ _ _ hS hP hD d_Mo_data_379 (Or.inl ⟨_, _, D_s (bf := 2) (by decide) (by decide) (by decide) (Or.inl (by decide)) (by omega) hr1 (by omega), rfl, (sm_tr (sm_mo sba (by decide)) (sm_mo sn1 (by decide))), (z171).trans (congrArg nI (by simp only [List.append_assoc, sl9_0, List.nil_append])), (z221).trans (congrArg nI (by omega)), (sm_tr (sm_mo sHa (by decide)) (sm_mo sG1 (by decide))), by simpa only [List.append_assoc, sl9_0, List.nil_append] using wB1⟩)
                                · have c96 : ¬ (e1 = b) := fun z9 => c96 ((nI_eq (a := e1) (b := b) (by omega) (by omega)).mpr z9)
                                  refine lv_aload_n hx hb d_Mo_data_370 rfl (lv_at hl 2 rfl) ?_
                                  refine lv_iconst (v := 5) hx hb d_Mo_data_371 (by decide) ?_
                                  refine lv_topq (y := nI 5) (rfl) ?_
                                  refine lv_aload_n hx hb d_Mo_data_372 rfl (lv_at hl 2 rfl) ?_
                                  refine va_get (D := D9) (ci := 7) (C := R_Mo) (T := F_Mo) (N := 30) hx hb hts i_Mo hown hK hP 33 ww_33 rfl 21 (by decide) (hts _ g_743) (fun _ h9 => h9) rfl d_Mo_data_373 ?_
                                  refine lv_topq (y := nI q) (((sn1 26 (by decide)).trans ((sba 26 (by decide)).trans h26))) ?_
                                  refine mw_cV (ci := 7) (k := 33) C0 (m_Mo_wrong l D9 cB cI cJ cG a O _ _ (nI 5) _ ((sn1 24 (by decide)).trans ((sba 24 (by decide)).trans h24))) g_824 g_8 g_821 g_823 gs_Mo_wrong ⟨by decide +kernel, by decide +kernel, show Option.map (fun d => d.parameters.length) (parseMethodDescriptor y_Mo_wrong.desc) = some 2 by decide +kernel⟩ ⟨by decide, by decide⟩ rfl rfl hP hD hS hA rfl ww_33 hl.1 (Nat.le_of_ble_eq_true rfl) rfl d_Mo_data_376 ⟨by decide, by decide⟩ (fun v9 w9 H locs hq hP hD hS => ?_)
                                  obtain ⟨I97, F98, hw9, q99⟩ := hq
                                  subst hw9
                                  obtain ⟨rfl, sI97, zI97, rfl⟩ := q99
                                  exact hret _ _ _ _ _ _ hS hP hD d_Mo_data_379 (Or.inr ⟨D_x (bf := 2) (by decide) (by decide) (by decide) (by omega) hr1 (by omega), rfl, (sm_tr (sm_tr (sm_mo sba (by decide)) (sm_mo sn1 (by decide))) (sm_mo sI97 (by decide))), ⟨_, by decide, zI97⟩, (sm_tr (sm_mo sHa (by decide)) (sm_mo sG1 (by decide))), BR_pre (BR_pre (wB1))⟩)
                              · exact absurd c95 (by decide)
                            · exact absurd c94 (by decide)
                    · exact absurd c90 (by decide)
                  · rw [rnS_t] at hr1
                    refine lv_goto (tgt := 286) hx hb d_Mo_data_162 (by decide) ?_
                    refine lv_aload_n hx hb d_Mo_data_286 rfl (lv_at hl 1 rfl) ?_
                    refine va_get (D := D9) (ci := 7) (C := R_Mo) (T := F_Mo) (N := 30) hx hb hts i_Mo hown hK hP 33 ww_33 rfl 19 (by decide) (hts _ g_741) (fun _ h9 => h9) rfl d_Mo_data_287 ?_
                    refine lv_topq (y := nI fz1) (fx1) ?_
                    refine lv_if_le (tgt := 294) hx hb d_Mo_data_290 (by decide) (fun c100 => ?_) (fun c100 => ?_)
                    · have c100 : fz1 ≤ 0 := (nI_leI (a := fz1) (b := 0) (by omega) (by omega)).mp c100
                      exfalso; omega
                    · have c100 : ¬ (fz1 ≤ 0) := fun z9 => c100 ((nI_leI (a := fz1) (b := 0) (by omega) (by omega)).mpr z9)
                      exact hret _ _ _ _ _ _ hS hP hD d_Mo_data_293 (Or.inr ⟨D_n (bf := 2) (by decide) (by decide) (by omega) hr1, rfl, (sm_tr (sm_mo sba (by decide)) (sm_mo sn1 (by decide))), ⟨_, by omega, fx1⟩, (sm_tr (sm_mo sHa (by decide)) (sm_mo sG1 (by decide))), BR_pre (wB1)⟩)
              · have eyza := eya
                refine lv_aload_n hx hb d_Mo_data_149 rfl (lv_at hl 1 rfl) ?_
                refine va_get (D := D9) (ci := 7) (C := R_Mo) (T := F_Mo) (N := 30) hx hb hts i_Mo hown hK hP 33 ww_33 rfl 19 (by decide) (hts _ g_741) (fun _ h9 => h9) rfl d_Mo_data_150 ?_
                refine lv_topq (y := nI eza) (exa) ?_
                refine lv_if_ne (tgt := 286) hx hb d_Mo_data_153 (by decide) (fun c101 => ?_) (fun c101 => ?_)
                · have c101 : ¬ (eza = 0) := fun z9 => c101 ((nI_eq (a := eza) (b := 0) (by omega) (by omega)).mpr z9)
                  refine lv_aload_n hx hb d_Mo_data_286 rfl (lv_at hl 1 rfl) ?_
                  refine va_get (D := D9) (ci := 7) (C := R_Mo) (T := F_Mo) (N := 30) hx hb hts i_Mo hown hK hP 33 ww_33 rfl 19 (by decide) (hts _ g_741) (fun _ h9 => h9) rfl d_Mo_data_287 ?_
                  refine lv_topq (y := nI eza) (exa) ?_
                  refine lv_if_le (tgt := 294) hx hb d_Mo_data_290 (by decide) (fun c102 => ?_) (fun c102 => ?_)
                  · have c102 : eza ≤ 0 := (nI_leI (a := eza) (b := 0) (by omega) (by omega)).mp c102
                    exfalso; omega
                  · have c102 : ¬ (eza ≤ 0) := fun z9 => c102 ((nI_leI (a := eza) (b := 0) (by omega) (by omega)).mpr z9)
                    exact hret _ _ _ _ _ _ hS hP hD d_Mo_data_293 (Or.inr ⟨D_sh (bf := 2) (by decide) (by decide) (by omega), rfl, (sm_mo sba (by decide)), ⟨_, by omega, exa⟩, sm_rf, hBL⟩)
                · have c101 : eza = 0 := (nI_eq (a := eza) (b := 0) (by omega) (by omega)).mp c101
                  exfalso; omega
            · by_cases ty16 : ty = 16
              · subst ty16
                refine lv_lookup (tgt := 222) hx hb d_Mo_data_11 (by decide) rfl (by decide) ?_
                refine lv_iload_n hx hb d_Mo_data_222 rfl (lv_at hl 0 rfl) ?_
                refine lv_if_ne (tgt := 235) hx hb d_Mo_data_223 (by decide) (fun c103 => ?_) (fun c103 => ?_)
                · have c103 : ¬ (b - q = 0) := fun z9 => c103 ((nI_eq (a := b - q) (b := 0) (by omega) (by omega)).mpr z9)
                  have loopS : ∀ (nc : Nat) (ap : Nat) (f9 : Nat) (Ic : Nat → Int32) (Fc : Nat → Nat → Int32) (H : Heap) (locs : List Loc) (ls : Array Slot), (sm [17, 25] I Ic) → (sm [35] F Fc) → (b - ap = nc) → (q ≤ ap ∧ ap ≤ b) → (b - ap < f9) → (se (b - q + 1) t q b = se f9 t ap b) → (Ic 25 = nI ap) → (Ic 17 = nI (L ++ sl9 t q (ap - q)).length) → (BR 0 140000 (Fc 35) (L ++ sl9 t q (ap - q))) → va_P D9 cls9 (WW a cB cI cJ cG Ic Fc O) H → va_D A0 (WW a cB cI cJ cG Ic Fc O) → va_S A0 s.heap H locs → lv_has ls 5 [(0, .ref (a 33)), (1, .int (nI 16)), (2, .int (bI ((decide (ol = 1))))), (3, .int (nI (b - q)))] → W p l e (rm9 3 0 0) s m ([.ref (a 33), .int (nI 16), .int (bI ((decide (ol = 1))))] : List Value).toArray below meth c H locs 0 0 Q (F0 m 235 ls []) := by
                    intro nc
                    induction nc using Nat.strongRecOn with
                    | ind nc ihc =>
                      intro ap f9 Ic Fc H locs ls hsIc hsFc hnc hap hf9 hE k25 k17 hB9 hP hD hS hl
                      obtain ⟨g9, rfl⟩ : ∃ g9, f9 = g9 + 1 := ⟨f9 - 1, by omega⟩
                      have hLc : (L ++ sl9 t q (ap - q)).length = L.length + (ap - q) := by rw [List.length_append, sl9_len (by omega)]
                      have hE2 : se (g9 + 1) t ap b = if ap < b then se g9 t (ap + (1 + tb t ap)) b else decide (ap = b) := rfl
                      rw [hE2] at hE
                      refine lv_aload_n hx hb d_Mo_data_235 rfl (lv_at hl 0 rfl) ?_
                      refine va_get (D := D9) (ci := 7) (C := R_Mo) (T := F_Mo) (N := 30) hx hb hts i_Mo hown hK hP 33 ww_33 rfl 19 (by decide) (hts _ g_741) (fun _ h9 => h9) rfl d_Mo_data_236 ?_
                      refine lv_topq (y := nI 0) (((hsIc 24 (by decide)).trans h24)) ?_
                      refine lv_if_ne (tgt := 286) hx hb d_Mo_data_239 (by decide) (fun c104 => ?_) (fun c104 => ?_)
                      · exact absurd c104 (by decide)
                      · refine lv_aload_n hx hb d_Mo_data_242 rfl (lv_at hl 0 rfl) ?_
                        refine va_get (D := D9) (ci := 7) (C := R_Mo) (T := F_Mo) (N := 30) hx hb hts i_Mo hown hK hP 33 ww_33 rfl 20 (by decide) (hts _ g_742) (fun _ h9 => h9) rfl d_Mo_data_243 ?_
                        refine lv_topq (y := nI ap) (k25) ?_
                        refine lv_aload_n hx hb d_Mo_data_246 rfl (lv_at hl 0 rfl) ?_
                        refine va_get (D := D9) (ci := 7) (C := R_Mo) (T := F_Mo) (N := 30) hx hb hts i_Mo hown hK hP 33 ww_33 rfl 22 (by decide) (hts _ g_744) (fun _ h9 => h9) rfl d_Mo_data_247 ?_
                        refine lv_topq (y := nI b) (((hsIc 27 (by decide)).trans h27)) ?_
                        refine lv_icmp_ge (tgt := 286) hx hb d_Mo_data_250 (by decide) (fun c105 => ?_) (fun c105 => ?_)
                        · have c105 : b ≤ ap := (nI_leI (a := b) (b := ap) (by omega) (by omega)).mp c105
                          have hape : ap = b := by omega
                          rw [if_neg (by omega)] at hE
                          rw [hape] at k17 hB9
                          refine lv_aload_n hx hb d_Mo_data_286 rfl (lv_at hl 0 rfl) ?_
                          refine va_get (D := D9) (ci := 7) (C := R_Mo) (T := F_Mo) (N := 30) hx hb hts i_Mo hown hK hP 33 ww_33 rfl 19 (by decide) (hts _ g_741) (fun _ h9 => h9) rfl d_Mo_data_287 ?_
                          refine lv_topq (y := nI 0) (((hsIc 24 (by decide)).trans h24)) ?_
                          refine lv_if_le (tgt := 294) hx hb d_Mo_data_290 (by decide) (fun c106 => ?_) (fun c106 => ?_)
                          · refine lv_iload_n hx hb d_Mo_data_294 rfl (lv_at hl 1 rfl) ?_
                            refine lv_iconst (v := 2) hx hb d_Mo_data_295 (by decide) ?_
                            refine lv_topq (y := nI 2) (rfl) ?_
                            refine lv_icmp_eq (tgt := 338) hx hb d_Mo_data_296 (by decide) (fun c107 => ?_) (fun c107 => ?_)
                            · exact absurd c107 (by decide)
                            · refine lv_iload_n hx hb d_Mo_data_299 rfl (lv_at hl 1 rfl) ?_
                              refine lv_iconst (v := 5) hx hb d_Mo_data_300 (by decide) ?_
                              refine lv_topq (y := nI 5) (rfl) ?_
                              refine lv_icmp_eq (tgt := 338) hx hb d_Mo_data_301 (by decide) (fun c108 => ?_) (fun c108 => ?_)
                              · exact absurd c108 (by decide)
                              · refine lv_iload_n hx hb d_Mo_data_304 rfl (lv_at hl 1 rfl) ?_
                                refine lv_bipush (v := 12) hx hb d_Mo_data_305 (by decide) ?_
                                refine lv_topq (y := nI 12) (rfl) ?_
                                refine lv_icmp_eq (tgt := 338) hx hb d_Mo_data_307 (by decide) (fun c109 => ?_) (fun c109 => ?_)
                                · exact absurd c109 (by decide)
                                · refine lv_iload_n hx hb d_Mo_data_310 rfl (lv_at hl 1 rfl) ?_
                                  refine lv_bipush (v := 15) hx hb d_Mo_data_311 (by decide) ?_
                                  refine lv_topq (y := nI 15) (rfl) ?_
                                  refine lv_icmp_eq (tgt := 338) hx hb d_Mo_data_313 (by decide) (fun c110 => ?_) (fun c110 => ?_)
                                  · exact absurd c110 (by decide)
                                  · refine lv_iload_n hx hb d_Mo_data_316 rfl (lv_at hl 1 rfl) ?_
                                    refine lv_bipush (v := 6) hx hb d_Mo_data_317 (by decide) ?_
                                    refine lv_topq (y := nI 6) (rfl) ?_
                                    refine lv_icmp_eq (tgt := 338) hx hb d_Mo_data_319 (by decide) (fun c111 => ?_) (fun c111 => ?_)
                                    · exact absurd c111 (by decide)
                                    · refine lv_iload_n hx hb d_Mo_data_322 rfl (lv_at hl 1 rfl) ?_
                                      refine lv_bipush (v := 33) hx hb d_Mo_data_323 (by decide) ?_
                                      refine lv_topq (y := nI 33) (rfl) ?_
                                      refine lv_icmp_eq (tgt := 338) hx hb d_Mo_data_325 (by decide) (fun c112 => ?_) (fun c112 => ?_)
                                      · exact absurd c112 (by decide)
                                      · refine lv_iload_n hx hb d_Mo_data_328 rfl (lv_at hl 1 rfl) ?_
                                        refine lv_bipush (v := 16) hx hb d_Mo_data_329 (by decide) ?_
                                        refine lv_topq (y := nI 16) (rfl) ?_
                                        refine lv_icmp_eq (tgt := 338) hx hb d_Mo_data_331 (by decide) (fun c113 => ?_) (fun c113 => ?_)
                                        · refine lv_iconst (v := 0) hx hb d_Mo_data_338 (by decide) ?_
                                          refine lv_topq (y := nI 0) (rfl) ?_
                                          refine lv_istore (lv' := [(4, _), (0, _), (1, _), (2, _), (3, _)]) hx hb d_Mo_data_339 hl (by decide) rfl (fun ls hl => ?_)
                                          refine lv_iload hx hb d_Mo_data_341 (lv_at hl 0 rfl) ?_
                                          refine lv_if_eq (tgt := 359) hx hb d_Mo_data_343 (by decide) (fun c114 => ?_) (fun c114 => ?_)
                                          · refine lv_aload_n hx hb d_Mo_data_359 rfl (lv_at hl 1 rfl) ?_
                                            refine va_get (D := D9) (ci := 7) (C := R_Mo) (T := F_Mo) (N := 30) hx hb hts i_Mo hown hK hP 33 ww_33 rfl 20 (by decide) (hts _ g_742) (fun _ h9 => h9) rfl d_Mo_data_360 ?_
                                            refine lv_topq (y := nI ap) (k25) ?_
                                            refine lv_aload_n hx hb d_Mo_data_363 rfl (lv_at hl 1 rfl) ?_
                                            refine va_get (D := D9) (ci := 7) (C := R_Mo) (T := F_Mo) (N := 30) hx hb hts i_Mo hown hK hP 33 ww_33 rfl 22 (by decide) (hts _ g_744) (fun _ h9 => h9) rfl d_Mo_data_364 ?_
                                            refine lv_topq (y := nI b) (((hsIc 27 (by decide)).trans h27)) ?_
                                            refine lv_icmp_eq (tgt := 379) hx hb d_Mo_data_367 (by decide) (fun c115 => ?_) (fun c115 => ?_)
                                            · have c115 : ap = b := (nI_eq (a := ap) (b := b) (by omega) (by omega)).mp c115
                                              exact hret _ _ _ _ _ _ hS hP hD d_Mo_data_379 (Or.inl ⟨_, _, D_a (by decide) (by rw [asT_16]; unfold strs; rw [hE]; simp <;> omega), rfl, (sm_mo hsIc (by decide)), (k17).trans (congrArg nI (by simp only [List.append_assoc, sl9_0, List.nil_append])), (((hsIc 22 (by decide)).trans h22)).trans (congrArg nI (by omega)), (sm_mo hsFc (by decide)), by simpa only [List.append_assoc, sl9_0, List.nil_append] using hB9⟩)
                                            · have c115 : ¬ (ap = b) := fun z9 => c115 ((nI_eq (a := ap) (b := b) (by omega) (by omega)).mpr z9)
                                              exfalso; omega
                                          · exact absurd c114 (by decide)
                                        · exact absurd c113 (by decide)
                          · exact absurd c106 (by decide)
                        · have c105 : ¬ (b ≤ ap) := fun z9 => c105 ((nI_leI (a := b) (b := ap) (by omega) (by omega)).mpr z9)
                          rw [if_pos (by omega)] at hE
                          have hby : tb t ap < 256 := BR_lt hT (by omega) (by omega) (by omega)
                          refine lv_aload_n hx hb d_Mo_data_253 rfl (lv_at hl 0 rfl) ?_
                          refine lv_iconst (v := 1) hx hb d_Mo_data_254 (by decide) ?_
                          refine lv_topq (y := nI 1) (rfl) ?_
                          refine lv_aload_n hx hb d_Mo_data_255 rfl (lv_at hl 0 rfl) ?_
                          refine lv_aload_n hx hb d_Mo_data_256 rfl (lv_at hl 0 rfl) ?_
                          refine va_get (D := D9) (ci := 7) (C := R_Mo) (T := F_Mo) (N := 30) hx hb hts i_Mo hown hK hP 33 ww_33 rfl 20 (by decide) (hts _ g_742) (fun _ h9 => h9) rfl d_Mo_data_257 ?_
                          refine lv_topq (y := nI ap) (k25) ?_
                          refine mw_cV (ci := 7) (k := 33) C0 (m_Mo_here l D9 cB cI cJ cG a O _ _ t (BR_eq hT (hsFc 34 (by decide))) ((hsIc 16 (by decide)).trans h16) htl ap (by omega)) g_832 g_8 g_829 g_831 gs_Mo_here ⟨by decide +kernel, by decide +kernel, show Option.map (fun d => d.parameters.length) (parseMethodDescriptor y_Mo_here.desc) = some 1 by decide +kernel⟩ ⟨by decide, by decide⟩ rfl rfl hP hD hS hA rfl ww_33 hl.1 (Nat.le_of_ble_eq_true rfl) rfl d_Mo_data_260 ⟨by decide, by decide⟩ (fun v9 w9 H locs hq hP hD hS => ?_)
                          obtain ⟨I116, F117, hw9, q118⟩ := hq
                          subst hw9
                          obtain ⟨rfl, rfl, rfl⟩ := q118
                          refine lv_iadd hx hb d_Mo_data_263 ?_
                          refine lv_topq (y := nI (1 + (tb t ap))) (nI_add _ _) ?_
                          refine mw_cV (ci := 7) (k := 33) C0 (m_Mo_bytes l D9 cB cI cJ cG a O _ _ t (BR_eq hT (hsFc 34 (by decide))) ((hsIc 16 (by decide)).trans h16) htl (L ++ sl9 t q (ap - q)) ap (1 + tb t ap) b ((hsIc 27 (by decide)).trans h27) hb9 k25 ((hsIc 24 (by decide)).trans h24) (by omega) (by omega) k17 hB9) g_852 g_8 g_849 g_851 gs_Mo_bytes ⟨by decide +kernel, by decide +kernel, show Option.map (fun d => d.parameters.length) (parseMethodDescriptor y_Mo_bytes.desc) = some 1 by decide +kernel⟩ ⟨by decide, by decide⟩ rfl rfl hP hD hS hA rfl ww_33 hl.1 (Nat.le_of_ble_eq_true rfl) rfl d_Mo_data_264 ⟨by decide, by decide⟩ (fun v9 w9 H locs hq hP hD hS => ?_)
                          obtain ⟨I119, F120, hw9, q121⟩ := hq
                          subst hw9
                          rcases q121 with ⟨gbs, rfl, sbs, y17s, y25s, sHs, vBs⟩ | ⟨gbs, rfl, sbs, ⟨ezs, eys, exs⟩, rfl⟩
                          · have hlms : (L ++ sl9 t q (ap - q) ++ sl9 t ap (1 + tb t ap)).length = (L ++ sl9 t q (ap - q)).length + (1 + tb t ap) := by rw [List.length_append, sl9_len (by omega)]
                            refine lv_goto (tgt := 235) hx hb d_Mo_data_267 (by decide) ?_
                            have hsl : sl9 t q (ap - q) ++ sl9 t ap (1 + tb t ap) = sl9 t q (ap + (1 + tb t ap) - q) := by have := sl9_sl (t := t) (p := q) (i := ap - q) (k := 1 + tb t ap); rw [show q + (ap - q) = ap by omega, show ap - q + (1 + tb t ap) = ap + (1 + tb t ap) - q by omega] at this; exact this
                            exact ihc _ (by omega) (ap + (1 + tb t ap)) g9 _ _ _ _ _ (sm_tr (sm_mo hsIc (by decide)) (sm_mo sbs (by decide))) (sm_tr (sm_mo hsFc (by decide)) (sm_mo sHs (by decide))) rfl ⟨by omega, by omega⟩ (by omega) hE y25s (by rw [y17s, List.append_assoc, hsl]) (by rw [← hsl, ← List.append_assoc]; exact vBs) hP hD hS hl
                          · have eyzs := eys
                            refine lv_goto (tgt := 235) hx hb d_Mo_data_267 (by decide) ?_
                            rw [se_gt (p := ap + (1 + tb t ap)) (to := b) (by omega)] at hE
                            refine lv_aload_n hx hb d_Mo_data_235 rfl (lv_at hl 0 rfl) ?_
                            refine va_get (D := D9) (ci := 7) (C := R_Mo) (T := F_Mo) (N := 30) hx hb hts i_Mo hown hK hP 33 ww_33 rfl 19 (by decide) (hts _ g_741) (fun _ h9 => h9) rfl d_Mo_data_236 ?_
                            refine lv_topq (y := nI ezs) (exs) ?_
                            refine lv_if_ne (tgt := 286) hx hb d_Mo_data_239 (by decide) (fun c122 => ?_) (fun c122 => ?_)
                            · have c122 : ¬ (ezs = 0) := fun z9 => c122 ((nI_eq (a := ezs) (b := 0) (by omega) (by omega)).mpr z9)
                              refine lv_aload_n hx hb d_Mo_data_286 rfl (lv_at hl 0 rfl) ?_
                              refine va_get (D := D9) (ci := 7) (C := R_Mo) (T := F_Mo) (N := 30) hx hb hts i_Mo hown hK hP 33 ww_33 rfl 19 (by decide) (hts _ g_741) (fun _ h9 => h9) rfl d_Mo_data_287 ?_
                              refine lv_topq (y := nI ezs) (exs) ?_
                              refine lv_if_le (tgt := 294) hx hb d_Mo_data_290 (by decide) (fun c123 => ?_) (fun c123 => ?_)
                              · have c123 : ezs ≤ 0 := (nI_leI (a := ezs) (b := 0) (by omega) (by omega)).mp c123
                                exfalso; omega
                              · have c123 : ¬ (ezs ≤ 0) := fun z9 => c123 ((nI_leI (a := ezs) (b := 0) (by omega) (by omega)).mpr z9)
                                exact hret _ _ _ _ _ _ hS hP hD d_Mo_data_293 (Or.inr ⟨D_b (by decide) (by rw [asT_16]; unfold strs; rw [hE]; simp <;> omega), rfl, (sm_tr (sm_mo hsIc (by decide)) (sm_mo sbs (by decide))), ⟨_, by omega, exs⟩, (sm_mo hsFc (by decide)), BR_pre (hB9)⟩)
                            · have c122 : ezs = 0 := (nI_eq (a := ezs) (b := 0) (by omega) (by omega)).mp c122
                              exfalso; omega
                  exact loopS _ q (b - q + 1) _ _ _ _ _ sm_rf sm_rf rfl ⟨by omega, by omega⟩ (by omega) rfl h25 (by rw [Nat.sub_self, sl9_0, List.append_nil]; exact h17) (by rw [Nat.sub_self, sl9_0, List.append_nil]; exact hBL) hP hD hS (lv_pk hl [1, 2, 3, 0] rfl)
                · have c103 : b - q = 0 := (nI_eq (a := b - q) (b := 0) (by omega) (by omega)).mp c103
                  refine lv_aload_n hx hb d_Mo_data_226 rfl (lv_at hl 1 rfl) ?_
                  refine lv_iconst (v := 5) hx hb d_Mo_data_227 (by decide) ?_
                  refine lv_topq (y := nI 5) (rfl) ?_
                  refine lv_aload_n hx hb d_Mo_data_228 rfl (lv_at hl 1 rfl) ?_
                  refine va_get (D := D9) (ci := 7) (C := R_Mo) (T := F_Mo) (N := 30) hx hb hts i_Mo hown hK hP 33 ww_33 rfl 21 (by decide) (hts _ g_743) (fun _ h9 => h9) rfl d_Mo_data_229 ?_
                  refine lv_topq (y := nI q) (h26) ?_
                  refine mw_cV (ci := 7) (k := 33) C0 (m_Mo_wrong l D9 cB cI cJ cG a O _ _ (nI 5) _ h24) g_824 g_8 g_821 g_823 gs_Mo_wrong ⟨by decide +kernel, by decide +kernel, show Option.map (fun d => d.parameters.length) (parseMethodDescriptor y_Mo_wrong.desc) = some 2 by decide +kernel⟩ ⟨by decide, by decide⟩ rfl rfl hP hD hS hA rfl ww_33 hl.1 (Nat.le_of_ble_eq_true rfl) rfl d_Mo_data_232 ⟨by decide, by decide⟩ (fun v9 w9 H locs hq hP hD hS => ?_)
                  obtain ⟨I124, F125, hw9, q126⟩ := hq
                  subst hw9
                  obtain ⟨rfl, sI124, zI124, rfl⟩ := q126
                  refine lv_aload_n hx hb d_Mo_data_235 rfl (lv_at hl 1 rfl) ?_
                  refine va_get (D := D9) (ci := 7) (C := R_Mo) (T := F_Mo) (N := 30) hx hb hts i_Mo hown hK hP 33 ww_33 rfl 19 (by decide) (hts _ g_741) (fun _ h9 => h9) rfl d_Mo_data_236 ?_
                  refine lv_topq (y := nI 5) (zI124) ?_
                  refine lv_if_ne (tgt := 286) hx hb d_Mo_data_239 (by decide) (fun c127 => ?_) (fun c127 => ?_)
                  · refine lv_aload_n hx hb d_Mo_data_286 rfl (lv_at hl 1 rfl) ?_
                    refine va_get (D := D9) (ci := 7) (C := R_Mo) (T := F_Mo) (N := 30) hx hb hts i_Mo hown hK hP 33 ww_33 rfl 19 (by decide) (hts _ g_741) (fun _ h9 => h9) rfl d_Mo_data_287 ?_
                    refine lv_topq (y := nI 5) (zI124) ?_
                    refine lv_if_le (tgt := 294) hx hb d_Mo_data_290 (by decide) (fun c128 => ?_) (fun c128 => ?_)
                    · exact absurd c128 (by decide)
                    · exact hret _ _ _ _ _ _ hS hP hD d_Mo_data_293 (Or.inr ⟨D_b (by decide) (by rw [asT_16]; unfold strs; simp <;> omega), rfl, (sm_mo sI124 (by decide)), ⟨_, by decide, zI124⟩, sm_rf, hBL⟩)
                  · exact absurd c127 (by decide)
              · by_cases ty28 : ty = 28
                · subst ty28
                  refine lv_lookup (tgt := 117) hx hb d_Mo_data_11 (by decide) rfl (by decide) ?_
                  refine lv_iload_n hx hb d_Mo_data_117 rfl (lv_at hl 0 rfl) ?_
                  refine lv_bipush (v := 16) hx hb d_Mo_data_118 (by decide) ?_
                  refine lv_topq (y := nI 16) (rfl) ?_
                  refine lv_icmp_eq (tgt := 286) hx hb d_Mo_data_120 (by decide) (fun c129 => ?_) (fun c129 => ?_)
                  · have c129 : b - q = 16 := (nI_eq (a := b - q) (b := 16) (by omega) (by omega)).mp c129
                    refine lv_aload_n hx hb d_Mo_data_286 rfl (lv_at hl 1 rfl) ?_
                    refine va_get (D := D9) (ci := 7) (C := R_Mo) (T := F_Mo) (N := 30) hx hb hts i_Mo hown hK hP 33 ww_33 rfl 19 (by decide) (hts _ g_741) (fun _ h9 => h9) rfl d_Mo_data_287 ?_
                    refine lv_topq (y := nI 0) (h24) ?_
                    refine lv_if_le (tgt := 294) hx hb d_Mo_data_290 (by decide) (fun c130 => ?_) (fun c130 => ?_)
                    · refine lv_iload_n hx hb d_Mo_data_294 rfl (lv_at hl 2 rfl) ?_
                      refine lv_iconst (v := 2) hx hb d_Mo_data_295 (by decide) ?_
                      refine lv_topq (y := nI 2) (rfl) ?_
                      refine lv_icmp_eq (tgt := 338) hx hb d_Mo_data_296 (by decide) (fun c131 => ?_) (fun c131 => ?_)
                      · exact absurd c131 (by decide)
                      · refine lv_iload_n hx hb d_Mo_data_299 rfl (lv_at hl 2 rfl) ?_
                        refine lv_iconst (v := 5) hx hb d_Mo_data_300 (by decide) ?_
                        refine lv_topq (y := nI 5) (rfl) ?_
                        refine lv_icmp_eq (tgt := 338) hx hb d_Mo_data_301 (by decide) (fun c132 => ?_) (fun c132 => ?_)
                        · exact absurd c132 (by decide)
                        · refine lv_iload_n hx hb d_Mo_data_304 rfl (lv_at hl 2 rfl) ?_
                          refine lv_bipush (v := 12) hx hb d_Mo_data_305 (by decide) ?_
                          refine lv_topq (y := nI 12) (rfl) ?_
                          refine lv_icmp_eq (tgt := 338) hx hb d_Mo_data_307 (by decide) (fun c133 => ?_) (fun c133 => ?_)
                          · exact absurd c133 (by decide)
                          · refine lv_iload_n hx hb d_Mo_data_310 rfl (lv_at hl 2 rfl) ?_
                            refine lv_bipush (v := 15) hx hb d_Mo_data_311 (by decide) ?_
                            refine lv_topq (y := nI 15) (rfl) ?_
                            refine lv_icmp_eq (tgt := 338) hx hb d_Mo_data_313 (by decide) (fun c134 => ?_) (fun c134 => ?_)
                            · exact absurd c134 (by decide)
                            · refine lv_iload_n hx hb d_Mo_data_316 rfl (lv_at hl 2 rfl) ?_
                              refine lv_bipush (v := 6) hx hb d_Mo_data_317 (by decide) ?_
                              refine lv_topq (y := nI 6) (rfl) ?_
                              refine lv_icmp_eq (tgt := 338) hx hb d_Mo_data_319 (by decide) (fun c135 => ?_) (fun c135 => ?_)
                              · exact absurd c135 (by decide)
                              · refine lv_iload_n hx hb d_Mo_data_322 rfl (lv_at hl 2 rfl) ?_
                                refine lv_bipush (v := 33) hx hb d_Mo_data_323 (by decide) ?_
                                refine lv_topq (y := nI 33) (rfl) ?_
                                refine lv_icmp_eq (tgt := 338) hx hb d_Mo_data_325 (by decide) (fun c136 => ?_) (fun c136 => ?_)
                                · exact absurd c136 (by decide)
                                · refine lv_iload_n hx hb d_Mo_data_328 rfl (lv_at hl 2 rfl) ?_
                                  refine lv_bipush (v := 16) hx hb d_Mo_data_329 (by decide) ?_
                                  refine lv_topq (y := nI 16) (rfl) ?_
                                  refine lv_icmp_eq (tgt := 338) hx hb d_Mo_data_331 (by decide) (fun c137 => ?_) (fun c137 => ?_)
                                  · exact absurd c137 (by decide)
                                  · refine lv_iconst (v := 1) hx hb d_Mo_data_334 (by decide) ?_
                                    refine lv_topq (y := nI 1) (rfl) ?_
                                    refine lv_goto (tgt := 339) hx hb d_Mo_data_335 (by decide) ?_
                                    refine lv_istore (lv' := [(4, _), (3, _), (0, _), (1, _), (2, _)]) hx hb d_Mo_data_339 hl (by decide) rfl (fun ls hl => ?_)
                                    refine lv_iload hx hb d_Mo_data_341 (lv_at hl 0 rfl) ?_
                                    refine lv_if_eq (tgt := 359) hx hb d_Mo_data_343 (by decide) (fun c138 => ?_) (fun c138 => ?_)
                                    · exact absurd c138 (by decide)
                                    · refine lv_aload_n hx hb d_Mo_data_346 rfl (lv_at hl 2 rfl) ?_
                                      refine lv_aload_n hx hb d_Mo_data_347 rfl (lv_at hl 2 rfl) ?_
                                      refine va_get (D := D9) (ci := 7) (C := R_Mo) (T := F_Mo) (N := 30) hx hb hts i_Mo hown hK hP 33 ww_33 rfl 22 (by decide) (hts _ g_744) (fun _ h9 => h9) rfl d_Mo_data_348 ?_
                                      refine lv_topq (y := nI b) (h27) ?_
                                      refine lv_aload_n hx hb d_Mo_data_351 rfl (lv_at hl 2 rfl) ?_
                                      refine va_get (D := D9) (ci := 7) (C := R_Mo) (T := F_Mo) (N := 30) hx hb hts i_Mo hown hK hP 33 ww_33 rfl 20 (by decide) (hts _ g_742) (fun _ h9 => h9) rfl d_Mo_data_352 ?_
                                      refine lv_topq (y := nI q) (h25) ?_
                                      refine lv_isub hx hb d_Mo_data_355 ?_
                                      refine lv_topq (y := nI (b - q)) (pk_sub (by omega)) ?_
                                      refine mw_cV (ci := 7) (k := 33) C0 (m_Mo_bytes l D9 cB cI cJ cG a O _ _ t hT h16 htl L q (b - q) b h27 hb9 h25 h24 (by omega) (by omega) h17 hBL) g_852 g_8 g_849 g_851 gs_Mo_bytes ⟨by decide +kernel, by decide +kernel, show Option.map (fun d => d.parameters.length) (parseMethodDescriptor y_Mo_bytes.desc) = some 1 by decide +kernel⟩ ⟨by decide, by decide⟩ rfl rfl hP hD hS hA rfl ww_33 hl.1 (Nat.le_of_ble_eq_true rfl) rfl d_Mo_data_356 ⟨by decide, by decide⟩ (fun v9 w9 H locs hq hP hD hS => ?_)
                                      obtain ⟨I139, F140, hw9, q141⟩ := hq
                                      subst hw9
                                      rcases q141 with ⟨gbz, rfl, sbz, y17z, y25z, sHz, vBz⟩ | ⟨gbz, rfl, sbz, ⟨ezz, eyz, exz⟩, rfl⟩
                                      · have hlmz : (L ++ sl9 t q (b - q)).length = L.length + (b - q) := by rw [List.length_append, sl9_len (by omega)]
                                        refine lv_aload_n hx hb d_Mo_data_359 rfl (lv_at hl 2 rfl) ?_
                                        refine va_get (D := D9) (ci := 7) (C := R_Mo) (T := F_Mo) (N := 30) hx hb hts i_Mo hown hK hP 33 ww_33 rfl 20 (by decide) (hts _ g_742) (fun _ h9 => h9) rfl d_Mo_data_360 ?_
                                        refine lv_topq (y := nI (q + (b - q))) (y25z) ?_
                                        refine lv_aload_n hx hb d_Mo_data_363 rfl (lv_at hl 2 rfl) ?_
                                        refine va_get (D := D9) (ci := 7) (C := R_Mo) (T := F_Mo) (N := 30) hx hb hts i_Mo hown hK hP 33 ww_33 rfl 22 (by decide) (hts _ g_744) (fun _ h9 => h9) rfl d_Mo_data_364 ?_
                                        refine lv_topq (y := nI b) (((sbz 27 (by decide)).trans h27)) ?_
                                        refine lv_icmp_eq (tgt := 379) hx hb d_Mo_data_367 (by decide) (fun c142 => ?_) (fun c142 => ?_)
                                        · have c142 : q + (b - q) = b := (nI_eq (a := q + (b - q)) (b := b) (by omega) (by omega)).mp c142
                                          exact hret _ _ _ _ _ _ hS hP hD d_Mo_data_379 (Or.inl ⟨_, _, D_a (by decide) (by rw [asT_28]; simp; omega), rfl, (sm_mo sbz (by decide)), (y17z).trans (congrArg nI (by simp only [List.append_assoc, sl9_0, List.nil_append])), (((sbz 22 (by decide)).trans h22)).trans (congrArg nI (by omega)), (sm_mo sHz (by decide)), by simpa only [List.append_assoc, sl9_0, List.nil_append] using vBz⟩)
                                        · have c142 : ¬ (q + (b - q) = b) := fun z9 => c142 ((nI_eq (a := q + (b - q)) (b := b) (by omega) (by omega)).mpr z9)
                                          exfalso; omega
                                      · exfalso; omega
                    · exact absurd c130 (by decide)
                  · have c129 : ¬ (b - q = 16) := fun z9 => c129 ((nI_eq (a := b - q) (b := 16) (by omega) (by omega)).mpr z9)
                    refine lv_aload_n hx hb d_Mo_data_123 rfl (lv_at hl 1 rfl) ?_
                    refine lv_iconst (v := 5) hx hb d_Mo_data_124 (by decide) ?_
                    refine lv_topq (y := nI 5) (rfl) ?_
                    refine lv_aload_n hx hb d_Mo_data_125 rfl (lv_at hl 1 rfl) ?_
                    refine va_get (D := D9) (ci := 7) (C := R_Mo) (T := F_Mo) (N := 30) hx hb hts i_Mo hown hK hP 33 ww_33 rfl 21 (by decide) (hts _ g_743) (fun _ h9 => h9) rfl d_Mo_data_126 ?_
                    refine lv_topq (y := nI q) (h26) ?_
                    refine mw_cV (ci := 7) (k := 33) C0 (m_Mo_wrong l D9 cB cI cJ cG a O _ _ (nI 5) _ h24) g_824 g_8 g_821 g_823 gs_Mo_wrong ⟨by decide +kernel, by decide +kernel, show Option.map (fun d => d.parameters.length) (parseMethodDescriptor y_Mo_wrong.desc) = some 2 by decide +kernel⟩ ⟨by decide, by decide⟩ rfl rfl hP hD hS hA rfl ww_33 hl.1 (Nat.le_of_ble_eq_true rfl) rfl d_Mo_data_129 ⟨by decide, by decide⟩ (fun v9 w9 H locs hq hP hD hS => ?_)
                    obtain ⟨I143, F144, hw9, q145⟩ := hq
                    subst hw9
                    obtain ⟨rfl, sI143, zI143, rfl⟩ := q145
                    refine lv_goto (tgt := 286) hx hb d_Mo_data_132 (by decide) ?_
                    refine lv_aload_n hx hb d_Mo_data_286 rfl (lv_at hl 1 rfl) ?_
                    refine va_get (D := D9) (ci := 7) (C := R_Mo) (T := F_Mo) (N := 30) hx hb hts i_Mo hown hK hP 33 ww_33 rfl 19 (by decide) (hts _ g_741) (fun _ h9 => h9) rfl d_Mo_data_287 ?_
                    refine lv_topq (y := nI 5) (zI143) ?_
                    refine lv_if_le (tgt := 294) hx hb d_Mo_data_290 (by decide) (fun c146 => ?_) (fun c146 => ?_)
                    · exact absurd c146 (by decide)
                    · exact hret _ _ _ _ _ _ hS hP hD d_Mo_data_293 (Or.inr ⟨D_b (by decide) (by rw [asT_28]; simp; omega), rfl, (sm_mo sI143 (by decide)), ⟨_, by decide, zI143⟩, sm_rf, hBL⟩)
                · by_cases ty33 : ty = 33
                  · subst ty33
                    refine lv_lookup (tgt := 200) hx hb d_Mo_data_11 (by decide) rfl (by decide) ?_
                    refine lv_aload_n hx hb d_Mo_data_200 rfl (lv_at hl 1 rfl) ?_
                    refine lv_bipush (v := 6) hx hb d_Mo_data_201 (by decide) ?_
                    refine lv_topq (y := nI 6) (rfl) ?_
                    refine mw_cV (ci := 7) (k := 33) C0 (m_Mo_bytes l D9 cB cI cJ cG a O _ _ t hT h16 htl L q 6 b h27 hb9 h25 h24 (by omega) (by omega) h17 hBL) g_852 g_8 g_849 g_851 gs_Mo_bytes ⟨by decide +kernel, by decide +kernel, show Option.map (fun d => d.parameters.length) (parseMethodDescriptor y_Mo_bytes.desc) = some 1 by decide +kernel⟩ ⟨by decide, by decide⟩ rfl rfl hP hD hS hA rfl ww_33 hl.1 (Nat.le_of_ble_eq_true rfl) rfl d_Mo_data_203 ⟨by decide, by decide⟩ (fun v9 w9 H locs hq hP hD hS => ?_)
                    obtain ⟨I147, F148, hw9, q149⟩ := hq
                    subst hw9
                    rcases q149 with ⟨gba, rfl, sba, y17a, y25a, sHa, vBa⟩ | ⟨gba, rfl, sba, ⟨eza, eya, exa⟩, rfl⟩
                    · have hlma : (L ++ sl9 t q 6).length = L.length + 6 := by rw [List.length_append, sl9_len (by omega)]
                      refine lv_aload_n hx hb d_Mo_data_206 rfl (lv_at hl 1 rfl) ?_
                      refine va_get (D := D9) (ci := 7) (C := R_Mo) (T := F_Mo) (N := 30) hx hb hts i_Mo hown hK hP 33 ww_33 rfl 19 (by decide) (hts _ g_741) (fun _ h9 => h9) rfl d_Mo_data_207 ?_
                      refine lv_topq (y := nI 0) (((sba 24 (by decide)).trans h24)) ?_
                      refine lv_if_ne (tgt := 286) hx hb d_Mo_data_210 (by decide) (fun c150 => ?_) (fun c150 => ?_)
                      · exact absurd c150 (by decide)
                      · refine lv_aload_n hx hb d_Mo_data_213 rfl (lv_at hl 1 rfl) ?_
                        refine lv_iconst (v := 1) hx hb d_Mo_data_214 (by decide) ?_
                        refine lv_topq (y := nI 1) (rfl) ?_
                        refine lv_iconst (v := 0) hx hb d_Mo_data_215 (by decide) ?_
                        refine lv_topq (y := nI 0) (rfl) ?_
                        refine mw_cV (ci := 7) (k := 33) C0 (m_Mo_name l D9 cB cI cJ cG a O _ _ t (BR_eq hT (sHa 34 (by decide))) ((sba 16 (by decide)).trans h16) htl (L ++ sl9 t q 6) b (q + 6) fw true false (fun _ => ((sba 27 (by decide)).trans h27)) (fun z9 => by cases z9) (by omega) ((sba 24 (by decide)).trans h24) y25a (by omega) y17a (by omega) vBa ((sba 22 (by decide)).trans h22)) g_840 g_8 g_837 g_839 gs_Mo_name ⟨by decide +kernel, by decide +kernel, show Option.map (fun d => d.parameters.length) (parseMethodDescriptor y_Mo_name.desc) = some 2 by decide +kernel⟩ ⟨by decide, by decide⟩ rfl rfl hP hD hS hA rfl ww_33 hl.1 (Nat.le_of_ble_eq_true rfl) rfl d_Mo_data_216 ⟨by decide, by decide⟩ (fun v9 w9 H locs hq hP hD hS => ?_)
                        obtain ⟨I151, F152, hw9, q153⟩ := hq
                        subst hw9
                        rcases q153 with ⟨nm1, e1, c_1, hr1, rfl, sn1, z171, z251, z221, sG1, wB1⟩ | ⟨hr1, rfl, sn1, ⟨fz1, fy1, fx1⟩, sG1, wB1⟩
                        · obtain ⟨hr1, hc1⟩ := rnS_f hr1
                          have hbd1 := rn_bd hr1 (by decide)
                          have hln1 : (L ++ sl9 t q 6 ++ nm1).length = (L ++ sl9 t q 6).length + nm1.length := List.length_append
                          refine lv_goto (tgt := 286) hx hb d_Mo_data_219 (by decide) ?_
                          refine lv_aload_n hx hb d_Mo_data_286 rfl (lv_at hl 1 rfl) ?_
                          refine va_get (D := D9) (ci := 7) (C := R_Mo) (T := F_Mo) (N := 30) hx hb hts i_Mo hown hK hP 33 ww_33 rfl 19 (by decide) (hts _ g_741) (fun _ h9 => h9) rfl d_Mo_data_287 ?_
                          refine lv_topq (y := nI 0) (((sn1 24 (by decide)).trans ((sba 24 (by decide)).trans h24))) ?_
                          refine lv_if_le (tgt := 294) hx hb d_Mo_data_290 (by decide) (fun c154 => ?_) (fun c154 => ?_)
                          · refine lv_iload_n hx hb d_Mo_data_294 rfl (lv_at hl 2 rfl) ?_
                            refine lv_iconst (v := 2) hx hb d_Mo_data_295 (by decide) ?_
                            refine lv_topq (y := nI 2) (rfl) ?_
                            refine lv_icmp_eq (tgt := 338) hx hb d_Mo_data_296 (by decide) (fun c155 => ?_) (fun c155 => ?_)
                            · exact absurd c155 (by decide)
                            · refine lv_iload_n hx hb d_Mo_data_299 rfl (lv_at hl 2 rfl) ?_
                              refine lv_iconst (v := 5) hx hb d_Mo_data_300 (by decide) ?_
                              refine lv_topq (y := nI 5) (rfl) ?_
                              refine lv_icmp_eq (tgt := 338) hx hb d_Mo_data_301 (by decide) (fun c156 => ?_) (fun c156 => ?_)
                              · exact absurd c156 (by decide)
                              · refine lv_iload_n hx hb d_Mo_data_304 rfl (lv_at hl 2 rfl) ?_
                                refine lv_bipush (v := 12) hx hb d_Mo_data_305 (by decide) ?_
                                refine lv_topq (y := nI 12) (rfl) ?_
                                refine lv_icmp_eq (tgt := 338) hx hb d_Mo_data_307 (by decide) (fun c157 => ?_) (fun c157 => ?_)
                                · exact absurd c157 (by decide)
                                · refine lv_iload_n hx hb d_Mo_data_310 rfl (lv_at hl 2 rfl) ?_
                                  refine lv_bipush (v := 15) hx hb d_Mo_data_311 (by decide) ?_
                                  refine lv_topq (y := nI 15) (rfl) ?_
                                  refine lv_icmp_eq (tgt := 338) hx hb d_Mo_data_313 (by decide) (fun c158 => ?_) (fun c158 => ?_)
                                  · exact absurd c158 (by decide)
                                  · refine lv_iload_n hx hb d_Mo_data_316 rfl (lv_at hl 2 rfl) ?_
                                    refine lv_bipush (v := 6) hx hb d_Mo_data_317 (by decide) ?_
                                    refine lv_topq (y := nI 6) (rfl) ?_
                                    refine lv_icmp_eq (tgt := 338) hx hb d_Mo_data_319 (by decide) (fun c159 => ?_) (fun c159 => ?_)
                                    · exact absurd c159 (by decide)
                                    · refine lv_iload_n hx hb d_Mo_data_322 rfl (lv_at hl 2 rfl) ?_
                                      refine lv_bipush (v := 33) hx hb d_Mo_data_323 (by decide) ?_
                                      refine lv_topq (y := nI 33) (rfl) ?_
                                      refine lv_icmp_eq (tgt := 338) hx hb d_Mo_data_325 (by decide) (fun c160 => ?_) (fun c160 => ?_)
                                      · refine lv_iconst (v := 0) hx hb d_Mo_data_338 (by decide) ?_
                                        refine lv_topq (y := nI 0) (rfl) ?_
                                        refine lv_istore (lv' := [(4, _), (3, _), (0, _), (1, _), (2, _)]) hx hb d_Mo_data_339 hl (by decide) rfl (fun ls hl => ?_)
                                        refine lv_iload hx hb d_Mo_data_341 (lv_at hl 0 rfl) ?_
                                        refine lv_if_eq (tgt := 359) hx hb d_Mo_data_343 (by decide) (fun c161 => ?_) (fun c161 => ?_)
                                        · refine lv_aload_n hx hb d_Mo_data_359 rfl (lv_at hl 2 rfl) ?_
                                          refine va_get (D := D9) (ci := 7) (C := R_Mo) (T := F_Mo) (N := 30) hx hb hts i_Mo hown hK hP 33 ww_33 rfl 20 (by decide) (hts _ g_742) (fun _ h9 => h9) rfl d_Mo_data_360 ?_
                                          refine lv_topq (y := nI e1) (z251) ?_
                                          refine lv_aload_n hx hb d_Mo_data_363 rfl (lv_at hl 2 rfl) ?_
                                          refine va_get (D := D9) (ci := 7) (C := R_Mo) (T := F_Mo) (N := 30) hx hb hts i_Mo hown hK hP 33 ww_33 rfl 22 (by decide) (hts _ g_744) (fun _ h9 => h9) rfl d_Mo_data_364 ?_
                                          refine lv_topq (y := nI b) (((sn1 27 (by decide)).trans ((sba 27 (by decide)).trans h27))) ?_
                                          refine lv_icmp_eq (tgt := 379) hx hb d_Mo_data_367 (by decide) (fun c162 => ?_) (fun c162 => ?_)
                                          · have c162 : e1 = b := (nI_eq (a := e1) (b := b) (by omega) (by omega)).mp c162
                                            exact hret _ _ _ _ _ _ hS hP hD d_Mo_data_379 (Or.inl ⟨_, _, D_s (bf := 6) (by decide) (by decide) (by decide) (Or.inr hc1) (by omega) hr1 (by omega), rfl, (sm_tr (sm_mo sba (by decide)) (sm_mo sn1 (by decide))), (z171).trans (congrArg nI (by simp only [List.append_assoc, sl9_0, List.nil_append])), (z221).trans (congrArg nI (by omega)), (sm_tr (sm_mo sHa (by decide)) (sm_mo sG1 (by decide))), by simpa only [List.append_assoc, sl9_0, List.nil_append] using wB1⟩)
                                          · have c162 : ¬ (e1 = b) := fun z9 => c162 ((nI_eq (a := e1) (b := b) (by omega) (by omega)).mpr z9)
                                            refine lv_aload_n hx hb d_Mo_data_370 rfl (lv_at hl 2 rfl) ?_
                                            refine lv_iconst (v := 5) hx hb d_Mo_data_371 (by decide) ?_
                                            refine lv_topq (y := nI 5) (rfl) ?_
                                            refine lv_aload_n hx hb d_Mo_data_372 rfl (lv_at hl 2 rfl) ?_
                                            refine va_get (D := D9) (ci := 7) (C := R_Mo) (T := F_Mo) (N := 30) hx hb hts i_Mo hown hK hP 33 ww_33 rfl 21 (by decide) (hts _ g_743) (fun _ h9 => h9) rfl d_Mo_data_373 ?_
                                            refine lv_topq (y := nI q) (((sn1 26 (by decide)).trans ((sba 26 (by decide)).trans h26))) ?_
                                            refine mw_cV (ci := 7) (k := 33) C0 (m_Mo_wrong l D9 cB cI cJ cG a O _ _ (nI 5) _ ((sn1 24 (by decide)).trans ((sba 24 (by decide)).trans h24))) g_824 g_8 g_821 g_823 gs_Mo_wrong ⟨by decide +kernel, by decide +kernel, show Option.map (fun d => d.parameters.length) (parseMethodDescriptor y_Mo_wrong.desc) = some 2 by decide +kernel⟩ ⟨by decide, by decide⟩ rfl rfl hP hD hS hA rfl ww_33 hl.1 (Nat.le_of_ble_eq_true rfl) rfl d_Mo_data_376 ⟨by decide, by decide⟩ (fun v9 w9 H locs hq hP hD hS => ?_)
                                            obtain ⟨I163, F164, hw9, q165⟩ := hq
                                            subst hw9
                                            obtain ⟨rfl, sI163, zI163, rfl⟩ := q165
                                            exact hret _ _ _ _ _ _ hS hP hD d_Mo_data_379 (Or.inr ⟨D_x (bf := 6) (by decide) (by decide) (by decide) (by omega) hr1 (by omega), rfl, (sm_tr (sm_tr (sm_mo sba (by decide)) (sm_mo sn1 (by decide))) (sm_mo sI163 (by decide))), ⟨_, by decide, zI163⟩, (sm_tr (sm_mo sHa (by decide)) (sm_mo sG1 (by decide))), BR_pre (BR_pre (wB1))⟩)
                                        · exact absurd c161 (by decide)
                                      · exact absurd c160 (by decide)
                          · exact absurd c154 (by decide)
                        · refine lv_goto (tgt := 286) hx hb d_Mo_data_219 (by decide) ?_
                          refine lv_aload_n hx hb d_Mo_data_286 rfl (lv_at hl 1 rfl) ?_
                          refine va_get (D := D9) (ci := 7) (C := R_Mo) (T := F_Mo) (N := 30) hx hb hts i_Mo hown hK hP 33 ww_33 rfl 19 (by decide) (hts _ g_741) (fun _ h9 => h9) rfl d_Mo_data_287 ?_
                          refine lv_topq (y := nI fz1) (fx1) ?_
                          refine lv_if_le (tgt := 294) hx hb d_Mo_data_290 (by decide) (fun c166 => ?_) (fun c166 => ?_)
                          · have c166 : fz1 ≤ 0 := (nI_leI (a := fz1) (b := 0) (by omega) (by omega)).mp c166
                            exfalso; omega
                          · have c166 : ¬ (fz1 ≤ 0) := fun z9 => c166 ((nI_leI (a := fz1) (b := 0) (by omega) (by omega)).mpr z9)
                            exact hret _ _ _ _ _ _ hS hP hD d_Mo_data_293 (Or.inr ⟨D_v (bf := 6) (by decide) (by decide) (by decide) (by omega) hr1, rfl, (sm_tr (sm_mo sba (by decide)) (sm_mo sn1 (by decide))), ⟨_, by omega, fx1⟩, (sm_tr (sm_mo sHa (by decide)) (sm_mo sG1 (by decide))), BR_pre (wB1)⟩)
                    · have eyza := eya
                      refine lv_aload_n hx hb d_Mo_data_206 rfl (lv_at hl 1 rfl) ?_
                      refine va_get (D := D9) (ci := 7) (C := R_Mo) (T := F_Mo) (N := 30) hx hb hts i_Mo hown hK hP 33 ww_33 rfl 19 (by decide) (hts _ g_741) (fun _ h9 => h9) rfl d_Mo_data_207 ?_
                      refine lv_topq (y := nI eza) (exa) ?_
                      refine lv_if_ne (tgt := 286) hx hb d_Mo_data_210 (by decide) (fun c167 => ?_) (fun c167 => ?_)
                      · have c167 : ¬ (eza = 0) := fun z9 => c167 ((nI_eq (a := eza) (b := 0) (by omega) (by omega)).mpr z9)
                        refine lv_aload_n hx hb d_Mo_data_286 rfl (lv_at hl 1 rfl) ?_
                        refine va_get (D := D9) (ci := 7) (C := R_Mo) (T := F_Mo) (N := 30) hx hb hts i_Mo hown hK hP 33 ww_33 rfl 19 (by decide) (hts _ g_741) (fun _ h9 => h9) rfl d_Mo_data_287 ?_
                        refine lv_topq (y := nI eza) (exa) ?_
                        refine lv_if_le (tgt := 294) hx hb d_Mo_data_290 (by decide) (fun c168 => ?_) (fun c168 => ?_)
                        · have c168 : eza ≤ 0 := (nI_leI (a := eza) (b := 0) (by omega) (by omega)).mp c168
                          exfalso; omega
                        · have c168 : ¬ (eza ≤ 0) := fun z9 => c168 ((nI_leI (a := eza) (b := 0) (by omega) (by omega)).mpr z9)
                          exact hret _ _ _ _ _ _ hS hP hD d_Mo_data_293 (Or.inr ⟨D_sh (bf := 6) (by decide) (by decide) (by omega), rfl, (sm_mo sba (by decide)), ⟨_, by omega, exa⟩, sm_rf, hBL⟩)
                      · have c167 : eza = 0 := (nI_eq (a := eza) (b := 0) (by omega) (by omega)).mp c167
                        exfalso; omega
                  · by_cases ty41 : ty = 41
                    · subst ty41
                      refine lv_lookup (tgt := 270) hx hb d_Mo_data_11 (by decide) rfl (by decide) ?_
                      refine lv_iload_n hx hb d_Mo_data_270 rfl (lv_at hl 3 rfl) ?_
                      refine lv_if_ne (tgt := 286) hx hb d_Mo_data_271 (by decide) (fun c169 => ?_) (fun c169 => ?_)
                      · have c169 : (decide (ol = 1)) = true := bI_t c169
                        have hroot := c169
                        refine lv_aload_n hx hb d_Mo_data_286 rfl (lv_at hl 1 rfl) ?_
                        refine va_get (D := D9) (ci := 7) (C := R_Mo) (T := F_Mo) (N := 30) hx hb hts i_Mo hown hK hP 33 ww_33 rfl 19 (by decide) (hts _ g_741) (fun _ h9 => h9) rfl d_Mo_data_287 ?_
                        refine lv_topq (y := nI 0) (h24) ?_
                        refine lv_if_le (tgt := 294) hx hb d_Mo_data_290 (by decide) (fun c170 => ?_) (fun c170 => ?_)
                        · refine lv_iload_n hx hb d_Mo_data_294 rfl (lv_at hl 2 rfl) ?_
                          refine lv_iconst (v := 2) hx hb d_Mo_data_295 (by decide) ?_
                          refine lv_topq (y := nI 2) (rfl) ?_
                          refine lv_icmp_eq (tgt := 338) hx hb d_Mo_data_296 (by decide) (fun c171 => ?_) (fun c171 => ?_)
                          · exact absurd c171 (by decide)
                          · refine lv_iload_n hx hb d_Mo_data_299 rfl (lv_at hl 2 rfl) ?_
                            refine lv_iconst (v := 5) hx hb d_Mo_data_300 (by decide) ?_
                            refine lv_topq (y := nI 5) (rfl) ?_
                            refine lv_icmp_eq (tgt := 338) hx hb d_Mo_data_301 (by decide) (fun c172 => ?_) (fun c172 => ?_)
                            · exact absurd c172 (by decide)
                            · refine lv_iload_n hx hb d_Mo_data_304 rfl (lv_at hl 2 rfl) ?_
                              refine lv_bipush (v := 12) hx hb d_Mo_data_305 (by decide) ?_
                              refine lv_topq (y := nI 12) (rfl) ?_
                              refine lv_icmp_eq (tgt := 338) hx hb d_Mo_data_307 (by decide) (fun c173 => ?_) (fun c173 => ?_)
                              · exact absurd c173 (by decide)
                              · refine lv_iload_n hx hb d_Mo_data_310 rfl (lv_at hl 2 rfl) ?_
                                refine lv_bipush (v := 15) hx hb d_Mo_data_311 (by decide) ?_
                                refine lv_topq (y := nI 15) (rfl) ?_
                                refine lv_icmp_eq (tgt := 338) hx hb d_Mo_data_313 (by decide) (fun c174 => ?_) (fun c174 => ?_)
                                · exact absurd c174 (by decide)
                                · refine lv_iload_n hx hb d_Mo_data_316 rfl (lv_at hl 2 rfl) ?_
                                  refine lv_bipush (v := 6) hx hb d_Mo_data_317 (by decide) ?_
                                  refine lv_topq (y := nI 6) (rfl) ?_
                                  refine lv_icmp_eq (tgt := 338) hx hb d_Mo_data_319 (by decide) (fun c175 => ?_) (fun c175 => ?_)
                                  · exact absurd c175 (by decide)
                                  · refine lv_iload_n hx hb d_Mo_data_322 rfl (lv_at hl 2 rfl) ?_
                                    refine lv_bipush (v := 33) hx hb d_Mo_data_323 (by decide) ?_
                                    refine lv_topq (y := nI 33) (rfl) ?_
                                    refine lv_icmp_eq (tgt := 338) hx hb d_Mo_data_325 (by decide) (fun c176 => ?_) (fun c176 => ?_)
                                    · exact absurd c176 (by decide)
                                    · refine lv_iload_n hx hb d_Mo_data_328 rfl (lv_at hl 2 rfl) ?_
                                      refine lv_bipush (v := 16) hx hb d_Mo_data_329 (by decide) ?_
                                      refine lv_topq (y := nI 16) (rfl) ?_
                                      refine lv_icmp_eq (tgt := 338) hx hb d_Mo_data_331 (by decide) (fun c177 => ?_) (fun c177 => ?_)
                                      · exact absurd c177 (by decide)
                                      · refine lv_iconst (v := 1) hx hb d_Mo_data_334 (by decide) ?_
                                        refine lv_topq (y := nI 1) (rfl) ?_
                                        refine lv_goto (tgt := 339) hx hb d_Mo_data_335 (by decide) ?_
                                        refine lv_istore (lv' := [(4, _), (3, _), (0, _), (1, _), (2, _)]) hx hb d_Mo_data_339 hl (by decide) rfl (fun ls hl => ?_)
                                        refine lv_iload hx hb d_Mo_data_341 (lv_at hl 0 rfl) ?_
                                        refine lv_if_eq (tgt := 359) hx hb d_Mo_data_343 (by decide) (fun c178 => ?_) (fun c178 => ?_)
                                        · exact absurd c178 (by decide)
                                        · refine lv_aload_n hx hb d_Mo_data_346 rfl (lv_at hl 2 rfl) ?_
                                          refine lv_aload_n hx hb d_Mo_data_347 rfl (lv_at hl 2 rfl) ?_
                                          refine va_get (D := D9) (ci := 7) (C := R_Mo) (T := F_Mo) (N := 30) hx hb hts i_Mo hown hK hP 33 ww_33 rfl 22 (by decide) (hts _ g_744) (fun _ h9 => h9) rfl d_Mo_data_348 ?_
                                          refine lv_topq (y := nI b) (h27) ?_
                                          refine lv_aload_n hx hb d_Mo_data_351 rfl (lv_at hl 2 rfl) ?_
                                          refine va_get (D := D9) (ci := 7) (C := R_Mo) (T := F_Mo) (N := 30) hx hb hts i_Mo hown hK hP 33 ww_33 rfl 20 (by decide) (hts _ g_742) (fun _ h9 => h9) rfl d_Mo_data_352 ?_
                                          refine lv_topq (y := nI q) (h25) ?_
                                          refine lv_isub hx hb d_Mo_data_355 ?_
                                          refine lv_topq (y := nI (b - q)) (pk_sub (by omega)) ?_
                                          refine mw_cV (ci := 7) (k := 33) C0 (m_Mo_bytes l D9 cB cI cJ cG a O _ _ t hT h16 htl L q (b - q) b h27 hb9 h25 h24 (by omega) (by omega) h17 hBL) g_852 g_8 g_849 g_851 gs_Mo_bytes ⟨by decide +kernel, by decide +kernel, show Option.map (fun d => d.parameters.length) (parseMethodDescriptor y_Mo_bytes.desc) = some 1 by decide +kernel⟩ ⟨by decide, by decide⟩ rfl rfl hP hD hS hA rfl ww_33 hl.1 (Nat.le_of_ble_eq_true rfl) rfl d_Mo_data_356 ⟨by decide, by decide⟩ (fun v9 w9 H locs hq hP hD hS => ?_)
                                          obtain ⟨I179, F180, hw9, q181⟩ := hq
                                          subst hw9
                                          rcases q181 with ⟨gbz, rfl, sbz, y17z, y25z, sHz, vBz⟩ | ⟨gbz, rfl, sbz, ⟨ezz, eyz, exz⟩, rfl⟩
                                          · have hlmz : (L ++ sl9 t q (b - q)).length = L.length + (b - q) := by rw [List.length_append, sl9_len (by omega)]
                                            refine lv_aload_n hx hb d_Mo_data_359 rfl (lv_at hl 2 rfl) ?_
                                            refine va_get (D := D9) (ci := 7) (C := R_Mo) (T := F_Mo) (N := 30) hx hb hts i_Mo hown hK hP 33 ww_33 rfl 20 (by decide) (hts _ g_742) (fun _ h9 => h9) rfl d_Mo_data_360 ?_
                                            refine lv_topq (y := nI (q + (b - q))) (y25z) ?_
                                            refine lv_aload_n hx hb d_Mo_data_363 rfl (lv_at hl 2 rfl) ?_
                                            refine va_get (D := D9) (ci := 7) (C := R_Mo) (T := F_Mo) (N := 30) hx hb hts i_Mo hown hK hP 33 ww_33 rfl 22 (by decide) (hts _ g_744) (fun _ h9 => h9) rfl d_Mo_data_364 ?_
                                            refine lv_topq (y := nI b) (((sbz 27 (by decide)).trans h27)) ?_
                                            refine lv_icmp_eq (tgt := 379) hx hb d_Mo_data_367 (by decide) (fun c182 => ?_) (fun c182 => ?_)
                                            · have c182 : q + (b - q) = b := (nI_eq (a := q + (b - q)) (b := b) (by omega) (by omega)).mp c182
                                              exact hret _ _ _ _ _ _ hS hP hD d_Mo_data_379 (Or.inl ⟨_, _, D_a (by decide) (by rw [asT_41]; simpa using hroot), rfl, (sm_mo sbz (by decide)), (y17z).trans (congrArg nI (by simp only [List.append_assoc, sl9_0, List.nil_append])), (((sbz 22 (by decide)).trans h22)).trans (congrArg nI (by omega)), (sm_mo sHz (by decide)), by simpa only [List.append_assoc, sl9_0, List.nil_append] using vBz⟩)
                                            · have c182 : ¬ (q + (b - q) = b) := fun z9 => c182 ((nI_eq (a := q + (b - q)) (b := b) (by omega) (by omega)).mpr z9)
                                              exfalso; omega
                                          · exfalso; omega
                        · exact absurd c170 (by decide)
                      · have c169 : (decide (ol = 1)) = false := bI_f c169
                        have hroot := c169
                        refine lv_aload_n hx hb d_Mo_data_274 rfl (lv_at hl 1 rfl) ?_
                        refine lv_iconst (v := 5) hx hb d_Mo_data_275 (by decide) ?_
                        refine lv_topq (y := nI 5) (rfl) ?_
                        refine lv_aload_n hx hb d_Mo_data_276 rfl (lv_at hl 1 rfl) ?_
                        refine va_get (D := D9) (ci := 7) (C := R_Mo) (T := F_Mo) (N := 30) hx hb hts i_Mo hown hK hP 33 ww_33 rfl 21 (by decide) (hts _ g_743) (fun _ h9 => h9) rfl d_Mo_data_277 ?_
                        refine lv_topq (y := nI q) (h26) ?_
                        refine mw_cV (ci := 7) (k := 33) C0 (m_Mo_wrong l D9 cB cI cJ cG a O _ _ (nI 5) _ h24) g_824 g_8 g_821 g_823 gs_Mo_wrong ⟨by decide +kernel, by decide +kernel, show Option.map (fun d => d.parameters.length) (parseMethodDescriptor y_Mo_wrong.desc) = some 2 by decide +kernel⟩ ⟨by decide, by decide⟩ rfl rfl hP hD hS hA rfl ww_33 hl.1 (Nat.le_of_ble_eq_true rfl) rfl d_Mo_data_280 ⟨by decide, by decide⟩ (fun v9 w9 H locs hq hP hD hS => ?_)
                        obtain ⟨I183, F184, hw9, q185⟩ := hq
                        subst hw9
                        obtain ⟨rfl, sI183, zI183, rfl⟩ := q185
                        refine lv_goto (tgt := 286) hx hb d_Mo_data_283 (by decide) ?_
                        refine lv_aload_n hx hb d_Mo_data_286 rfl (lv_at hl 1 rfl) ?_
                        refine va_get (D := D9) (ci := 7) (C := R_Mo) (T := F_Mo) (N := 30) hx hb hts i_Mo hown hK hP 33 ww_33 rfl 19 (by decide) (hts _ g_741) (fun _ h9 => h9) rfl d_Mo_data_287 ?_
                        refine lv_topq (y := nI 5) (zI183) ?_
                        refine lv_if_le (tgt := 294) hx hb d_Mo_data_290 (by decide) (fun c186 => ?_) (fun c186 => ?_)
                        · exact absurd c186 (by decide)
                        · exact hret _ _ _ _ _ _ hS hP hD d_Mo_data_293 (Or.inr ⟨D_b (by decide) (by rw [asT_41]; simpa using hroot), rfl, (sm_mo sI183 (by decide)), ⟨_, by decide, zI183⟩, sm_rf, hBL⟩)
                    · refine lv_lookup (tgt := 286) hx hb d_Mo_data_11 (by decide) (show Op.lookupswitch.offset [(1, 89), (2, 124), (5, 124), (6, 154), (12, 124), (15, 133), (16, 211), (28, 106), (33, 189), (41, 259)] (275) (nI ty).toInt = 275 by rw [nI_toInt (by omega), Op.lookupswitch.offset_cons, if_neg (by omega), Op.lookupswitch.offset_cons, if_neg (by omega), Op.lookupswitch.offset_cons, if_neg (by omega), Op.lookupswitch.offset_cons, if_neg (by omega), Op.lookupswitch.offset_cons, if_neg (by omega), Op.lookupswitch.offset_cons, if_neg (by omega), Op.lookupswitch.offset_cons, if_neg (by omega), Op.lookupswitch.offset_cons, if_neg (by omega), Op.lookupswitch.offset_cons, if_neg (by omega), Op.lookupswitch.offset_cons, if_neg (by omega), Op.lookupswitch.offset_nil]) (by decide) ?_
                      refine lv_aload_n hx hb d_Mo_data_286 rfl (lv_at hl 1 rfl) ?_
                      refine va_get (D := D9) (ci := 7) (C := R_Mo) (T := F_Mo) (N := 30) hx hb hts i_Mo hown hK hP 33 ww_33 rfl 19 (by decide) (hts _ g_741) (fun _ h9 => h9) rfl d_Mo_data_287 ?_
                      refine lv_topq (y := nI 0) (h24) ?_
                      refine lv_if_le (tgt := 294) hx hb d_Mo_data_290 (by decide) (fun c187 => ?_) (fun c187 => ?_)
                      · refine lv_iload_n hx hb d_Mo_data_294 rfl (lv_at hl 2 rfl) ?_
                        refine lv_iconst (v := 2) hx hb d_Mo_data_295 (by decide) ?_
                        refine lv_topq (y := nI 2) (rfl) ?_
                        refine lv_icmp_eq (tgt := 338) hx hb d_Mo_data_296 (by decide) (fun c188 => ?_) (fun c188 => ?_)
                        · have c188 : ty = 2 := (nI_eq (a := ty) (b := 2) (by omega) (by omega)).mp c188
                          exfalso; omega
                        · have c188 : ¬ (ty = 2) := fun z9 => c188 ((nI_eq (a := ty) (b := 2) (by omega) (by omega)).mpr z9)
                          refine lv_iload_n hx hb d_Mo_data_299 rfl (lv_at hl 2 rfl) ?_
                          refine lv_iconst (v := 5) hx hb d_Mo_data_300 (by decide) ?_
                          refine lv_topq (y := nI 5) (rfl) ?_
                          refine lv_icmp_eq (tgt := 338) hx hb d_Mo_data_301 (by decide) (fun c189 => ?_) (fun c189 => ?_)
                          · have c189 : ty = 5 := (nI_eq (a := ty) (b := 5) (by omega) (by omega)).mp c189
                            exfalso; omega
                          · have c189 : ¬ (ty = 5) := fun z9 => c189 ((nI_eq (a := ty) (b := 5) (by omega) (by omega)).mpr z9)
                            refine lv_iload_n hx hb d_Mo_data_304 rfl (lv_at hl 2 rfl) ?_
                            refine lv_bipush (v := 12) hx hb d_Mo_data_305 (by decide) ?_
                            refine lv_topq (y := nI 12) (rfl) ?_
                            refine lv_icmp_eq (tgt := 338) hx hb d_Mo_data_307 (by decide) (fun c190 => ?_) (fun c190 => ?_)
                            · have c190 : ty = 12 := (nI_eq (a := ty) (b := 12) (by omega) (by omega)).mp c190
                              exfalso; omega
                            · have c190 : ¬ (ty = 12) := fun z9 => c190 ((nI_eq (a := ty) (b := 12) (by omega) (by omega)).mpr z9)
                              refine lv_iload_n hx hb d_Mo_data_310 rfl (lv_at hl 2 rfl) ?_
                              refine lv_bipush (v := 15) hx hb d_Mo_data_311 (by decide) ?_
                              refine lv_topq (y := nI 15) (rfl) ?_
                              refine lv_icmp_eq (tgt := 338) hx hb d_Mo_data_313 (by decide) (fun c191 => ?_) (fun c191 => ?_)
                              · have c191 : ty = 15 := (nI_eq (a := ty) (b := 15) (by omega) (by omega)).mp c191
                                exfalso; omega
                              · have c191 : ¬ (ty = 15) := fun z9 => c191 ((nI_eq (a := ty) (b := 15) (by omega) (by omega)).mpr z9)
                                refine lv_iload_n hx hb d_Mo_data_316 rfl (lv_at hl 2 rfl) ?_
                                refine lv_bipush (v := 6) hx hb d_Mo_data_317 (by decide) ?_
                                refine lv_topq (y := nI 6) (rfl) ?_
                                refine lv_icmp_eq (tgt := 338) hx hb d_Mo_data_319 (by decide) (fun c192 => ?_) (fun c192 => ?_)
                                · have c192 : ty = 6 := (nI_eq (a := ty) (b := 6) (by omega) (by omega)).mp c192
                                  exfalso; omega
                                · have c192 : ¬ (ty = 6) := fun z9 => c192 ((nI_eq (a := ty) (b := 6) (by omega) (by omega)).mpr z9)
                                  refine lv_iload_n hx hb d_Mo_data_322 rfl (lv_at hl 2 rfl) ?_
                                  refine lv_bipush (v := 33) hx hb d_Mo_data_323 (by decide) ?_
                                  refine lv_topq (y := nI 33) (rfl) ?_
                                  refine lv_icmp_eq (tgt := 338) hx hb d_Mo_data_325 (by decide) (fun c193 => ?_) (fun c193 => ?_)
                                  · have c193 : ty = 33 := (nI_eq (a := ty) (b := 33) (by omega) (by omega)).mp c193
                                    exfalso; omega
                                  · have c193 : ¬ (ty = 33) := fun z9 => c193 ((nI_eq (a := ty) (b := 33) (by omega) (by omega)).mpr z9)
                                    refine lv_iload_n hx hb d_Mo_data_328 rfl (lv_at hl 2 rfl) ?_
                                    refine lv_bipush (v := 16) hx hb d_Mo_data_329 (by decide) ?_
                                    refine lv_topq (y := nI 16) (rfl) ?_
                                    refine lv_icmp_eq (tgt := 338) hx hb d_Mo_data_331 (by decide) (fun c194 => ?_) (fun c194 => ?_)
                                    · have c194 : ty = 16 := (nI_eq (a := ty) (b := 16) (by omega) (by omega)).mp c194
                                      exfalso; omega
                                    · have c194 : ¬ (ty = 16) := fun z9 => c194 ((nI_eq (a := ty) (b := 16) (by omega) (by omega)).mpr z9)
                                      refine lv_iconst (v := 1) hx hb d_Mo_data_334 (by decide) ?_
                                      refine lv_topq (y := nI 1) (rfl) ?_
                                      refine lv_goto (tgt := 339) hx hb d_Mo_data_335 (by decide) ?_
                                      refine lv_istore (lv' := [(4, _), (3, _), (0, _), (1, _), (2, _)]) hx hb d_Mo_data_339 hl (by decide) rfl (fun ls hl => ?_)
                                      refine lv_iload hx hb d_Mo_data_341 (lv_at hl 0 rfl) ?_
                                      refine lv_if_eq (tgt := 359) hx hb d_Mo_data_343 (by decide) (fun c195 => ?_) (fun c195 => ?_)
                                      · exact absurd c195 (by decide)
                                      · refine lv_aload_n hx hb d_Mo_data_346 rfl (lv_at hl 2 rfl) ?_
                                        refine lv_aload_n hx hb d_Mo_data_347 rfl (lv_at hl 2 rfl) ?_
                                        refine va_get (D := D9) (ci := 7) (C := R_Mo) (T := F_Mo) (N := 30) hx hb hts i_Mo hown hK hP 33 ww_33 rfl 22 (by decide) (hts _ g_744) (fun _ h9 => h9) rfl d_Mo_data_348 ?_
                                        refine lv_topq (y := nI b) (h27) ?_
                                        refine lv_aload_n hx hb d_Mo_data_351 rfl (lv_at hl 2 rfl) ?_
                                        refine va_get (D := D9) (ci := 7) (C := R_Mo) (T := F_Mo) (N := 30) hx hb hts i_Mo hown hK hP 33 ww_33 rfl 20 (by decide) (hts _ g_742) (fun _ h9 => h9) rfl d_Mo_data_352 ?_
                                        refine lv_topq (y := nI q) (h25) ?_
                                        refine lv_isub hx hb d_Mo_data_355 ?_
                                        refine lv_topq (y := nI (b - q)) (pk_sub (by omega)) ?_
                                        refine mw_cV (ci := 7) (k := 33) C0 (m_Mo_bytes l D9 cB cI cJ cG a O _ _ t hT h16 htl L q (b - q) b h27 hb9 h25 h24 (by omega) (by omega) h17 hBL) g_852 g_8 g_849 g_851 gs_Mo_bytes ⟨by decide +kernel, by decide +kernel, show Option.map (fun d => d.parameters.length) (parseMethodDescriptor y_Mo_bytes.desc) = some 1 by decide +kernel⟩ ⟨by decide, by decide⟩ rfl rfl hP hD hS hA rfl ww_33 hl.1 (Nat.le_of_ble_eq_true rfl) rfl d_Mo_data_356 ⟨by decide, by decide⟩ (fun v9 w9 H locs hq hP hD hS => ?_)
                                        obtain ⟨I196, F197, hw9, q198⟩ := hq
                                        subst hw9
                                        rcases q198 with ⟨gbz, rfl, sbz, y17z, y25z, sHz, vBz⟩ | ⟨gbz, rfl, sbz, ⟨ezz, eyz, exz⟩, rfl⟩
                                        · have hlmz : (L ++ sl9 t q (b - q)).length = L.length + (b - q) := by rw [List.length_append, sl9_len (by omega)]
                                          refine lv_aload_n hx hb d_Mo_data_359 rfl (lv_at hl 2 rfl) ?_
                                          refine va_get (D := D9) (ci := 7) (C := R_Mo) (T := F_Mo) (N := 30) hx hb hts i_Mo hown hK hP 33 ww_33 rfl 20 (by decide) (hts _ g_742) (fun _ h9 => h9) rfl d_Mo_data_360 ?_
                                          refine lv_topq (y := nI (q + (b - q))) (y25z) ?_
                                          refine lv_aload_n hx hb d_Mo_data_363 rfl (lv_at hl 2 rfl) ?_
                                          refine va_get (D := D9) (ci := 7) (C := R_Mo) (T := F_Mo) (N := 30) hx hb hts i_Mo hown hK hP 33 ww_33 rfl 22 (by decide) (hts _ g_744) (fun _ h9 => h9) rfl d_Mo_data_364 ?_
                                          refine lv_topq (y := nI b) (((sbz 27 (by decide)).trans h27)) ?_
                                          refine lv_icmp_eq (tgt := 379) hx hb d_Mo_data_367 (by decide) (fun c199 => ?_) (fun c199 => ?_)
                                          · have c199 : q + (b - q) = b := (nI_eq (a := q + (b - q)) (b := b) (by omega) (by omega)).mp c199
                                            exact hret _ _ _ _ _ _ hS hP hD d_Mo_data_379 (Or.inl ⟨_, _, D_a (k_nm_o ty2 ty5 ty12 ty15 ty33 ty6) (asT_o ty1 ty28 ty16 ty41), rfl, (sm_mo sbz (by decide)), (y17z).trans (congrArg nI (by simp only [List.append_assoc, sl9_0, List.nil_append])), (((sbz 22 (by decide)).trans h22)).trans (congrArg nI (by omega)), (sm_mo sHz (by decide)), by simpa only [List.append_assoc, sl9_0, List.nil_append] using vBz⟩)
                                          · have c199 : ¬ (q + (b - q) = b) := fun z9 => c199 ((nI_eq (a := q + (b - q)) (b := b) (by omega) (by omega)).mpr z9)
                                            exfalso; omega
                                        · exfalso; omega
                      · exact absurd c187 (by decide)
