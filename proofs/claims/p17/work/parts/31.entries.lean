/-! THE PARTS OF A MESSAGE ON THE TAPE -/
def okB (es : List En9) (x : En9) : Bool := hp (eS x) es && decide ((fl es).length + ((eN x).length + (eD x).length) ≤ 65536)
theorem okB_iff {es : List En9} {x : En9} (h : okE es) (hs : eS x < 4) (ht : eT x < 65536) (hk : eK x < 65536) : okE (es ++ [x]) ↔ okB es x = true := by
  rw [okE_add h hs ht hk]; unfold okB; simp [List.length_append]
def qN (t : List Nat) : Option (List Nat) := match rn 16639 t t.length 0 0 0 none with
  | none => none
  | some (nm, e, c) => if e = t.length ∧ c = 0 then some nm else none
def qD (t : List Nat) (ty : Nat) : Option (List Nat × List Nat) := match rn 16639 t t.length 0 0 0 none with
  | none => none
  | some (nm, e, c) => match rdD t ty e t.length nm.length with
    | none => none
    | some (d, c2) => if c + c2 = 0 then some (nm, d) else none
def rdQ (t : List Nat) (pos : Nat) : Option (En9 × Nat × Nat) := match rn 16639 t t.length pos pos 0 none with
  | none => none
  | some (nm, e, c) => if t.length < e + 4 then none else some ((0, t2 t e, t2 t (e + 2), nI 0, nm, []), e + 4, c)
def rdR (t : List Nat) (s pos : Nat) : Option (En9 × Nat × Nat) := match rn 16639 t t.length pos pos 0 none with
  | none => none
  | some (nm, e, c) => if t.length < e + 10 then none else if t.length < e + 10 + t2 t (e + 8) then none else
    match rdD t (t2 t e) (e + 10) (e + 10 + t2 t (e + 8)) nm.length with
    | none => none
    | some (d, c2) => some ((s, t2 t e, t2 t (e + 2), i4 t (e + 4), nm, d), e + 10 + t2 t (e + 8), c + c2)
def rdE (t : List Nat) (s pos : Nat) : Option (En9 × Nat × Nat) := if s = 0 then rdQ t pos else rdR t s pos
def rdL (t : List Nat) (s : Nat) : Nat → List En9 → Nat → Nat → Option (List En9 × Nat × Nat)
  | 0, es, pos, c => some (es, pos, c)
  | k + 1, es, pos, c => match rdE t s pos with
    | none => none
    | some (x, e, c1) => if okB es x = true then rdL t s k (es ++ [x]) e (c + c1) else none
def rdS (t : List Nat) : Nat → List En9 → Nat → Nat → Option (List En9 × Nat × Nat)
  | 0, es, pos, c => some (es, pos, c)
  | k + 1, es, pos, c => (rdL t (3 - k) (t2 t (4 + 2 * (3 - k))) es pos c).bind (fun r => rdS t k r.1 r.2.1 r.2.2)
def rdX (t : List Nat) (r : List En9 × Nat × Nat) : Option (List En9 × Nat) := if r.2.1 = t.length then some (r.1, r.2.2) else none
/-- the whole message: its parts, and how many pointers -/
def rdM (t : List Nat) : Option (List En9 × Nat) := if t.length < 12 then none else (rdS t 4 [] 12 0).bind (rdX t)
theorem t2_lt {f : Nat → Int32} {t : List Nat} (h : BR 0 65536 f t) (hn : t.length ≤ 65536) {i : Nat} (hi : i + 1 < t.length) : t2 t i < 65536 := by
  have h1 := BR_lt h (show i < t.length by omega) (Nat.zero_le _) (by omega)
  have h2 := BR_lt h hi (Nat.zero_le _) (by omega)
  unfold t2; omega
theorem rdF_c {t : List Nat} {ty to : Nat} {l d : List Nat} {e c c' : Nat} (h : rdF t ty to l e c = some (d, c')) : c' = c := by
  unfold rdF at h
  split at h
  · cases h
  · simp only [Option.some.injEq, Prod.mk.injEq] at h; exact h.2.symm
theorem rdD_c {t : List Nat} {ty fr to ol : Nat} {d : List Nat} {c : Nat} (h : rdD t ty fr to ol = some (d, c)) : c ≤ 40000 := by
  unfold rdD at h
  split at h
  · unfold rdN at h
    split at h
    · cases h
    · split at h
      · cases h
      · rename_i h1
        have b1 := rn_bd h1 (by decide)
        split at h
        · have := rdF_c h; omega
        · split at h
          · cases h
          · rename_i h2
            have b2 := rn_bd h2 (by decide)
            have := rdF_c h; omega
  · split at h
    · simp only [Option.some.injEq, Prod.mk.injEq] at h; omega
    · cases h
theorem rdE_bd {f : Nat → Int32} {t : List Nat} (hT : BR 0 65536 f t) (hn : t.length ≤ 65536) {s pos e c : Nat} {x : En9} (h : rdE t s pos = some (x, e, c)) : e ≤ t.length ∧ c ≤ 60000 ∧ eS x = s ∧ eT x < 65536 ∧ eK x < 65536 := by
  unfold rdE at h
  split at h
  · rename_i hs
    unfold rdQ at h
    split at h
    · cases h
    · rename_i h1
      have b1 := rn_bd h1 (by decide)
      split at h
      · cases h
      · simp only [Option.some.injEq, Prod.mk.injEq] at h
        obtain ⟨rfl, rfl, rfl⟩ := h
        exact ⟨by omega, by omega, hs.symm, t2_lt hT hn (by omega), t2_lt hT hn (by omega)⟩
  · unfold rdR at h
    split at h
    · cases h
    · rename_i h1
      have b1 := rn_bd h1 (by decide)
      split at h
      · cases h
      · split at h
        · cases h
        · split at h
          · cases h
          · rename_i h2
            have b2 := rdD_c h2
            simp only [Option.some.injEq, Prod.mk.injEq] at h
            obtain ⟨rfl, rfl, rfl⟩ := h
            exact ⟨by omega, by omega, rfl, t2_lt hT hn (by omega), t2_lt hT hn (by omega)⟩
theorem GaR_fit {F : Nat → Nat → Int32} {es : List En9} (h : GaR F es) : sb_Fit (F 4) := h.2.2.1
theorem GaR_sm {F F' : Nat → Nat → Int32} {es : List En9} (h : GaR F es) {M : List Nat} (hs : sm M F F') (hM : 5 ∉ M ∧ 6 ∉ M ∧ 7 ∉ M ∧ 8 ∉ M ∧ 9 ∉ M ∧ 10 ∉ M ∧ 12 ∉ M ∧ 13 ∉ M ∧ 14 ∉ M ∧ 15 ∉ M ∧ 16 ∉ M) (hB : BR 0 65536 (F' 4) (fl es)) (hO : okE es) : GaR F' es := by
  obtain ⟨m5, m6, m7, m8, m9, m10, m12, m13, m14, m15, m16⟩ := hM
  refine ⟨?_, ?_, hB⟩
  · intro r e hr
    obtain ⟨a1, a2, a3, a4, a5, a6, a7⟩ := h.1 r e hr
    rw [hs 5 m5, hs 6 m6, hs 7 m7, hs 8 m8, hs 9 m9, hs 10 m10]
    refine ⟨a1, a2, a3, a4, a5, a6, ?_⟩
    have h4 := (hO.2.2.2 e (List.mem_of_getElem? hr)).1
    rw [show F' (12 + eS e) = F (12 + eS e) from hs _ (by rcases lt4 h4 with z | z | z | z <;> rw [z] <;> assumption)]
    exact a7
  · intro s hs4
    rw [hs 16 m16]; exact h.2.1 s hs4
theorem g_272 : (Cond.methodLink "WireMessages$Reader" (62 : Nat) ({ cls := "WireMessages$Reader", name := "takeOwner", desc := "(I)Z" } : MethodName)) ∈ GT := gt_mem 272 (by decide +kernel) rfl
theorem g_274 : (Cond.instanceMethod ({ cls := "WireMessages$Reader", name := "takeOwner", desc := "(I)Z" } : MethodName)) ∈ GT := gt_mem 274 (by decide +kernel) rfl
theorem g_275 : (Cond.code ({ cls := "WireMessages$Reader", name := "takeOwner", desc := "(I)Z" } : MethodName) prog_7_method_9_code (4 : Nat) (Option.some FieldType.boolean)) ∈ GT := gt_mem 275 (by decide +kernel) rfl
theorem g_307 : (Cond.methodLinkNest "WireMessages$Reader" (68 : Nat) ({ cls := "WireMessages$Gathered", name := "keep", desc := "(IIIIII)Z" } : MethodName) "WireMessages") ∈ GT := gt_mem 307 (by decide +kernel) rfl
theorem g_309 : (Cond.instanceMethod ({ cls := "WireMessages$Gathered", name := "keep", desc := "(IIIIII)Z" } : MethodName)) ∈ GT := gt_mem 309 (by decide +kernel) rfl
theorem g_310 : (Cond.code ({ cls := "WireMessages$Gathered", name := "keep", desc := "(IIIIII)Z" } : MethodName) prog_4_method_5_code (8 : Nat) (Option.some FieldType.boolean)) ∈ GT := gt_mem 310 (by decide +kernel) rfl
theorem g_324 : (Cond.methodLink "WireMessages$Reader" (72 : Nat) ({ cls := "WireMessages$Reader", name := "takeData", desc := "(III)Z" } : MethodName)) ∈ GT := gt_mem 324 (by decide +kernel) rfl
theorem g_326 : (Cond.instanceMethod ({ cls := "WireMessages$Reader", name := "takeData", desc := "(III)Z" } : MethodName)) ∈ GT := gt_mem 326 (by decide +kernel) rfl
theorem g_327 : (Cond.code ({ cls := "WireMessages$Reader", name := "takeData", desc := "(III)Z" } : MethodName) prog_7_method_13_code (4 : Nat) (Option.some FieldType.boolean)) ∈ GT := gt_mem 327 (by decide +kernel) rfl
theorem g_356 : (Cond.methodLinkNest "WireMessages$Reader" (76 : Nat) ({ cls := "WireMessages$Bytes", name := "fourAt", desc := "(I)I" } : MethodName) "WireMessages") ∈ GT := gt_mem 356 (by decide +kernel) rfl
theorem g_358 : (Cond.instanceMethod ({ cls := "WireMessages$Bytes", name := "fourAt", desc := "(I)I" } : MethodName)) ∈ GT := gt_mem 358 (by decide +kernel) rfl
theorem g_359 : (Cond.code ({ cls := "WireMessages$Bytes", name := "fourAt", desc := "(I)I" } : MethodName) prog_2_method_4_code (2 : Nat) (Option.some FieldType.int)) ∈ GT := gt_mem 359 (by decide +kernel) rfl
theorem g_492 : (Cond.methodLink "WireMessages$Reader" (79 : Nat) ({ cls := "WireMessages$Reader", name := "takeBackTo", desc := "(I)Z" } : MethodName)) ∈ GT := gt_mem 492 (by decide +kernel) rfl
theorem g_494 : (Cond.instanceMethod ({ cls := "WireMessages$Reader", name := "takeBackTo", desc := "(I)Z" } : MethodName)) ∈ GT := gt_mem 494 (by decide +kernel) rfl
theorem g_495 : (Cond.code ({ cls := "WireMessages$Reader", name := "takeBackTo", desc := "(I)Z" } : MethodName) prog_7_method_8_code (2 : Nat) (Option.some FieldType.boolean)) ∈ GT := gt_mem 495 (by decide +kernel) rfl
theorem gs_Re_takeOwner : Cond.selects R_Re y_Re_takeOwner y_Re_takeOwner ∈ GT := gt_sel (q := (⟨"WireMessages$Reader", "takeOwner", "(I)Z"⟩, 8)) (by decide +kernel)
theorem gs_Re_takeBackTo : Cond.selects R_Re y_Re_takeBackTo y_Re_takeBackTo ∈ GT := gt_sel (q := (⟨"WireMessages$Reader", "takeBackTo", "(I)Z"⟩, 8)) (by decide +kernel)
theorem gs_Re_takeData : Cond.selects R_Re y_Re_takeData y_Re_takeData ∈ GT := gt_sel (q := (⟨"WireMessages$Reader", "takeData", "(III)Z"⟩, 8)) (by decide +kernel)
theorem gs_Ga_keep : Cond.selects R_Ga y_Ga_keep y_Ga_keep ∈ GT := gt_sel (q := (⟨"WireMessages$Gathered", "keep", "(IIIIII)Z"⟩, 11)) (by decide +kernel)
theorem gs_By_fourAt : Cond.selects R_By y_By_fourAt y_By_fourAt ∈ GT := gt_sel (q := (⟨"WireMessages$Bytes", "fourAt", "(I)I"⟩, 2)) (by decide +kernel)
theorem d_Re_takeQuestion_0 : decode b_Re_takeQuestion 0 = .ok (.aload_n 0, 1) := by decide +kernel
theorem d_Re_takeQuestion_1 : decode b_Re_takeQuestion 1 = .ok (.getfield 41, 3) := by decide +kernel
theorem d_Re_takeQuestion_4 : decode b_Re_takeQuestion 4 = .ok (.istore_n 1, 1) := by decide +kernel
theorem d_Re_takeQuestion_5 : decode b_Re_takeQuestion 5 = .ok (.aload_n 0, 1) := by decide +kernel
theorem d_Re_takeQuestion_6 : decode b_Re_takeQuestion 6 = .ok (.getfield 15, 3) := by decide +kernel
theorem d_Re_takeQuestion_9 : decode b_Re_takeQuestion 9 = .ok (.getfield 59, 3) := by decide +kernel
theorem d_Re_takeQuestion_12 : decode b_Re_takeQuestion 12 = .ok (.getfield 44, 3) := by decide +kernel
theorem d_Re_takeQuestion_15 : decode b_Re_takeQuestion 15 = .ok (.istore_n 2, 1) := by decide +kernel
theorem d_Re_takeQuestion_16 : decode b_Re_takeQuestion 16 = .ok (.aload_n 0, 1) := by decide +kernel
theorem d_Re_takeQuestion_17 : decode b_Re_takeQuestion 17 = .ok (.iload_n 1, 1) := by decide +kernel
theorem d_Re_takeQuestion_18 : decode b_Re_takeQuestion 18 = .ok (.invokevirtual 62, 3) := by decide +kernel
theorem d_Re_takeQuestion_21 : decode b_Re_takeQuestion 21 = .ok (.ifCond .ne 5, 3) := by decide +kernel
theorem d_Re_takeQuestion_24 : decode b_Re_takeQuestion 24 = .ok (.iconst 0, 1) := by decide +kernel
theorem d_Re_takeQuestion_25 : decode b_Re_takeQuestion 25 = .ok (.ireturn, 1) := by decide +kernel
theorem d_Re_takeQuestion_26 : decode b_Re_takeQuestion 26 = .ok (.aload_n 0, 1) := by decide +kernel
theorem d_Re_takeQuestion_27 : decode b_Re_takeQuestion 27 = .ok (.getfield 41, 3) := by decide +kernel
theorem d_Re_takeQuestion_30 : decode b_Re_takeQuestion 30 = .ok (.istore_n 3, 1) := by decide +kernel
theorem d_Re_takeQuestion_31 : decode b_Re_takeQuestion 31 = .ok (.iload_n 3, 1) := by decide +kernel
theorem d_Re_takeQuestion_32 : decode b_Re_takeQuestion 32 = .ok (.iconst 4, 1) := by decide +kernel
theorem d_Re_takeQuestion_33 : decode b_Re_takeQuestion 33 = .ok (.iadd, 1) := by decide +kernel
theorem d_Re_takeQuestion_34 : decode b_Re_takeQuestion 34 = .ok (.aload_n 0, 1) := by decide +kernel
theorem d_Re_takeQuestion_35 : decode b_Re_takeQuestion 35 = .ok (.getfield 9, 3) := by decide +kernel
theorem d_Re_takeQuestion_38 : decode b_Re_takeQuestion 38 = .ok (.getfield 44, 3) := by decide +kernel
theorem d_Re_takeQuestion_41 : decode b_Re_takeQuestion 41 = .ok (.if_icmp .le 10, 3) := by decide +kernel
theorem d_Re_takeQuestion_44 : decode b_Re_takeQuestion 44 = .ok (.aload_n 0, 1) := by decide +kernel
theorem d_Re_takeQuestion_45 : decode b_Re_takeQuestion 45 = .ok (.iconst 1, 1) := by decide +kernel
theorem d_Re_takeQuestion_46 : decode b_Re_takeQuestion 46 = .ok (.iload_n 3, 1) := by decide +kernel
theorem d_Re_takeQuestion_47 : decode b_Re_takeQuestion 47 = .ok (.invokevirtual 47, 3) := by decide +kernel
theorem d_Re_takeQuestion_50 : decode b_Re_takeQuestion 50 = .ok (.ireturn, 1) := by decide +kernel
theorem d_Re_takeQuestion_51 : decode b_Re_takeQuestion 51 = .ok (.aload_n 0, 1) := by decide +kernel
theorem d_Re_takeQuestion_52 : decode b_Re_takeQuestion 52 = .ok (.iload_n 3, 1) := by decide +kernel
theorem d_Re_takeQuestion_53 : decode b_Re_takeQuestion 53 = .ok (.iconst 4, 1) := by decide +kernel
theorem d_Re_takeQuestion_54 : decode b_Re_takeQuestion 54 = .ok (.iadd, 1) := by decide +kernel
theorem d_Re_takeQuestion_55 : decode b_Re_takeQuestion 55 = .ok (.putfield 41, 3) := by decide +kernel
theorem d_Re_takeQuestion_58 : decode b_Re_takeQuestion 58 = .ok (.aload_n 0, 1) := by decide +kernel
theorem d_Re_takeQuestion_59 : decode b_Re_takeQuestion 59 = .ok (.getfield 15, 3) := by decide +kernel
theorem d_Re_takeQuestion_62 : decode b_Re_takeQuestion 62 = .ok (.iconst 0, 1) := by decide +kernel
theorem d_Re_takeQuestion_63 : decode b_Re_takeQuestion 63 = .ok (.iload_n 2, 1) := by decide +kernel
theorem d_Re_takeQuestion_64 : decode b_Re_takeQuestion 64 = .ok (.aload_n 0, 1) := by decide +kernel
theorem d_Re_takeQuestion_65 : decode b_Re_takeQuestion 65 = .ok (.getfield 65, 3) := by decide +kernel
theorem d_Re_takeQuestion_68 : decode b_Re_takeQuestion 68 = .ok (.aload_n 0, 1) := by decide +kernel
theorem d_Re_takeQuestion_69 : decode b_Re_takeQuestion 69 = .ok (.getfield 9, 3) := by decide +kernel
theorem d_Re_takeQuestion_72 : decode b_Re_takeQuestion 72 = .ok (.iload_n 3, 1) := by decide +kernel
theorem d_Re_takeQuestion_73 : decode b_Re_takeQuestion 73 = .ok (.invokevirtual 29, 3) := by decide +kernel
theorem d_Re_takeQuestion_76 : decode b_Re_takeQuestion 76 = .ok (.aload_n 0, 1) := by decide +kernel
theorem d_Re_takeQuestion_77 : decode b_Re_takeQuestion 77 = .ok (.getfield 9, 3) := by decide +kernel
theorem d_Re_takeQuestion_80 : decode b_Re_takeQuestion 80 = .ok (.iload_n 3, 1) := by decide +kernel
theorem d_Re_takeQuestion_81 : decode b_Re_takeQuestion 81 = .ok (.iconst 2, 1) := by decide +kernel
theorem d_Re_takeQuestion_82 : decode b_Re_takeQuestion 82 = .ok (.iadd, 1) := by decide +kernel
theorem d_Re_takeQuestion_83 : decode b_Re_takeQuestion 83 = .ok (.invokevirtual 29, 3) := by decide +kernel
theorem d_Re_takeQuestion_86 : decode b_Re_takeQuestion 86 = .ok (.iconst 0, 1) := by decide +kernel
theorem d_Re_takeQuestion_87 : decode b_Re_takeQuestion 87 = .ok (.invokevirtual 68, 3) := by decide +kernel
theorem d_Re_takeQuestion_90 : decode b_Re_takeQuestion 90 = .ok (.istore 4, 2) := by decide +kernel
theorem d_Re_takeQuestion_92 : decode b_Re_takeQuestion 92 = .ok (.iload 4, 2) := by decide +kernel
theorem d_Re_takeQuestion_94 : decode b_Re_takeQuestion 94 = .ok (.ifCond .ne 13, 3) := by decide +kernel
theorem d_Re_takeQuestion_97 : decode b_Re_takeQuestion 97 = .ok (.aload_n 0, 1) := by decide +kernel
theorem d_Re_takeQuestion_98 : decode b_Re_takeQuestion 98 = .ok (.bipush 7, 2) := by decide +kernel
theorem d_Re_takeQuestion_100 : decode b_Re_takeQuestion 100 = .ok (.iload_n 1, 1) := by decide +kernel
theorem d_Re_takeQuestion_101 : decode b_Re_takeQuestion 101 = .ok (.invokevirtual 47, 3) := by decide +kernel
theorem d_Re_takeQuestion_104 : decode b_Re_takeQuestion 104 = .ok (.ifCond .eq 7, 3) := by decide +kernel
theorem d_Re_takeQuestion_107 : decode b_Re_takeQuestion 107 = .ok (.iconst 1, 1) := by decide +kernel
theorem d_Re_takeQuestion_108 : decode b_Re_takeQuestion 108 = .ok (.goto 4, 3) := by decide +kernel
theorem d_Re_takeQuestion_111 : decode b_Re_takeQuestion 111 = .ok (.iconst 0, 1) := by decide +kernel
theorem d_Re_takeQuestion_112 : decode b_Re_takeQuestion 112 = .ok (.ireturn, 1) := by decide +kernel
theorem d_Re_takeRecord_0 : decode b_Re_takeRecord 0 = .ok (.aload_n 0, 1) := by decide +kernel
theorem d_Re_takeRecord_1 : decode b_Re_takeRecord 1 = .ok (.getfield 41, 3) := by decide +kernel
theorem d_Re_takeRecord_4 : decode b_Re_takeRecord 4 = .ok (.istore_n 2, 1) := by decide +kernel
theorem d_Re_takeRecord_5 : decode b_Re_takeRecord 5 = .ok (.aload_n 0, 1) := by decide +kernel
theorem d_Re_takeRecord_6 : decode b_Re_takeRecord 6 = .ok (.getfield 15, 3) := by decide +kernel
theorem d_Re_takeRecord_9 : decode b_Re_takeRecord 9 = .ok (.getfield 59, 3) := by decide +kernel
theorem d_Re_takeRecord_12 : decode b_Re_takeRecord 12 = .ok (.getfield 44, 3) := by decide +kernel
theorem d_Re_takeRecord_15 : decode b_Re_takeRecord 15 = .ok (.istore_n 3, 1) := by decide +kernel
theorem d_Re_takeRecord_16 : decode b_Re_takeRecord 16 = .ok (.aload_n 0, 1) := by decide +kernel
theorem d_Re_takeRecord_17 : decode b_Re_takeRecord 17 = .ok (.iload_n 2, 1) := by decide +kernel
theorem d_Re_takeRecord_18 : decode b_Re_takeRecord 18 = .ok (.invokevirtual 62, 3) := by decide +kernel
theorem d_Re_takeRecord_21 : decode b_Re_takeRecord 21 = .ok (.ifCond .ne 5, 3) := by decide +kernel
theorem d_Re_takeRecord_24 : decode b_Re_takeRecord 24 = .ok (.iconst 0, 1) := by decide +kernel
theorem d_Re_takeRecord_25 : decode b_Re_takeRecord 25 = .ok (.ireturn, 1) := by decide +kernel
theorem d_Re_takeRecord_26 : decode b_Re_takeRecord 26 = .ok (.aload_n 0, 1) := by decide +kernel
theorem d_Re_takeRecord_27 : decode b_Re_takeRecord 27 = .ok (.getfield 41, 3) := by decide +kernel
theorem d_Re_takeRecord_30 : decode b_Re_takeRecord 30 = .ok (.istore 4, 2) := by decide +kernel
theorem d_Re_takeRecord_32 : decode b_Re_takeRecord 32 = .ok (.iload 4, 2) := by decide +kernel
theorem d_Re_takeRecord_34 : decode b_Re_takeRecord 34 = .ok (.bipush 10, 2) := by decide +kernel
theorem d_Re_takeRecord_36 : decode b_Re_takeRecord 36 = .ok (.iadd, 1) := by decide +kernel
theorem d_Re_takeRecord_37 : decode b_Re_takeRecord 37 = .ok (.istore 5, 2) := by decide +kernel
theorem d_Re_takeRecord_39 : decode b_Re_takeRecord 39 = .ok (.iload 5, 2) := by decide +kernel
theorem d_Re_takeRecord_41 : decode b_Re_takeRecord 41 = .ok (.aload_n 0, 1) := by decide +kernel
theorem d_Re_takeRecord_42 : decode b_Re_takeRecord 42 = .ok (.getfield 9, 3) := by decide +kernel
theorem d_Re_takeRecord_45 : decode b_Re_takeRecord 45 = .ok (.getfield 44, 3) := by decide +kernel
theorem d_Re_takeRecord_48 : decode b_Re_takeRecord 48 = .ok (.if_icmp .le 11, 3) := by decide +kernel
theorem d_Re_takeRecord_51 : decode b_Re_takeRecord 51 = .ok (.aload_n 0, 1) := by decide +kernel
theorem d_Re_takeRecord_52 : decode b_Re_takeRecord 52 = .ok (.iconst 1, 1) := by decide +kernel
theorem d_Re_takeRecord_53 : decode b_Re_takeRecord 53 = .ok (.iload 4, 2) := by decide +kernel
theorem d_Re_takeRecord_55 : decode b_Re_takeRecord 55 = .ok (.invokevirtual 47, 3) := by decide +kernel
theorem d_Re_takeRecord_58 : decode b_Re_takeRecord 58 = .ok (.ireturn, 1) := by decide +kernel
theorem d_Re_takeRecord_59 : decode b_Re_takeRecord 59 = .ok (.iload 5, 2) := by decide +kernel
theorem d_Re_takeRecord_61 : decode b_Re_takeRecord 61 = .ok (.aload_n 0, 1) := by decide +kernel
theorem d_Re_takeRecord_62 : decode b_Re_takeRecord 62 = .ok (.getfield 9, 3) := by decide +kernel
theorem d_Re_takeRecord_65 : decode b_Re_takeRecord 65 = .ok (.iload 4, 2) := by decide +kernel
theorem d_Re_takeRecord_67 : decode b_Re_takeRecord 67 = .ok (.bipush 8, 2) := by decide +kernel
theorem d_Re_takeRecord_69 : decode b_Re_takeRecord 69 = .ok (.iadd, 1) := by decide +kernel
theorem d_Re_takeRecord_70 : decode b_Re_takeRecord 70 = .ok (.invokevirtual 29, 3) := by decide +kernel
theorem d_Re_takeRecord_73 : decode b_Re_takeRecord 73 = .ok (.iadd, 1) := by decide +kernel
theorem d_Re_takeRecord_74 : decode b_Re_takeRecord 74 = .ok (.istore 6, 2) := by decide +kernel
theorem d_Re_takeRecord_76 : decode b_Re_takeRecord 76 = .ok (.iload 6, 2) := by decide +kernel
theorem d_Re_takeRecord_78 : decode b_Re_takeRecord 78 = .ok (.aload_n 0, 1) := by decide +kernel
theorem d_Re_takeRecord_79 : decode b_Re_takeRecord 79 = .ok (.getfield 9, 3) := by decide +kernel
theorem d_Re_takeRecord_82 : decode b_Re_takeRecord 82 = .ok (.getfield 44, 3) := by decide +kernel
theorem d_Re_takeRecord_85 : decode b_Re_takeRecord 85 = .ok (.if_icmp .le 11, 3) := by decide +kernel
theorem d_Re_takeRecord_88 : decode b_Re_takeRecord 88 = .ok (.aload_n 0, 1) := by decide +kernel
theorem d_Re_takeRecord_89 : decode b_Re_takeRecord 89 = .ok (.iconst 1, 1) := by decide +kernel
theorem d_Re_takeRecord_90 : decode b_Re_takeRecord 90 = .ok (.iload 5, 2) := by decide +kernel
theorem d_Re_takeRecord_92 : decode b_Re_takeRecord 92 = .ok (.invokevirtual 47, 3) := by decide +kernel
theorem d_Re_takeRecord_95 : decode b_Re_takeRecord 95 = .ok (.ireturn, 1) := by decide +kernel
theorem d_Re_takeRecord_96 : decode b_Re_takeRecord 96 = .ok (.aload_n 0, 1) := by decide +kernel
theorem d_Re_takeRecord_97 : decode b_Re_takeRecord 97 = .ok (.getfield 9, 3) := by decide +kernel
theorem d_Re_takeRecord_100 : decode b_Re_takeRecord 100 = .ok (.iload 4, 2) := by decide +kernel
theorem d_Re_takeRecord_102 : decode b_Re_takeRecord 102 = .ok (.invokevirtual 29, 3) := by decide +kernel
theorem d_Re_takeRecord_105 : decode b_Re_takeRecord 105 = .ok (.istore 7, 2) := by decide +kernel
theorem d_Re_takeRecord_107 : decode b_Re_takeRecord 107 = .ok (.aload_n 0, 1) := by decide +kernel
theorem d_Re_takeRecord_108 : decode b_Re_takeRecord 108 = .ok (.iload 7, 2) := by decide +kernel
theorem d_Re_takeRecord_110 : decode b_Re_takeRecord 110 = .ok (.iload 5, 2) := by decide +kernel
theorem d_Re_takeRecord_112 : decode b_Re_takeRecord 112 = .ok (.iload 6, 2) := by decide +kernel
theorem d_Re_takeRecord_114 : decode b_Re_takeRecord 114 = .ok (.invokevirtual 72, 3) := by decide +kernel
theorem d_Re_takeRecord_117 : decode b_Re_takeRecord 117 = .ok (.ifCond .ne 5, 3) := by decide +kernel
theorem d_Re_takeRecord_120 : decode b_Re_takeRecord 120 = .ok (.iconst 0, 1) := by decide +kernel
theorem d_Re_takeRecord_121 : decode b_Re_takeRecord 121 = .ok (.ireturn, 1) := by decide +kernel
theorem d_Re_takeRecord_122 : decode b_Re_takeRecord 122 = .ok (.aload_n 0, 1) := by decide +kernel
theorem d_Re_takeRecord_123 : decode b_Re_takeRecord 123 = .ok (.iload 6, 2) := by decide +kernel
theorem d_Re_takeRecord_125 : decode b_Re_takeRecord 125 = .ok (.putfield 41, 3) := by decide +kernel
theorem d_Re_takeRecord_128 : decode b_Re_takeRecord 128 = .ok (.aload_n 0, 1) := by decide +kernel
theorem d_Re_takeRecord_129 : decode b_Re_takeRecord 129 = .ok (.getfield 9, 3) := by decide +kernel
theorem d_Re_takeRecord_132 : decode b_Re_takeRecord 132 = .ok (.iload 4, 2) := by decide +kernel
theorem d_Re_takeRecord_134 : decode b_Re_takeRecord 134 = .ok (.iconst 2, 1) := by decide +kernel
theorem d_Re_takeRecord_135 : decode b_Re_takeRecord 135 = .ok (.iadd, 1) := by decide +kernel
theorem d_Re_takeRecord_136 : decode b_Re_takeRecord 136 = .ok (.invokevirtual 29, 3) := by decide +kernel
theorem d_Re_takeRecord_139 : decode b_Re_takeRecord 139 = .ok (.istore 8, 2) := by decide +kernel
theorem d_Re_takeRecord_141 : decode b_Re_takeRecord 141 = .ok (.aload_n 0, 1) := by decide +kernel
theorem d_Re_takeRecord_142 : decode b_Re_takeRecord 142 = .ok (.getfield 15, 3) := by decide +kernel
theorem d_Re_takeRecord_145 : decode b_Re_takeRecord 145 = .ok (.iload_n 1, 1) := by decide +kernel
theorem d_Re_takeRecord_146 : decode b_Re_takeRecord 146 = .ok (.iload_n 3, 1) := by decide +kernel
theorem d_Re_takeRecord_147 : decode b_Re_takeRecord 147 = .ok (.aload_n 0, 1) := by decide +kernel
theorem d_Re_takeRecord_148 : decode b_Re_takeRecord 148 = .ok (.getfield 65, 3) := by decide +kernel
theorem d_Re_takeRecord_151 : decode b_Re_takeRecord 151 = .ok (.iload 7, 2) := by decide +kernel
theorem d_Re_takeRecord_153 : decode b_Re_takeRecord 153 = .ok (.iload 8, 2) := by decide +kernel
theorem d_Re_takeRecord_155 : decode b_Re_takeRecord 155 = .ok (.aload_n 0, 1) := by decide +kernel
theorem d_Re_takeRecord_156 : decode b_Re_takeRecord 156 = .ok (.getfield 9, 3) := by decide +kernel
theorem d_Re_takeRecord_159 : decode b_Re_takeRecord 159 = .ok (.iload 4, 2) := by decide +kernel
theorem d_Re_takeRecord_161 : decode b_Re_takeRecord 161 = .ok (.iconst 4, 1) := by decide +kernel
theorem d_Re_takeRecord_162 : decode b_Re_takeRecord 162 = .ok (.iadd, 1) := by decide +kernel
theorem d_Re_takeRecord_163 : decode b_Re_takeRecord 163 = .ok (.invokevirtual 76, 3) := by decide +kernel
theorem d_Re_takeRecord_166 : decode b_Re_takeRecord 166 = .ok (.invokevirtual 68, 3) := by decide +kernel
theorem d_Re_takeRecord_169 : decode b_Re_takeRecord 169 = .ok (.istore 9, 2) := by decide +kernel
theorem d_Re_takeRecord_171 : decode b_Re_takeRecord 171 = .ok (.iload 9, 2) := by decide +kernel
theorem d_Re_takeRecord_173 : decode b_Re_takeRecord 173 = .ok (.ifCond .ne 13, 3) := by decide +kernel
theorem d_Re_takeRecord_176 : decode b_Re_takeRecord 176 = .ok (.aload_n 0, 1) := by decide +kernel
theorem d_Re_takeRecord_177 : decode b_Re_takeRecord 177 = .ok (.bipush 7, 2) := by decide +kernel
theorem d_Re_takeRecord_179 : decode b_Re_takeRecord 179 = .ok (.iload_n 2, 1) := by decide +kernel
theorem d_Re_takeRecord_180 : decode b_Re_takeRecord 180 = .ok (.invokevirtual 47, 3) := by decide +kernel
theorem d_Re_takeRecord_183 : decode b_Re_takeRecord 183 = .ok (.ifCond .eq 7, 3) := by decide +kernel
theorem d_Re_takeRecord_186 : decode b_Re_takeRecord 186 = .ok (.iconst 1, 1) := by decide +kernel
theorem d_Re_takeRecord_187 : decode b_Re_takeRecord 187 = .ok (.goto 4, 3) := by decide +kernel
theorem d_Re_takeRecord_190 : decode b_Re_takeRecord 190 = .ok (.iconst 0, 1) := by decide +kernel
theorem d_Re_takeRecord_191 : decode b_Re_takeRecord 191 = .ok (.ireturn, 1) := by decide +kernel
theorem d_Re_takeTapeAsName_0 : decode b_Re_takeTapeAsName 0 = .ok (.aload_n 0, 1) := by decide +kernel
theorem d_Re_takeTapeAsName_1 : decode b_Re_takeTapeAsName 1 = .ok (.getfield 15, 3) := by decide +kernel
theorem d_Re_takeTapeAsName_4 : decode b_Re_takeTapeAsName 4 = .ok (.getfield 59, 3) := by decide +kernel
theorem d_Re_takeTapeAsName_7 : decode b_Re_takeTapeAsName 7 = .ok (.getfield 44, 3) := by decide +kernel
theorem d_Re_takeTapeAsName_10 : decode b_Re_takeTapeAsName 10 = .ok (.istore_n 1, 1) := by decide +kernel
theorem d_Re_takeTapeAsName_11 : decode b_Re_takeTapeAsName 11 = .ok (.aload_n 0, 1) := by decide +kernel
theorem d_Re_takeTapeAsName_12 : decode b_Re_takeTapeAsName 12 = .ok (.iconst 0, 1) := by decide +kernel
theorem d_Re_takeTapeAsName_13 : decode b_Re_takeTapeAsName 13 = .ok (.putfield 26, 3) := by decide +kernel
theorem d_Re_takeTapeAsName_16 : decode b_Re_takeTapeAsName 16 = .ok (.aload_n 0, 1) := by decide +kernel
theorem d_Re_takeTapeAsName_17 : decode b_Re_takeTapeAsName 17 = .ok (.iconst 0, 1) := by decide +kernel
theorem d_Re_takeTapeAsName_18 : decode b_Re_takeTapeAsName 18 = .ok (.invokevirtual 62, 3) := by decide +kernel
theorem d_Re_takeTapeAsName_21 : decode b_Re_takeTapeAsName 21 = .ok (.ifCond .eq 28, 3) := by decide +kernel
theorem d_Re_takeTapeAsName_24 : decode b_Re_takeTapeAsName 24 = .ok (.aload_n 0, 1) := by decide +kernel
theorem d_Re_takeTapeAsName_25 : decode b_Re_takeTapeAsName 25 = .ok (.getfield 41, 3) := by decide +kernel
theorem d_Re_takeTapeAsName_28 : decode b_Re_takeTapeAsName 28 = .ok (.aload_n 0, 1) := by decide +kernel
theorem d_Re_takeTapeAsName_29 : decode b_Re_takeTapeAsName 29 = .ok (.getfield 9, 3) := by decide +kernel
theorem d_Re_takeTapeAsName_32 : decode b_Re_takeTapeAsName 32 = .ok (.getfield 44, 3) := by decide +kernel
theorem d_Re_takeTapeAsName_35 : decode b_Re_takeTapeAsName 35 = .ok (.if_icmp .ne 14, 3) := by decide +kernel
theorem d_Re_takeTapeAsName_38 : decode b_Re_takeTapeAsName 38 = .ok (.aload_n 0, 1) := by decide +kernel
theorem d_Re_takeTapeAsName_39 : decode b_Re_takeTapeAsName 39 = .ok (.getfield 26, 3) := by decide +kernel
theorem d_Re_takeTapeAsName_42 : decode b_Re_takeTapeAsName 42 = .ok (.ifCond .ne 7, 3) := by decide +kernel
theorem d_Re_takeTapeAsName_45 : decode b_Re_takeTapeAsName 45 = .ok (.iconst 1, 1) := by decide +kernel
theorem d_Re_takeTapeAsName_46 : decode b_Re_takeTapeAsName 46 = .ok (.goto 4, 3) := by decide +kernel
theorem d_Re_takeTapeAsName_49 : decode b_Re_takeTapeAsName 49 = .ok (.iconst 0, 1) := by decide +kernel
theorem d_Re_takeTapeAsName_50 : decode b_Re_takeTapeAsName 50 = .ok (.istore_n 2, 1) := by decide +kernel
theorem d_Re_takeTapeAsName_51 : decode b_Re_takeTapeAsName 51 = .ok (.iload_n 2, 1) := by decide +kernel
theorem d_Re_takeTapeAsName_52 : decode b_Re_takeTapeAsName 52 = .ok (.ifCond .ne 11, 3) := by decide +kernel
theorem d_Re_takeTapeAsName_55 : decode b_Re_takeTapeAsName 55 = .ok (.aload_n 0, 1) := by decide +kernel
theorem d_Re_takeTapeAsName_56 : decode b_Re_takeTapeAsName 56 = .ok (.iload_n 1, 1) := by decide +kernel
theorem d_Re_takeTapeAsName_57 : decode b_Re_takeTapeAsName 57 = .ok (.invokevirtual 79, 3) := by decide +kernel
theorem d_Re_takeTapeAsName_60 : decode b_Re_takeTapeAsName 60 = .ok (.ifCond .eq 7, 3) := by decide +kernel
theorem d_Re_takeTapeAsName_63 : decode b_Re_takeTapeAsName 63 = .ok (.iconst 1, 1) := by decide +kernel
theorem d_Re_takeTapeAsName_64 : decode b_Re_takeTapeAsName 64 = .ok (.goto 4, 3) := by decide +kernel
theorem d_Re_takeTapeAsName_67 : decode b_Re_takeTapeAsName 67 = .ok (.iconst 0, 1) := by decide +kernel
theorem d_Re_takeTapeAsName_68 : decode b_Re_takeTapeAsName 68 = .ok (.ireturn, 1) := by decide +kernel
theorem d_Re_takeTapeAsNameAndData_0 : decode b_Re_takeTapeAsNameAndData 0 = .ok (.aload_n 0, 1) := by decide +kernel
theorem d_Re_takeTapeAsNameAndData_1 : decode b_Re_takeTapeAsNameAndData 1 = .ok (.getfield 15, 3) := by decide +kernel
theorem d_Re_takeTapeAsNameAndData_4 : decode b_Re_takeTapeAsNameAndData 4 = .ok (.getfield 59, 3) := by decide +kernel
theorem d_Re_takeTapeAsNameAndData_7 : decode b_Re_takeTapeAsNameAndData 7 = .ok (.getfield 44, 3) := by decide +kernel
theorem d_Re_takeTapeAsNameAndData_10 : decode b_Re_takeTapeAsNameAndData 10 = .ok (.istore_n 2, 1) := by decide +kernel
theorem d_Re_takeTapeAsNameAndData_11 : decode b_Re_takeTapeAsNameAndData 11 = .ok (.aload_n 0, 1) := by decide +kernel
theorem d_Re_takeTapeAsNameAndData_12 : decode b_Re_takeTapeAsNameAndData 12 = .ok (.iconst 0, 1) := by decide +kernel
theorem d_Re_takeTapeAsNameAndData_13 : decode b_Re_takeTapeAsNameAndData 13 = .ok (.putfield 26, 3) := by decide +kernel
theorem d_Re_takeTapeAsNameAndData_16 : decode b_Re_takeTapeAsNameAndData 16 = .ok (.aload_n 0, 1) := by decide +kernel
theorem d_Re_takeTapeAsNameAndData_17 : decode b_Re_takeTapeAsNameAndData 17 = .ok (.iconst 0, 1) := by decide +kernel
theorem d_Re_takeTapeAsNameAndData_18 : decode b_Re_takeTapeAsNameAndData 18 = .ok (.invokevirtual 62, 3) := by decide +kernel
theorem d_Re_takeTapeAsNameAndData_21 : decode b_Re_takeTapeAsNameAndData 21 = .ok (.ifCond .eq 33, 3) := by decide +kernel
theorem d_Re_takeTapeAsNameAndData_24 : decode b_Re_takeTapeAsNameAndData 24 = .ok (.aload_n 0, 1) := by decide +kernel
theorem d_Re_takeTapeAsNameAndData_25 : decode b_Re_takeTapeAsNameAndData 25 = .ok (.iload_n 1, 1) := by decide +kernel
theorem d_Re_takeTapeAsNameAndData_26 : decode b_Re_takeTapeAsNameAndData 26 = .ok (.aload_n 0, 1) := by decide +kernel
theorem d_Re_takeTapeAsNameAndData_27 : decode b_Re_takeTapeAsNameAndData 27 = .ok (.getfield 41, 3) := by decide +kernel
theorem d_Re_takeTapeAsNameAndData_30 : decode b_Re_takeTapeAsNameAndData 30 = .ok (.aload_n 0, 1) := by decide +kernel
theorem d_Re_takeTapeAsNameAndData_31 : decode b_Re_takeTapeAsNameAndData 31 = .ok (.getfield 9, 3) := by decide +kernel
theorem d_Re_takeTapeAsNameAndData_34 : decode b_Re_takeTapeAsNameAndData 34 = .ok (.getfield 44, 3) := by decide +kernel
theorem d_Re_takeTapeAsNameAndData_37 : decode b_Re_takeTapeAsNameAndData 37 = .ok (.invokevirtual 72, 3) := by decide +kernel
theorem d_Re_takeTapeAsNameAndData_40 : decode b_Re_takeTapeAsNameAndData 40 = .ok (.ifCond .eq 14, 3) := by decide +kernel
theorem d_Re_takeTapeAsNameAndData_43 : decode b_Re_takeTapeAsNameAndData 43 = .ok (.aload_n 0, 1) := by decide +kernel
theorem d_Re_takeTapeAsNameAndData_44 : decode b_Re_takeTapeAsNameAndData 44 = .ok (.getfield 26, 3) := by decide +kernel
theorem d_Re_takeTapeAsNameAndData_47 : decode b_Re_takeTapeAsNameAndData 47 = .ok (.ifCond .ne 7, 3) := by decide +kernel
theorem d_Re_takeTapeAsNameAndData_50 : decode b_Re_takeTapeAsNameAndData 50 = .ok (.iconst 1, 1) := by decide +kernel
theorem d_Re_takeTapeAsNameAndData_51 : decode b_Re_takeTapeAsNameAndData 51 = .ok (.goto 4, 3) := by decide +kernel
theorem d_Re_takeTapeAsNameAndData_54 : decode b_Re_takeTapeAsNameAndData 54 = .ok (.iconst 0, 1) := by decide +kernel
theorem d_Re_takeTapeAsNameAndData_55 : decode b_Re_takeTapeAsNameAndData 55 = .ok (.istore_n 3, 1) := by decide +kernel
theorem d_Re_takeTapeAsNameAndData_56 : decode b_Re_takeTapeAsNameAndData 56 = .ok (.iload_n 3, 1) := by decide +kernel
theorem d_Re_takeTapeAsNameAndData_57 : decode b_Re_takeTapeAsNameAndData 57 = .ok (.ifCond .ne 11, 3) := by decide +kernel
theorem d_Re_takeTapeAsNameAndData_60 : decode b_Re_takeTapeAsNameAndData 60 = .ok (.aload_n 0, 1) := by decide +kernel
theorem d_Re_takeTapeAsNameAndData_61 : decode b_Re_takeTapeAsNameAndData 61 = .ok (.iload_n 2, 1) := by decide +kernel
theorem d_Re_takeTapeAsNameAndData_62 : decode b_Re_takeTapeAsNameAndData 62 = .ok (.invokevirtual 79, 3) := by decide +kernel
theorem d_Re_takeTapeAsNameAndData_65 : decode b_Re_takeTapeAsNameAndData 65 = .ok (.ifCond .eq 7, 3) := by decide +kernel
theorem d_Re_takeTapeAsNameAndData_68 : decode b_Re_takeTapeAsNameAndData 68 = .ok (.iconst 1, 1) := by decide +kernel
theorem d_Re_takeTapeAsNameAndData_69 : decode b_Re_takeTapeAsNameAndData 69 = .ok (.goto 4, 3) := by decide +kernel
theorem d_Re_takeTapeAsNameAndData_72 : decode b_Re_takeTapeAsNameAndData 72 = .ok (.iconst 0, 1) := by decide +kernel
theorem d_Re_takeTapeAsNameAndData_73 : decode b_Re_takeTapeAsNameAndData 73 = .ok (.ireturn, 1) := by decide +kernel
set_option maxHeartbeats 4000000 in
set_option maxRecDepth 100000 in
/-- Reader.takeTapeAsName -/
theorem m_Re_takeTapeAsName (l : Launch) (D9 : va_G) (cB cI cJ cG : ClassId) (a : Nat → Nat) (O : Nat → Int64) (I : Nat → Int32) (F : Nat → Nat → Int32) (t : List Nat) (hT2 : I 2 = nI t.length) (htl : t.length ≤ 65536) (hT : BR 0 65536 (F 2) t) (L : List Nat) (hL3 : I 3 = nI L.length) (hLb : L.length < 200000) (hBL : BR 0 65536 (F 4) L) : MC l D9 cB cI cJ cG a O y_Re_takeTapeAsName b_Re_takeTapeAsName 3 (some .boolean) 4 [.ref (a 17)] I F (fun v I' F' => (∃ nm, qN t = some nm ∧ v = some (.int (nI 1)) ∧ sm [3, 6, 7, 8] I I' ∧ I' 3 = nI (L ++ nm).length ∧ I' 8 = nI nm.length ∧ sm [4] F F' ∧ BR 0 65536 (F' 4) (L ++ nm)) ∨ (qN t = none ∧ v = some (.int (nI 0)) ∧ sm [3, 4, 5, 6, 7, 8] I I' ∧ I' 3 = nI L.length ∧ sm [4] F F' ∧ BR 0 65536 (F' 4) L)) := by
  refine mc_of (by decide) (Nat.le_of_ble_eq_true rfl) ?_
  intro p e s m below meth c ls A0 Q C0 hP hD hA hS hl hret
  obtain ⟨hx, hb, hml, hr, hlocks, hown, hts, hK⟩ := id C0
  have hl : lv_has ls 3 [(0, .ref (a 17))] := hl
  refine lv_aload_n hx hb d_Re_takeTapeAsName_0 rfl (lv_at hl 0 rfl) ?_
  refine va_get (D := D9) (ci := 4) (C := R_Re) (T := F_Re) (N := 8) hx hb hts i_Re hown hK hP 17 ww_17 rfl 1 (by decide) (hts _ g_121) (fun _ h9 => h9) rfl d_Re_takeTapeAsName_1 ?_
  refine va_getN (D := D9) (ci := 2) (C := R_Ga) (T := F_Ga) (N := 11) hx hb hts i_Ga hown hK hP 19 ww_19 rfl 0 (by decide) (hts _ g_60) (fun _ h9 => h9) rfl d_Re_takeTapeAsName_4 ?_
  refine va_getN (D := D9) (ci := 0) (C := R_By) (T := F_By) (N := 2) hx hb hts i_By hown hK hP 3 ww_3 rfl 1 (by decide) (hts _ g_39) (fun _ h9 => h9) rfl d_Re_takeTapeAsName_7 ?_
  refine lv_topq (y := nI L.length) (hL3) ?_
  refine lv_istore_n (lv' := [(1, _), (0, _)]) hx hb d_Re_takeTapeAsName_10 rfl hl (by decide) rfl (fun ls hl => ?_)
  refine lv_aload_n hx hb d_Re_takeTapeAsName_11 rfl (lv_at hl 1 rfl) ?_
  refine lv_iconst (v := 0) hx hb d_Re_takeTapeAsName_12 (by decide) ?_
  refine lv_topq (y := nI 0) (rfl) ?_
  refine va_put (D := D9) (ty := .int) (ci := 4) (C := R_Re) (T := F_Re) (N := 8) hx hb hts i_Re t_Re t_Re_ok n_Re hown hK hP hD hS 17 ww_17 rfl 5 (by decide) (hts _ g_126) (fun _ h9 => h9) rfl (by decide +kernel) rfl rfl (Nat.le_of_ble_eq_true rfl) d_Re_takeTapeAsName_13 (fun H locs hP hD hS => ?_)
  obtain ⟨I1, aI1, sI1, hP, hD⟩ := fx (P := fun z => va_P D9 cls9 (WW a cB cI cJ cG z _ O) H ∧ va_D A0 (WW a cB cI cJ cG z _ O)) ⟨wp_7 hP, wd_7 hD⟩
  refine lv_aload_n hx hb d_Re_takeTapeAsName_16 rfl (lv_at hl 1 rfl) ?_
  refine lv_iconst (v := 0) hx hb d_Re_takeTapeAsName_17 (by decide) ?_
  refine lv_topq (y := nI 0) (rfl) ?_
  refine mw_cV (ci := 4) (k := 17) C0 (m_Re_takeOwner l D9 cB cI cJ cG a O _ _ t ((sI1 2 (by decide)).trans hT2) htl hT L 0 0 ((sI1 3 (by decide)).trans hL3) (by omega) hBL (by omega) aI1) g_275 g_4 g_272 g_274 gs_Re_takeOwner ⟨by decide +kernel, by decide +kernel, show Option.map (fun d => d.parameters.length) (parseMethodDescriptor y_Re_takeOwner.desc) = some 1 by decide +kernel⟩ ⟨by decide, by decide⟩ rfl rfl hP hD hS hA rfl ww_17 hl.1 (Nat.le_of_ble_eq_true rfl) rfl d_Re_takeTapeAsName_18 ⟨by decide, by decide⟩ (fun v9 w9 H locs hq hP hD hS => ?_)
  obtain ⟨I2, F3, hw9, q4⟩ := hq
  subst hw9
  rcases q4 with ⟨nm1, e1, c_1, hr1, rfl, sn1, z31, z61, z71, z81, sG1, wB1⟩ | ⟨hr1, rfl, sn1, z31, sG1, wB1⟩
  · have hbd1 := rn_bd hr1 (by decide)
    have hln1 : (L ++ nm1).length = L.length + nm1.length := List.length_append
    refine lv_if_eq (tgt := 49) hx hb d_Re_takeTapeAsName_21 (by decide) (fun c5 => ?_) (fun c5 => ?_)
    · exact absurd c5 (by decide)
    · refine lv_aload_n hx hb d_Re_takeTapeAsName_24 rfl (lv_at hl 1 rfl) ?_
      refine va_get (D := D9) (ci := 4) (C := R_Re) (T := F_Re) (N := 8) hx hb hts i_Re hown hK hP 17 ww_17 rfl 4 (by decide) (hts _ g_125) (fun _ h9 => h9) rfl d_Re_takeTapeAsName_25 ?_
      refine lv_topq (y := nI e1) (z61) ?_
      refine lv_aload_n hx hb d_Re_takeTapeAsName_28 rfl (lv_at hl 1 rfl) ?_
      refine va_get (D := D9) (ci := 4) (C := R_Re) (T := F_Re) (N := 8) hx hb hts i_Re hown hK hP 17 ww_17 rfl 0 (by decide) (hts _ g_120) (fun _ h9 => h9) rfl d_Re_takeTapeAsName_29 ?_
      refine va_getN (D := D9) (ci := 0) (C := R_By) (T := F_By) (N := 2) hx hb hts i_By hown hK hP 1 ww_1 rfl 1 (by decide) (hts _ g_39) (fun _ h9 => h9) rfl d_Re_takeTapeAsName_32 ?_
      refine lv_topq (y := nI t.length) (((sn1 2 (by decide)).trans ((sI1 2 (by decide)).trans hT2))) ?_
      refine lv_icmp_ne (tgt := 49) hx hb d_Re_takeTapeAsName_35 (by decide) (fun c6 => ?_) (fun c6 => ?_)
      · have c6 : ¬ (e1 = t.length) := fun z9 => c6 ((nI_eq (a := e1) (b := t.length) (by omega) (by omega)).mpr z9)
        refine lv_iconst (v := 0) hx hb d_Re_takeTapeAsName_49 (by decide) ?_
        refine lv_topq (y := nI 0) (rfl) ?_
        refine lv_istore_n (lv' := [(2, _), (1, _), (0, _)]) hx hb d_Re_takeTapeAsName_50 rfl hl (by decide) rfl (fun ls hl => ?_)
        refine lv_iload_n hx hb d_Re_takeTapeAsName_51 rfl (lv_at hl 0 rfl) ?_
        refine lv_if_ne (tgt := 63) hx hb d_Re_takeTapeAsName_52 (by decide) (fun c7 => ?_) (fun c7 => ?_)
        · exact absurd c7 (by decide)
        · refine lv_aload_n hx hb d_Re_takeTapeAsName_55 rfl (lv_at hl 2 rfl) ?_
          refine lv_iload_n hx hb d_Re_takeTapeAsName_56 rfl (lv_at hl 1 rfl) ?_
          refine mw_cV (ci := 4) (k := 17) C0 (m_Re_takeBackTo l D9 cB cI cJ cG a O _ _ (nI L.length)) g_495 g_4 g_492 g_494 gs_Re_takeBackTo ⟨by decide +kernel, by decide +kernel, show Option.map (fun d => d.parameters.length) (parseMethodDescriptor y_Re_takeBackTo.desc) = some 1 by decide +kernel⟩ ⟨by decide, by decide⟩ rfl rfl hP hD hS hA rfl ww_17 hl.1 (Nat.le_of_ble_eq_true rfl) rfl d_Re_takeTapeAsName_57 ⟨by decide, by decide⟩ (fun v9 w9 H locs hq hP hD hS => ?_)
          obtain ⟨I8, F9, hw9, q10⟩ := hq
          subst hw9
          obtain ⟨rfl, sI8, zI8, rfl⟩ := q10
          refine lv_if_eq (tgt := 67) hx hb d_Re_takeTapeAsName_60 (by decide) (fun c11 => ?_) (fun c11 => ?_)
          · refine lv_iconst (v := 0) hx hb d_Re_takeTapeAsName_67 (by decide) ?_
            refine lv_topq (y := nI 0) (rfl) ?_
            exact hret _ _ _ _ _ _ _ hS hP hD d_Re_takeTapeAsName_68 (nr_z (Or.inl rfl)) (Or.inr ⟨by unfold qN; rw [hr1]; simp only; rw [if_neg (by omega)], rfl, (sm_tr (sm_tr (sm_mo sI1 (by decide)) (sm_mo sn1 (by decide))) (sm_mo sI8 (by decide))), zI8, (sm_mo sG1 (by decide)), BR_pre wB1⟩)
          · exact absurd c11 (by decide)
      · have c6 : e1 = t.length := (nI_eq (a := e1) (b := t.length) (by omega) (by omega)).mp c6
        refine lv_aload_n hx hb d_Re_takeTapeAsName_38 rfl (lv_at hl 1 rfl) ?_
        refine va_get (D := D9) (ci := 4) (C := R_Re) (T := F_Re) (N := 8) hx hb hts i_Re hown hK hP 17 ww_17 rfl 5 (by decide) (hts _ g_126) (fun _ h9 => h9) rfl d_Re_takeTapeAsName_39 ?_
        refine lv_topq (y := nI (0 + c_1)) (z71) ?_
        refine lv_if_ne (tgt := 49) hx hb d_Re_takeTapeAsName_42 (by decide) (fun c12 => ?_) (fun c12 => ?_)
        · have c12 : ¬ (0 + c_1 = 0) := fun z9 => c12 ((nI_eq (a := 0 + c_1) (b := 0) (by omega) (by omega)).mpr z9)
          refine lv_iconst (v := 0) hx hb d_Re_takeTapeAsName_49 (by decide) ?_
          refine lv_topq (y := nI 0) (rfl) ?_
          refine lv_istore_n (lv' := [(2, _), (1, _), (0, _)]) hx hb d_Re_takeTapeAsName_50 rfl hl (by decide) rfl (fun ls hl => ?_)
          refine lv_iload_n hx hb d_Re_takeTapeAsName_51 rfl (lv_at hl 0 rfl) ?_
          refine lv_if_ne (tgt := 63) hx hb d_Re_takeTapeAsName_52 (by decide) (fun c13 => ?_) (fun c13 => ?_)
          · exact absurd c13 (by decide)
          · refine lv_aload_n hx hb d_Re_takeTapeAsName_55 rfl (lv_at hl 2 rfl) ?_
            refine lv_iload_n hx hb d_Re_takeTapeAsName_56 rfl (lv_at hl 1 rfl) ?_
            refine mw_cV (ci := 4) (k := 17) C0 (m_Re_takeBackTo l D9 cB cI cJ cG a O _ _ (nI L.length)) g_495 g_4 g_492 g_494 gs_Re_takeBackTo ⟨by decide +kernel, by decide +kernel, show Option.map (fun d => d.parameters.length) (parseMethodDescriptor y_Re_takeBackTo.desc) = some 1 by decide +kernel⟩ ⟨by decide, by decide⟩ rfl rfl hP hD hS hA rfl ww_17 hl.1 (Nat.le_of_ble_eq_true rfl) rfl d_Re_takeTapeAsName_57 ⟨by decide, by decide⟩ (fun v9 w9 H locs hq hP hD hS => ?_)
            obtain ⟨I14, F15, hw9, q16⟩ := hq
            subst hw9
            obtain ⟨rfl, sI14, zI14, rfl⟩ := q16
            refine lv_if_eq (tgt := 67) hx hb d_Re_takeTapeAsName_60 (by decide) (fun c17 => ?_) (fun c17 => ?_)
            · refine lv_iconst (v := 0) hx hb d_Re_takeTapeAsName_67 (by decide) ?_
              refine lv_topq (y := nI 0) (rfl) ?_
              exact hret _ _ _ _ _ _ _ hS hP hD d_Re_takeTapeAsName_68 (nr_z (Or.inl rfl)) (Or.inr ⟨by unfold qN; rw [hr1]; simp only; rw [if_neg (by omega)], rfl, (sm_tr (sm_tr (sm_mo sI1 (by decide)) (sm_mo sn1 (by decide))) (sm_mo sI14 (by decide))), zI14, (sm_mo sG1 (by decide)), BR_pre wB1⟩)
            · exact absurd c17 (by decide)
        · have c12 : 0 + c_1 = 0 := (nI_eq (a := 0 + c_1) (b := 0) (by omega) (by omega)).mp c12
          refine lv_iconst (v := 1) hx hb d_Re_takeTapeAsName_45 (by decide) ?_
          refine lv_topq (y := nI 1) (rfl) ?_
          refine lv_goto (tgt := 50) hx hb d_Re_takeTapeAsName_46 (by decide) ?_
          refine lv_istore_n (lv' := [(2, _), (1, _), (0, _)]) hx hb d_Re_takeTapeAsName_50 rfl hl (by decide) rfl (fun ls hl => ?_)
          refine lv_iload_n hx hb d_Re_takeTapeAsName_51 rfl (lv_at hl 0 rfl) ?_
          refine lv_if_ne (tgt := 63) hx hb d_Re_takeTapeAsName_52 (by decide) (fun c18 => ?_) (fun c18 => ?_)
          · refine lv_iconst (v := 1) hx hb d_Re_takeTapeAsName_63 (by decide) ?_
            refine lv_topq (y := nI 1) (rfl) ?_
            refine lv_goto (tgt := 68) hx hb d_Re_takeTapeAsName_64 (by decide) ?_
            exact hret _ _ _ _ _ _ _ hS hP hD d_Re_takeTapeAsName_68 (nr_z (Or.inr rfl)) (Or.inl ⟨nm1, by unfold qN; rw [hr1]; simp only; rw [if_pos (by omega)], rfl, (sm_tr (sm_mo sI1 (by decide)) (sm_mo sn1 (by decide))), (z31).trans (congrArg nI (by simp only [List.append_assoc])), z81, (sm_mo sG1 (by decide)), by simpa only [List.append_assoc] using wB1⟩)
          · exact absurd c18 (by decide)
  · refine lv_if_eq (tgt := 49) hx hb d_Re_takeTapeAsName_21 (by decide) (fun c19 => ?_) (fun c19 => ?_)
    · refine lv_iconst (v := 0) hx hb d_Re_takeTapeAsName_49 (by decide) ?_
      refine lv_topq (y := nI 0) (rfl) ?_
      refine lv_istore_n (lv' := [(2, _), (1, _), (0, _)]) hx hb d_Re_takeTapeAsName_50 rfl hl (by decide) rfl (fun ls hl => ?_)
      refine lv_iload_n hx hb d_Re_takeTapeAsName_51 rfl (lv_at hl 0 rfl) ?_
      refine lv_if_ne (tgt := 63) hx hb d_Re_takeTapeAsName_52 (by decide) (fun c20 => ?_) (fun c20 => ?_)
      · exact absurd c20 (by decide)
      · refine lv_aload_n hx hb d_Re_takeTapeAsName_55 rfl (lv_at hl 2 rfl) ?_
        refine lv_iload_n hx hb d_Re_takeTapeAsName_56 rfl (lv_at hl 1 rfl) ?_
        refine mw_cV (ci := 4) (k := 17) C0 (m_Re_takeBackTo l D9 cB cI cJ cG a O _ _ (nI L.length)) g_495 g_4 g_492 g_494 gs_Re_takeBackTo ⟨by decide +kernel, by decide +kernel, show Option.map (fun d => d.parameters.length) (parseMethodDescriptor y_Re_takeBackTo.desc) = some 1 by decide +kernel⟩ ⟨by decide, by decide⟩ rfl rfl hP hD hS hA rfl ww_17 hl.1 (Nat.le_of_ble_eq_true rfl) rfl d_Re_takeTapeAsName_57 ⟨by decide, by decide⟩ (fun v9 w9 H locs hq hP hD hS => ?_)
        obtain ⟨I21, F22, hw9, q23⟩ := hq
        subst hw9
        obtain ⟨rfl, sI21, zI21, rfl⟩ := q23
        refine lv_if_eq (tgt := 67) hx hb d_Re_takeTapeAsName_60 (by decide) (fun c24 => ?_) (fun c24 => ?_)
        · refine lv_iconst (v := 0) hx hb d_Re_takeTapeAsName_67 (by decide) ?_
          refine lv_topq (y := nI 0) (rfl) ?_
          exact hret _ _ _ _ _ _ _ hS hP hD d_Re_takeTapeAsName_68 (nr_z (Or.inl rfl)) (Or.inr ⟨by unfold qN; rw [hr1], rfl, (sm_tr (sm_tr (sm_mo sI1 (by decide)) (sm_mo sn1 (by decide))) (sm_mo sI21 (by decide))), zI21, (sm_mo sG1 (by decide)), wB1⟩)
        · exact absurd c24 (by decide)
    · exact absurd c19 (by decide)
set_option maxHeartbeats 4000000 in
set_option maxRecDepth 100000 in
/-- Reader.takeTapeAsNameAndData -/
theorem m_Re_takeTapeAsNameAndData (l : Launch) (D9 : va_G) (cB cI cJ cG : ClassId) (a : Nat → Nat) (O : Nat → Int64) (I : Nat → Int32) (F : Nat → Nat → Int32) (t : List Nat) (hT2 : I 2 = nI t.length) (htl : t.length ≤ 65536) (hT : BR 0 65536 (F 2) t) (L : List Nat) (hL3 : I 3 = nI L.length) (hLb : L.length < 200000) (hBL : BR 0 65536 (F 4) L) (ty : Nat) (hty : ty < 65536) : MC l D9 cB cI cJ cG a O y_Re_takeTapeAsNameAndData b_Re_takeTapeAsNameAndData 4 (some .boolean) 6 [.ref (a 17), .int (nI ty)] I F (fun v I' F' => (∃ nm d, qD t ty = some (nm, d) ∧ v = some (.int (nI 1)) ∧ sm [3, 6, 7, 8, 9] I I' ∧ I' 3 = nI (L ++ (nm ++ d)).length ∧ I' 8 = nI nm.length ∧ sm [4] F F' ∧ BR 0 65536 (F' 4) (L ++ (nm ++ d))) ∨ (qD t ty = none ∧ v = some (.int (nI 0)) ∧ sm [3, 4, 5, 6, 7, 8, 9] I I' ∧ I' 3 = nI L.length ∧ sm [4] F F' ∧ BR 0 65536 (F' 4) L)) := by
  refine mc_of (by decide) (Nat.le_of_ble_eq_true rfl) ?_
  intro p e s m below meth c ls A0 Q C0 hP hD hA hS hl hret
  obtain ⟨hx, hb, hml, hr, hlocks, hown, hts, hK⟩ := id C0
  have hl : lv_has ls 4 [(0, .ref (a 17)), (1, .int (nI ty))] := hl
  refine lv_aload_n hx hb d_Re_takeTapeAsNameAndData_0 rfl (lv_at hl 0 rfl) ?_
  refine va_get (D := D9) (ci := 4) (C := R_Re) (T := F_Re) (N := 8) hx hb hts i_Re hown hK hP 17 ww_17 rfl 1 (by decide) (hts _ g_121) (fun _ h9 => h9) rfl d_Re_takeTapeAsNameAndData_1 ?_
  refine va_getN (D := D9) (ci := 2) (C := R_Ga) (T := F_Ga) (N := 11) hx hb hts i_Ga hown hK hP 19 ww_19 rfl 0 (by decide) (hts _ g_60) (fun _ h9 => h9) rfl d_Re_takeTapeAsNameAndData_4 ?_
  refine va_getN (D := D9) (ci := 0) (C := R_By) (T := F_By) (N := 2) hx hb hts i_By hown hK hP 3 ww_3 rfl 1 (by decide) (hts _ g_39) (fun _ h9 => h9) rfl d_Re_takeTapeAsNameAndData_7 ?_
  refine lv_topq (y := nI L.length) (hL3) ?_
  refine lv_istore_n (lv' := [(2, _), (0, _), (1, _)]) hx hb d_Re_takeTapeAsNameAndData_10 rfl hl (by decide) rfl (fun ls hl => ?_)
  refine lv_aload_n hx hb d_Re_takeTapeAsNameAndData_11 rfl (lv_at hl 1 rfl) ?_
  refine lv_iconst (v := 0) hx hb d_Re_takeTapeAsNameAndData_12 (by decide) ?_
  refine lv_topq (y := nI 0) (rfl) ?_
  refine va_put (D := D9) (ty := .int) (ci := 4) (C := R_Re) (T := F_Re) (N := 8) hx hb hts i_Re t_Re t_Re_ok n_Re hown hK hP hD hS 17 ww_17 rfl 5 (by decide) (hts _ g_126) (fun _ h9 => h9) rfl (by decide +kernel) rfl rfl (Nat.le_of_ble_eq_true rfl) d_Re_takeTapeAsNameAndData_13 (fun H locs hP hD hS => ?_)
  obtain ⟨I1, aI1, sI1, hP, hD⟩ := fx (P := fun z => va_P D9 cls9 (WW a cB cI cJ cG z _ O) H ∧ va_D A0 (WW a cB cI cJ cG z _ O)) ⟨wp_7 hP, wd_7 hD⟩
  refine lv_aload_n hx hb d_Re_takeTapeAsNameAndData_16 rfl (lv_at hl 1 rfl) ?_
  refine lv_iconst (v := 0) hx hb d_Re_takeTapeAsNameAndData_17 (by decide) ?_
  refine lv_topq (y := nI 0) (rfl) ?_
  refine mw_cV (ci := 4) (k := 17) C0 (m_Re_takeOwner l D9 cB cI cJ cG a O _ _ t ((sI1 2 (by decide)).trans hT2) htl hT L 0 0 ((sI1 3 (by decide)).trans hL3) (by omega) hBL (by omega) aI1) g_275 g_4 g_272 g_274 gs_Re_takeOwner ⟨by decide +kernel, by decide +kernel, show Option.map (fun d => d.parameters.length) (parseMethodDescriptor y_Re_takeOwner.desc) = some 1 by decide +kernel⟩ ⟨by decide, by decide⟩ rfl rfl hP hD hS hA rfl ww_17 hl.1 (Nat.le_of_ble_eq_true rfl) rfl d_Re_takeTapeAsNameAndData_18 ⟨by decide, by decide⟩ (fun v9 w9 H locs hq hP hD hS => ?_)
  obtain ⟨I2, F3, hw9, q4⟩ := hq
  subst hw9
  rcases q4 with ⟨nm1, e1, c_1, hr1, rfl, sn1, z31, z61, z71, z81, sG1, wB1⟩ | ⟨hr1, rfl, sn1, z31, sG1, wB1⟩
  · have hbd1 := rn_bd hr1 (by decide)
    have hln1 : (L ++ nm1).length = L.length + nm1.length := List.length_append
    refine lv_if_eq (tgt := 54) hx hb d_Re_takeTapeAsNameAndData_21 (by decide) (fun c5 => ?_) (fun c5 => ?_)
    · exact absurd c5 (by decide)
    · refine lv_aload_n hx hb d_Re_takeTapeAsNameAndData_24 rfl (lv_at hl 1 rfl) ?_
      refine lv_iload_n hx hb d_Re_takeTapeAsNameAndData_25 rfl (lv_at hl 2 rfl) ?_
      refine lv_aload_n hx hb d_Re_takeTapeAsNameAndData_26 rfl (lv_at hl 1 rfl) ?_
      refine va_get (D := D9) (ci := 4) (C := R_Re) (T := F_Re) (N := 8) hx hb hts i_Re hown hK hP 17 ww_17 rfl 4 (by decide) (hts _ g_125) (fun _ h9 => h9) rfl d_Re_takeTapeAsNameAndData_27 ?_
      refine lv_topq (y := nI e1) (z61) ?_
      refine lv_aload_n hx hb d_Re_takeTapeAsNameAndData_30 rfl (lv_at hl 1 rfl) ?_
      refine va_get (D := D9) (ci := 4) (C := R_Re) (T := F_Re) (N := 8) hx hb hts i_Re hown hK hP 17 ww_17 rfl 0 (by decide) (hts _ g_120) (fun _ h9 => h9) rfl d_Re_takeTapeAsNameAndData_31 ?_
      refine va_getN (D := D9) (ci := 0) (C := R_By) (T := F_By) (N := 2) hx hb hts i_By hown hK hP 1 ww_1 rfl 1 (by decide) (hts _ g_39) (fun _ h9 => h9) rfl d_Re_takeTapeAsNameAndData_34 ?_
      refine lv_topq (y := nI t.length) (((sn1 2 (by decide)).trans ((sI1 2 (by decide)).trans hT2))) ?_
      refine mw_cV (ci := 4) (k := 17) C0 (m_Re_takeData l D9 cB cI cJ cG a O _ _ t (((sn1 2 (by decide)).trans (sI1 2 (by decide))).trans hT2) htl (BR_eq hT (sG1 2 (by decide))) (L ++ nm1) ty e1 t.length (0 + c_1) z31 (by omega) wB1 hty (by omega) (by omega) z71 (by omega) nm1.length z81 (by omega)) g_327 g_4 g_324 g_326 gs_Re_takeData ⟨by decide +kernel, by decide +kernel, show Option.map (fun d => d.parameters.length) (parseMethodDescriptor y_Re_takeData.desc) = some 3 by decide +kernel⟩ ⟨by decide, by decide⟩ rfl rfl hP hD hS hA rfl ww_17 hl.1 (Nat.le_of_ble_eq_true rfl) rfl d_Re_takeTapeAsNameAndData_37 ⟨by decide, by decide⟩ (fun v9 w9 H locs hq hP hD hS => ?_)
      obtain ⟨I6, F7, hw9, q8⟩ := hq
      subst hw9
      rcases q8 with ⟨da, e_a, hda, rfl, tda, x3a, x7a, xFa, xBa⟩ | ⟨hda, rfl, tda, x3a, xFa, xBa⟩
      · have hbea := rdD_bd hda
        have hcea := rdD_c hda
        have hlxa : (L ++ nm1 ++ da).length = (L ++ nm1).length + da.length := List.length_append
        refine lv_if_eq (tgt := 54) hx hb d_Re_takeTapeAsNameAndData_40 (by decide) (fun c9 => ?_) (fun c9 => ?_)
        · exact absurd c9 (by decide)
        · refine lv_aload_n hx hb d_Re_takeTapeAsNameAndData_43 rfl (lv_at hl 1 rfl) ?_
          refine va_get (D := D9) (ci := 4) (C := R_Re) (T := F_Re) (N := 8) hx hb hts i_Re hown hK hP 17 ww_17 rfl 5 (by decide) (hts _ g_126) (fun _ h9 => h9) rfl d_Re_takeTapeAsNameAndData_44 ?_
          refine lv_topq (y := nI (0 + c_1 + e_a)) (x7a) ?_
          refine lv_if_ne (tgt := 54) hx hb d_Re_takeTapeAsNameAndData_47 (by decide) (fun c10 => ?_) (fun c10 => ?_)
          · have c10 : ¬ (0 + c_1 + e_a = 0) := fun z9 => c10 ((nI_eq (a := 0 + c_1 + e_a) (b := 0) (by omega) (by omega)).mpr z9)
            refine lv_iconst (v := 0) hx hb d_Re_takeTapeAsNameAndData_54 (by decide) ?_
            refine lv_topq (y := nI 0) (rfl) ?_
            refine lv_istore_n (lv' := [(3, _), (2, _), (0, _), (1, _)]) hx hb d_Re_takeTapeAsNameAndData_55 rfl hl (by decide) rfl (fun ls hl => ?_)
            refine lv_iload_n hx hb d_Re_takeTapeAsNameAndData_56 rfl (lv_at hl 0 rfl) ?_
            refine lv_if_ne (tgt := 68) hx hb d_Re_takeTapeAsNameAndData_57 (by decide) (fun c11 => ?_) (fun c11 => ?_)
            · exact absurd c11 (by decide)
            · refine lv_aload_n hx hb d_Re_takeTapeAsNameAndData_60 rfl (lv_at hl 2 rfl) ?_
              refine lv_iload_n hx hb d_Re_takeTapeAsNameAndData_61 rfl (lv_at hl 1 rfl) ?_
              refine mw_cV (ci := 4) (k := 17) C0 (m_Re_takeBackTo l D9 cB cI cJ cG a O _ _ (nI L.length)) g_495 g_4 g_492 g_494 gs_Re_takeBackTo ⟨by decide +kernel, by decide +kernel, show Option.map (fun d => d.parameters.length) (parseMethodDescriptor y_Re_takeBackTo.desc) = some 1 by decide +kernel⟩ ⟨by decide, by decide⟩ rfl rfl hP hD hS hA rfl ww_17 hl.1 (Nat.le_of_ble_eq_true rfl) rfl d_Re_takeTapeAsNameAndData_62 ⟨by decide, by decide⟩ (fun v9 w9 H locs hq hP hD hS => ?_)
              obtain ⟨I12, F13, hw9, q14⟩ := hq
              subst hw9
              obtain ⟨rfl, sI12, zI12, rfl⟩ := q14
              refine lv_if_eq (tgt := 72) hx hb d_Re_takeTapeAsNameAndData_65 (by decide) (fun c15 => ?_) (fun c15 => ?_)
              · refine lv_iconst (v := 0) hx hb d_Re_takeTapeAsNameAndData_72 (by decide) ?_
                refine lv_topq (y := nI 0) (rfl) ?_
                exact hret _ _ _ _ _ _ _ hS hP hD d_Re_takeTapeAsNameAndData_73 (nr_z (Or.inl rfl)) (Or.inr ⟨by unfold qD; rw [hr1]; simp only; rw [hda]; simp only; rw [if_neg (by omega)], rfl, (sm_tr (sm_tr (sm_tr (sm_mo sI1 (by decide)) (sm_mo sn1 (by decide))) (sm_mo tda (by decide))) (sm_mo sI12 (by decide))), zI12, (sm_tr (sm_mo sG1 (by decide)) (sm_mo xFa (by decide))), BR_pre (BR_pre xBa)⟩)
              · exact absurd c15 (by decide)
          · have c10 : 0 + c_1 + e_a = 0 := (nI_eq (a := 0 + c_1 + e_a) (b := 0) (by omega) (by omega)).mp c10
            refine lv_iconst (v := 1) hx hb d_Re_takeTapeAsNameAndData_50 (by decide) ?_
            refine lv_topq (y := nI 1) (rfl) ?_
            refine lv_goto (tgt := 55) hx hb d_Re_takeTapeAsNameAndData_51 (by decide) ?_
            refine lv_istore_n (lv' := [(3, _), (2, _), (0, _), (1, _)]) hx hb d_Re_takeTapeAsNameAndData_55 rfl hl (by decide) rfl (fun ls hl => ?_)
            refine lv_iload_n hx hb d_Re_takeTapeAsNameAndData_56 rfl (lv_at hl 0 rfl) ?_
            refine lv_if_ne (tgt := 68) hx hb d_Re_takeTapeAsNameAndData_57 (by decide) (fun c16 => ?_) (fun c16 => ?_)
            · refine lv_iconst (v := 1) hx hb d_Re_takeTapeAsNameAndData_68 (by decide) ?_
              refine lv_topq (y := nI 1) (rfl) ?_
              refine lv_goto (tgt := 73) hx hb d_Re_takeTapeAsNameAndData_69 (by decide) ?_
              exact hret _ _ _ _ _ _ _ hS hP hD d_Re_takeTapeAsNameAndData_73 (nr_z (Or.inr rfl)) (Or.inl ⟨nm1, da, by unfold qD; rw [hr1]; simp only; rw [hda]; simp only; rw [if_pos (by omega)], rfl, (sm_tr (sm_tr (sm_mo sI1 (by decide)) (sm_mo sn1 (by decide))) (sm_mo tda (by decide))), (x3a).trans (congrArg nI (by simp only [List.append_assoc])), ((tda 8 (by decide)).trans z81), (sm_tr (sm_mo sG1 (by decide)) (sm_mo xFa (by decide))), by simpa only [List.append_assoc] using xBa⟩)
            · exact absurd c16 (by decide)
      · refine lv_if_eq (tgt := 54) hx hb d_Re_takeTapeAsNameAndData_40 (by decide) (fun c17 => ?_) (fun c17 => ?_)
        · refine lv_iconst (v := 0) hx hb d_Re_takeTapeAsNameAndData_54 (by decide) ?_
          refine lv_topq (y := nI 0) (rfl) ?_
          refine lv_istore_n (lv' := [(3, _), (2, _), (0, _), (1, _)]) hx hb d_Re_takeTapeAsNameAndData_55 rfl hl (by decide) rfl (fun ls hl => ?_)
          refine lv_iload_n hx hb d_Re_takeTapeAsNameAndData_56 rfl (lv_at hl 0 rfl) ?_
          refine lv_if_ne (tgt := 68) hx hb d_Re_takeTapeAsNameAndData_57 (by decide) (fun c18 => ?_) (fun c18 => ?_)
          · exact absurd c18 (by decide)
          · refine lv_aload_n hx hb d_Re_takeTapeAsNameAndData_60 rfl (lv_at hl 2 rfl) ?_
            refine lv_iload_n hx hb d_Re_takeTapeAsNameAndData_61 rfl (lv_at hl 1 rfl) ?_
            refine mw_cV (ci := 4) (k := 17) C0 (m_Re_takeBackTo l D9 cB cI cJ cG a O _ _ (nI L.length)) g_495 g_4 g_492 g_494 gs_Re_takeBackTo ⟨by decide +kernel, by decide +kernel, show Option.map (fun d => d.parameters.length) (parseMethodDescriptor y_Re_takeBackTo.desc) = some 1 by decide +kernel⟩ ⟨by decide, by decide⟩ rfl rfl hP hD hS hA rfl ww_17 hl.1 (Nat.le_of_ble_eq_true rfl) rfl d_Re_takeTapeAsNameAndData_62 ⟨by decide, by decide⟩ (fun v9 w9 H locs hq hP hD hS => ?_)
            obtain ⟨I19, F20, hw9, q21⟩ := hq
            subst hw9
            obtain ⟨rfl, sI19, zI19, rfl⟩ := q21
            refine lv_if_eq (tgt := 72) hx hb d_Re_takeTapeAsNameAndData_65 (by decide) (fun c22 => ?_) (fun c22 => ?_)
            · refine lv_iconst (v := 0) hx hb d_Re_takeTapeAsNameAndData_72 (by decide) ?_
              refine lv_topq (y := nI 0) (rfl) ?_
              exact hret _ _ _ _ _ _ _ hS hP hD d_Re_takeTapeAsNameAndData_73 (nr_z (Or.inl rfl)) (Or.inr ⟨by unfold qD; rw [hr1]; simp only; rw [hda], rfl, (sm_tr (sm_tr (sm_tr (sm_mo sI1 (by decide)) (sm_mo sn1 (by decide))) (sm_mo tda (by decide))) (sm_mo sI19 (by decide))), zI19, (sm_tr (sm_mo sG1 (by decide)) (sm_mo xFa (by decide))), BR_pre xBa⟩)
            · exact absurd c22 (by decide)
        · exact absurd c17 (by decide)
  · refine lv_if_eq (tgt := 54) hx hb d_Re_takeTapeAsNameAndData_21 (by decide) (fun c23 => ?_) (fun c23 => ?_)
    · refine lv_iconst (v := 0) hx hb d_Re_takeTapeAsNameAndData_54 (by decide) ?_
      refine lv_topq (y := nI 0) (rfl) ?_
      refine lv_istore_n (lv' := [(3, _), (2, _), (0, _), (1, _)]) hx hb d_Re_takeTapeAsNameAndData_55 rfl hl (by decide) rfl (fun ls hl => ?_)
      refine lv_iload_n hx hb d_Re_takeTapeAsNameAndData_56 rfl (lv_at hl 0 rfl) ?_
      refine lv_if_ne (tgt := 68) hx hb d_Re_takeTapeAsNameAndData_57 (by decide) (fun c24 => ?_) (fun c24 => ?_)
      · exact absurd c24 (by decide)
      · refine lv_aload_n hx hb d_Re_takeTapeAsNameAndData_60 rfl (lv_at hl 2 rfl) ?_
        refine lv_iload_n hx hb d_Re_takeTapeAsNameAndData_61 rfl (lv_at hl 1 rfl) ?_
        refine mw_cV (ci := 4) (k := 17) C0 (m_Re_takeBackTo l D9 cB cI cJ cG a O _ _ (nI L.length)) g_495 g_4 g_492 g_494 gs_Re_takeBackTo ⟨by decide +kernel, by decide +kernel, show Option.map (fun d => d.parameters.length) (parseMethodDescriptor y_Re_takeBackTo.desc) = some 1 by decide +kernel⟩ ⟨by decide, by decide⟩ rfl rfl hP hD hS hA rfl ww_17 hl.1 (Nat.le_of_ble_eq_true rfl) rfl d_Re_takeTapeAsNameAndData_62 ⟨by decide, by decide⟩ (fun v9 w9 H locs hq hP hD hS => ?_)
        obtain ⟨I25, F26, hw9, q27⟩ := hq
        subst hw9
        obtain ⟨rfl, sI25, zI25, rfl⟩ := q27
        refine lv_if_eq (tgt := 72) hx hb d_Re_takeTapeAsNameAndData_65 (by decide) (fun c28 => ?_) (fun c28 => ?_)
        · refine lv_iconst (v := 0) hx hb d_Re_takeTapeAsNameAndData_72 (by decide) ?_
          refine lv_topq (y := nI 0) (rfl) ?_
          exact hret _ _ _ _ _ _ _ hS hP hD d_Re_takeTapeAsNameAndData_73 (nr_z (Or.inl rfl)) (Or.inr ⟨by unfold qD; rw [hr1], rfl, (sm_tr (sm_tr (sm_mo sI1 (by decide)) (sm_mo sn1 (by decide))) (sm_mo sI25 (by decide))), zI25, (sm_mo sG1 (by decide)), wB1⟩)
        · exact absurd c28 (by decide)
    · exact absurd c23 (by decide)
set_option maxHeartbeats 4000000 in
set_option maxRecDepth 100000 in
/-- Reader.takeQuestion -/
theorem m_Re_takeQuestion (l : Launch) (D9 : va_G) (cB cI cJ cG : ClassId) (a : Nat → Nat) (O : Nat → Int64) (I : Nat → Int32) (F : Nat → Nat → Int32) (t : List Nat) (hT2 : I 2 = nI t.length) (htl : t.length ≤ 65536) (hT : BR 0 65536 (F 2) t) (es : List En9) (pos fw : Nat) (hG : GaR F es) (hO : okE es) (hL3 : I 3 = nI (fl es).length) (hps : I 6 = nI pos) (hpb : pos ≤ 65536) (hfw : I 7 = nI fw) (hfb : fw < 90000000) : MC l D9 cB cI cJ cG a O y_Re_takeQuestion b_Re_takeQuestion 5 (some .boolean) 4 [.ref (a 17)] I F (fun v I' F' => (∃ x e c, rdQ t pos = some (x, e, c) ∧ okB es x = true ∧ okE (es ++ [x]) ∧ v = some (.int (nI 1)) ∧ sm [3, 6, 7, 8, 9] I I' ∧ I' 3 = nI (fl (es ++ [x])).length ∧ I' 6 = nI e ∧ I' 7 = nI (fw + c) ∧ sm [4, 5, 6, 7, 8, 9, 10, 12, 13, 14, 15, 16] F F' ∧ GaR F' (es ++ [x])) ∨ ((∀ x e c, rdQ t pos = some (x, e, c) → okB es x = false) ∧ v = some (.int (nI 0)) ∧ sm [3, 4, 5, 6, 7, 8, 9] I I' ∧ ¬ I' 4 = 0 ∧ sm [4, 5, 6, 7, 8, 9, 10, 12, 13, 14, 15, 16] F F' ∧ sb_Fit (F' 4))) := by
  refine mc_of (by decide) (Nat.le_of_ble_eq_true rfl) ?_
  intro p e s m below meth c ls A0 Q C0 hP hD hA hS hl hret
  obtain ⟨hx, hb, hml, hr, hlocks, hown, hts, hK⟩ := id C0
  have hl : lv_has ls 5 [(0, .ref (a 17))] := hl
  have k2 := hO.2.2.1
  have hBL := hG.2.2
  refine lv_aload_n hx hb d_Re_takeQuestion_0 rfl (lv_at hl 0 rfl) ?_
  refine va_get (D := D9) (ci := 4) (C := R_Re) (T := F_Re) (N := 8) hx hb hts i_Re hown hK hP 17 ww_17 rfl 4 (by decide) (hts _ g_125) (fun _ h9 => h9) rfl d_Re_takeQuestion_1 ?_
  refine lv_topq (y := nI pos) (hps) ?_
  refine lv_istore_n (lv' := [(1, _), (0, _)]) hx hb d_Re_takeQuestion_4 rfl hl (by decide) rfl (fun ls hl => ?_)
  refine lv_aload_n hx hb d_Re_takeQuestion_5 rfl (lv_at hl 1 rfl) ?_
  refine va_get (D := D9) (ci := 4) (C := R_Re) (T := F_Re) (N := 8) hx hb hts i_Re hown hK hP 17 ww_17 rfl 1 (by decide) (hts _ g_121) (fun _ h9 => h9) rfl d_Re_takeQuestion_6 ?_
  refine va_getN (D := D9) (ci := 2) (C := R_Ga) (T := F_Ga) (N := 11) hx hb hts i_Ga hown hK hP 19 ww_19 rfl 0 (by decide) (hts _ g_60) (fun _ h9 => h9) rfl d_Re_takeQuestion_9 ?_
  refine va_getN (D := D9) (ci := 0) (C := R_By) (T := F_By) (N := 2) hx hb hts i_By hown hK hP 3 ww_3 rfl 1 (by decide) (hts _ g_39) (fun _ h9 => h9) rfl d_Re_takeQuestion_12 ?_
  refine lv_topq (y := nI ((fl es).length)) (hL3) ?_
  refine lv_istore_n (lv' := [(2, _), (1, _), (0, _)]) hx hb d_Re_takeQuestion_15 rfl hl (by decide) rfl (fun ls hl => ?_)
  refine lv_aload_n hx hb d_Re_takeQuestion_16 rfl (lv_at hl 2 rfl) ?_
  refine lv_iload_n hx hb d_Re_takeQuestion_17 rfl (lv_at hl 1 rfl) ?_
  refine mw_cV (ci := 4) (k := 17) C0 (m_Re_takeOwner l D9 cB cI cJ cG a O _ _ t hT2 htl hT (fl es) pos fw hL3 (by omega) hBL (by omega) hfw) g_275 g_4 g_272 g_274 gs_Re_takeOwner ⟨by decide +kernel, by decide +kernel, show Option.map (fun d => d.parameters.length) (parseMethodDescriptor y_Re_takeOwner.desc) = some 1 by decide +kernel⟩ ⟨by decide, by decide⟩ rfl rfl hP hD hS hA rfl ww_17 hl.1 (Nat.le_of_ble_eq_true rfl) rfl d_Re_takeQuestion_18 ⟨by decide, by decide⟩ (fun v9 w9 H locs hq hP hD hS => ?_)
  obtain ⟨I1, F2, hw9, q3⟩ := hq
  subst hw9
  rcases q3 with ⟨nm1, e1, c_1, hr1, rfl, sn1, z31, z61, z71, z81, sG1, wB1⟩ | ⟨hr1, rfl, sn1, z31, sG1, wB1⟩
  · have hbd1 := rn_bd hr1 (by decide)
    have hln1 : (fl es ++ nm1).length = (fl es).length + nm1.length := List.length_append
    refine lv_if_ne (tgt := 26) hx hb d_Re_takeQuestion_21 (by decide) (fun c4 => ?_) (fun c4 => ?_)
    · refine lv_aload_n hx hb d_Re_takeQuestion_26 rfl (lv_at hl 2 rfl) ?_
      refine va_get (D := D9) (ci := 4) (C := R_Re) (T := F_Re) (N := 8) hx hb hts i_Re hown hK hP 17 ww_17 rfl 4 (by decide) (hts _ g_125) (fun _ h9 => h9) rfl d_Re_takeQuestion_27 ?_
      refine lv_topq (y := nI e1) (z61) ?_
      refine lv_istore_n (lv' := [(3, _), (2, _), (1, _), (0, _)]) hx hb d_Re_takeQuestion_30 rfl hl (by decide) rfl (fun ls hl => ?_)
      refine lv_iload_n hx hb d_Re_takeQuestion_31 rfl (lv_at hl 0 rfl) ?_
      refine lv_iconst (v := 4) hx hb d_Re_takeQuestion_32 (by decide) ?_
      refine lv_topq (y := nI 4) (rfl) ?_
      refine lv_iadd hx hb d_Re_takeQuestion_33 ?_
      refine lv_topq (y := nI (e1 + 4)) (nI_add _ _) ?_
      refine lv_aload_n hx hb d_Re_takeQuestion_34 rfl (lv_at hl 3 rfl) ?_
      refine va_get (D := D9) (ci := 4) (C := R_Re) (T := F_Re) (N := 8) hx hb hts i_Re hown hK hP 17 ww_17 rfl 0 (by decide) (hts _ g_120) (fun _ h9 => h9) rfl d_Re_takeQuestion_35 ?_
      refine va_getN (D := D9) (ci := 0) (C := R_By) (T := F_By) (N := 2) hx hb hts i_By hown hK hP 1 ww_1 rfl 1 (by decide) (hts _ g_39) (fun _ h9 => h9) rfl d_Re_takeQuestion_38 ?_
      refine lv_topq (y := nI t.length) (((sn1 2 (by decide)).trans hT2)) ?_
      refine lv_icmp_le (tgt := 51) hx hb d_Re_takeQuestion_41 (by decide) (fun c5 => ?_) (fun c5 => ?_)
      · have c5 : e1 + 4 ≤ t.length := (nI_leI (a := e1 + 4) (b := t.length) (by omega) (by omega)).mp c5
        refine lv_aload_n hx hb d_Re_takeQuestion_51 rfl (lv_at hl 3 rfl) ?_
        refine lv_iload_n hx hb d_Re_takeQuestion_52 rfl (lv_at hl 0 rfl) ?_
        refine lv_iconst (v := 4) hx hb d_Re_takeQuestion_53 (by decide) ?_
        refine lv_topq (y := nI 4) (rfl) ?_
        refine lv_iadd hx hb d_Re_takeQuestion_54 ?_
        refine lv_topq (y := nI (e1 + 4)) (nI_add _ _) ?_
        refine va_put (D := D9) (ty := .int) (ci := 4) (C := R_Re) (T := F_Re) (N := 8) hx hb hts i_Re t_Re t_Re_ok n_Re hown hK hP hD hS 17 ww_17 rfl 4 (by decide) (hts _ g_125) (fun _ h9 => h9) rfl (by decide +kernel) rfl rfl (Nat.le_of_ble_eq_true rfl) d_Re_takeQuestion_55 (fun H locs hP hD hS => ?_)
        obtain ⟨I6, aI6, sI6, hP, hD⟩ := fx (P := fun z => va_P D9 cls9 (WW a cB cI cJ cG z _ O) H ∧ va_D A0 (WW a cB cI cJ cG z _ O)) ⟨wp_6 hP, wd_6 hD⟩
        refine lv_aload_n hx hb d_Re_takeQuestion_58 rfl (lv_at hl 3 rfl) ?_
        refine va_get (D := D9) (ci := 4) (C := R_Re) (T := F_Re) (N := 8) hx hb hts i_Re hown hK hP 17 ww_17 rfl 1 (by decide) (hts _ g_121) (fun _ h9 => h9) rfl d_Re_takeQuestion_59 ?_
        refine lv_iconst (v := 0) hx hb d_Re_takeQuestion_62 (by decide) ?_
        refine lv_topq (y := nI 0) (rfl) ?_
        refine lv_iload_n hx hb d_Re_takeQuestion_63 rfl (lv_at hl 1 rfl) ?_
        refine lv_aload_n hx hb d_Re_takeQuestion_64 rfl (lv_at hl 3 rfl) ?_
        refine va_get (D := D9) (ci := 4) (C := R_Re) (T := F_Re) (N := 8) hx hb hts i_Re hown hK hP 17 ww_17 rfl 6 (by decide) (hts _ g_128) (fun _ h9 => h9) rfl d_Re_takeQuestion_65 ?_
        refine lv_topq (y := nI nm1.length) (((sI6 8 (by decide)).trans z81)) ?_
        refine lv_aload_n hx hb d_Re_takeQuestion_68 rfl (lv_at hl 3 rfl) ?_
        refine va_get (D := D9) (ci := 4) (C := R_Re) (T := F_Re) (N := 8) hx hb hts i_Re hown hK hP 17 ww_17 rfl 0 (by decide) (hts _ g_120) (fun _ h9 => h9) rfl d_Re_takeQuestion_69 ?_
        refine lv_iload_n hx hb d_Re_takeQuestion_72 rfl (lv_at hl 0 rfl) ?_
        refine mw_cVN (ci := 0) (k := 1) C0 (m_By_twoAtL_tp l D9 cB cI cJ cG a O _ _ t e1 (BR_eq hT (sG1 2 (by decide))) htl (by omega)) g_255 g_2 g_252 g_254 gs_By_twoAt ⟨by decide +kernel, by decide +kernel, show Option.map (fun d => d.parameters.length) (parseMethodDescriptor y_By_twoAt.desc) = some 1 by decide +kernel⟩ ⟨by decide, by decide⟩ rfl rfl hP hD hS hA rfl ww_1 hl.1 (Nat.le_of_ble_eq_true rfl) rfl d_Re_takeQuestion_73 ⟨by decide, by decide⟩ (fun v9 w9 H locs hq hP hD hS => ?_)
        obtain ⟨I7, F8, hw9, q9⟩ := hq
        subst hw9
        obtain ⟨rfl, rfl, rfl⟩ := q9
        refine lv_aload_n hx hb d_Re_takeQuestion_76 rfl (lv_at hl 3 rfl) ?_
        refine va_get (D := D9) (ci := 4) (C := R_Re) (T := F_Re) (N := 8) hx hb hts i_Re hown hK hP 17 ww_17 rfl 0 (by decide) (hts _ g_120) (fun _ h9 => h9) rfl d_Re_takeQuestion_77 ?_
        refine lv_iload_n hx hb d_Re_takeQuestion_80 rfl (lv_at hl 0 rfl) ?_
        refine lv_iconst (v := 2) hx hb d_Re_takeQuestion_81 (by decide) ?_
        refine lv_topq (y := nI 2) (rfl) ?_
        refine lv_iadd hx hb d_Re_takeQuestion_82 ?_
        refine lv_topq (y := nI (e1 + 2)) (nI_add _ _) ?_
        refine mw_cVN (ci := 0) (k := 1) C0 (m_By_twoAtL_tp l D9 cB cI cJ cG a O _ _ t (e1 + 2) (BR_eq hT (sG1 2 (by decide))) htl (by omega)) g_255 g_2 g_252 g_254 gs_By_twoAt ⟨by decide +kernel, by decide +kernel, show Option.map (fun d => d.parameters.length) (parseMethodDescriptor y_By_twoAt.desc) = some 1 by decide +kernel⟩ ⟨by decide, by decide⟩ rfl rfl hP hD hS hA rfl ww_1 hl.1 (Nat.le_of_ble_eq_true rfl) rfl d_Re_takeQuestion_83 ⟨by decide, by decide⟩ (fun v9 w9 H locs hq hP hD hS => ?_)
        obtain ⟨I10, F11, hw9, q12⟩ := hq
        subst hw9
        obtain ⟨rfl, rfl, rfl⟩ := q12
        refine lv_iconst (v := 0) hx hb d_Re_takeQuestion_86 (by decide) ?_
        refine lv_topq (y := nI 0) (rfl) ?_
        have hBk : BR 0 65536 (F2 4) (fl es ++ (nm1 ++ ([] : List Nat))) := by simpa only [List.append_assoc, List.append_nil] using wB1
        have hGk : GaR F2 es := GaR_sm (M := [4]) hG (sm_mo sG1 (by decide)) (by decide) (BR_pre hBk) hO
        have hxS : eS ((0, t2 t e1, t2 t (e1 + 2), nI 0, nm1, ([] : List Nat)) : En9) < 4 := by show 0 < 4; omega
        have hxT : eT ((0, t2 t e1, t2 t (e1 + 2), nI 0, nm1, ([] : List Nat)) : En9) < 65536 := t2_lt (i := e1) hT htl (by omega)
        have hxK : eK ((0, t2 t e1, t2 t (e1 + 2), nI 0, nm1, ([] : List Nat)) : En9) < 65536 := t2_lt (i := (e1 + 2)) hT htl (by omega)
        have hok0 := okB_iff hO hxS hxT hxK
        have hLk : I6 3 = nI ((fl es).length + (nm1.length + (([] : List Nat)).length)) := (((sI6 3 (by decide)).trans z31)).trans (congrArg nI (by simp only [List.length_append, List.length_nil]; omega))
        refine mw_cVN (ci := 2) (k := 19) C0 (m_Ga_keep l D9 cB cI cJ cG a O _ _ es ((0, t2 t e1, t2 t (e1 + 2), nI 0, nm1, ([] : List Nat)) : En9) hxS hxT hxK hGk hO hBk hLk (by show nm1.length + (([] : List Nat)).length < _; first | omega | (simp only [List.length_nil]; omega))) g_310 g_3 g_307 g_309 gs_Ga_keep ⟨by decide +kernel, by decide +kernel, show Option.map (fun d => d.parameters.length) (parseMethodDescriptor y_Ga_keep.desc) = some 6 by decide +kernel⟩ ⟨by decide, by decide⟩ rfl rfl hP hD hS hA rfl ww_19 hl.1 (Nat.le_of_ble_eq_true rfl) rfl d_Re_takeQuestion_87 ⟨by decide, by decide⟩ (fun v9 w9 H locs hq hP hD hS => ?_)
        obtain ⟨I13, F14, hw9, q15⟩ := hq
        subst hw9
        rcases q15 with ⟨hok, rfl, rfl, hGn, sK⟩ | ⟨hok, rfl, sK, zK, rfl⟩
        · refine lv_istore (lv' := [(4, _), (3, _), (2, _), (1, _), (0, _)]) hx hb d_Re_takeQuestion_90 hl (by decide) rfl (fun ls hl => ?_)
          refine lv_iload hx hb d_Re_takeQuestion_92 (lv_at hl 0 rfl) ?_
          refine lv_if_ne (tgt := 107) hx hb d_Re_takeQuestion_94 (by decide) (fun c16 => ?_) (fun c16 => ?_)
          · refine lv_iconst (v := 1) hx hb d_Re_takeQuestion_107 (by decide) ?_
            refine lv_topq (y := nI 1) (rfl) ?_
            refine lv_goto (tgt := 112) hx hb d_Re_takeQuestion_108 (by decide) ?_
            exact hret _ _ _ _ _ _ _ hS hP hD d_Re_takeQuestion_112 (nr_z (Or.inr rfl)) (Or.inl ⟨((0, t2 t e1, t2 t (e1 + 2), nI 0, nm1, ([] : List Nat)) : En9), _, _, (by unfold rdQ; rw [hr1]; simp only; rw [if_neg (by omega)]), hok0.mp hok, hok, rfl, (sm_tr (sm_mo sn1 (by decide)) (sm_mo sI6 (by decide))), (((sI6 3 (by decide)).trans z31)).trans (congrArg nI (by rw [fl_add]; simp only [List.append_assoc, List.append_nil, eN, eD])), aI6, (((sI6 7 (by decide)).trans z71)).trans (congrArg nI (by omega)), (sm_tr (sm_mo sG1 (by decide)) (sm_mo sK (by decide))), hGn⟩)
          · exact absurd c16 (by decide)
        · refine lv_istore (lv' := [(4, _), (3, _), (2, _), (1, _), (0, _)]) hx hb d_Re_takeQuestion_90 hl (by decide) rfl (fun ls hl => ?_)
          refine lv_iload hx hb d_Re_takeQuestion_92 (lv_at hl 0 rfl) ?_
          refine lv_if_ne (tgt := 107) hx hb d_Re_takeQuestion_94 (by decide) (fun c17 => ?_) (fun c17 => ?_)
          · exact absurd c17 (by decide)
          · refine lv_aload_n hx hb d_Re_takeQuestion_97 rfl (lv_at hl 4 rfl) ?_
            refine lv_bipush (v := 7) hx hb d_Re_takeQuestion_98 (by decide) ?_
            refine lv_topq (y := nI 7) (rfl) ?_
            refine lv_iload_n hx hb d_Re_takeQuestion_100 rfl (lv_at hl 3 rfl) ?_
            refine mw_cV (ci := 4) (k := 17) C0 (m_Re_fail l D9 cB cI cJ cG a O _ _ (nI 7) _) g_267 g_4 g_264 g_266 gs_Re_fail ⟨by decide +kernel, by decide +kernel, show Option.map (fun d => d.parameters.length) (parseMethodDescriptor y_Re_fail.desc) = some 2 by decide +kernel⟩ ⟨by decide, by decide⟩ rfl rfl hP hD hS hA rfl ww_17 hl.1 (Nat.le_of_ble_eq_true rfl) rfl d_Re_takeQuestion_101 ⟨by decide, by decide⟩ (fun v9 w9 H locs hq hP hD hS => ?_)
            obtain ⟨I18, F19, hw9, q20⟩ := hq
            subst hw9
            obtain ⟨rfl, sI18, zI18, rfl⟩ := q20
            refine lv_if_eq (tgt := 111) hx hb d_Re_takeQuestion_104 (by decide) (fun c21 => ?_) (fun c21 => ?_)
            · refine lv_iconst (v := 0) hx hb d_Re_takeQuestion_111 (by decide) ?_
              refine lv_topq (y := nI 0) (rfl) ?_
              exact hret _ _ _ _ _ _ _ hS hP hD d_Re_takeQuestion_112 (nr_z (Or.inl rfl)) (Or.inr ⟨(fun x e c hx9 => by rw [show rdQ t pos = some (((0, t2 t e1, t2 t (e1 + 2), nI 0, nm1, ([] : List Nat)) : En9), _, _) from (by unfold rdQ; rw [hr1]; simp only; rw [if_neg (by omega)])] at hx9; simp only [Option.some.injEq, Prod.mk.injEq] at hx9; rw [← hx9.1]; cases hb9 : okB es _ with | false => rfl | true => exact absurd (hok0.mpr hb9) hok), rfl, (sm_tr (sm_tr (sm_tr (sm_mo sn1 (by decide)) (sm_mo sI6 (by decide))) (sm_mo sK (by decide))) (sm_mo sI18 (by decide))), (by rw [zI18]; decide), (sm_mo sG1 (by decide)), wB1.1⟩)
            · exact absurd c21 (by decide)
      · have c5 : ¬ (e1 + 4 ≤ t.length) := fun z9 => c5 ((nI_leI (a := e1 + 4) (b := t.length) (by omega) (by omega)).mpr z9)
        refine lv_aload_n hx hb d_Re_takeQuestion_44 rfl (lv_at hl 3 rfl) ?_
        refine lv_iconst (v := 1) hx hb d_Re_takeQuestion_45 (by decide) ?_
        refine lv_topq (y := nI 1) (rfl) ?_
        refine lv_iload_n hx hb d_Re_takeQuestion_46 rfl (lv_at hl 0 rfl) ?_
        refine mw_cV (ci := 4) (k := 17) C0 (m_Re_fail l D9 cB cI cJ cG a O _ _ (nI 1) _) g_267 g_4 g_264 g_266 gs_Re_fail ⟨by decide +kernel, by decide +kernel, show Option.map (fun d => d.parameters.length) (parseMethodDescriptor y_Re_fail.desc) = some 2 by decide +kernel⟩ ⟨by decide, by decide⟩ rfl rfl hP hD hS hA rfl ww_17 hl.1 (Nat.le_of_ble_eq_true rfl) rfl d_Re_takeQuestion_47 ⟨by decide, by decide⟩ (fun v9 w9 H locs hq hP hD hS => ?_)
        obtain ⟨I22, F23, hw9, q24⟩ := hq
        subst hw9
        obtain ⟨rfl, sI22, zI22, rfl⟩ := q24
        exact hret _ _ _ _ _ _ _ hS hP hD d_Re_takeQuestion_50 (nr_z (Or.inl rfl)) (Or.inr ⟨(fun x e c hx9 => by rw [show rdQ t pos = none from (by unfold rdQ; rw [hr1]; simp only; rw [if_pos (by omega)])] at hx9; cases hx9), rfl, (sm_tr (sm_mo sn1 (by decide)) (sm_mo sI22 (by decide))), (by rw [zI22]; decide), (sm_mo sG1 (by decide)), wB1.1⟩)
    · exact absurd c4 (by decide)
  · refine lv_if_ne (tgt := 26) hx hb d_Re_takeQuestion_21 (by decide) (fun c25 => ?_) (fun c25 => ?_)
    · exact absurd c25 (by decide)
    · refine lv_iconst (v := 0) hx hb d_Re_takeQuestion_24 (by decide) ?_
      refine lv_topq (y := nI 0) (rfl) ?_
      exact hret _ _ _ _ _ _ _ hS hP hD d_Re_takeQuestion_25 (nr_z (Or.inl rfl)) (Or.inr ⟨(fun x e c hx9 => by rw [show rdQ t pos = none from (by unfold rdQ; rw [hr1])] at hx9; cases hx9), rfl, (sm_mo sn1 (by decide)), z31, (sm_mo sG1 (by decide)), wB1.1⟩)
set_option maxHeartbeats 4000000 in
set_option maxRecDepth 100000 in
/-- Reader.takeRecord -/
theorem m_Re_takeRecord (l : Launch) (D9 : va_G) (cB cI cJ cG : ClassId) (a : Nat → Nat) (O : Nat → Int64) (I : Nat → Int32) (F : Nat → Nat → Int32) (t : List Nat) (hT2 : I 2 = nI t.length) (htl : t.length ≤ 65536) (hT : BR 0 65536 (F 2) t) (es : List En9) (pos fw : Nat) (hG : GaR F es) (hO : okE es) (hL3 : I 3 = nI (fl es).length) (hps : I 6 = nI pos) (hpb : pos ≤ 65536) (hfw : I 7 = nI fw) (hfb : fw < 90000000) (sc : Nat) (hsc : 1 ≤ sc ∧ sc < 4) : MC l D9 cB cI cJ cG a O y_Re_takeRecord b_Re_takeRecord 10 (some .boolean) 6 [.ref (a 17), .int (nI sc)] I F (fun v I' F' => (∃ x e c, rdR t sc pos = some (x, e, c) ∧ okB es x = true ∧ okE (es ++ [x]) ∧ v = some (.int (nI 1)) ∧ sm [3, 6, 7, 8, 9] I I' ∧ I' 3 = nI (fl (es ++ [x])).length ∧ I' 6 = nI e ∧ I' 7 = nI (fw + c) ∧ sm [4, 5, 6, 7, 8, 9, 10, 12, 13, 14, 15, 16] F F' ∧ GaR F' (es ++ [x])) ∨ ((∀ x e c, rdR t sc pos = some (x, e, c) → okB es x = false) ∧ v = some (.int (nI 0)) ∧ sm [3, 4, 5, 6, 7, 8, 9] I I' ∧ ¬ I' 4 = 0 ∧ sm [4, 5, 6, 7, 8, 9, 10, 12, 13, 14, 15, 16] F F' ∧ sb_Fit (F' 4))) := by
  refine mc_of (by decide) (Nat.le_of_ble_eq_true rfl) ?_
  intro p e s m below meth c ls A0 Q C0 hP hD hA hS hl hret
  obtain ⟨hx, hb, hml, hr, hlocks, hown, hts, hK⟩ := id C0
  have hl : lv_has ls 10 [(0, .ref (a 17)), (1, .int (nI sc))] := hl
  have k2 := hO.2.2.1
  have hBL := hG.2.2
  refine lv_aload_n hx hb d_Re_takeRecord_0 rfl (lv_at hl 0 rfl) ?_
  refine va_get (D := D9) (ci := 4) (C := R_Re) (T := F_Re) (N := 8) hx hb hts i_Re hown hK hP 17 ww_17 rfl 4 (by decide) (hts _ g_125) (fun _ h9 => h9) rfl d_Re_takeRecord_1 ?_
  refine lv_topq (y := nI pos) (hps) ?_
  refine lv_istore_n (lv' := [(2, _), (0, _), (1, _)]) hx hb d_Re_takeRecord_4 rfl hl (by decide) rfl (fun ls hl => ?_)
  refine lv_aload_n hx hb d_Re_takeRecord_5 rfl (lv_at hl 1 rfl) ?_
  refine va_get (D := D9) (ci := 4) (C := R_Re) (T := F_Re) (N := 8) hx hb hts i_Re hown hK hP 17 ww_17 rfl 1 (by decide) (hts _ g_121) (fun _ h9 => h9) rfl d_Re_takeRecord_6 ?_
  refine va_getN (D := D9) (ci := 2) (C := R_Ga) (T := F_Ga) (N := 11) hx hb hts i_Ga hown hK hP 19 ww_19 rfl 0 (by decide) (hts _ g_60) (fun _ h9 => h9) rfl d_Re_takeRecord_9 ?_
  refine va_getN (D := D9) (ci := 0) (C := R_By) (T := F_By) (N := 2) hx hb hts i_By hown hK hP 3 ww_3 rfl 1 (by decide) (hts _ g_39) (fun _ h9 => h9) rfl d_Re_takeRecord_12 ?_
  refine lv_topq (y := nI ((fl es).length)) (hL3) ?_
  refine lv_istore_n (lv' := [(3, _), (2, _), (0, _), (1, _)]) hx hb d_Re_takeRecord_15 rfl hl (by decide) rfl (fun ls hl => ?_)
  refine lv_aload_n hx hb d_Re_takeRecord_16 rfl (lv_at hl 2 rfl) ?_
  refine lv_iload_n hx hb d_Re_takeRecord_17 rfl (lv_at hl 1 rfl) ?_
  refine mw_cV (ci := 4) (k := 17) C0 (m_Re_takeOwner l D9 cB cI cJ cG a O _ _ t hT2 htl hT (fl es) pos fw hL3 (by omega) hBL (by omega) hfw) g_275 g_4 g_272 g_274 gs_Re_takeOwner ⟨by decide +kernel, by decide +kernel, show Option.map (fun d => d.parameters.length) (parseMethodDescriptor y_Re_takeOwner.desc) = some 1 by decide +kernel⟩ ⟨by decide, by decide⟩ rfl rfl hP hD hS hA rfl ww_17 hl.1 (Nat.le_of_ble_eq_true rfl) rfl d_Re_takeRecord_18 ⟨by decide, by decide⟩ (fun v9 w9 H locs hq hP hD hS => ?_)
  obtain ⟨I1, F2, hw9, q3⟩ := hq
  subst hw9
  rcases q3 with ⟨nm1, e1, c_1, hr1, rfl, sn1, z31, z61, z71, z81, sG1, wB1⟩ | ⟨hr1, rfl, sn1, z31, sG1, wB1⟩
  · have hbd1 := rn_bd hr1 (by decide)
    have hln1 : (fl es ++ nm1).length = (fl es).length + nm1.length := List.length_append
    refine lv_if_ne (tgt := 26) hx hb d_Re_takeRecord_21 (by decide) (fun c4 => ?_) (fun c4 => ?_)
    · refine lv_aload_n hx hb d_Re_takeRecord_26 rfl (lv_at hl 2 rfl) ?_
      refine va_get (D := D9) (ci := 4) (C := R_Re) (T := F_Re) (N := 8) hx hb hts i_Re hown hK hP 17 ww_17 rfl 4 (by decide) (hts _ g_125) (fun _ h9 => h9) rfl d_Re_takeRecord_27 ?_
      refine lv_topq (y := nI e1) (z61) ?_
      refine lv_istore (lv' := [(4, _), (3, _), (2, _), (0, _), (1, _)]) hx hb d_Re_takeRecord_30 hl (by decide) rfl (fun ls hl => ?_)
      refine lv_iload hx hb d_Re_takeRecord_32 (lv_at hl 0 rfl) ?_
      refine lv_bipush (v := 10) hx hb d_Re_takeRecord_34 (by decide) ?_
      refine lv_topq (y := nI 10) (rfl) ?_
      refine lv_iadd hx hb d_Re_takeRecord_36 ?_
      refine lv_topq (y := nI (e1 + 10)) (nI_add _ _) ?_
      refine lv_istore (lv' := [(5, _), (4, _), (3, _), (2, _), (0, _), (1, _)]) hx hb d_Re_takeRecord_37 hl (by decide) rfl (fun ls hl => ?_)
      refine lv_iload hx hb d_Re_takeRecord_39 (lv_at hl 0 rfl) ?_
      refine lv_aload_n hx hb d_Re_takeRecord_41 rfl (lv_at hl 4 rfl) ?_
      refine va_get (D := D9) (ci := 4) (C := R_Re) (T := F_Re) (N := 8) hx hb hts i_Re hown hK hP 17 ww_17 rfl 0 (by decide) (hts _ g_120) (fun _ h9 => h9) rfl d_Re_takeRecord_42 ?_
      refine va_getN (D := D9) (ci := 0) (C := R_By) (T := F_By) (N := 2) hx hb hts i_By hown hK hP 1 ww_1 rfl 1 (by decide) (hts _ g_39) (fun _ h9 => h9) rfl d_Re_takeRecord_45 ?_
      refine lv_topq (y := nI t.length) (((sn1 2 (by decide)).trans hT2)) ?_
      refine lv_icmp_le (tgt := 59) hx hb d_Re_takeRecord_48 (by decide) (fun c5 => ?_) (fun c5 => ?_)
      · have c5 : e1 + 10 ≤ t.length := (nI_leI (a := e1 + 10) (b := t.length) (by omega) (by omega)).mp c5
        have hsz9 : t2 t (e1 + 8) < 65536 := t2_lt hT htl (by omega)
        refine lv_iload hx hb d_Re_takeRecord_59 (lv_at hl 0 rfl) ?_
        refine lv_aload_n hx hb d_Re_takeRecord_61 rfl (lv_at hl 4 rfl) ?_
        refine va_get (D := D9) (ci := 4) (C := R_Re) (T := F_Re) (N := 8) hx hb hts i_Re hown hK hP 17 ww_17 rfl 0 (by decide) (hts _ g_120) (fun _ h9 => h9) rfl d_Re_takeRecord_62 ?_
        refine lv_iload hx hb d_Re_takeRecord_65 (lv_at hl 1 rfl) ?_
        refine lv_bipush (v := 8) hx hb d_Re_takeRecord_67 (by decide) ?_
        refine lv_topq (y := nI 8) (rfl) ?_
        refine lv_iadd hx hb d_Re_takeRecord_69 ?_
        refine lv_topq (y := nI (e1 + 8)) (nI_add _ _) ?_
        refine mw_cVN (ci := 0) (k := 1) C0 (m_By_twoAtL_tp l D9 cB cI cJ cG a O _ _ t (e1 + 8) (BR_eq hT (sG1 2 (by decide))) htl (by omega)) g_255 g_2 g_252 g_254 gs_By_twoAt ⟨by decide +kernel, by decide +kernel, show Option.map (fun d => d.parameters.length) (parseMethodDescriptor y_By_twoAt.desc) = some 1 by decide +kernel⟩ ⟨by decide, by decide⟩ rfl rfl hP hD hS hA rfl ww_1 hl.1 (Nat.le_of_ble_eq_true rfl) rfl d_Re_takeRecord_70 ⟨by decide, by decide⟩ (fun v9 w9 H locs hq hP hD hS => ?_)
        obtain ⟨I6, F7, hw9, q8⟩ := hq
        subst hw9
        obtain ⟨rfl, rfl, rfl⟩ := q8
        refine lv_iadd hx hb d_Re_takeRecord_73 ?_
        refine lv_topq (y := nI (e1 + 10 + (t2 t (e1 + 8)))) (nI_add _ _) ?_
        refine lv_istore (lv' := [(6, _), (5, _), (4, _), (3, _), (2, _), (0, _), (1, _)]) hx hb d_Re_takeRecord_74 hl (by decide) rfl (fun ls hl => ?_)
        refine lv_iload hx hb d_Re_takeRecord_76 (lv_at hl 0 rfl) ?_
        refine lv_aload_n hx hb d_Re_takeRecord_78 rfl (lv_at hl 5 rfl) ?_
        refine va_get (D := D9) (ci := 4) (C := R_Re) (T := F_Re) (N := 8) hx hb hts i_Re hown hK hP 17 ww_17 rfl 0 (by decide) (hts _ g_120) (fun _ h9 => h9) rfl d_Re_takeRecord_79 ?_
        refine va_getN (D := D9) (ci := 0) (C := R_By) (T := F_By) (N := 2) hx hb hts i_By hown hK hP 1 ww_1 rfl 1 (by decide) (hts _ g_39) (fun _ h9 => h9) rfl d_Re_takeRecord_82 ?_
        refine lv_topq (y := nI t.length) (((sn1 2 (by decide)).trans hT2)) ?_
        refine lv_icmp_le (tgt := 96) hx hb d_Re_takeRecord_85 (by decide) (fun c9 => ?_) (fun c9 => ?_)
        · have c9 : e1 + 10 + (t2 t (e1 + 8)) ≤ t.length := (nI_leI (a := e1 + 10 + (t2 t (e1 + 8))) (b := t.length) (by omega) (by omega)).mp c9
          have hty9 : t2 t e1 < 65536 := t2_lt hT htl (by omega)
          refine lv_aload_n hx hb d_Re_takeRecord_96 rfl (lv_at hl 5 rfl) ?_
          refine va_get (D := D9) (ci := 4) (C := R_Re) (T := F_Re) (N := 8) hx hb hts i_Re hown hK hP 17 ww_17 rfl 0 (by decide) (hts _ g_120) (fun _ h9 => h9) rfl d_Re_takeRecord_97 ?_
          refine lv_iload hx hb d_Re_takeRecord_100 (lv_at hl 2 rfl) ?_
          refine mw_cVN (ci := 0) (k := 1) C0 (m_By_twoAtL_tp l D9 cB cI cJ cG a O _ _ t e1 (BR_eq hT (sG1 2 (by decide))) htl (by omega)) g_255 g_2 g_252 g_254 gs_By_twoAt ⟨by decide +kernel, by decide +kernel, show Option.map (fun d => d.parameters.length) (parseMethodDescriptor y_By_twoAt.desc) = some 1 by decide +kernel⟩ ⟨by decide, by decide⟩ rfl rfl hP hD hS hA rfl ww_1 hl.1 (Nat.le_of_ble_eq_true rfl) rfl d_Re_takeRecord_102 ⟨by decide, by decide⟩ (fun v9 w9 H locs hq hP hD hS => ?_)
          obtain ⟨I10, F11, hw9, q12⟩ := hq
          subst hw9
          obtain ⟨rfl, rfl, rfl⟩ := q12
          refine lv_istore (lv' := [(7, _), (6, _), (5, _), (4, _), (3, _), (2, _), (0, _), (1, _)]) hx hb d_Re_takeRecord_105 hl (by decide) rfl (fun ls hl => ?_)
          refine lv_aload_n hx hb d_Re_takeRecord_107 rfl (lv_at hl 6 rfl) ?_
          refine lv_iload hx hb d_Re_takeRecord_108 (lv_at hl 0 rfl) ?_
          refine lv_iload hx hb d_Re_takeRecord_110 (lv_at hl 2 rfl) ?_
          refine lv_iload hx hb d_Re_takeRecord_112 (lv_at hl 1 rfl) ?_
          refine mw_cV (ci := 4) (k := 17) C0 (m_Re_takeData l D9 cB cI cJ cG a O _ _ t ((sn1 2 (by decide)).trans hT2) htl (BR_eq hT (sG1 2 (by decide))) (fl es ++ nm1) (t2 t e1) (e1 + 10) (e1 + 10 + t2 t (e1 + 8)) (fw + c_1) z31 (by omega) wB1 hty9 (by omega) (by omega) z71 (by omega) nm1.length z81 (by omega)) g_327 g_4 g_324 g_326 gs_Re_takeData ⟨by decide +kernel, by decide +kernel, show Option.map (fun d => d.parameters.length) (parseMethodDescriptor y_Re_takeData.desc) = some 3 by decide +kernel⟩ ⟨by decide, by decide⟩ rfl rfl hP hD hS hA rfl ww_17 hl.1 (Nat.le_of_ble_eq_true rfl) rfl d_Re_takeRecord_114 ⟨by decide, by decide⟩ (fun v9 w9 H locs hq hP hD hS => ?_)
          obtain ⟨I13, F14, hw9, q15⟩ := hq
          subst hw9
          rcases q15 with ⟨da, e_a, hda, rfl, tda, x3a, x7a, xFa, xBa⟩ | ⟨hda, rfl, tda, x3a, xFa, xBa⟩
          · have hbea := rdD_bd hda
            have hcea := rdD_c hda
            have hlxa : (fl es ++ nm1 ++ da).length = (fl es ++ nm1).length + da.length := List.length_append
            refine lv_if_ne (tgt := 122) hx hb d_Re_takeRecord_117 (by decide) (fun c16 => ?_) (fun c16 => ?_)
            · refine lv_aload_n hx hb d_Re_takeRecord_122 rfl (lv_at hl 6 rfl) ?_
              refine lv_iload hx hb d_Re_takeRecord_123 (lv_at hl 1 rfl) ?_
              refine va_put (D := D9) (ty := .int) (ci := 4) (C := R_Re) (T := F_Re) (N := 8) hx hb hts i_Re t_Re t_Re_ok n_Re hown hK hP hD hS 17 ww_17 rfl 4 (by decide) (hts _ g_125) (fun _ h9 => h9) rfl (by decide +kernel) rfl rfl (Nat.le_of_ble_eq_true rfl) d_Re_takeRecord_125 (fun H locs hP hD hS => ?_)
              obtain ⟨I17, aI17, sI17, hP, hD⟩ := fx (P := fun z => va_P D9 cls9 (WW a cB cI cJ cG z _ O) H ∧ va_D A0 (WW a cB cI cJ cG z _ O)) ⟨wp_6 hP, wd_6 hD⟩
              refine lv_aload_n hx hb d_Re_takeRecord_128 rfl (lv_at hl 6 rfl) ?_
              refine va_get (D := D9) (ci := 4) (C := R_Re) (T := F_Re) (N := 8) hx hb hts i_Re hown hK hP 17 ww_17 rfl 0 (by decide) (hts _ g_120) (fun _ h9 => h9) rfl d_Re_takeRecord_129 ?_
              refine lv_iload hx hb d_Re_takeRecord_132 (lv_at hl 3 rfl) ?_
              refine lv_iconst (v := 2) hx hb d_Re_takeRecord_134 (by decide) ?_
              refine lv_topq (y := nI 2) (rfl) ?_
              refine lv_iadd hx hb d_Re_takeRecord_135 ?_
              refine lv_topq (y := nI (e1 + 2)) (nI_add _ _) ?_
              refine mw_cVN (ci := 0) (k := 1) C0 (m_By_twoAtL_tp l D9 cB cI cJ cG a O _ _ t (e1 + 2) (BR_eq hT ((xFa 2 (by decide)).trans (sG1 2 (by decide)))) htl (by omega)) g_255 g_2 g_252 g_254 gs_By_twoAt ⟨by decide +kernel, by decide +kernel, show Option.map (fun d => d.parameters.length) (parseMethodDescriptor y_By_twoAt.desc) = some 1 by decide +kernel⟩ ⟨by decide, by decide⟩ rfl rfl hP hD hS hA rfl ww_1 hl.1 (Nat.le_of_ble_eq_true rfl) rfl d_Re_takeRecord_136 ⟨by decide, by decide⟩ (fun v9 w9 H locs hq hP hD hS => ?_)
              obtain ⟨I18, F19, hw9, q20⟩ := hq
              subst hw9
              obtain ⟨rfl, rfl, rfl⟩ := q20
              refine lv_istore (lv' := [(8, _), (7, _), (6, _), (5, _), (4, _), (3, _), (2, _), (0, _), (1, _)]) hx hb d_Re_takeRecord_139 hl (by decide) rfl (fun ls hl => ?_)
              refine lv_aload_n hx hb d_Re_takeRecord_141 rfl (lv_at hl 7 rfl) ?_
              refine va_get (D := D9) (ci := 4) (C := R_Re) (T := F_Re) (N := 8) hx hb hts i_Re hown hK hP 17 ww_17 rfl 1 (by decide) (hts _ g_121) (fun _ h9 => h9) rfl d_Re_takeRecord_142 ?_
              refine lv_iload_n hx hb d_Re_takeRecord_145 rfl (lv_at hl 8 rfl) ?_
              refine lv_iload_n hx hb d_Re_takeRecord_146 rfl (lv_at hl 5 rfl) ?_
              refine lv_aload_n hx hb d_Re_takeRecord_147 rfl (lv_at hl 7 rfl) ?_
              refine va_get (D := D9) (ci := 4) (C := R_Re) (T := F_Re) (N := 8) hx hb hts i_Re hown hK hP 17 ww_17 rfl 6 (by decide) (hts _ g_128) (fun _ h9 => h9) rfl d_Re_takeRecord_148 ?_
              refine lv_topq (y := nI nm1.length) (((sI17 8 (by decide)).trans ((tda 8 (by decide)).trans z81))) ?_
              refine lv_iload hx hb d_Re_takeRecord_151 (lv_at hl 1 rfl) ?_
              refine lv_iload hx hb d_Re_takeRecord_153 (lv_at hl 0 rfl) ?_
              refine lv_aload_n hx hb d_Re_takeRecord_155 rfl (lv_at hl 7 rfl) ?_
              refine va_get (D := D9) (ci := 4) (C := R_Re) (T := F_Re) (N := 8) hx hb hts i_Re hown hK hP 17 ww_17 rfl 0 (by decide) (hts _ g_120) (fun _ h9 => h9) rfl d_Re_takeRecord_156 ?_
              refine lv_iload hx hb d_Re_takeRecord_159 (lv_at hl 4 rfl) ?_
              refine lv_iconst (v := 4) hx hb d_Re_takeRecord_161 (by decide) ?_
              refine lv_topq (y := nI 4) (rfl) ?_
              refine lv_iadd hx hb d_Re_takeRecord_162 ?_
              refine lv_topq (y := nI (e1 + 4)) (nI_add _ _) ?_
              refine mw_cVN (ci := 0) (k := 1) C0 (m_By_fourAtL_tp l D9 cB cI cJ cG a O _ _ t (e1 + 4) (BR_eq hT ((xFa 2 (by decide)).trans (sG1 2 (by decide)))) htl (by omega)) g_359 g_2 g_356 g_358 gs_By_fourAt ⟨by decide +kernel, by decide +kernel, show Option.map (fun d => d.parameters.length) (parseMethodDescriptor y_By_fourAt.desc) = some 1 by decide +kernel⟩ ⟨by decide, by decide⟩ rfl rfl hP hD hS hA rfl ww_1 hl.1 (Nat.le_of_ble_eq_true rfl) rfl d_Re_takeRecord_163 ⟨by decide, by decide⟩ (fun v9 w9 H locs hq hP hD hS => ?_)
              obtain ⟨I21, F22, hw9, q23⟩ := hq
              subst hw9
              obtain ⟨rfl, rfl, rfl⟩ := q23
              have hBk : BR 0 65536 (F14 4) (fl es ++ (nm1 ++ da)) := by simpa only [List.append_assoc, List.append_nil] using xBa
              have hGk : GaR F14 es := GaR_sm (M := [4]) hG (sm_tr (sm_mo sG1 (by decide)) (sm_mo xFa (by decide))) (by decide) (BR_pre hBk) hO
              have hxS : eS ((sc, t2 t e1, t2 t (e1 + 2), i4 t (e1 + 4), nm1, da) : En9) < 4 := by show sc < 4; omega
              have hxT : eT ((sc, t2 t e1, t2 t (e1 + 2), i4 t (e1 + 4), nm1, da) : En9) < 65536 := t2_lt (i := e1) hT htl (by omega)
              have hxK : eK ((sc, t2 t e1, t2 t (e1 + 2), i4 t (e1 + 4), nm1, da) : En9) < 65536 := t2_lt (i := (e1 + 2)) hT htl (by omega)
              have hok0 := okB_iff hO hxS hxT hxK
              have hLk : I17 3 = nI ((fl es).length + (nm1.length + da.length)) := (((sI17 3 (by decide)).trans x3a)).trans (congrArg nI (by simp only [List.length_append, List.length_nil]; omega))
              refine mw_cVN (ci := 2) (k := 19) C0 (m_Ga_keep l D9 cB cI cJ cG a O _ _ es ((sc, t2 t e1, t2 t (e1 + 2), i4 t (e1 + 4), nm1, da) : En9) hxS hxT hxK hGk hO hBk hLk (by show nm1.length + da.length < _; first | omega | (simp only [List.length_nil]; omega))) g_310 g_3 g_307 g_309 gs_Ga_keep ⟨by decide +kernel, by decide +kernel, show Option.map (fun d => d.parameters.length) (parseMethodDescriptor y_Ga_keep.desc) = some 6 by decide +kernel⟩ ⟨by decide, by decide⟩ rfl rfl hP hD hS hA rfl ww_19 hl.1 (Nat.le_of_ble_eq_true rfl) rfl d_Re_takeRecord_166 ⟨by decide, by decide⟩ (fun v9 w9 H locs hq hP hD hS => ?_)
              obtain ⟨I24, F25, hw9, q26⟩ := hq
              subst hw9
              rcases q26 with ⟨hok, rfl, rfl, hGn, sK⟩ | ⟨hok, rfl, sK, zK, rfl⟩
              · refine lv_istore (lv' := [(9, _), (8, _), (7, _), (6, _), (5, _), (4, _), (3, _), (2, _), (0, _), (1, _)]) hx hb d_Re_takeRecord_169 hl (by decide) rfl (fun ls hl => ?_)
                refine lv_iload hx hb d_Re_takeRecord_171 (lv_at hl 0 rfl) ?_
                refine lv_if_ne (tgt := 186) hx hb d_Re_takeRecord_173 (by decide) (fun c27 => ?_) (fun c27 => ?_)
                · refine lv_iconst (v := 1) hx hb d_Re_takeRecord_186 (by decide) ?_
                  refine lv_topq (y := nI 1) (rfl) ?_
                  refine lv_goto (tgt := 191) hx hb d_Re_takeRecord_187 (by decide) ?_
                  exact hret _ _ _ _ _ _ _ hS hP hD d_Re_takeRecord_191 (nr_z (Or.inr rfl)) (Or.inl ⟨((sc, t2 t e1, t2 t (e1 + 2), i4 t (e1 + 4), nm1, da) : En9), _, _, (by unfold rdR; rw [hr1]; simp only; rw [if_neg (by omega), if_neg (by omega), hda]), hok0.mp hok, hok, rfl, (sm_tr (sm_tr (sm_mo sn1 (by decide)) (sm_mo tda (by decide))) (sm_mo sI17 (by decide))), (((sI17 3 (by decide)).trans x3a)).trans (congrArg nI (by rw [fl_add]; simp only [List.append_assoc, List.append_nil, eN, eD])), aI17, (((sI17 7 (by decide)).trans x7a)).trans (congrArg nI (by omega)), (sm_tr (sm_tr (sm_mo sG1 (by decide)) (sm_mo xFa (by decide))) (sm_mo sK (by decide))), hGn⟩)
                · exact absurd c27 (by decide)
              · refine lv_istore (lv' := [(9, _), (8, _), (7, _), (6, _), (5, _), (4, _), (3, _), (2, _), (0, _), (1, _)]) hx hb d_Re_takeRecord_169 hl (by decide) rfl (fun ls hl => ?_)
                refine lv_iload hx hb d_Re_takeRecord_171 (lv_at hl 0 rfl) ?_
                refine lv_if_ne (tgt := 186) hx hb d_Re_takeRecord_173 (by decide) (fun c28 => ?_) (fun c28 => ?_)
                · exact absurd c28 (by decide)
                · refine lv_aload_n hx hb d_Re_takeRecord_176 rfl (lv_at hl 8 rfl) ?_
                  refine lv_bipush (v := 7) hx hb d_Re_takeRecord_177 (by decide) ?_
                  refine lv_topq (y := nI 7) (rfl) ?_
                  refine lv_iload_n hx hb d_Re_takeRecord_179 rfl (lv_at hl 7 rfl) ?_
                  refine mw_cV (ci := 4) (k := 17) C0 (m_Re_fail l D9 cB cI cJ cG a O _ _ (nI 7) _) g_267 g_4 g_264 g_266 gs_Re_fail ⟨by decide +kernel, by decide +kernel, show Option.map (fun d => d.parameters.length) (parseMethodDescriptor y_Re_fail.desc) = some 2 by decide +kernel⟩ ⟨by decide, by decide⟩ rfl rfl hP hD hS hA rfl ww_17 hl.1 (Nat.le_of_ble_eq_true rfl) rfl d_Re_takeRecord_180 ⟨by decide, by decide⟩ (fun v9 w9 H locs hq hP hD hS => ?_)
                  obtain ⟨I29, F30, hw9, q31⟩ := hq
                  subst hw9
                  obtain ⟨rfl, sI29, zI29, rfl⟩ := q31
                  refine lv_if_eq (tgt := 190) hx hb d_Re_takeRecord_183 (by decide) (fun c32 => ?_) (fun c32 => ?_)
                  · refine lv_iconst (v := 0) hx hb d_Re_takeRecord_190 (by decide) ?_
                    refine lv_topq (y := nI 0) (rfl) ?_
                    exact hret _ _ _ _ _ _ _ hS hP hD d_Re_takeRecord_191 (nr_z (Or.inl rfl)) (Or.inr ⟨(fun x e c hx9 => by rw [show rdR t sc pos = some (((sc, t2 t e1, t2 t (e1 + 2), i4 t (e1 + 4), nm1, da) : En9), _, _) from (by unfold rdR; rw [hr1]; simp only; rw [if_neg (by omega), if_neg (by omega), hda])] at hx9; simp only [Option.some.injEq, Prod.mk.injEq] at hx9; rw [← hx9.1]; cases hb9 : okB es _ with | false => rfl | true => exact absurd (hok0.mpr hb9) hok), rfl, (sm_tr (sm_tr (sm_tr (sm_tr (sm_mo sn1 (by decide)) (sm_mo tda (by decide))) (sm_mo sI17 (by decide))) (sm_mo sK (by decide))) (sm_mo sI29 (by decide))), (by rw [zI29]; decide), (sm_tr (sm_mo sG1 (by decide)) (sm_mo xFa (by decide))), xBa.1⟩)
                  · exact absurd c32 (by decide)
            · exact absurd c16 (by decide)
          · refine lv_if_ne (tgt := 122) hx hb d_Re_takeRecord_117 (by decide) (fun c33 => ?_) (fun c33 => ?_)
            · exact absurd c33 (by decide)
            · refine lv_iconst (v := 0) hx hb d_Re_takeRecord_120 (by decide) ?_
              refine lv_topq (y := nI 0) (rfl) ?_
              exact hret _ _ _ _ _ _ _ hS hP hD d_Re_takeRecord_121 (nr_z (Or.inl rfl)) (Or.inr ⟨(fun x e c hx9 => by rw [show rdR t sc pos = none from (by unfold rdR; rw [hr1]; simp only; rw [if_neg (by omega), if_neg (by omega), hda])] at hx9; cases hx9), rfl, (sm_tr (sm_mo sn1 (by decide)) (sm_mo tda (by decide))), x3a, (sm_tr (sm_mo sG1 (by decide)) (sm_mo xFa (by decide))), xBa.1⟩)
        · have c9 : ¬ (e1 + 10 + (t2 t (e1 + 8)) ≤ t.length) := fun z9 => c9 ((nI_leI (a := e1 + 10 + (t2 t (e1 + 8))) (b := t.length) (by omega) (by omega)).mpr z9)
          refine lv_aload_n hx hb d_Re_takeRecord_88 rfl (lv_at hl 5 rfl) ?_
          refine lv_iconst (v := 1) hx hb d_Re_takeRecord_89 (by decide) ?_
          refine lv_topq (y := nI 1) (rfl) ?_
          refine lv_iload hx hb d_Re_takeRecord_90 (lv_at hl 1 rfl) ?_
          refine mw_cV (ci := 4) (k := 17) C0 (m_Re_fail l D9 cB cI cJ cG a O _ _ (nI 1) _) g_267 g_4 g_264 g_266 gs_Re_fail ⟨by decide +kernel, by decide +kernel, show Option.map (fun d => d.parameters.length) (parseMethodDescriptor y_Re_fail.desc) = some 2 by decide +kernel⟩ ⟨by decide, by decide⟩ rfl rfl hP hD hS hA rfl ww_17 hl.1 (Nat.le_of_ble_eq_true rfl) rfl d_Re_takeRecord_92 ⟨by decide, by decide⟩ (fun v9 w9 H locs hq hP hD hS => ?_)
          obtain ⟨I34, F35, hw9, q36⟩ := hq
          subst hw9
          obtain ⟨rfl, sI34, zI34, rfl⟩ := q36
          exact hret _ _ _ _ _ _ _ hS hP hD d_Re_takeRecord_95 (nr_z (Or.inl rfl)) (Or.inr ⟨(fun x e c hx9 => by rw [show rdR t sc pos = none from (by unfold rdR; rw [hr1]; simp only; rw [if_neg (by omega), if_pos (by omega)])] at hx9; cases hx9), rfl, (sm_tr (sm_mo sn1 (by decide)) (sm_mo sI34 (by decide))), (by rw [zI34]; decide), (sm_mo sG1 (by decide)), wB1.1⟩)
      · have c5 : ¬ (e1 + 10 ≤ t.length) := fun z9 => c5 ((nI_leI (a := e1 + 10) (b := t.length) (by omega) (by omega)).mpr z9)
        refine lv_aload_n hx hb d_Re_takeRecord_51 rfl (lv_at hl 4 rfl) ?_
        refine lv_iconst (v := 1) hx hb d_Re_takeRecord_52 (by decide) ?_
        refine lv_topq (y := nI 1) (rfl) ?_
        refine lv_iload hx hb d_Re_takeRecord_53 (lv_at hl 1 rfl) ?_
        refine mw_cV (ci := 4) (k := 17) C0 (m_Re_fail l D9 cB cI cJ cG a O _ _ (nI 1) _) g_267 g_4 g_264 g_266 gs_Re_fail ⟨by decide +kernel, by decide +kernel, show Option.map (fun d => d.parameters.length) (parseMethodDescriptor y_Re_fail.desc) = some 2 by decide +kernel⟩ ⟨by decide, by decide⟩ rfl rfl hP hD hS hA rfl ww_17 hl.1 (Nat.le_of_ble_eq_true rfl) rfl d_Re_takeRecord_55 ⟨by decide, by decide⟩ (fun v9 w9 H locs hq hP hD hS => ?_)
        obtain ⟨I37, F38, hw9, q39⟩ := hq
        subst hw9
        obtain ⟨rfl, sI37, zI37, rfl⟩ := q39
        exact hret _ _ _ _ _ _ _ hS hP hD d_Re_takeRecord_58 (nr_z (Or.inl rfl)) (Or.inr ⟨(fun x e c hx9 => by rw [show rdR t sc pos = none from (by unfold rdR; rw [hr1]; simp only; rw [if_pos (by omega)])] at hx9; cases hx9), rfl, (sm_tr (sm_mo sn1 (by decide)) (sm_mo sI37 (by decide))), (by rw [zI37]; decide), (sm_mo sG1 (by decide)), wB1.1⟩)
    · exact absurd c4 (by decide)
  · refine lv_if_ne (tgt := 26) hx hb d_Re_takeRecord_21 (by decide) (fun c40 => ?_) (fun c40 => ?_)
    · exact absurd c40 (by decide)
    · refine lv_iconst (v := 0) hx hb d_Re_takeRecord_24 (by decide) ?_
      refine lv_topq (y := nI 0) (rfl) ?_
      exact hret _ _ _ _ _ _ _ hS hP hD d_Re_takeRecord_25 (nr_z (Or.inl rfl)) (Or.inr ⟨(fun x e c hx9 => by rw [show rdR t sc pos = none from (by unfold rdR; rw [hr1])] at hx9; cases hx9), rfl, (sm_mo sn1 (by decide)), z31, (sm_mo sG1 (by decide)), wB1.1⟩)
