/-! ONE STATE of both: what the class's rows and what the reference's rows hold -/
abbrev Ab : Type := List Nat × List En9 × Nat × Nat × List Nat × Nat × Nat
section SMA
variable {I I' : Nat → Int32} {F F' : Nat → Nat → Int32} {L M t m : List Nat} {es : List En9} {i g : Nat}
def CT (I : Nat → Int32) (F : Nat → Nat → Int32) (t : List Nat) : Prop := I 2 = nI t.length ∧ BR 0 65536 (F 2) t
def CG (I : Nat → Int32) (F : Nat → Nat → Int32) (es : List En9) (id9 fg : Nat) : Prop := GaR F es ∧ I 3 = nI (fl es).length ∧ I 11 = nI id9 ∧ I 12 = nI fg
def CM (I : Nat → Int32) (F : Nat → Nat → Int32) (m : List Nat) : Prop := BR 0 65536 (F 21) m ∧ I 13 = nI m.length
def CE (I : Nat → Int32) (F : Nat → Nat → Int32) : Prop := ∃ n0, n0 ≤ 8192 ∧ I 14 = nI n0 ∧ EnS F n0
def RT (I : Nat → Int32) (F : Nat → Nat → Int32) (t : List Nat) : Prop := I 16 = nI t.length ∧ BR 0 65536 (F 34) t
def RG (I : Nat → Int32) (F : Nat → Nat → Int32) (es : List En9) (id9 fg : Nat) : Prop := MoR F es ∧ I 17 = nI (fl es).length ∧ I 18 = nI es.length ∧ I 19 = nI id9 ∧ I 20 = nI fg
def RM (I : Nat → Int32) (F : Nat → Nat → Int32) (m : List Nat) : Prop := BR 0 131200 (F 44) m ∧ I 28 = nI m.length
def CS (I : Nat → Int32) (F : Nat → Nat → Int32) (A : Ab) : Prop := CT I F A.1 ∧ CG I F A.2.1 A.2.2.1 A.2.2.2.1 ∧ CM I F A.2.2.2.2.1 ∧ I 10 = nI A.2.2.2.2.2.1 ∧ I 1 = nI A.2.2.2.2.2.2 ∧ CE I F
def RS (I : Nat → Int32) (F : Nat → Nat → Int32) (A : Ab) : Prop := RT I F A.1 ∧ RG I F A.2.1 A.2.2.1 A.2.2.2.1 ∧ RM I F A.2.2.2.2.1 ∧ I 29 = nI A.2.2.2.2.2.1 ∧ I 23 = nI A.2.2.2.2.2.2
def PS (A : Ab) : Prop := A.1.length ≤ 65536 ∧ okE A.2.1 ∧ (∀ e ∈ A.2.1, wfE e) ∧ A.2.2.1 < 65536 ∧ A.2.2.2.1 < 65536 ∧ A.2.2.2.2.1.length ≤ 65536
theorem PS_ek {A : Ab} (h : PS A) : ∀ r e, A.2.1[r]? = some e → eOk (fl A.2.1) (of9 A.2.1 r) e := fun r e h1 => eOk_of h.2.2.1 h1
/-- the class's step leaves the reference's as it is; the other way round -/
def kpC (I I' : Nat → Int32) (F F' : Nat → Nat → Int32) : Prop := (∀ k, 15 ≤ k → I' k = I k) ∧ ∀ k, 33 ≤ k → F' k = F k
def kpR (I I' : Nat → Int32) (F F' : Nat → Nat → Int32) : Prop := (∀ k, k < 15 → I' k = I k) ∧ ∀ k, k < 33 → F' k = F k
theorem kpC_of (h1 : sm L I I') (h2 : sm M F F') (h3 : ∀ x ∈ L, x < 15) (h4 : ∀ x ∈ M, x < 33) : kpC I I' F F' := ⟨fun k hk => h1 k (fun z => by have := h3 k z; omega), fun k hk => h2 k (fun z => by have := h4 k z; omega)⟩
theorem kpR_of (h1 : sm L I I') (h2 : sm M F F') (h3 : ∀ x ∈ L, 15 ≤ x) (h4 : ∀ x ∈ M, 33 ≤ x) : kpR I I' F F' := ⟨fun k hk => h1 k (fun z => by have := h3 k z; omega), fun k hk => h2 k (fun z => by have := h4 k z; omega)⟩
theorem kpR_f (h1 : sm L I I') (h3 : ∀ x ∈ L, 15 ≤ x) : kpR I I' F F := kpR_of h1 (sm_rf (L := [])) h3 (by decide)
theorem kpC_rf : kpC I I F F := ⟨fun _ _ => rfl, fun _ _ => rfl⟩
theorem GaR_c (h : GaR F es) (hO : okE es) (e : ∀ k, 4 ≤ k → k ≤ 16 → F' k = F k) : GaR F' es := by
  obtain ⟨h1, h2, h3⟩ := h
  refine ⟨fun r x hr => ?_, fun s hs => ?_, ?_⟩
  · obtain ⟨a1, a2, a3, a4, a5, a6, a7⟩ := h1 r x hr
    have hs := (hO.2.2.2 x (List.mem_of_getElem? hr)).1
    rw [e 5 (by omega) (by omega), e 6 (by omega) (by omega), e 7 (by omega) (by omega), e 8 (by omega) (by omega), e 9 (by omega) (by omega), e 10 (by omega) (by omega), e (12 + eS x) (by omega) (by omega)]
    exact ⟨a1, a2, a3, a4, a5, a6, a7⟩
  · rw [e 16 (by omega) (by omega)]; exact h2 s hs
  · rw [e 4 (by omega) (by omega)]; exact h3
theorem CT_c (h : CT I F t) (e1 : I' 2 = I 2) (e2 : F' 2 = F 2) : CT I' F' t := by unfold CT; rw [e1, e2]; exact h
theorem CG_c (h : CG I F es i g) (hO : okE es) (e1 : ∀ k ∈ [3, 11, 12], I' k = I k) (e2 : ∀ k, 4 ≤ k → k ≤ 16 → F' k = F k) : CG I' F' es i g := by
  unfold CG; rw [e1 3 (by decide), e1 11 (by decide), e1 12 (by decide)]; exact ⟨GaR_c h.1 hO e2, h.2⟩
theorem CM_c (h : CM I F m) (e1 : I' 13 = I 13) (e2 : F' 21 = F 21) : CM I' F' m := by unfold CM; rw [e1, e2]; exact h
theorem CE_c (h : CE I F) (e1 : I' 14 = I 14) (e2 : ∀ k ∈ [25, 26, 27], F' k = F k) : CE I' F' := by
  obtain ⟨n, h1, h2, h3⟩ := h
  exact ⟨n, h1, e1.trans h2, EnS_sm h3 (e2 25 (by decide)) (e2 26 (by decide)) (e2 27 (by decide))⟩
theorem RT_c (h : RT I F t) (e1 : I' 16 = I 16) (e2 : F' 34 = F 34) : RT I' F' t := by unfold RT; rw [e1, e2]; exact h
theorem RG_c (h : RG I F es i g) (e1 : ∀ k ∈ [17, 18, 19, 20], I' k = I k) (e2 : ∀ k ∈ [35, 36, 37, 38, 39, 40, 41, 42, 43], F' k = F k) : RG I' F' es i g := by
  unfold RG; rw [e1 17 (by decide), e1 18 (by decide), e1 19 (by decide), e1 20 (by decide)]
  exact ⟨MoR_sm h.1 (e2 35 (by decide)) (e2 36 (by decide)) (e2 37 (by decide)) (e2 38 (by decide)) (e2 39 (by decide)) (e2 40 (by decide)) (e2 41 (by decide)) (e2 42 (by decide)) (e2 43 (by decide)), h.2⟩
theorem RM_c (h : RM I F m) (e1 : I' 28 = I 28) (e2 : F' 44 = F 44) : RM I' F' m := by unfold RM; rw [e1, e2]; exact h
/-! the same by lists of what may have changed -/
def frI (Ks L : List Nat) : Prop := ∀ k ∈ Ks, k ∉ L
theorem CT_s (h : CT I F t) (h1 : sm L I I') (h2 : sm M F F') (d : frI [2] L ∧ frI [2] M) : CT I' F' t := CT_c h (h1 2 (d.1 2 (by decide))) (h2 2 (d.2 2 (by decide)))
theorem CG_s (h : CG I F es i g) (hO : okE es) (h1 : sm L I I') (h2 : sm M F F') (d : frI [3, 11, 12] L ∧ frI [4, 5, 6, 7, 8, 9, 10, 11, 12, 13, 14, 15, 16] M) : CG I' F' es i g := CG_c h hO (fun k hk => h1 k (d.1 k hk)) (fun k a b => h2 k (d.2 k (by simp only [List.mem_cons, List.not_mem_nil, or_false]; omega)))
theorem CM_s (h : CM I F m) (h1 : sm L I I') (h2 : sm M F F') (d : frI [13] L ∧ frI [21] M) : CM I' F' m := CM_c h (h1 13 (d.1 13 (by decide))) (h2 21 (d.2 21 (by decide)))
theorem CE_s (h : CE I F) (h1 : sm L I I') (h2 : sm M F F') (d : frI [14] L ∧ frI [25, 26, 27] M) : CE I' F' := CE_c h (h1 14 (d.1 14 (by decide))) (fun k hk => h2 k (d.2 k hk))
theorem nu_s {k n : Nat} (h : I k = nI n) (h1 : sm L I I') (d : k ∉ L) : I' k = nI n := (h1 k d).trans h
theorem RT_s (h : RT I F t) (h1 : sm L I I') (h2 : sm M F F') (d : frI [16] L ∧ frI [34] M) : RT I' F' t := RT_c h (h1 16 (d.1 16 (by decide))) (h2 34 (d.2 34 (by decide)))
theorem RG_s (h : RG I F es i g) (h1 : sm L I I') (h2 : sm M F F') (d : frI [17, 18, 19, 20] L ∧ frI [35, 36, 37, 38, 39, 40, 41, 42, 43] M) : RG I' F' es i g := RG_c h (fun k hk => h1 k (d.1 k hk)) (fun k hk => h2 k (d.2 k hk))
theorem RM_s (h : RM I F m) (h1 : sm L I I') (h2 : sm M F F') (d : frI [28] L ∧ frI [44] M) : RM I' F' m := RM_c h (h1 28 (d.1 28 (by decide))) (h2 44 (d.2 44 (by decide)))
theorem RS_k {A : Ab} (h : RS I F A) (k : kpC I I' F F') : RS I' F' A := by
  obtain ⟨a, b, c, d, e⟩ := h
  exact ⟨RT_c a (k.1 16 (by omega)) (k.2 34 (by omega)), RG_c b (fun j hj => k.1 j (by simp only [List.mem_cons, List.not_mem_nil, or_false] at hj; omega)) (fun j hj => k.2 j (by simp only [List.mem_cons, List.not_mem_nil, or_false] at hj; omega)), RM_c c (k.1 28 (by omega)) (k.2 44 (by omega)), (k.1 29 (by omega)).trans d, (k.1 23 (by omega)).trans e⟩
theorem CS_k {A : Ab} (h : CS I F A) (hO : okE A.2.1) (k : kpR I I' F F') : CS I' F' A := by
  obtain ⟨a, b, c, d, e, f⟩ := h
  exact ⟨CT_c a (k.1 2 (by omega)) (k.2 2 (by omega)), CG_c b hO (fun j hj => k.1 j (by simp only [List.mem_cons, List.not_mem_nil, or_false] at hj; omega)) (fun j h1 h2 => k.2 j (by omega)), CM_c c (k.1 13 (by omega)) (k.2 21 (by omega)), (k.1 10 (by omega)).trans d, (k.1 1 (by omega)).trans e, CE_c f (k.1 14 (by omega)) (fun j hj => k.2 j (by simp only [List.mem_cons, List.not_mem_nil, or_false] at hj; omega))⟩
/-- the reference's state where only 'thrown' changed -/
theorem RS_15 {A : Ab} (h : RS I F A) (h1 : sm [15] I I') : RS I' F A :=
  ⟨RT_s h.1 h1 (sm_rf (L := [])) (by unfold frI; decide), RG_s h.2.1 h1 (sm_rf (L := [])) (by unfold frI; decide), RM_s h.2.2.1 h1 (sm_rf (L := [])) (by unfold frI; decide), nu_s h.2.2.2.1 h1 (by decide), nu_s h.2.2.2.2 h1 (by decide)⟩
end SMA
theorem mkw_mono {l : Launch} {D : va_G} {cB cI cJ cG : ClassId} {a : Nat → Nat} {O : Nat → Int64} {y : MethodName} {cc : ByteArray} {nL : Nat} {hh : List (Nat × Nat × Nat × Nat)} {av : List Value} {I : Nat → Int32} {F : Nat → Nat → Int32} {Q Q' : Int32 → (Nat → Int32) → (Nat → Nat → Int32) → (Nat → Int64) → Prop} (h : MKW l D cB cI cJ cG a O y cc nL hh av I F Q) (hp : ∀ k I F O, Q k I F O → Q' k I F O) : MKW l D cB cI cJ cG a O y cc nL hh av I F Q' := fun sz =>
  MetFree.mono (h sz) (fun _ _ q => q) (fun _ _ _ _ _ q => q) (fun a st o t _ q => by
    obtain ⟨⟨⟨v, w2, h1, ⟨k, I1, F1, O1, e1, e2, h2⟩, h3, h4⟩, h5⟩, h6⟩ := q
    exact ⟨⟨⟨v, w2, h1, ⟨k, I1, F1, O1, e1, e2, hp _ _ _ _ h2⟩, h3, h4⟩, h5⟩, h6⟩)
theorem mc_mono {l : Launch} {D : va_G} {cB cI cJ cG : ClassId} {a : Nat → Nat} {O : Nat → Int64} {y : MethodName} {cc : ByteArray} {nL : Nat} {ret : Option FieldType} {lev : Nat} {av : List Value} {I : Nat → Int32} {F : Nat → Nat → Int32} {Q Q' : Option Value → (Nat → Int32) → (Nat → Nat → Int32) → Prop} (h : MC l D cB cI cJ cG a O y cc nL ret lev av I F Q) (hp : ∀ v I F, Q v I F → Q' v I F) : MC l D cB cI cJ cG a O y cc nL ret lev av I F Q' :=
  mw_mono h (fun v w hq => by
    obtain ⟨I1, F1, e1, h2⟩ := hq
    exact ⟨I1, F1, e1, hp _ _ _ h2⟩)
/-- what the class's step gives: the way it ended, what it answered, the state behind it -/
def SC (I : Nat → Int32) (F : Nat → Nat → Int32) (T : Int32 → Int32 → Ab → Prop) (k : Int32) (I1 : Nat → Int32) (F1 : Nat → Nat → Int32) (O1 : Nat → Int64) : Prop := kpC I I1 F F1 ∧ ∃ (an : Int32) (A1 : Ab), T k an A1 ∧ (k = 0 → O1 0 = an.toInt64) ∧ CS I1 F1 A1 ∧ PS A1
def SR (I : Nat → Int32) (F : Nat → Nat → Int32) (T : Int32 → Int32 → Ab → Prop) (v : Option Value) (I1 : Nat → Int32) (F1 : Nat → Nat → Int32) : Prop := kpR I I1 F F1 ∧ ∃ (b an : Int32) (A1 : Ab), v = some (.int b) ∧ T (I1 15) an A1 ∧ (I1 15 = 0 → b = an) ∧ RS I1 F1 A1
def Uq (T : Int32 → Int32 → Ab → Prop) : Prop := ∀ th an A1 th2 an2 A2, T th an A1 → T th2 an2 A2 → th = th2 ∧ (th = 0 → an = an2) ∧ A1 = A2
theorem SC_no {I : Nat → Int32} {F : Nat → Nat → Int32} {T : Int32 → Int32 → Ab → Prop} {k : Int32} {O1 : Nat → Int64} {A : Ab} (hC : CS I F A) (hP : PS A) (an : Int32) (h : T k an A) (h2 : k = 0 → O1 0 = an.toInt64) : SC I F T k I F O1 := ⟨kpC_rf, an, A, h, h2, hC, hP⟩
theorem SR_no {I I1 : Nat → Int32} {F : Nat → Nat → Int32} {T : Int32 → Int32 → Ab → Prop} {b : Int32} {A : Ab} (hR : RS I F A) (h1 : sm [15] I I1) (an k : Int32) (hk : I1 15 = k) (h : T k an A) (h2 : k = 0 → b = an) : SR I F T (some (.int b)) I1 F := ⟨kpR_f h1 (by decide), b, an, A, rfl, by rw [hk]; exact h, by rw [hk]; exact h2, RS_15 hR h1⟩

def T_feed (v1 v2 v3 v4 v5 : Int32) (A : Ab) (th an : Int32) (A' : Ab) : Prop := (A.1.length ≤ 65516 ∧ th = nI 0 ∧ an = nI (A.1.length + 20) ∧ A' = (A.1 ++ (b4 v1 ++ (b4 v2 ++ (b4 v3 ++ (b4 v4 ++ b4 v5)))), A.2)) ∨ (65516 < A.1.length ∧ th = nI 1 ∧ A' = A)
def T_end (x : Int32) (A : Ab) (th an : Int32) (A' : Ab) : Prop := (∃ k, k ≤ A.1.length ∧ x = nI k ∧ th = nI 0 ∧ an = x ∧ A' = (A.1.take k, A.2)) ∨ ((∀ k, k ≤ A.1.length → x ≠ nI k) ∧ th = nI 1 ∧ A' = A)
def T_read (A : Ab) (th an : Int32) (A' : Ab) : Prop := (∃ es c, rdM A.1 = some (es, c) ∧ A' = ([], es, t2 A.1 0, t2 A.1 2, A.2.2.2.2.1, A.2.2.2.2.2.1, c)) ∨ (rdM A.1 = none ∧ A' = ([], [], 0, 0, A.2.2.2.2.1, A.2.2.2.2.2.1, A.2.2.2.2.2.2))
def T_begin (x y : Int32) (A : Ab) (th an : Int32) (A' : Ab) : Prop := A' = (A.1, [], un x % 65536, un y % 65536, A.2.2.2.2)
def T_question (x y : Int32) (A : Ab) (th an : Int32) (A' : Ab) : Prop := (qN A.1 = none ∧ th = nI 1 ∧ A' = A) ∨ (∃ nm, qN A.1 = some nm ∧ okB A.2.1 ((0, un x % 65536, un y % 65536, nI 0, nm, ([] : List Nat)) : En9) = false ∧ th = nI 2 ∧ A' = A) ∨ (∃ nm, qN A.1 = some nm ∧ okB A.2.1 ((0, un x % 65536, un y % 65536, nI 0, nm, ([] : List Nat)) : En9) = true ∧ th = nI 0 ∧ an = nI (cn 0 (A.2.1 ++ [((0, un x % 65536, un y % 65536, nI 0, nm, ([] : List Nat)) : En9)])) ∧ A' = ([], A.2.1 ++ [((0, un x % 65536, un y % 65536, nI 0, nm, ([] : List Nat)) : En9)], A.2.2))
def T_record (w x y z : Int32) (A : Ab) (th an : Int32) (A' : Ab) : Prop := ((∀ sc : Nat, 1 ≤ sc → sc < 4 → w ≠ nI sc) ∧ th = nI 1 ∧ A' = A) ∨ (∃ sc : Nat, (1 ≤ sc ∧ sc < 4) ∧ w = nI sc ∧ ((qD A.1 (un x % 65536) = none ∧ th = nI 2 ∧ A' = A) ∨ (∃ nm d, qD A.1 (un x % 65536) = some (nm, d) ∧ okB A.2.1 ((sc, un x % 65536, un y % 65536, z, nm, d) : En9) = false ∧ th = nI 3 ∧ A' = A) ∨ (∃ nm d, qD A.1 (un x % 65536) = some (nm, d) ∧ okB A.2.1 ((sc, un x % 65536, un y % 65536, z, nm, d) : En9) = true ∧ th = nI 0 ∧ an = nI (cn sc (A.2.1 ++ [((sc, un x % 65536, un y % 65536, z, nm, d) : En9)])) ∧ A' = ([], A.2.1 ++ [((sc, un x % 65536, un y % 65536, z, nm, d) : En9)], A.2.2))))
def T_write (x : Int32) (A : Ab) (th an : Int32) (A' : Ab) : Prop := ((∀ lim : Nat, 12 ≤ lim → lim ≤ 65535 → x ≠ nI lim) ∧ th = nI 1 ∧ A' = A) ∨ (∃ lim : Nat, 12 ≤ lim ∧ lim ≤ 65535 ∧ x = nI lim ∧ ((lim < 12 + mu3 (fil 3 A.2.1) ∧ th = nI 2 ∧ A' = A) ∨ (12 + mu3 (fil 3 A.2.1) ≤ lim ∧ th = nI 0 ∧ an = nI (wMs A.2.1 A.2.2.1 A.2.2.2.1 lim).length ∧ A' = (A.1, A.2.1, A.2.2.1, A.2.2.2.1, wMs A.2.1 A.2.2.1 A.2.2.2.1 lim, (wIt A.2.1 lim 4).2.2.1, A.2.2.2.2.2.2))))
def T_back (x y : Int32) (A : Ab) (th an : Int32) (A' : Ab) : Prop := (¬ x < -1 ∧ (x < 0 ∨ ∃ k, k < A.2.2.2.2.1.length ∧ x = nI k) ∧ th = nI 0 ∧ an = nI A.2.2.2.2.1.length ∧ A' = (bkL A.2.2.2.2.1 x y, A.2)) ∨ ((x < -1 ∨ nI A.2.2.2.2.1.length ≤ x) ∧ th = nI 1 ∧ A' = A)
def T_written (x : Int32) (A : Ab) (th an : Int32) (A' : Ab) : Prop := (∃ k, k < A.2.2.2.2.1.length ∧ x = nI k ∧ th = nI 0 ∧ an = nI (tb A.2.2.2.2.1 k) ∧ A' = A) ∨ ((∀ k, k < A.2.2.2.2.1.length → x ≠ nI k) ∧ th = nI 1 ∧ A' = A)
def T_header (x : Int32) (A : Ab) (th an : Int32) (A' : Ab) : Prop := (¬ hdB x ∧ th = nI 0 ∧ an = hdV A.2.1 A.2.2.1 A.2.2.2.1 x ∧ A' = A) ∨ (hdB x ∧ th = nI 1 ∧ A' = A)
def T_told (x y w : Int32) (A : Ab) (th an : Int32) (A' : Ab) : Prop := (rI x y A.2.1 = none ∧ th = nI 1 ∧ A' = A) ∨ (∃ r e, rI x y A.2.1 = some r ∧ A.2.1[r]? = some e ∧ ((tdB x w ∧ th = nI 2 ∧ A' = A) ∨ (¬ tdB x w ∧ th = nI 0 ∧ an = tdV e w ∧ A' = A)))
def T_byteOf (x y w : Int32) (A : Ab) (th an : Int32) (A' : Ab) : Prop := (rI x y A.2.1 = none ∧ th = nI 1 ∧ A' = A) ∨ (∃ r e, rI x y A.2.1 = some r ∧ A.2.1[r]? = some e ∧ (((∀ j, j < (eN e).length + (eD e).length → w ≠ nI j) ∧ th = nI 2 ∧ A' = A) ∨ (∃ j, j < (eN e).length + (eD e).length ∧ w = nI j ∧ th = nI 0 ∧ an = nI (tb (eN e ++ eD e) j) ∧ A' = A)))
def T_order (x y w z : Int32) (A : Ab) (th an : Int32) (A' : Ab) : Prop := ((rI x y A.2.1 = none ∨ rI w z A.2.1 = none) ∧ th = nI 1 ∧ A' = A) ∨ (∃ r1 r2, rI x y A.2.1 = some r1 ∧ rI w z A.2.1 = some r2 ∧ th = nI 0 ∧ an = od9 A.2.1 r1 r2 ∧ A' = A)
def T_same (x y w z : Int32) (A : Ab) (th an : Int32) (A' : Ab) : Prop := ((rI x y A.2.1 = none ∨ rI w z A.2.1 = none) ∧ th = nI 1 ∧ A' = A) ∨ (∃ r1 r2, rI x y A.2.1 = some r1 ∧ rI w z A.2.1 = some r2 ∧ th = nI 0 ∧ A' = A)
