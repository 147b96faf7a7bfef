/-! WHAT IS GATHERED IS WELL MADE -/
def dS (ty : Nat) (d : List Nat) : Prop := k_sh ty = true → ∃ a n1 c, d = a ++ (n1 ++ c) ∧ a.length = k_bf ty ∧ isNL n1 ∧ (k_nm ty = 2 → ∃ n2 c2, c = n2 ++ c2 ∧ isNL n2)
def wfE (e : En9) : Prop := isNL (eN e) ∧ (eS e ≠ 0 → dS (eT e) (eD e)) ∧ (eS e = 3 ∧ eT e = 41 → (eN e).length = 1)
theorem isNL_app {A n B : List Nat} (h : isNL n) : ∃ k, isN (A ++ (n ++ B)) k A.length (A.length + n.length - 1) ∧ k ≤ 127 := by
  obtain ⟨h1, h2, k, hk⟩ := h
  have hr := isN_r hk
  refine ⟨k, ?_, by omega⟩
  have := isN_app (A := A) (B := B) hk
  rw [Nat.add_zero, show A.length + (n.length - 1) = A.length + n.length - 1 by omega] at this
  exact this
theorem eOk_of {es : List En9} (hw : ∀ e ∈ es, wfE e) {r : Nat} {e : En9} (h : es[r]? = some e) : eOk (fl es) (of9 es r) e := by
  obtain ⟨w1, w2, w3⟩ := hw e (List.mem_of_getElem? h)
  have hG : fl es = fl (es.take r) ++ (eN e ++ (eD e ++ fl (es.drop (r + 1)))) := by
    have h2 := List.take_append_drop r es
    rw [List.drop_eq_getElem_cons (List.getElem?_eq_some_iff.mp h).1, (List.getElem?_eq_some_iff.mp h).2] at h2
    conv => lhs; rw [← h2]
    rw [fl_app]
    show _ ++ (eN e ++ eD e ++ fl (es.drop (r + 1))) = _
    rw [List.append_assoc]
  have hp : (fl (es.take r)).length = of9 es r := rfl
  refine ⟨?_, w1.2.1, ?_, w3⟩
  · obtain ⟨k, hk, hk7⟩ := isNL_app (A := fl (es.take r)) (B := eD e ++ fl (es.drop (r + 1))) w1
    rw [← hG, hp] at hk
    exact ⟨k, hk, hk7⟩
  · intro hs
    have hn := of9_next h
    have hl := of9_le es (r + 1)
    refine ⟨by omega, fun hsh => ?_⟩
    obtain ⟨a, n1, c, e1, e2, e3, e4⟩ := w2 hs hsh
    obtain ⟨k1, hk1, hk7⟩ := isNL_app (A := fl (es.take r) ++ (eN e ++ a)) (B := c ++ fl (es.drop (r + 1))) e3
    have hA : fl (es.take r) ++ (eN e ++ a) ++ (n1 ++ (c ++ fl (es.drop (r + 1)))) = fl es := by rw [hG, e1]; simp only [List.append_assoc]
    have hAl : (fl (es.take r) ++ (eN e ++ a)).length = of9 es r + (eN e).length + k_bf (eT e) := by rw [List.length_append, List.length_append, hp, e2]; omega
    rw [hA, hAl] at hk1
    have hdl : (eD e).length = k_bf (eT e) + (n1.length + c.length) := by rw [e1, List.length_append, List.length_append, e2]
    have hn1 := e3.2.1
    refine ⟨k1, _, hk1, hk7, by omega, fun h2 => ?_⟩
    obtain ⟨n2, c2, f1, f2⟩ := e4 h2
    obtain ⟨k2, hk2, hk72⟩ := isNL_app (A := fl (es.take r) ++ (eN e ++ (a ++ n1))) (B := c2 ++ fl (es.drop (r + 1))) f2
    have hA2 : fl (es.take r) ++ (eN e ++ (a ++ n1)) ++ (n2 ++ (c2 ++ fl (es.drop (r + 1)))) = fl es := by rw [hG, e1, f1]; simp only [List.append_assoc]
    have hAl2 : (fl (es.take r) ++ (eN e ++ (a ++ n1))).length = of9 es r + (eN e).length + k_bf (eT e) + n1.length := by simp only [List.length_append]; rw [hp, e2]; omega
    rw [hA2, hAl2] at hk2
    have hn2 := f2.2.1
    have hcl : c.length = n2.length + c2.length := by rw [f1, List.length_append]
    refine ⟨k2, of9 es r + (eN e).length + k_bf (eT e) + n1.length + n2.length - 1, ?_, hk72, by omega⟩
    rw [show of9 es r + (eN e).length + k_bf (eT e) + n1.length - 1 + 1 = of9 es r + (eN e).length + k_bf (eT e) + n1.length by omega]
    exact hk2
theorem rdD_dS {t : List Nat} {ty fr to ol : Nat} {d : List Nat} {c : Nat} (h : rdD t ty fr to ol = some (d, c)) (hto : to ≤ t.length) : dS ty d ∧ (ty = 41 → ol = 1) := by
  refine ⟨?_, ?_⟩
  · intro hsh
    have hk := k_sh_nm hsh
    unfold rdD at h
    rw [if_pos (by omega)] at h
    unfold rdN at h
    split at h
    · cases h
    · rename_i hb
      split at h
      · cases h
      · rename_i n1 e1 c1 h1
        split at h
        · rename_i hk1
          unfold rdF at h
          split at h
          · cases h
          · simp only [Option.some.injEq, Prod.mk.injEq] at h
            exact ⟨sl9 t fr (k_bf ty), n1, sl9 t e1 (k_bh ty), by rw [← h.1, List.append_assoc], sl9_len (by omega), rn_NL h1, fun z => by omega⟩
        · split at h
          · cases h
          · rename_i n2 e2 c2 h2
            unfold rdF at h
            split at h
            · cases h
            · simp only [Option.some.injEq, Prod.mk.injEq] at h
              exact ⟨sl9 t fr (k_bf ty), n1, n2 ++ sl9 t e2 (k_bh ty), by rw [← h.1]; simp only [List.append_assoc], sl9_len (by omega), rn_NL h1, fun _ => ⟨n2, _, rfl, rn_NL h2⟩⟩
  · intro hty
    subst hty
    unfold rdD at h
    rw [if_neg (by decide)] at h
    split at h
    · rename_i ha
      rw [asT_41] at ha
      simpa using ha
    · cases h
theorem rdE_wf {t : List Nat} {s pos e c : Nat} {x : En9} (h : rdE t s pos = some (x, e, c)) : wfE x := by
  unfold rdE at h
  split at h
  · unfold rdQ at h
    split at h
    · cases h
    · rename_i h1
      split at h
      · cases h
      · simp only [Option.some.injEq, Prod.mk.injEq] at h
        obtain ⟨rfl, -⟩ := h
        exact ⟨rn_NL h1, fun z => absurd rfl z, fun z => absurd z.1 (by show ¬ (0 = 3); decide)⟩
  · unfold rdR at h
    split at h
    · cases h
    · rename_i h1
      split at h
      · cases h
      · split at h
        · cases h
        · split at h
          · cases h
          · rename_i hl _ _ h2
            simp only [Option.some.injEq, Prod.mk.injEq] at h
            obtain ⟨rfl, -⟩ := h
            obtain ⟨d1, d2⟩ := rdD_dS h2 (by omega)
            exact ⟨rn_NL h1, fun _ => d1, fun z => d2 z.2⟩
theorem qN_wf {t nm : List Nat} (h : qN t = some nm) : isNL nm := by
  unfold qN at h
  split at h
  · cases h
  · rename_i h1
    split at h
    · simp only [Option.some.injEq] at h
      rw [← h]; exact rn_NL h1
    · cases h
theorem qD_wf {t : List Nat} {ty : Nat} {nm d : List Nat} (h : qD t ty = some (nm, d)) : isNL nm ∧ dS ty d ∧ (ty = 41 → nm.length = 1) := by
  unfold qD at h
  split at h
  · cases h
  · rename_i h1
    split at h
    · cases h
    · rename_i h2
      split at h
      · simp only [Option.some.injEq, Prod.mk.injEq] at h
        obtain ⟨rfl, rfl⟩ := h
        obtain ⟨d1, d2⟩ := rdD_dS h2 (Nat.le_refl _)
        exact ⟨rn_NL h1, d1, d2⟩
      · cases h
theorem rdL_wf {t : List Nat} {s : Nat} : ∀ {k : Nat} {es : List En9} {pos c : Nat} {r : List En9 × Nat × Nat}, rdL t s k es pos c = some r → (∀ e ∈ es, wfE e) → ∀ e ∈ r.1, wfE e
  | 0, es, pos, c, r, h, hw => by
    have h : some (es, pos, c) = some r := h
    simp only [Option.some.injEq] at h
    rw [← h]; exact hw
  | k + 1, es, pos, c, r, h, hw => by
    unfold rdL at h
    split at h
    · cases h
    · rename_i h1
      split at h
      · refine rdL_wf h (fun e he => ?_)
        rcases List.mem_append.mp he with z | z
        · exact hw e z
        · rw [List.mem_singleton] at z; rw [z]; exact rdE_wf h1
      · cases h
theorem rdS_wf {t : List Nat} : ∀ {k : Nat} {es : List En9} {pos c : Nat} {r : List En9 × Nat × Nat}, rdS t k es pos c = some r → (∀ e ∈ es, wfE e) → ∀ e ∈ r.1, wfE e
  | 0, es, pos, c, r, h, hw => by
    have h : some (es, pos, c) = some r := h
    simp only [Option.some.injEq] at h
    rw [← h]; exact hw
  | k + 1, es, pos, c, r, h, hw => by
    have h : (rdL t (3 - k) (t2 t (4 + 2 * (3 - k))) es pos c).bind (fun r => rdS t k r.1 r.2.1 r.2.2) = some r := h
    obtain ⟨r1, h1, h2⟩ := Option.bind_eq_some_iff.mp h
    exact rdS_wf h2 (rdL_wf h1 hw)
theorem rdM_wf {t : List Nat} {es : List En9} {c : Nat} (h : rdM t = some (es, c)) : (∀ e ∈ es, wfE e) ∧ 12 ≤ t.length := by
  unfold rdM at h
  split at h
  · cases h
  · rename_i hl
    obtain ⟨r1, h1, h2⟩ := Option.bind_eq_some_iff.mp h
    have h3 := rdS_wf h1 (fun e he => by simp at he)
    unfold rdX at h2
    split at h2
    · simp only [Option.some.injEq, Prod.mk.injEq] at h2
      exact ⟨fun e he => h3 e (by rw [h2.1]; exact he), by omega⟩
    · cases h2
