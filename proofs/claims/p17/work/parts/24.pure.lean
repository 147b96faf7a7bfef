/-! THE GATHERED PARTS AS A LIST: section, type, kind, time, the name's bytes, the data's bytes -/
abbrev En9 : Type := Nat × Nat × Nat × Int32 × List Nat × List Nat
def eS (e : En9) : Nat := e.1
def eT (e : En9) : Nat := e.2.1
def eK (e : En9) : Nat := e.2.2.1
def eL (e : En9) : Int32 := e.2.2.2.1
def eN (e : En9) : List Nat := e.2.2.2.2.1
def eD (e : En9) : List Nat := e.2.2.2.2.2
def fl : List En9 → List Nat
  | [] => []
  | e :: es => eN e ++ eD e ++ fl es
theorem fl_app (xs ys : List En9) : fl (xs ++ ys) = fl xs ++ fl ys := by
  induction xs with
  | nil => rfl
  | cons e es ih => simp [fl, ih]
theorem fl_one (e : En9) : fl [e] = eN e ++ eD e := by simp [fl]
def cn (s : Nat) : List En9 → Nat
  | [] => 0
  | e :: es => (if eS e = s then 1 else 0) + cn s es
theorem cn_app (s : Nat) (xs ys : List En9) : cn s (xs ++ ys) = cn s xs + cn s ys := by
  induction xs with
  | nil => simp [cn]
  | cons e es ih => simp only [List.cons_append, cn, ih]; omega
theorem cn_one (s : Nat) (e : En9) : cn s [e] = if eS e = s then 1 else 0 := by simp [cn]
theorem cn_le (s : Nat) (es : List En9) : cn s es ≤ es.length := by
  induction es with
  | nil => simp [cn]
  | cons e es ih => simp only [cn, List.length_cons]; split <;> omega
theorem cn_sum {es : List En9} (h : ∀ e ∈ es, eS e < 4) : cn 0 es + cn 1 es + cn 2 es + cn 3 es = es.length := by
  induction es with
  | nil => rfl
  | cons e es ih =>
    have h1 := ih (fun x hx => h x (List.mem_cons_of_mem _ hx))
    have h2 := h e List.mem_cons_self
    simp only [cn, List.length_cons]
    rcases (show eS e = 0 ∨ eS e = 1 ∨ eS e = 2 ∨ eS e = 3 by omega) with h3 | h3 | h3 | h3 <;> simp [h3] <;> omega
/-- where the part r begins -/
def of9 (es : List En9) (r : Nat) : Nat := (fl (es.take r)).length
theorem of9_le (es : List En9) (r : Nat) : of9 es r ≤ (fl es).length := by
  have h : fl es = fl (es.take r) ++ fl (es.drop r) := by rw [← fl_app, List.take_append_drop]
  unfold of9
  rw [h, List.length_append]
  omega
theorem take_app_le {α : Type} {es ys : List α} {r : Nat} (h : r ≤ es.length) : (es ++ ys).take r = es.take r := by
  rw [List.take_append_of_le_length h]
theorem of9_app {es ys : List En9} {r : Nat} (h : r ≤ es.length) : of9 (es ++ ys) r = of9 es r := by
  unfold of9; rw [take_app_le h]
theorem of9_end (es : List En9) : of9 es es.length = (fl es).length := by unfold of9; rw [List.take_length]
theorem take_get {α : Type} {es : List α} {r : Nat} {e : α} (h : es[r]? = some e) : es.take (r + 1) = es.take r ++ [e] := by
  rw [List.take_add_one, h]; rfl
theorem of9_next {es : List En9} {r : Nat} {e : En9} (h : es[r]? = some e) : of9 es (r + 1) = of9 es r + (eN e).length + (eD e).length := by
  unfold of9
  rw [take_get h, fl_app, fl_one, List.length_append, List.length_append]
  omega
theorem fl_at {es : List En9} {r : Nat} {e : En9} (h : es[r]? = some e) {j : Nat} (hj : j < (eN e ++ eD e).length) : (fl es)[of9 es r + j]? = (eN e ++ eD e)[j]? := by
  have h1 : fl es = fl (es.take r) ++ ((eN e ++ eD e) ++ fl (es.drop (r + 1))) := by
    rw [← fl_one e, ← fl_app, ← fl_app]
    congr 1
    have h2 := List.take_append_drop r es
    rw [List.drop_eq_getElem_cons (List.getElem?_eq_some_iff.mp h).1] at h2
    rw [← (List.getElem?_eq_some_iff.mp h).2]
    exact h2.symm
  rw [h1, List.getElem?_append_right (by unfold of9; omega)]
  unfold of9
  rw [Nat.add_sub_cancel_left, List.getElem?_append_left hj]
/-- the k-th part of a section -/
def ix (s : Nat) : Nat → List En9 → Option Nat
  | _, [] => none
  | k, e :: es => if eS e = s then (match k with | 0 => some 0 | k + 1 => (ix s k es).map (· + 1)) else (ix s k es).map (· + 1)
theorem ix_some {s : Nat} : ∀ {es : List En9} {k r : Nat}, ix s k es = some r → ∃ e, es[r]? = some e ∧ eS e = s ∧ cn s (es.take r) = k
  | [], k, r, h => by simp [ix] at h
  | e :: es, k, r, h => by
    unfold ix at h
    split at h
    · rename_i h1
      cases k with
      | zero => simp only [Option.some.injEq] at h; subst h; exact ⟨e, rfl, h1, rfl⟩
      | succ k =>
        obtain ⟨r', h2, rfl⟩ := Option.map_eq_some_iff.mp h
        obtain ⟨e', a1, a2, a3⟩ := ix_some h2
        exact ⟨e', by simpa using a1, a2, by simp only [List.take_succ_cons, cn, h1, if_true, a3]; omega⟩
    · rename_i h1
      obtain ⟨r', h2, rfl⟩ := Option.map_eq_some_iff.mp h
      obtain ⟨e', a1, a2, a3⟩ := ix_some h2
      exact ⟨e', by simpa using a1, a2, by simp only [List.take_succ_cons, cn, h1, if_false, a3]; omega⟩
theorem ix_none {s : Nat} : ∀ {es : List En9} {k : Nat}, ix s k es = none → cn s es ≤ k
  | [], k, _ => Nat.zero_le _
  | e :: es, k, h => by
    unfold ix at h
    split at h
    · rename_i h1
      cases k with
      | zero => cases h
      | succ k =>
        have := ix_none (Option.map_eq_none_iff.mp h)
        simp only [cn, h1, if_true]; omega
    · rename_i h1
      have := ix_none (Option.map_eq_none_iff.mp h)
      simp only [cn, h1, if_false]; omega
theorem ix_of {s : Nat} : ∀ {es : List En9} {k r : Nat} {e : En9}, es[r]? = some e → eS e = s → cn s (es.take r) = k → ix s k es = some r
  | [], k, r, e, h, _, _ => by simp at h
  | e :: es, k, 0, e', h, h2, h3 => by
    simp only [List.getElem?_cons_zero, Option.some.injEq] at h
    subst h
    simp only [List.take_zero, cn] at h3
    subst h3
    simp [ix, h2]
  | e :: es, k, r + 1, e', h, h2, h3 => by
    simp only [List.getElem?_cons_succ] at h
    simp only [List.take_succ_cons, cn] at h3
    unfold ix
    by_cases h1 : eS e = s
    · rw [if_pos h1]
      rw [if_pos h1] at h3
      cases k with
      | zero => omega
      | succ k => show (ix s k es).map (· + 1) = some (r + 1); rw [ix_of (k := k) h h2 (by omega)]; rfl
    · rw [if_neg h1]
      rw [if_neg h1] at h3
      rw [ix_of h h2 (by omega)]; rfl
theorem ix_lt {s : Nat} {es : List En9} {k r : Nat} (h : ix s k es = some r) : r < es.length ∧ k < cn s es := by
  obtain ⟨e, h1, h2, h3⟩ := ix_some h
  have hr := (List.getElem?_eq_some_iff.mp h1).1
  refine ⟨hr, ?_⟩
  have h4 : cn s es = cn s (es.take (r + 1)) + cn s (es.drop (r + 1)) := by rw [← cn_app, List.take_append_drop]
  rw [take_get h1, cn_app, cn_one, if_pos h2] at h4
  omega
theorem ix_ex {s : Nat} {es : List En9} {k : Nat} (h : k < cn s es) : ∃ r, ix s k es = some r := by
  cases h1 : ix s k es with
  | none => have := ix_none h1; omega
  | some r => exact ⟨r, rfl⟩
/-- what is gathered is of the right size -/
def okE (es : List En9) : Prop := cn 0 es ≤ 100 ∧ cn 1 es + cn 2 es + cn 3 es ≤ 1000 ∧ (fl es).length ≤ 65536 ∧ ∀ e ∈ es, eS e < 4 ∧ eT e < 65536 ∧ eK e < 65536
theorem okE_len {es : List En9} (h : okE es) : es.length = cn 0 es + cn 1 es + cn 2 es + cn 3 es ∧ es.length ≤ 1100 := by
  have := cn_sum (fun e he => (h.2.2.2 e he).1)
  have h1 := h.1
  have h2 := h.2.1
  omega
theorem okE_nil : okE [] := ⟨by decide, by decide, by decide, fun e h => by cases h⟩
