/-! WHAT IS WRITTEN: the message behind its header, the ends, the pointers -/
def wN (G : List Nat) : Nat → Nat → List Nat → List (Nat × Nat) → Nat → List Nat × List (Nat × Nat) × Nat
  | 0, _, B, E, pt => (B ++ [0], E, pt)
  | k + 1, pos, B, E, pt => match fnd G E pos with
    | some pl => (B ++ b2 (49152 + pl), E, pt + 1)
    | none => wN G k (pos + (tb G pos + 1)) (B ++ sl9 G pos (tb G pos + 1)) (if 12 + B.length < 16384 then E ++ [(12 + B.length, pos)] else E) pt
theorem wN_hit {G : List Nat} {k pos : Nat} {B : List Nat} {E : List (Nat × Nat)} {pt pl : Nat} (h : fnd G E pos = some pl) : wN G (k + 1) pos B E pt = (B ++ b2 (49152 + pl), E, pt + 1) := by
  unfold wN; rw [h]
theorem wN_miss {G : List Nat} {k pos : Nat} {B : List Nat} {E : List (Nat × Nat)} {pt : Nat} (h : fnd G E pos = none) : wN G (k + 1) pos B E pt = wN G k (pos + (tb G pos + 1)) (B ++ sl9 G pos (tb G pos + 1)) (if 12 + B.length < 16384 then E ++ [(12 + B.length, pos)] else E) pt := by
  conv => lhs; unfold wN
  rw [h]
def wW (G B : List Nat) (E : List (Nat × Nat)) : Prop := EnW G E ∧ 2 * E.length ≤ B.length
theorem fnd_no {G : List Nat} : ∀ {E : List (Nat × Nat)} {p : Nat}, fnd G E p = none → ∀ k, k < E.length → al 128 G (eQ E k) p = false
  | [], p, _, k, hk => by simp at hk
  | e :: E, p, h, k, hk => by
    unfold fnd at h
    have h1 : (e :: E).find? (fun e => al 128 G e.2 p) = none := Option.map_eq_none_iff.mp h
    have h2 := List.find?_eq_none.mp h1
    have h3 : (e :: E).getD k (0, 0) ∈ e :: E := by
      rw [List.getD_eq_getElem?_getD, List.getElem?_eq_getElem hk]
      exact List.getElem_mem hk
    have := h2 _ h3
    simpa [eQ] using this
theorem wW_step {G B : List Nat} {E : List (Nat × Nat)} {k pos r : Nat} (h : wW G B E) (hN : isN G (k + 1) pos r) (hk : k + 1 ≤ 127) (hf : fnd G E pos = none) : wW G (B ++ sl9 G pos (tb G pos + 1)) (if 12 + B.length < 16384 then E ++ [(12 + B.length, pos)] else E) := by
  have hp := isN_p hN
  have hi := isN_in hN (by omega)
  have hl : (B ++ sl9 G pos (tb G pos + 1)).length = B.length + (tb G pos + 1) := by rw [List.length_append, sl9_len (by omega)]
  have hp4 := hp.2.2.2 (by omega)
  obtain ⟨hE, hE2⟩ := h
  unfold wW
  rw [hl]
  split
  · rename_i hc
    rw [List.length_append, List.length_singleton]
    refine ⟨⟨?_, ?_, by rw [List.length_append, List.length_singleton]; omega⟩, by omega⟩
    · intro j hj
      rw [List.length_append, List.length_singleton] at hj
      by_cases hjn : j = E.length
      · subst hjn
        rw [eQ_n.1, eQ_n.2]
        exact ⟨hc, k + 1, r, hN, hk⟩
      · rw [(eQ_l (by omega)).1, (eQ_l (by omega)).2]
        exact hE.1 j (by omega)
    · intro i j hi hj
      rw [List.length_append, List.length_singleton] at hj
      rw [(eQ_l (by omega)).1]
      by_cases hjn : j = E.length
      · subst hjn
        rw [eQ_n.1]
        exact fnd_no hf i (by omega)
      · rw [(eQ_l (by omega)).1]
        exact hE.2.1 i j hi (by omega)
  · exact ⟨hE, by omega⟩
theorem wN_ok {G : List Nat} : ∀ {k pos r : Nat} {B : List Nat} {E : List (Nat × Nat)} {pt : Nat}, isN G k pos r → k ≤ 127 → wW G B E → wW G (wN G k pos B E pt).1 (wN G k pos B E pt).2.1 ∧ (∃ X, (wN G k pos B E pt).1 = B ++ X ∧ 1 ≤ X.length ∧ X.length ≤ r + 1 - pos) ∧ ∃ Z, (wN G k pos B E pt).2.1 = E ++ Z
  | 0, pos, r, B, E, pt, hN, hk, h => by
    refine ⟨⟨h.1, ?_⟩, ⟨[0], rfl, by decide, ?_⟩, ⟨[], (List.append_nil _).symm⟩⟩
    · have := h.2
      show 2 * E.length ≤ (B ++ [0]).length
      rw [List.length_append]; omega
    · have := isN_r hN
      show 1 ≤ r + 1 - pos
      omega
  | k + 1, pos, r, B, E, pt, hN, hk, h => by
    have hr := isN_r hN
    cases hf : fnd G E pos with
    | some pl =>
      rw [wN_hit hf]
      refine ⟨⟨h.1, ?_⟩, ⟨b2 (49152 + pl), rfl, (show 1 ≤ 2 by decide), ?_⟩, ⟨[], (List.append_nil _).symm⟩⟩
      · have := h.2
        show 2 * E.length ≤ (B ++ b2 (49152 + pl)).length
        rw [List.length_append]; omega
      · show 2 ≤ r + 1 - pos
        omega
    | none =>
      rw [wN_miss hf]
      have h1 := wW_step h hN hk hf
      have hN2 := hN.2.2.2
      have hr2 := isN_r hN2
      have hi := isN_in hN (by omega)
      obtain ⟨a1, ⟨X, a2, a3, a4⟩, ⟨Z, a5⟩⟩ := wN_ok (pt := pt) hN2 (by omega) h1
      refine ⟨a1, ⟨sl9 G pos (tb G pos + 1) ++ X, by rw [a2, List.append_assoc], by rw [List.length_append]; omega, by rw [List.length_append, sl9_len (by omega)]; omega⟩, ?_⟩
      split at a5
      · rename_i hc
        rw [if_pos hc]
        exact ⟨[(12 + B.length, pos)] ++ Z, by rw [a5, List.append_assoc]⟩
      · rename_i hc
        rw [if_neg hc]
        exact ⟨Z, a5⟩
/-- the data of a record -/
def wD (G : List Nat) (ty q D : Nat) (B : List Nat) (E : List (Nat × Nat)) (pt : Nat) : List Nat × List (Nat × Nat) × Nat :=
  if k_sh ty = true then
    let w1 := wN G (nk 128 G (q + k_bf ty)) (q + k_bf ty) (B ++ sl9 G q (k_bf ty)) E pt
    let a1 := rt G (q + k_bf ty) + 1
    if k_nm ty = 1 then (w1.1 ++ sl9 G a1 (q + D - a1), w1.2.1, w1.2.2)
    else
      let w2 := wN G (nk 128 G a1) a1 w1.1 w1.2.1 w1.2.2
      let a2 := rt G a1 + 1
      (w2.1 ++ sl9 G a2 (q + D - a2), w2.2.1, w2.2.2)
  else (B ++ sl9 G q D, E, pt)
def dOk (G : List Nat) (ty q D : Nat) : Prop := q + D ≤ G.length ∧ (k_sh ty = true → ∃ k1 r1, isN G k1 (q + k_bf ty) r1 ∧ k1 ≤ 127 ∧ r1 < q + D ∧ (k_nm ty = 2 → ∃ k2 r2, isN G k2 (r1 + 1) r2 ∧ k2 ≤ 127 ∧ r2 < q + D))
def ln2 (B : List Nat) (n : Nat) (w : List Nat) : List Nat := (w.set B.length (n / 256 % 256)).set (B.length + 1) (n % 256)
def wDL (G : List Nat) (ty q D : Nat) (B : List Nat) (E : List (Nat × Nat)) (pt : Nat) : List Nat × List (Nat × Nat) × Nat :=
  let w := wD G ty q D (B ++ b2 0) E pt
  (ln2 B (w.1.length - B.length - 2) w.1, w.2.1, w.2.2)
/-- a question or a record, whose name stands at p -/
def wE (G : List Nat) (p : Nat) (e : En9) (B : List Nat) (E : List (Nat × Nat)) (pt : Nat) : List Nat × List (Nat × Nat) × Nat :=
  let w1 := wN G (nk 128 G p) p B E pt
  if eS e = 0 then (w1.1 ++ b2 (eT e) ++ b2 (eK e), w1.2.1, w1.2.2)
  else wDL G (eT e) (p + (eN e).length) (eD e).length (w1.1 ++ b2 (eT e) ++ b2 (eK e) ++ b4 (eL e)) w1.2.1 w1.2.2
theorem wW_more {G B X : List Nat} {E : List (Nat × Nat)} (h : wW G B E) : wW G (B ++ X) E := ⟨h.1, by have := h.2; rw [List.length_append]; omega⟩
theorem k_sh_nm {ty : Nat} (h : k_sh ty = true) : k_nm ty = 1 ∨ k_nm ty = 2 := by
  apply k_nm_12
  rcases Nat.eq_zero_or_pos (k_nm ty) with z | z
  · rw [k_sh_c z] at h; cases h
  · exact z
/-- how far the data goes, what it keeps -/
theorem wD_ok {G : List Nat} {ty q D : Nat} {B : List Nat} {E : List (Nat × Nat)} {pt : Nat} (hd : dOk G ty q D) (h : wW G B E) : wW G (wD G ty q D B E pt).1 (wD G ty q D B E pt).2.1 ∧ (∃ X, (wD G ty q D B E pt).1 = B ++ X ∧ X.length ≤ D) ∧ (∃ Z, (wD G ty q D B E pt).2.1 = E ++ Z) ∧ (k_sh ty = false → (wD G ty q D B E pt).1 = B ++ sl9 G q D) := by
  unfold wD
  cases hs : k_sh ty with
  | false =>
    rw [if_neg (by decide)]
    refine ⟨wW_more h, ⟨_, rfl, ?_⟩, ⟨[], (List.append_nil _).symm⟩, fun _ => rfl⟩
    exact sl9_le G q D
  | true =>
    rw [if_pos rfl]
    obtain ⟨k1, r1, b1, b2, b3, b4⟩ := hd.2 hs
    have rr1 := isN_r b1
    rw [isN_nk b1 (by omega), rt_of b1 b2]
    have s1 := sl9_le G q (k_bf ty)
    obtain ⟨a1, ⟨X, a2, a3, a4⟩, ⟨Z, a5⟩⟩ := wN_ok (pt := pt) b1 b2 (wW_more (X := sl9 G q (k_bf ty)) h)
    simp only
    rcases k_sh_nm hs with hk | hk
    · rw [if_pos hk]
      have s2 := sl9_le G (r1 + 1) (q + D - (r1 + 1))
      refine ⟨wW_more a1, ⟨_, by rw [a2, List.append_assoc, List.append_assoc], ?_⟩, ⟨Z, a5⟩, fun z => by cases z⟩
      rw [List.length_append, List.length_append]; omega
    · rw [if_neg (by omega)]
      obtain ⟨k2, r2, c1, c2, c3⟩ := b4 hk
      have rr2 := isN_r c1
      rw [isN_nk c1 (by omega), rt_of c1 c2]
      obtain ⟨d1, ⟨X2, d2, d3, d4⟩, ⟨Z2, d5⟩⟩ := wN_ok (pt := (wN G k1 (q + k_bf ty) (B ++ sl9 G q (k_bf ty)) E pt).2.2) c1 c2 a1
      have s2 := sl9_le G (r2 + 1) (q + D - (r2 + 1))
      refine ⟨wW_more d1, ⟨_, by rw [d2, a2, List.append_assoc, List.append_assoc, List.append_assoc], ?_⟩, ⟨Z ++ Z2, by rw [d5, a5, List.append_assoc]⟩, fun z => by cases z⟩
      rw [List.length_append, List.length_append, List.length_append]; omega
theorem ln2_app {B Y : List Nat} {n : Nat} (h : 2 ≤ Y.length) : ∃ Y', ln2 B n (B ++ Y) = B ++ Y' ∧ Y'.length = Y.length := by
  unfold ln2
  rw [List.set_append_right _ _ (Nat.le_refl _), List.set_append_right _ _ (by omega)]
  exact ⟨_, rfl, by rw [List.length_set, List.length_set]⟩
theorem ln2_len {B w : List Nat} {n : Nat} : (ln2 B n w).length = w.length := by unfold ln2; rw [List.length_set, List.length_set]
/-- what an entry must keep -/
def eOk (G : List Nat) (p : Nat) (e : En9) : Prop := (∃ k, isN G k p (p + (eN e).length - 1) ∧ k ≤ 127) ∧ 1 ≤ (eN e).length ∧ (eS e ≠ 0 → dOk G (eT e) (p + (eN e).length) (eD e).length) ∧ (eS e = 3 ∧ eT e = 41 → (eN e).length = 1)
theorem wE_ok {G : List Nat} {p : Nat} {e : En9} {B : List Nat} {E : List (Nat × Nat)} {pt : Nat} (he : eOk G p e) (h : wW G B E) : wW G (wE G p e B E pt).1 (wE G p e B E pt).2.1 ∧ (∃ X, (wE G p e B E pt).1 = B ++ X ∧ X.length ≤ (eN e).length + 10 + (eD e).length) ∧ (∃ Z, (wE G p e B E pt).2.1 = E ++ Z) ∧ (eS e = 3 ∧ eT e = 41 → (wE G p e B E pt).1.length = B.length + 11 + (eD e).length) := by
  obtain ⟨⟨k, hk, hk7⟩, hn1, hd, hr⟩ := he
  unfold wE
  rw [isN_nk hk (by omega)]
  obtain ⟨a1, ⟨X, a2, a3, a4⟩, ⟨Z, a5⟩⟩ := wN_ok (pt := pt) hk hk7 h
  simp only
  by_cases hs : eS e = 0
  · rw [if_pos hs]
    refine ⟨wW_more (wW_more a1), ⟨_, by rw [a2, List.append_assoc, List.append_assoc], ?_⟩, ⟨Z, a5⟩, fun z => by omega⟩
    simp only [List.length_append]
    show X.length + (2 + 2) ≤ _
    omega
  · rw [if_neg hs]
    unfold wDL
    simp only
    have hd := hd hs
    obtain ⟨d1, ⟨Y, d2, d3⟩, ⟨Z2, d5⟩, d6⟩ := wD_ok (pt := (wN G k p B E pt).2.2) hd (wW_more (X := b2 0) (wW_more (X := b4 (eL e)) (wW_more (X := b2 (eK e)) (wW_more (X := b2 (eT e)) a1))))
    refine ⟨⟨d1.1, by rw [ln2_len]; exact d1.2⟩, ?_, ⟨Z ++ Z2, by rw [d5, a5, List.append_assoc]⟩, ?_⟩
    · rw [d2]
      obtain ⟨Y', y1, y2⟩ := ln2_app (B := (wN G k p B E pt).1 ++ b2 (eT e) ++ b2 (eK e) ++ b4 (eL e)) (Y := b2 0 ++ Y) (n := ((wN G k p B E pt).1 ++ b2 (eT e) ++ b2 (eK e) ++ b4 (eL e) ++ b2 0 ++ Y).length - ((wN G k p B E pt).1 ++ b2 (eT e) ++ b2 (eK e) ++ b4 (eL e)).length - 2) (by rw [List.length_append]; show 2 ≤ 2 + Y.length; omega)
      rw [List.append_assoc _ (b2 0) Y]
      rw [List.append_assoc _ (b2 0) Y] at y1
      rw [y1, a2]
      refine ⟨X ++ (b2 (eT e) ++ (b2 (eK e) ++ (b4 (eL e) ++ Y'))), by simp only [List.append_assoc], ?_⟩
      simp only [List.length_append]
      rw [y2, List.length_append]
      show X.length + (2 + (2 + (4 + (2 + Y.length)))) ≤ _
      omega
    · intro z
      have hn : (eN e).length = 1 := hr z
      rw [ln2_len, d6 (by rw [z.2]; decide), a2]
      simp only [List.length_append]
      rw [sl9_len (by have := hd.1; omega)]
      show B.length + X.length + 2 + 2 + 4 + 2 + (eD e).length = _
      omega
/-- a step of writing, and a section -/
abbrev WS9 : Type := List Nat × List (Nat × Nat) × Nat × Bool × Nat × Nat
def mst (e : En9) : Bool := decide (eS e = 3) && decide (eT e = 41)
def wSt (es : List En9) (lim s r : Nat) (e : En9) : WS9 → WS9
  | (B, E, pt, cut, still, n) =>
    let st := if mst e = true then still - (11 + (eD e).length) else still
    if cut = true ∧ mst e = false then (B, E, pt, cut, st, n)
    else
      let w := wE (fl es) (of9 es r) e B E pt
      if 12 + w.1.length + st ≤ lim then (w.1, w.2.1, w.2.2, cut, st, n + 1) else (B, E, pt, cut || decide (s < 3), st, n)
def wR (es : List En9) (lim s : Nat) : Nat → Nat → WS9 → WS9
  | 0, _, st => st
  | f + 1, r, st => match es[r]? with
    | none => st
    | some e => wR es lim s f (r + 1) (if eS e = s then wSt es lim s r e st else st)
def wSec (es : List En9) (lim s : Nat) (st : WS9) : WS9 := wR es lim s es.length 0 (st.1, st.2.1, st.2.2.1, st.2.2.2.1, st.2.2.2.2.1, 0)
/-- all sections: the body, the pointers, whether it was cut, and the counts -/
def wAll (es : List En9) (lim : Nat) : List Nat × Nat × Bool × List Nat :=
  let s0 := wSec es lim 0 ([], [], 0, false, mu3 (fil 3 es), 0)
  let s1 := wSec es lim 1 s0
  let s2 := wSec es lim 2 s1
  let s3 := wSec es lim 3 s2
  (s3.1, s3.2.2.1, s3.2.2.2.1, [s0.2.2.2.2.2, s1.2.2.2.2.2, s2.2.2.2.2.2, s3.2.2.2.2.2])
theorem wR_end {es : List En9} {lim s f r : Nat} {st : WS9} (h : es.length ≤ r) : wR es lim s f r st = st := by
  cases f with
  | zero => rfl
  | succ f => unfold wR; rw [List.getElem?_eq_none h]
theorem wR_at {es : List En9} {lim s f r : Nat} {st : WS9} {e : En9} (h : es[r]? = some e) : wR es lim s (f + 1) r st = wR es lim s f (r + 1) (if eS e = s then wSt es lim s r e st else st) := by
  conv => lhs; unfold wR
  rw [h]
theorem wR_skip {es : List En9} {lim s : Nat} {st : WS9} : ∀ {d r f : Nat}, cn s (es.take (r + d)) = cn s (es.take r) → r + d ≤ es.length → es.length - r ≤ f → wR es lim s f r st = wR es lim s (f - d) (r + d) st
  | 0, r, f, _, _, _ => rfl
  | d + 1, r, f, h, hl, hf => by
    obtain ⟨g, rfl⟩ : ∃ g, f = g + 1 := ⟨f - 1, by omega⟩
    have hr : r < es.length := by omega
    have he : es[r]? = some es[r] := List.getElem?_eq_getElem hr
    have h1 : cn s (es.take (r + 1)) = cn s (es.take r) + (if eS es[r] = s then 1 else 0) := by rw [take_get he, cn_app, cn_one]
    have h2 : cn s (es.take (r + 1)) ≤ cn s (es.take (r + (d + 1))) := by
      have h3 : es.take (r + (d + 1)) = es.take (r + 1) ++ (es.take (r + (d + 1))).drop (r + 1) := by
        conv => lhs; rw [← List.take_append_drop (r + 1) (es.take (r + (d + 1)))]
        rw [List.take_take, Nat.min_eq_left (by omega)]
      rw [h3, cn_app]; omega
    by_cases hq : eS es[r] = s
    · rw [if_pos hq] at h1; omega
    · rw [if_neg hq] at h1
      rw [wR_at he, if_neg hq, wR_skip (d := d) (r := r + 1) (by rw [show r + 1 + d = r + (d + 1) by omega]; omega) (by omega) (by omega)]
      rw [show g + 1 - (d + 1) = g - d by omega, show r + 1 + d = r + (d + 1) by omega]

