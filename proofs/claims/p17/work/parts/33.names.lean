/-! NAMES AMONG WHAT IS GATHERED -/
def isN (G : List Nat) : Nat → Nat → Nat → Prop
  | 0, p, r => p = r ∧ tb G p = 0 ∧ p < G.length
  | k + 1, p, r => p < G.length ∧ 0 < tb G p ∧ tb G p ≤ 63 ∧ isN G k (p + (tb G p + 1)) r
def lb (G : List Nat) (p : Nat) : Nat → Nat
  | 0 => p
  | i + 1 => lb G p i + (tb G (lb G p i) + 1)
theorem lb_sh {G : List Nat} {p : Nat} : ∀ i, lb G p (i + 1) = lb G (p + (tb G p + 1)) i
  | 0 => rfl
  | i + 1 => by
    show lb G p (i + 1) + (tb G (lb G p (i + 1)) + 1) = lb G (p + (tb G p + 1)) i + (tb G (lb G (p + (tb G p + 1)) i) + 1)
    rw [lb_sh i]
theorem isN_p {G : List Nat} {k p r : Nat} (h : isN G k p r) : p < G.length ∧ tb G p ≤ 63 ∧ (k = 0 → tb G p = 0 ∧ p = r) ∧ (0 < k → 0 < tb G p) := by
  cases k with
  | zero => obtain ⟨h1, h2, h3⟩ := h; exact ⟨h3, by omega, fun _ => ⟨h2, h1⟩, fun z => by omega⟩
  | succ k => obtain ⟨h1, h2, h3, h4⟩ := h; exact ⟨h1, h3, fun z => by omega, fun _ => h2⟩
theorem isN_r {G : List Nat} : ∀ {k p r : Nat}, isN G k p r → r < G.length ∧ tb G r = 0 ∧ p + 2 * k ≤ r
  | 0, p, r, h => by obtain ⟨rfl, h2, h3⟩ := h; exact ⟨h3, h2, by omega⟩
  | k + 1, p, r, h => by obtain ⟨h1, h2, h3, h4⟩ := h; have := isN_r h4; exact ⟨this.1, this.2.1, by omega⟩
theorem isN_lb {G : List Nat} : ∀ {k p r : Nat}, isN G k p r → ∀ i, i ≤ k → isN G (k - i) (lb G p i) r
  | k, p, r, h, 0, _ => h
  | 0, p, r, h, i + 1, hi => by omega
  | k + 1, p, r, h, i + 1, hi => by
    rw [lb_sh, Nat.add_sub_add_right]
    exact isN_lb h.2.2.2 i (by omega)
theorem isN_end {G : List Nat} {k p r : Nat} (h : isN G k p r) : lb G p k = r := by
  have := isN_lb h k (Nat.le_refl _)
  rw [Nat.sub_self] at this
  exact this.1
def nk : Nat → List Nat → Nat → Nat
  | 0, _, _ => 0
  | f + 1, G, p => if tb G p = 0 then 0 else nk f G (p + (tb G p + 1)) + 1
theorem isN_nk {G : List Nat} : ∀ {k f p r : Nat}, isN G k p r → k ≤ f → nk f G p = k
  | 0, 0, _, _, _, _ => rfl
  | 0, f + 1, p, r, h, _ => by unfold nk; rw [if_pos h.2.1]
  | k + 1, 0, p, r, h, hf => by omega
  | k + 1, f + 1, p, r, h, hf => by
    unfold nk
    rw [if_neg (by have := h.2.1; omega), isN_nk h.2.2.2 (by omega)]
theorem tb_app {A L B : List Nat} {i : Nat} (h : i < L.length) : tb (A ++ (L ++ B)) (A.length + i) = tb L i := by
  unfold tb
  rw [List.getD_eq_getElem?_getD, List.getD_eq_getElem?_getD, List.getElem?_append_right (by omega), Nat.add_sub_cancel_left, List.getElem?_append_left h]
theorem isN_app {A L B : List Nat} : ∀ {k p r : Nat}, isN L k p r → isN (A ++ (L ++ B)) k (A.length + p) (A.length + r)
  | 0, p, r, h => by
    obtain ⟨rfl, h2, h3⟩ := h
    exact ⟨rfl, by rw [tb_app h3]; exact h2, by rw [List.length_append, List.length_append]; omega⟩
  | k + 1, p, r, h => by
    obtain ⟨h1, h2, h3, h4⟩ := h
    refine ⟨by rw [List.length_append, List.length_append]; omega, by rw [tb_app h1]; exact h2, by rw [tb_app h1]; exact h3, ?_⟩
    rw [tb_app h1, Nat.add_assoc]
    exact isN_app h4
def isNL (n : List Nat) : Prop := n.length ≤ 255 ∧ 1 ≤ n.length ∧ ∃ k, isN n k 0 (n.length - 1)
theorem tb_sl {t : List Nat} {p k i : Nat} (h : i < k) : tb (sl9 t p k) i = tb t (p + i) := by
  unfold tb
  rw [List.getD_eq_getElem?_getD, List.getD_eq_getElem?_getD, sl9_get h]
theorem tb_l {A B : List Nat} {i : Nat} (h : i < A.length) : tb (A ++ B) i = tb A i := by
  unfold tb
  rw [List.getD_eq_getElem?_getD, List.getD_eq_getElem?_getD, List.getElem?_append_left h]
theorem rn_isN : ∀ {f : Nat} {t : List Nat} {b pos low sz : Nat} {nx : Option Nat} {nm : List Nat} {e c : Nat}, rn f t b pos low sz nx = some (nm, e, c) → sz ≤ 254 → ∃ k, isN nm k 0 (nm.length - 1)
  | 0, _, _, _, _, _, _, _, _, _, h, _ => by cases h
  | f + 1, t, b, pos, low, sz, nx, nm, e, c, h, hz => by
    unfold rn at h
    split at h
    · cases h
    · split at h
      · split at h
        · simp only [Option.some.injEq, Prod.mk.injEq] at h
          obtain ⟨rfl, rfl, rfl⟩ := h
          exact ⟨0, rfl, rfl, by decide⟩
        · cases h
      · split at h
        · split at h
          · cases h
          · obtain ⟨⟨nm1, e1, c1⟩, h1, h2⟩ := Option.map_eq_some_iff.mp h
            simp only [Prod.mk.injEq] at h2
            obtain ⟨rfl, rfl, rfl⟩ := h2
            exact rn_isN h1 hz
        · split at h
          · cases h
          · rename_i hz0 _ hc
            obtain ⟨⟨nm1, e1, c1⟩, h1, h2⟩ := Option.map_eq_some_iff.mp h
            simp only [Prod.mk.injEq] at h2
            obtain ⟨rfl, rfl, rfl⟩ := h2
            obtain ⟨k, hk⟩ := rn_isN h1 (by omega)
            have hb := rn_bd h1 (by omega)
            have hl : (sl9 t pos (tb t pos + 1)).length = tb t pos + 1 := sl9_len (by omega)
            have ht : tb (sl9 t pos (tb t pos + 1) ++ nm1) 0 = tb t pos := by
              rw [tb_l (by omega), tb_sl (by omega)]; rfl
            refine ⟨k + 1, by rw [List.length_append]; omega, by omega, by omega, ?_⟩
            have h3 := isN_app (A := sl9 t pos (tb t pos + 1)) (B := []) hk
            rw [List.append_nil, hl, Nat.add_zero] at h3
            rw [ht, Nat.zero_add, List.length_append, hl, show tb t pos + 1 + nm1.length - 1 = tb t pos + 1 + (nm1.length - 1) by omega]
            exact h3
theorem rn_NL {f : Nat} {t : List Nat} {b pos low : Nat} {nx : Option Nat} {nm : List Nat} {e c : Nat} (h : rn f t b pos low 0 nx = some (nm, e, c)) : isNL nm := by
  have h1 := rn_bd h (by decide)
  exact ⟨by omega, h1.2.2.1, rn_isN h (by decide)⟩
/-- two names are alike -/
def al : Nat → List Nat → Nat → Nat → Bool
  | 0, _, _, _ => false
  | f + 1, G, a, b => if tb G a = tb G b then (if tb G a = 0 then true else if sl9 G a (tb G a + 1) = sl9 G b (tb G a + 1) then al f G (a + (tb G a + 1)) (b + (tb G a + 1)) else false) else false
theorem sl9_ext {G : List Nat} {a b n : Nat} (ha : a + n ≤ G.length) (hb : b + n ≤ G.length) : sl9 G a n = sl9 G b n ↔ ∀ i, i < n → tb G (a + i) = tb G (b + i) := by
  constructor
  · intro h i hi
    rw [← tb_sl hi, ← tb_sl hi, h]
  · intro h
    apply List.ext_getElem?
    intro i
    by_cases hi : i < n
    · rw [sl9_get hi, sl9_get hi, tb_in (by omega), tb_in (by omega), h i hi]
    · rw [List.getElem?_eq_none (by rw [sl9_len ha]; omega), List.getElem?_eq_none (by rw [sl9_len hb]; omega)]
theorem al_raw {G : List Nat} {g : Nat → Nat} (hg : ∀ i, i < G.length → g i = tb G i) : ∀ {kb f ka a ra b rb : Nat}, isN G ka a ra → isN G kb b rb → kb < f → ((∀ i, i < rb + 1 - b → g (a + i) = g (b + i)) ↔ al f G a b = true)
  | 0, 0, _, _, _, _, _, _, _, hf => by omega
  | 0, f + 1, ka, a, ra, b, rb, ha, hb, _ => by
    obtain ⟨rfl, h2, h3⟩ := hb
    have pa := isN_p ha
    unfold al
    constructor
    · intro h
      have h0 := h 0 (by omega)
      rw [Nat.add_zero, Nat.add_zero, hg a pa.1, hg b h3] at h0
      rw [if_pos h0, if_pos (by omega)]
    · intro h i hi
      have hi0 : i = 0 := by omega
      subst hi0
      rw [Nat.add_zero, Nat.add_zero, hg a pa.1, hg b h3]
      by_cases hq : tb G a = tb G b
      · exact hq
      · rw [if_neg hq] at h; cases h
  | kb + 1, 0, _, _, _, _, _, _, _, hf => by omega
  | kb + 1, f + 1, ka, a, ra, b, rb, ha, hb, hf => by
    have pa := isN_p ha
    have pb := isN_p hb
    have rb9 := isN_r hb
    obtain ⟨b1, b2, b3, b4⟩ := hb
    have pb4 := isN_p b4
    have rb4 := isN_r b4
    have key : tb G a = tb G b → ∃ ka', ka = ka' + 1 ∧ isN G ka' (a + (tb G a + 1)) ra := by
      intro hq
      cases ka with
      | zero => have := pa.2.2.1 rfl; omega
      | succ ka => exact ⟨ka, rfl, ha.2.2.2⟩
    conv => rhs; unfold al
    constructor
    · intro h
      have h0 := h 0 (by omega)
      rw [Nat.add_zero, Nat.add_zero, hg a pa.1, hg b b1] at h0
      obtain ⟨ka', rfl, ha'⟩ := key h0
      have pa' := isN_p ha'
      have ra' := isN_r ha'
      rw [if_pos h0, if_neg (by omega), if_pos]
      · rw [← al_raw hg ha' (show isN G kb (b + (tb G a + 1)) rb by rw [h0]; exact b4) (by omega)]
        intro i hi
        have := h (tb G a + 1 + i) (by omega)
        rw [show a + (tb G a + 1) + i = a + (tb G a + 1 + i) by omega, show b + (tb G a + 1) + i = b + (tb G a + 1 + i) by omega]
        exact this
      · rw [sl9_ext (by omega) (by omega)]
        intro i hi
        have := h i (by omega)
        rw [hg _ (by omega), hg _ (by omega)] at this
        exact this
    · intro h
      by_cases hq : tb G a = tb G b
      · obtain ⟨ka', rfl, ha'⟩ := key hq
        have pa' := isN_p ha'
        rw [if_pos hq, if_neg (by omega)] at h
        by_cases hs : sl9 G a (tb G a + 1) = sl9 G b (tb G a + 1)
        · rw [if_pos hs, ← al_raw hg ha' (show isN G kb (b + (tb G a + 1)) rb by rw [hq]; exact b4) (by omega)] at h
          intro i hi
          by_cases hi2 : i < tb G a + 1
          · rw [sl9_ext (by omega) (by omega)] at hs
            rw [hg _ (by omega), hg _ (by omega)]
            exact hs i hi2
          · have := h (i - (tb G a + 1)) (by omega)
            rw [show a + (tb G a + 1) + (i - (tb G a + 1)) = a + i by omega, show b + (tb G a + 1) + (i - (tb G a + 1)) = b + i by omega] at this
            exact this
        · rw [if_neg hs] at h; cases h
      · rw [if_neg hq] at h; cases h
theorem al_len {G : List Nat} : ∀ {f kb ka a ra b rb : Nat}, isN G ka a ra → isN G kb b rb → al f G a b = true → ra - a = rb - b
  | 0, _, _, _, _, _, _, _, _, h => by cases h
  | f + 1, kb, ka, a, ra, b, rb, ha, hb, h => by
    have pa := isN_p ha
    have pb := isN_p hb
    unfold al at h
    split at h
    · rename_i hq
      split at h
      · rename_i h0
        have ka0 : ka = 0 := by
          rcases Nat.eq_zero_or_pos ka with z | z
          · exact z
          · have := pa.2.2.2 z; omega
        have kb0 : kb = 0 := by
          rcases Nat.eq_zero_or_pos kb with z | z
          · exact z
          · have := pb.2.2.2 z; omega
        have := (pa.2.2.1 ka0).2
        have := (pb.2.2.1 kb0).2
        omega
      · split at h
        · cases ka with
          | zero => have := pa.2.2.1 rfl; omega
          | succ ka =>
            cases kb with
            | zero => have := pb.2.2.1 rfl; omega
            | succ kb =>
              have ha4 := ha.2.2.2
              have hb4 := hb.2.2.2
              rw [hq] at h
              rw [hq] at ha4
              have ra4 := isN_r ha4
              have rb4 := isN_r hb4
              have := al_len ha4 hb4 h
              omega
        · cases h
    · cases h
/-- the mark of a name's end -/
def mkI : List Nat → Int32
  | [] => 0
  | b :: l => mkI l * 31 + nI b
def mkN (G : List Nat) (p r : Nat) : Int32 := mkI (sl9 G p (r - p))
theorem al_mark {G : List Nat} {kb f ka a ra b rb : Nat} (ha : isN G ka a ra) (hb : isN G kb b rb) (hf : kb < f) (h : al f G a b = true) : mkN G a ra = mkN G b rb := by
  have h1 := al_len ha hb h
  have h2 := (al_raw (g := tb G) (fun _ _ => rfl) ha hb hf).mpr h
  have r1 := isN_r ha
  have r2 := isN_r hb
  unfold mkN
  rw [h1, (sl9_ext (by omega) (by omega)).mpr (fun i hi => h2 i (by omega))]
theorem mkN_end (G : List Nat) (r : Nat) : mkN G r r = 0 := by unfold mkN; rw [Nat.sub_self, sl9_0]; rfl
theorem mkN_step {G : List Nat} {p r : Nat} (h : p < r) (hr : r ≤ G.length) : mkN G p r = mkN G (p + 1) r * 31 + nI (tb G p) := by
  unfold mkN
  have : sl9 G p (r - p) = tb G p :: sl9 G (p + 1) (r - (p + 1)) := by
    apply List.ext_getElem?
    intro i
    cases i with
    | zero => rw [sl9_get (by omega), List.getElem?_cons_zero, Nat.add_zero, tb_in (by omega)]
    | succ i =>
      rw [List.getElem?_cons_succ]
      by_cases hi : i < r - (p + 1)
      · rw [sl9_get (by omega), sl9_get hi, show p + (i + 1) = p + 1 + i by omega]
      · rw [List.getElem?_eq_none (by rw [sl9_len (by omega)]; omega), List.getElem?_eq_none (by rw [sl9_len (by omega)]; omega)]
  rw [this]; rfl

