/-! THE REFERENCE: a tape as a name, or as a name and data -/
def cl9 (x : Option (List Nat × Nat × Nat)) : Option Nat := match x with
  | none => none
  | some (_, e, c) => if c = 0 then some e else none
def wnO (t : List Nat) (p : Nat) : Option Nat := cl9 (rn 16639 t t.length p p 0 none)
def wn : Nat → List Nat → Nat → Option Nat
  | 0, _, _ => none
  | f + 1, t, p => if t.length ≤ p then none else if tb t p = 0 then some (p + 1) else if 63 < tb t p then none else wn f t (p + (1 + tb t p))
theorem wn_gt : ∀ {f : Nat} {t : List Nat} {p e : Nat}, wn f t p = some e → p + 1 ≤ e ∧ e ≤ t.length
  | 0, _, _, _, h => by cases h
  | f + 1, t, p, e, h => by
    unfold wn at h
    split at h
    · cases h
    · split at h
      · simp only [Option.some.injEq] at h; omega
      · split at h
        · cases h
        · have := wn_gt h; omega
theorem cl9_s {x : Option (List Nat × Nat × Nat)} {s : List Nat} : cl9 (x.map (fun r => (s ++ r.1, r.2.1, r.2.2))) = cl9 x := by
  cases x with
  | none => rfl
  | some r => rfl
theorem cl9_p {x : Option (List Nat × Nat × Nat)} : cl9 (x.map (fun r => (r.1, r.2.1, r.2.2 + 1))) = none := by
  cases x with
  | none => rfl
  | some r => obtain ⟨a, b, c⟩ := r; show (if c + 1 = 0 then some b else none) = none; rw [if_neg (by omega)]
theorem wn_rn : ∀ {f g : Nat} {t : List Nat} {p low sz : Nat}, t.length - p < f → 16384 + (254 - sz) < g → sz ≤ 254 → cl9 (rn g t t.length p low sz none) = (wn f t p).bind (fun e => if e - p + sz ≤ 255 then some e else none)
  | 0, _, _, _, _, _, h, _, _ => by omega
  | f + 1, 0, _, _, _, _, _, h, _ => by omega
  | f + 1, g + 1, t, p, low, sz, hf, hg, hz => by
    by_cases h1 : t.length ≤ p
    · rw [rn_short h1]; unfold wn; rw [if_pos h1]; rfl
    · by_cases h2 : tb t p = 0
      · rw [rn_end (by omega) h2, if_pos (show Option.getD none (p + 1) ≤ t.length by show p + 1 ≤ t.length; omega)]
        unfold wn
        rw [if_neg h1, if_pos h2]
        show (if (0 : Nat) = 0 then some (p + 1) else none) = if p + 1 - p + sz ≤ 255 then some (p + 1) else none
        rw [if_pos rfl, if_pos (by omega)]
      · by_cases h3 : 63 < tb t p
        · have hr : wn (f + 1) t p = none := by unfold wn; rw [if_neg h1, if_neg h2, if_pos h3]
          rw [hr]
          by_cases h4 : 192 ≤ tb t p
          · rw [rn_ptr (by omega) h4]
            split
            · rfl
            · exact cl9_p
          · rw [rn_lab (by omega) h2 (by omega), if_pos (Or.inl h3)]; rfl
        · have hr : wn (f + 1) t p = wn f t (p + (1 + tb t p)) := by
            conv => lhs; unfold wn
            rw [if_neg h1, if_neg h2, if_neg h3]
          rw [hr, rn_lab (by omega) h2 (by omega)]
          by_cases h5 : 63 < tb t p ∨ 255 < sz + tb t p + 2 ∨ t.length < p + 1 + tb t p ∨ rch t t.length none < p + 1 + tb t p
          · rw [if_pos h5]
            have h6 : 255 < sz + tb t p + 2 ∨ t.length < p + 1 + tb t p := by
              rcases h5 with z | z | z | z
              · omega
              · exact Or.inl z
              · exact Or.inr z
              · exact Or.inr z
            show none = _
            cases hw : wn f t (p + (1 + tb t p)) with
            | none => rfl
            | some e =>
              have := wn_gt hw
              show none = if e - p + sz ≤ 255 then some e else none
              rw [if_neg (by omega)]
          · rw [if_neg h5, cl9_s, wn_rn (f := f) (by omega) (by omega) (by omega), show p + (tb t p + 1) = p + (1 + tb t p) by omega]
            cases hw : wn f t (p + (1 + tb t p)) with
            | none => rfl
            | some e =>
              have := wn_gt hw
              show (if e - (p + (1 + tb t p)) + (sz + (tb t p + 1)) ≤ 255 then some e else none) = if e - p + sz ≤ 255 then some e else none
              rw [show e - (p + (1 + tb t p)) + (sz + (tb t p + 1)) = e - p + sz by omega]
theorem wnO_wn {t : List Nat} {p : Nat} : wnO t p = (wn (t.length + 1) t p).bind (fun e => if e - p ≤ 255 then some e else none) := by
  unfold wnO
  rw [wn_rn (f := t.length + 1) (by omega) (by decide) (by decide)]
  rfl
theorem rn_plain : ∀ {f : Nat} {t : List Nat} {b p low sz : Nat} {nm : List Nat} {e : Nat}, rn f t b p low sz none = some (nm, e, 0) → nm = sl9 t p (e - p) ∧ p < e ∧ e ≤ t.length
  | 0, _, _, _, _, _, _, _, h => by cases h
  | f + 1, t, b, p, low, sz, nm, e, h => by
    by_cases h1 : t.length ≤ p
    · rw [rn_short h1] at h; cases h
    · by_cases h2 : tb t p = 0
      · rw [rn_end (by omega) h2] at h
        split at h
        · simp only [Option.some.injEq, Prod.mk.injEq] at h
          obtain ⟨rfl, rfl, -⟩ := h
          show [0] = sl9 t p (p + 1 - p) ∧ p < p + 1 ∧ p + 1 ≤ t.length
          rw [show p + 1 - p = 0 + 1 by omega, sl9_s (by omega), sl9_0, Nat.add_zero, h2]
          exact ⟨rfl, by omega, by omega⟩
        · cases h
      · by_cases h3 : 192 ≤ tb t p
        · rw [rn_ptr (by omega) h3] at h
          split at h
          · cases h
          · obtain ⟨r, h4, h5⟩ := Option.map_eq_some_iff.mp h
            simp only [Prod.mk.injEq] at h5
            omega
        · rw [rn_lab (by omega) h2 (by omega)] at h
          split at h
          · cases h
          · obtain ⟨⟨nm1, e1, c1⟩, h4, h5⟩ := Option.map_eq_some_iff.mp h
            simp only [Prod.mk.injEq] at h5
            obtain ⟨rfl, rfl, rfl⟩ := h5
            obtain ⟨a1, a2, a3⟩ := rn_plain h4
            refine ⟨?_, by omega, a3⟩
            rw [a1, sl9_sl, show tb t p + 1 + (e1 - (p + (tb t p + 1))) = e1 - p by omega]
theorem wnO_s {t : List Nat} {p e : Nat} (h : wnO t p = some e) : rn 16639 t t.length p p 0 none = some (sl9 t p (e - p), e, 0) ∧ p < e ∧ e ≤ t.length := by
  unfold wnO cl9 at h
  split at h
  · cases h
  · rename_i nm e1 c h1
    split at h
    · rename_i hc
      simp only [Option.some.injEq] at h
      subst h; subst hc
      obtain ⟨a1, a2, a3⟩ := rn_plain h1
      exact ⟨by rw [h1, a1], a2, a3⟩
    · cases h
theorem wnO_r {t : List Nat} {p : Nat} {nm : List Nat} {e : Nat} (h : rn 16639 t t.length p p 0 none = some (nm, e, 0)) : wnO t p = some e := by unfold wnO; rw [h]; rfl
theorem sl9_all (t : List Nat) : sl9 t 0 t.length = t := by unfold sl9; rw [List.drop_zero, List.take_length]
/-- a tape as a name -/
theorem qN_wn (t : List Nat) : qN t = if wnO t 0 = some t.length then some t else none := by
  unfold qN
  cases h : rn 16639 t t.length 0 0 0 none with
  | none =>
    simp only
    rw [if_neg]
    intro z
    rw [(wnO_s z).1] at h; cases h
  | some r =>
    obtain ⟨nm, e, c⟩ := r
    simp only
    by_cases hq : e = t.length ∧ c = 0
    · rw [if_pos hq]
      obtain ⟨rfl, rfl⟩ := hq
      rw [if_pos (wnO_r h), (rn_plain h).1, Nat.sub_zero, sl9_all]
    · rw [if_neg hq, if_neg]
      intro z
      have z1 := (wnO_s z).1
      rw [h] at z1
      simp only [Option.some.injEq, Prod.mk.injEq] at z1
      exact hq ⟨z1.2.1, z1.2.2⟩
/-- does data fit its type -/
def qF (t : List Nat) (ty e ol : Nat) : Bool := match rdD t ty e t.length ol with
  | none => false
  | some (_, c) => decide (c = 0)
def ftB (t : List Nat) (ty e ol : Nat) : Bool :=
  if ty = 1 then decide (t.length - e = 4) else if ty = 28 then decide (t.length - e = 16) else if ty = 16 then strs t e t.length else if ty = 41 then decide (ol = 1)
  else if ty = 2 ∨ ty = 5 ∨ ty = 12 then decide (wnO t e = some t.length)
  else if ty = 15 then decide (2 < t.length - e) && decide (wnO t (e + 2) = some t.length)
  else if ty = 33 then decide (6 < t.length - e) && decide (wnO t (e + 6) = some t.length)
  else if ty = 6 then (match wnO t e with
    | none => false
    | some m => match wnO t m with
      | none => false
      | some n => decide (n + 20 = t.length))
  else true
theorem qF_one {t : List Nat} {ty e ol bf : Nat} (hk : k_nm ty = 1) (hbf : k_bf ty = bf) (hbh : k_bh ty = 0) : qF t ty e ol = (decide (bf < t.length - e) && decide (wnO t (e + bf) = some t.length)) := by
  unfold qF
  by_cases h : t.length < e + bf
  · rw [D_sh (by omega) hbf h]
    simp; omega
  · cases hr : rn 16639 t t.length (e + bf) (e + bf) 0 none with
    | none =>
      rw [D_n (by omega) hbf h hr]
      have : wnO t (e + bf) ≠ some t.length := fun z => by rw [(wnO_s z).1] at hr; cases hr
      simp [this]
    | some r =>
      obtain ⟨nm, e1, c1⟩ := r
      by_cases hc : c1 = 0
      · subst hc
        by_cases he : e1 = t.length
        · rw [D_s hk hbf hbh (Or.inr rfl) h hr he]
          have h2 := (rn_plain hr).2.1
          have : wnO t (e + bf) = some t.length := by rw [wnO_r hr, he]
          simp [this]; omega
        · rw [D_x hk hbf hbh h hr he]
          have : wnO t (e + bf) ≠ some t.length := by rw [wnO_r hr]; simpa using he
          simp [this]
      · have hw : wnO t (e + bf) ≠ some t.length := fun z => by
          rw [(wnO_s z).1] at hr
          simp only [Option.some.injEq, Prod.mk.injEq] at hr
          exact hc hr.2.2.symm
        by_cases he : e1 = t.length
        · cases hs : k_sh ty with
          | true => rw [D_s hk hbf hbh (Or.inl hs) h hr he]; simp [hw, hc]
          | false => rw [D_v hk hbf hs h (by rw [hr]; show (if false = false ∧ 0 < c1 then none else _) = none; rw [if_pos ⟨rfl, by omega⟩])]; simp [hw]
        · rw [D_x hk hbf hbh h hr he]; simp [hw]
theorem qF_ft {t : List Nat} {ty e ol : Nat} (he : e ≤ t.length) : qF t ty e ol = ftB t ty e ol := by
  unfold ftB
  have ha : ∀ b, k_nm ty = 0 → asT t ty e t.length ol = b → qF t ty e ol = b := by
    intro b h1 h2
    unfold qF
    cases b with
    | true => rw [D_a h1 h2]; rfl
    | false => rw [D_b h1 h2]
  by_cases h1 : ty = 1
  · subst h1; rw [if_pos rfl]; exact ha _ (by decide) asT_1
  · rw [if_neg h1]
    by_cases h2 : ty = 28
    · subst h2; rw [if_pos rfl]; exact ha _ (by decide) asT_28
    · rw [if_neg h2]
      by_cases h3 : ty = 16
      · subst h3; rw [if_pos rfl]; exact ha _ (by decide) asT_16
      · rw [if_neg h3]
        by_cases h4 : ty = 41
        · subst h4; rw [if_pos rfl]; exact ha _ (by decide) asT_41
        · rw [if_neg h4]
          by_cases h5 : ty = 2 ∨ ty = 5 ∨ ty = 12
          · rw [if_pos h5]
            have hh : qF t ty e ol = (decide (0 < t.length - e) && decide (wnO t (e + 0) = some t.length)) := by
              rcases h5 with rfl | rfl | rfl <;> exact qF_one (by decide) (by decide) (by decide)
            rw [hh]
            by_cases hw : wnO t e = some t.length
            · have := (wnO_s hw).2.1
              simp [hw]; omega
            · simp [hw]
          · rw [if_neg h5]
            by_cases h6 : ty = 15
            · subst h6; rw [if_pos rfl]; exact qF_one (by decide) (by decide) (by decide)
            · rw [if_neg h6]
              by_cases h7 : ty = 33
              · subst h7; rw [if_pos rfl]; exact qF_one (by decide) (by decide) (by decide)
              · rw [if_neg h7]
                by_cases h8 : ty = 6
                · subst h8
                  rw [if_pos rfl]
                  unfold qF
                  cases hr : rn 16639 t t.length e e 0 none with
                  | none =>
                    rw [D_n (bf := 0) (by decide) (by decide) (by omega) hr]
                    have hw : wnO t e = none := by unfold wnO; rw [hr]; rfl
                    rw [hw]
                  | some r =>
                    obtain ⟨n1, e1, c1⟩ := r
                    cases hr2 : rn 16639 t t.length e1 e1 0 none with
                    | none =>
                      rw [D6_n hr (by omega) hr2]
                      by_cases hc : c1 = 0
                      · subst hc
                        rw [wnO_r hr]; simp only
                        have hw : wnO t e1 = none := by unfold wnO; rw [hr2]; rfl
                        rw [hw]
                      · have hw : wnO t e = none := by unfold wnO; rw [hr]; show (if c1 = 0 then some e1 else none) = none; rw [if_neg hc]
                        rw [hw]
                    | some r2 =>
                      obtain ⟨n2, e2, c2⟩ := r2
                      have hx : (match rdD t 6 e t.length ol with | none => false | some (_, c) => decide (c = 0)) = (decide (e2 + 20 = t.length) && decide (c1 + c2 = 0)) := by
                        by_cases h9 : e2 + 20 = t.length
                        · rw [D6_s hr (by omega) hr2 h9]; simp [h9]
                        · rw [D6_x hr (by omega) hr2 h9]; simp [h9]
                      rw [hx]
                      by_cases hc : c1 = 0
                      · subst hc
                        rw [wnO_r hr]; simp only
                        by_cases hc2 : c2 = 0
                        · subst hc2; rw [wnO_r hr2]; simp
                        · have hw : wnO t e1 = none := by unfold wnO; rw [hr2]; show (if c2 = 0 then some e2 else none) = none; rw [if_neg hc2]
                          rw [hw]; simp; omega
                      · have hw : wnO t e = none := by unfold wnO; rw [hr]; show (if c1 = 0 then some e1 else none) = none; rw [if_neg hc]
                        rw [hw]; simp; omega
                · rw [if_neg h8]
                  exact ha _ (k_nm_o (by omega) (by omega) (by omega) h6 h7 h8) (asT_o h1 h2 h3 h4)
theorem rdD_plain {t : List Nat} {ty fr to ol : Nat} {d : List Nat} (h : rdD t ty fr to ol = some (d, 0)) (hto : to ≤ t.length) (hfr : fr ≤ to) : d = sl9 t fr (to - fr) := by
  unfold rdD at h
  split at h
  · unfold rdN at h
    split at h
    · cases h
    · rename_i hb
      split at h
      · cases h
      · rename_i n1 e1 c1 h1
        have b1 := rn_bd h1 (by decide)
        split at h
        · have hc := rdF_c h
          subst hc
          obtain ⟨a1, a2, a3⟩ := rn_plain h1
          unfold rdF at h
          split at h
          · cases h
          · rename_i hq
            simp only [Option.some.injEq, Prod.mk.injEq] at h
            have he : e1 + k_bh ty = to := by
              rcases Nat.lt_trichotomy (e1 + k_bh ty) to with z | z | z
              · exact absurd (Or.inr (by omega)) hq
              · exact z
              · exact absurd (Or.inr (by omega)) hq
            rw [← h.1, a1, sl9_sl, show k_bf ty + (e1 - (fr + k_bf ty)) = e1 - fr by omega]
            have := sl9_sl (t := t) (p := fr) (i := e1 - fr) (k := k_bh ty)
            rw [show fr + (e1 - fr) = e1 by omega] at this
            rw [this, show e1 - fr + k_bh ty = to - fr by omega]
        · split at h
          · cases h
          · rename_i n2 e2 c2 h2
            have b2 := rn_bd h2 (by decide)
            have hc := rdF_c h
            obtain rfl : c1 = 0 := by omega
            obtain rfl : c2 = 0 := by omega
            obtain ⟨a1, a2, a3⟩ := rn_plain h1
            obtain ⟨d1, d2, d3⟩ := rn_plain h2
            unfold rdF at h
            split at h
            · cases h
            · rename_i hq
              simp only [Option.some.injEq, Prod.mk.injEq] at h
              have he : e2 + k_bh ty = to := by
                rcases Nat.lt_trichotomy (e2 + k_bh ty) to with z | z | z
                · exact absurd (Or.inr (by omega)) hq
                · exact z
                · exact absurd (Or.inr (by omega)) hq
              have s2 := sl9_sl (t := t) (p := fr) (i := e1 - fr) (k := e2 - e1)
              rw [show fr + (e1 - fr) = e1 by omega] at s2
              have s3 := sl9_sl (t := t) (p := fr) (i := e2 - fr) (k := k_bh ty)
              rw [show fr + (e2 - fr) = e2 by omega] at s3
              rw [← h.1, a1, d1, sl9_sl, show k_bf ty + (e1 - (fr + k_bf ty)) = e1 - fr by omega, s2, show e1 - fr + (e2 - e1) = e2 - fr by omega, s3, show e2 - fr + k_bh ty = to - fr by omega]
  · split at h
    · simp only [Option.some.injEq, Prod.mk.injEq] at h
      exact h.1.symm
    · cases h
/-- a tape as a name and data -/
theorem qD_wn (t : List Nat) (ty : Nat) : qD t ty = match wnO t 0 with
    | none => none
    | some e => if ftB t ty e e = true then some (sl9 t 0 e, sl9 t e (t.length - e)) else none := by
  unfold qD
  cases h : rn 16639 t t.length 0 0 0 none with
  | none =>
    have hw : wnO t 0 = none := by unfold wnO; rw [h]; rfl
    rw [hw]
  | some r =>
    obtain ⟨nm, e, c⟩ := r
    simp only
    by_cases hc : c = 0
    · subst hc
      obtain ⟨a1, a2, a3⟩ := rn_plain h
      rw [wnO_r h]
      simp only
      rw [Nat.sub_zero] at a1
      have hl : nm.length = e := by rw [a1]; exact sl9_len (by omega)
      rw [hl, ← qF_ft a3]
      unfold qF
      cases hd : rdD t ty e t.length e with
      | none => rfl
      | some r2 =>
        obtain ⟨d, c2⟩ := r2
        simp only
        by_cases hc2 : c2 = 0
        · subst hc2
          rw [if_pos (by omega), if_pos (by decide), rdD_plain hd (Nat.le_refl _) a3, ← a1]
        · rw [if_neg (by omega), if_neg (by simpa using hc2)]
    · have hw : wnO t 0 = none := by unfold wnO; rw [h]; show (if c = 0 then some e else none) = none; rw [if_neg hc]
      rw [hw]
      cases hd : rdD t ty e t.length nm.length with
      | none => rfl
      | some r2 => obtain ⟨d, c2⟩ := r2; simp only; rw [if_neg (by omega)]
theorem qN_len {t nm : List Nat} (h : qN t = some nm) : nm = t ∧ wnO t 0 = some t.length ∧ t.length ≤ 255 ∧ 1 ≤ t.length := by
  rw [qN_wn] at h
  split at h
  · rename_i hw
    simp only [Option.some.injEq] at h
    have h1 := (wnO_s hw).1
    have h2 := rn_bd h1 (by decide)
    rw [sl9_len (by omega)] at h2
    exact ⟨h.symm, hw, by omega, by omega⟩
  · cases h

