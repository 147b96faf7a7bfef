/-! BYTES in lists: what put, putTwo, putFour and set do -/
theorem ub_nI {n : Nat} (h : n < 2 ^ 32) : ub (nI n) = n % 256 := by unfold ub; rw [pk_tn h]
def un (x : Int32) : Nat := x.toBitVec.toNat
theorem un_lt (x : Int32) : un x < 2 ^ 32 := x.toBitVec.isLt
theorem toInt_un (w : Int32) : w.toInt = (un w : Int) ∨ w.toInt = (un w : Int) - 2 ^ 32 := by
  have h : w.toInt = w.toBitVec.toInt := rfl
  rw [h, BitVec.toInt_eq_toNat_cond]
  unfold un
  split
  · exact Or.inl rfl
  · exact Or.inr rfl
theorem ub_int {w : Int32} {n : Nat} (h : w.toInt % 256 = (n : Int) % 256) : ub w = n % 256 := by
  have := mod_256 w
  unfold ub
  omega
theorem ub_shr8 (x : Int32) : ub (x >>> ((8 : Int32) &&& 31)) = un x / 256 % 256 := by
  refine ub_int ?_
  rw [pk_shr x _ 8 (by decide), Int.shiftRight_eq_div_pow]
  rcases toInt_un x with h | h <;> rw [h] <;> omega
theorem ub_shr16 (x : Int32) : ub (x >>> ((16 : Int32) &&& 31)) = un x / 65536 % 256 := by
  refine ub_int ?_
  rw [pk_shr x _ 16 (by decide), Int.shiftRight_eq_div_pow]
  rcases toInt_un x with h | h <;> rw [h] <;> omega
theorem ub_shr24 (x : Int32) : ub ((x >>> ((16 : Int32) &&& 31)) >>> ((8 : Int32) &&& 31)) = un x / 16777216 % 256 := by
  refine ub_int ?_
  rw [pk_shr _ _ 8 (by decide), pk_shr x _ 16 (by decide), Int.shiftRight_eq_div_pow, Int.shiftRight_eq_div_pow]
  rcases toInt_un x with h | h <;> rw [h] <;> omega
theorem ub_un (x : Int32) : ub x = un x % 256 := rfl
def b2 (n : Nat) : List Nat := [n / 256 % 256, n % 256]
def b4 (x : Int32) : List Nat := [un x / 16777216 % 256, un x / 65536 % 256, un x / 256 % 256, un x % 256]
theorem BR_bp2 {c : Nat} {f : Nat → Int32} {L : List Nat} {x : Int32} (h : BR c 65536 f L) (hL : L.length < 1000000) : BR c 65536 (bp2 f (nI L.length) x) (L ++ b2 (un x)) := by
  have h1 := BR_bset (x := x >>> ((8 : Int32) &&& 31)) h (by omega)
  have h2 := BR_bset (x := x) h1 (by rw [List.length_append, List.length_singleton]; omega)
  rw [List.length_append, List.length_singleton, List.append_assoc, ub_shr8, ← nI_1] at h2
  exact h2
theorem BR_bp4 {c : Nat} {f : Nat → Int32} {L : List Nat} {x : Int32} (h : BR c 65536 f L) (hL : L.length < 1000000) : BR c 65536 (bp4 f (nI L.length) x) (L ++ b4 x) := by
  have h1 := BR_bset (x := (x >>> ((16 : Int32) &&& 31)) >>> ((8 : Int32) &&& 31)) h (by omega)
  rw [ub_shr24] at h1
  have h2 := BR_bset (x := x >>> ((16 : Int32) &&& 31)) h1 (by rw [List.length_append, List.length_singleton]; omega)
  have h3 := BR_bset (x := x >>> ((8 : Int32) &&& 31)) h2 (by simp only [List.length_append, List.length_singleton]; omega)
  have h4 := BR_bset (x := x) h3 (by simp only [List.length_append, List.length_singleton]; omega)
  simp only [List.length_append, List.length_singleton, List.append_assoc, ub_shr8, ub_shr16, ← nI_1] at h4
  exact h4
theorem BR_set {c n p : Nat} {f : Nat → Int32} {L : List Nat} {v : Int32} (h : BR c n f L) : BR c n (upd f p v.toInt8.toInt32) (L.set p (ub v)) := by
  refine ⟨sb_fitU h.1 (pk_fb v), ?_⟩
  intro i b hb hc hn
  by_cases hi : p = i
  · subst hi
    have hlt := (List.getElem?_eq_some_iff.mp hb).1
    rw [List.length_set] at hlt
    rw [List.getElem?_set_self hlt, Option.some.injEq] at hb
    have h1 := (BR_put (c := 0) (n := n) (L := List.replicate p 0) (x := v) (f := fun _ => 0) ⟨sb_fit0, fun i b hb _ _ => by
      have h5 := (List.getElem?_eq_some_iff.mp hb).2; rw [List.getElem_replicate] at h5; rw [← h5]; rfl⟩).2 p (ub v) (by rw [List.getElem?_append_right (by simp), List.length_replicate, Nat.sub_self]; rfl) (Nat.zero_le _) hn
    rw [List.length_replicate, pk_us] at h1
    rw [pk_us, h1, hb]
  · rw [List.getElem?_set_ne hi] at hb
    rw [pk_un (fun z => hi z.symm)]
    exact h.2 i b hb hc hn
theorem BR_bset2 {c p : Nat} {f : Nat → Int32} {L : List Nat} {x : Int32} (h : BR c 65536 f L) (hp : p < 1000000) : BR c 65536 (bset (bset f (nI p) (x >>> ((8 : Int32) &&& 31))) (nI p + 1) x) ((L.set p (un x / 256 % 256)).set (p + 1) (un x % 256)) := by
  have e1 : ∀ (q : Nat) (g : Nat → Int32) (M : List Nat) (y : Int32), q < 1000001 → BR c 65536 g M → BR c 65536 (bset g (nI q) y) (M.set q (ub y)) := by
    intro q g M y hq hM
    by_cases hi : q < 65536
    · rw [bset_in hi]; exact BR_set hM
    · rw [bset_out (by omega) (by omega)]
      refine ⟨hM.1, ?_⟩
      intro i b hb hc hn
      rw [List.getElem?_set_ne (by omega)] at hb
      exact hM.2 i b hb hc hn
  have h1 := e1 p f L (x >>> ((8 : Int32) &&& 31)) (by omega) h
  have h2 := e1 (p + 1) _ _ x (by omega) h1
  rw [ub_shr8, ← nI_1] at h2
  exact h2
theorem or_256 {p q : Nat} (hp : p < 256) (hq : q < 256) : p * 256 ||| q = p * 256 + q := by
  rw [show p * 256 = 2 ^ 8 * p by omega, Nat.two_pow_add_eq_or_of_lt (by omega : q < 2 ^ 8)]
theorem nI_or {p q : Nat} (hp : p < 2 ^ 32) (hq : q < 2 ^ 32) : nI p ||| nI q = nI (p ||| q) := by
  have h := Nat.or_lt_two_pow hp hq
  apply Int32.toBitVec_inj.mp
  apply BitVec.eq_of_toNat_eq
  rw [Int32.toBitVec_or, BitVec.toNat_or, pk_tn hp, pk_tn hq, pk_tn h]
theorem two_nI {p q : Nat} (hp : p < 256) (hq : q < 256) : nI p <<< ((8 : Int32) &&& 31) ||| nI q = nI (p * 256 + q) := by
  rw [pk_shlN _ 8 (by decide) (by omega), nI_or (by omega) (by omega), show p * 2 ^ 8 = p * 256 by omega, or_256 hp hq]
theorem bt2_L {f : Nat → Int32} {t : List Nat} (h : BR 0 65536 f t) {i : Nat} (hn : t.length ≤ 65536) (hi : i + 1 < t.length) : bt2 f (nI i) = nI (tb t i * 256 + tb t (i + 1)) := by
  unfold bt2
  rw [BR_bt h (by omega) hn, show nI i + 1 = nI (i + 1) from nI_1 i, BR_bt h hi hn]
  exact two_nI (BR_lt h (by omega) (Nat.zero_le _) (by omega)) (BR_lt h hi (Nat.zero_le _) (by omega))
/-- two bytes, four bytes as a number -/
def t2 (t : List Nat) (i : Nat) : Nat := tb t i * 256 + tb t (i + 1)
def i4 (t : List Nat) (i : Nat) : Int32 := nI (tb t i * 256 + tb t (i + 1)) <<< ((16 : Int32) &&& 31) ||| nI (tb t (i + 2) * 256 + tb t (i + 2 + 1))
theorem m_By_putL_tp (l : Launch) (D9 : va_G) (cB cI cJ cG : ClassId) (a : Nat → Nat) (O : Nat → Int64) (I : Nat → Int32) (F : Nat → Nat → Int32) (L : List Nat) (c9 : Nat) (x : Int32) (hBL : BR c9 65536 (F 2) L) (hLl : I 2 = nI L.length) (hLb : L.length < 1000000) : MC l D9 cB cI cJ cG a O y_By_put b_By_put 2 none 1 [.ref (a 1), .int x] I F (fun v I' F' => v = none ∧ sm [2] I I' ∧ I' 2 = nI (L.length + 1) ∧ sm [2] F F' ∧ BR c9 65536 (F' 2) (L ++ [ub x])) := mw_mono (m_By_put_tp l D9 cB cI cJ cG a O I F x) (fun v w h => by
  obtain ⟨I', F', hw, h1, h2, h3⟩ := h
  subst h2 h3
  exact ⟨_, _, hw, h1, sm_up sm_rf (by decide), (uf_s.trans (by rw [hLl]; simp only [nI_1])), sm_up sm_rf (by decide), BR_eq (BR_bset hBL (by omega)) (uf_s.trans (by rw [hLl]))⟩)
theorem m_By_putTwoL_tp (l : Launch) (D9 : va_G) (cB cI cJ cG : ClassId) (a : Nat → Nat) (O : Nat → Int64) (I : Nat → Int32) (F : Nat → Nat → Int32) (L : List Nat) (c9 : Nat) (x : Int32) (hBL : BR c9 65536 (F 2) L) (hLl : I 2 = nI L.length) (hLb : L.length < 1000000) : MC l D9 cB cI cJ cG a O y_By_putTwo b_By_putTwo 2 none 2 [.ref (a 1), .int x] I F (fun v I' F' => v = none ∧ sm [2] I I' ∧ I' 2 = nI (L.length + 2) ∧ sm [2] F F' ∧ BR c9 65536 (F' 2) (L ++ b2 (un x))) := mw_mono (m_By_putTwo_tp l D9 cB cI cJ cG a O I F x) (fun v w h => by
  obtain ⟨I', F', hw, h1, h2, h3⟩ := h
  subst h2 h3
  exact ⟨_, _, hw, h1, sm_up sm_rf (by decide), (uf_s.trans (by rw [hLl]; simp only [nI_1])), sm_up sm_rf (by decide), BR_eq (BR_bp2 hBL hLb) (uf_s.trans (by rw [hLl]))⟩)
theorem m_By_putFourL_tp (l : Launch) (D9 : va_G) (cB cI cJ cG : ClassId) (a : Nat → Nat) (O : Nat → Int64) (I : Nat → Int32) (F : Nat → Nat → Int32) (L : List Nat) (c9 : Nat) (x : Int32) (hBL : BR c9 65536 (F 2) L) (hLl : I 2 = nI L.length) (hLb : L.length < 1000000) : MC l D9 cB cI cJ cG a O y_By_putFour b_By_putFour 2 none 3 [.ref (a 1), .int x] I F (fun v I' F' => v = none ∧ sm [2] I I' ∧ I' 2 = nI (L.length + 4) ∧ sm [2] F F' ∧ BR c9 65536 (F' 2) (L ++ b4 x)) := mw_mono (m_By_putFour_tp l D9 cB cI cJ cG a O I F x) (fun v w h => by
  obtain ⟨I', F', hw, h1, h2, h3⟩ := h
  subst h2 h3
  exact ⟨_, _, hw, h1, sm_up sm_rf (by decide), (uf_s.trans (by rw [hLl]; simp only [nI_1])), sm_up sm_rf (by decide), BR_eq (BR_bp4 hBL hLb) (uf_s.trans (by rw [hLl]))⟩)
theorem m_By_setTwoL_tp (l : Launch) (D9 : va_G) (cB cI cJ cG : ClassId) (a : Nat → Nat) (O : Nat → Int64) (I : Nat → Int32) (F : Nat → Nat → Int32) (L : List Nat) (c9 q : Nat) (x : Int32) (hBL : BR c9 65536 (F 2) L) (hq : q < 1000000) : MC l D9 cB cI cJ cG a O y_By_setTwo b_By_setTwo 3 none 1 [.ref (a 1), .int (nI q), .int x] I F (fun v I' F' => v = none ∧ I = I' ∧ sm [2] F F' ∧ BR c9 65536 (F' 2) ((L.set q (un x / 256 % 256)).set (q + 1) (un x % 256))) := mw_mono (m_By_setTwo_tp l D9 cB cI cJ cG a O I F (nI q) x) (fun v w h => by
  obtain ⟨I', F', hw, h1, h2, h3⟩ := h
  subst h2 h3
  exact ⟨_, _, hw, h1, rfl, sm_up sm_rf (by decide), BR_eq (BR_bset2 hBL hq) uf_s⟩)
theorem m_By_atL_tp (l : Launch) (D9 : va_G) (cB cI cJ cG : ClassId) (a : Nat → Nat) (O : Nat → Int64) (I : Nat → Int32) (F : Nat → Nat → Int32) (L : List Nat) (q : Nat) (hBL : BR 0 65536 (F 2) L) (hLb : L.length ≤ 65536) (hq : q < L.length) : MC l D9 cB cI cJ cG a O y_By_at b_By_at 2 (some .int) 0 [.ref (a 1), .int (nI q)] I F (fun v I' F' => v = some (.int (nI (tb L q))) ∧ I = I' ∧ F = F') := mw_mono (m_By_at_tp l D9 cB cI cJ cG a O I F (nI q)) (fun v w h => by
  obtain ⟨I', F', hw, h1, h2, h3⟩ := h
  rw [BR_bt hBL hq hLb] at h1
  exact ⟨_, _, hw, h1, h2, h3⟩)
theorem m_By_twoAtL_tp (l : Launch) (D9 : va_G) (cB cI cJ cG : ClassId) (a : Nat → Nat) (O : Nat → Int64) (I : Nat → Int32) (F : Nat → Nat → Int32) (L : List Nat) (q : Nat) (hBL : BR 0 65536 (F 2) L) (hLb : L.length ≤ 65536) (hq : q + 1 < L.length) : MC l D9 cB cI cJ cG a O y_By_twoAt b_By_twoAt 2 (some .int) 1 [.ref (a 1), .int (nI q)] I F (fun v I' F' => v = some (.int (nI (tb L q * 256 + tb L (q + 1)))) ∧ I = I' ∧ F = F') := mw_mono (m_By_twoAt_tp l D9 cB cI cJ cG a O I F (nI q)) (fun v w h => by
  obtain ⟨I', F', hw, h1, h2, h3⟩ := h
  rw [bt2_L hBL hLb hq] at h1
  exact ⟨_, _, hw, h1, h2, h3⟩)
theorem m_By_putL_gb (l : Launch) (D9 : va_G) (cB cI cJ cG : ClassId) (a : Nat → Nat) (O : Nat → Int64) (I : Nat → Int32) (F : Nat → Nat → Int32) (L : List Nat) (c9 : Nat) (x : Int32) (hBL : BR c9 65536 (F 4) L) (hLl : I 3 = nI L.length) (hLb : L.length < 1000000) : MC l D9 cB cI cJ cG a O y_By_put b_By_put 2 none 1 [.ref (a 3), .int x] I F (fun v I' F' => v = none ∧ sm [3] I I' ∧ I' 3 = nI (L.length + 1) ∧ sm [4] F F' ∧ BR c9 65536 (F' 4) (L ++ [ub x])) := mw_mono (m_By_put_gb l D9 cB cI cJ cG a O I F x) (fun v w h => by
  obtain ⟨I', F', hw, h1, h2, h3⟩ := h
  subst h2 h3
  exact ⟨_, _, hw, h1, sm_up sm_rf (by decide), (uf_s.trans (by rw [hLl]; simp only [nI_1])), sm_up sm_rf (by decide), BR_eq (BR_bset hBL (by omega)) (uf_s.trans (by rw [hLl]))⟩)
theorem m_By_putTwoL_gb (l : Launch) (D9 : va_G) (cB cI cJ cG : ClassId) (a : Nat → Nat) (O : Nat → Int64) (I : Nat → Int32) (F : Nat → Nat → Int32) (L : List Nat) (c9 : Nat) (x : Int32) (hBL : BR c9 65536 (F 4) L) (hLl : I 3 = nI L.length) (hLb : L.length < 1000000) : MC l D9 cB cI cJ cG a O y_By_putTwo b_By_putTwo 2 none 2 [.ref (a 3), .int x] I F (fun v I' F' => v = none ∧ sm [3] I I' ∧ I' 3 = nI (L.length + 2) ∧ sm [4] F F' ∧ BR c9 65536 (F' 4) (L ++ b2 (un x))) := mw_mono (m_By_putTwo_gb l D9 cB cI cJ cG a O I F x) (fun v w h => by
  obtain ⟨I', F', hw, h1, h2, h3⟩ := h
  subst h2 h3
  exact ⟨_, _, hw, h1, sm_up sm_rf (by decide), (uf_s.trans (by rw [hLl]; simp only [nI_1])), sm_up sm_rf (by decide), BR_eq (BR_bp2 hBL hLb) (uf_s.trans (by rw [hLl]))⟩)
theorem m_By_putFourL_gb (l : Launch) (D9 : va_G) (cB cI cJ cG : ClassId) (a : Nat → Nat) (O : Nat → Int64) (I : Nat → Int32) (F : Nat → Nat → Int32) (L : List Nat) (c9 : Nat) (x : Int32) (hBL : BR c9 65536 (F 4) L) (hLl : I 3 = nI L.length) (hLb : L.length < 1000000) : MC l D9 cB cI cJ cG a O y_By_putFour b_By_putFour 2 none 3 [.ref (a 3), .int x] I F (fun v I' F' => v = none ∧ sm [3] I I' ∧ I' 3 = nI (L.length + 4) ∧ sm [4] F F' ∧ BR c9 65536 (F' 4) (L ++ b4 x)) := mw_mono (m_By_putFour_gb l D9 cB cI cJ cG a O I F x) (fun v w h => by
  obtain ⟨I', F', hw, h1, h2, h3⟩ := h
  subst h2 h3
  exact ⟨_, _, hw, h1, sm_up sm_rf (by decide), (uf_s.trans (by rw [hLl]; simp only [nI_1])), sm_up sm_rf (by decide), BR_eq (BR_bp4 hBL hLb) (uf_s.trans (by rw [hLl]))⟩)
theorem m_By_setTwoL_gb (l : Launch) (D9 : va_G) (cB cI cJ cG : ClassId) (a : Nat → Nat) (O : Nat → Int64) (I : Nat → Int32) (F : Nat → Nat → Int32) (L : List Nat) (c9 q : Nat) (x : Int32) (hBL : BR c9 65536 (F 4) L) (hq : q < 1000000) : MC l D9 cB cI cJ cG a O y_By_setTwo b_By_setTwo 3 none 1 [.ref (a 3), .int (nI q), .int x] I F (fun v I' F' => v = none ∧ I = I' ∧ sm [4] F F' ∧ BR c9 65536 (F' 4) ((L.set q (un x / 256 % 256)).set (q + 1) (un x % 256))) := mw_mono (m_By_setTwo_gb l D9 cB cI cJ cG a O I F (nI q) x) (fun v w h => by
  obtain ⟨I', F', hw, h1, h2, h3⟩ := h
  subst h2 h3
  exact ⟨_, _, hw, h1, rfl, sm_up sm_rf (by decide), BR_eq (BR_bset2 hBL hq) uf_s⟩)
theorem m_By_atL_gb (l : Launch) (D9 : va_G) (cB cI cJ cG : ClassId) (a : Nat → Nat) (O : Nat → Int64) (I : Nat → Int32) (F : Nat → Nat → Int32) (L : List Nat) (q : Nat) (hBL : BR 0 65536 (F 4) L) (hLb : L.length ≤ 65536) (hq : q < L.length) : MC l D9 cB cI cJ cG a O y_By_at b_By_at 2 (some .int) 0 [.ref (a 3), .int (nI q)] I F (fun v I' F' => v = some (.int (nI (tb L q))) ∧ I = I' ∧ F = F') := mw_mono (m_By_at_gb l D9 cB cI cJ cG a O I F (nI q)) (fun v w h => by
  obtain ⟨I', F', hw, h1, h2, h3⟩ := h
  rw [BR_bt hBL hq hLb] at h1
  exact ⟨_, _, hw, h1, h2, h3⟩)
theorem m_By_twoAtL_gb (l : Launch) (D9 : va_G) (cB cI cJ cG : ClassId) (a : Nat → Nat) (O : Nat → Int64) (I : Nat → Int32) (F : Nat → Nat → Int32) (L : List Nat) (q : Nat) (hBL : BR 0 65536 (F 4) L) (hLb : L.length ≤ 65536) (hq : q + 1 < L.length) : MC l D9 cB cI cJ cG a O y_By_twoAt b_By_twoAt 2 (some .int) 1 [.ref (a 3), .int (nI q)] I F (fun v I' F' => v = some (.int (nI (tb L q * 256 + tb L (q + 1)))) ∧ I = I' ∧ F = F') := mw_mono (m_By_twoAt_gb l D9 cB cI cJ cG a O I F (nI q)) (fun v w h => by
  obtain ⟨I', F', hw, h1, h2, h3⟩ := h
  rw [bt2_L hBL hLb hq] at h1
  exact ⟨_, _, hw, h1, h2, h3⟩)
theorem m_By_putL_ms (l : Launch) (D9 : va_G) (cB cI cJ cG : ClassId) (a : Nat → Nat) (O : Nat → Int64) (I : Nat → Int32) (F : Nat → Nat → Int32) (L : List Nat) (c9 : Nat) (x : Int32) (hBL : BR c9 65536 (F 21) L) (hLl : I 13 = nI L.length) (hLb : L.length < 1000000) : MC l D9 cB cI cJ cG a O y_By_put b_By_put 2 none 1 [.ref (a 20), .int x] I F (fun v I' F' => v = none ∧ sm [13] I I' ∧ I' 13 = nI (L.length + 1) ∧ sm [21] F F' ∧ BR c9 65536 (F' 21) (L ++ [ub x])) := mw_mono (m_By_put_ms l D9 cB cI cJ cG a O I F x) (fun v w h => by
  obtain ⟨I', F', hw, h1, h2, h3⟩ := h
  subst h2 h3
  exact ⟨_, _, hw, h1, sm_up sm_rf (by decide), (uf_s.trans (by rw [hLl]; simp only [nI_1])), sm_up sm_rf (by decide), BR_eq (BR_bset hBL (by omega)) (uf_s.trans (by rw [hLl]))⟩)
theorem m_By_putTwoL_ms (l : Launch) (D9 : va_G) (cB cI cJ cG : ClassId) (a : Nat → Nat) (O : Nat → Int64) (I : Nat → Int32) (F : Nat → Nat → Int32) (L : List Nat) (c9 : Nat) (x : Int32) (hBL : BR c9 65536 (F 21) L) (hLl : I 13 = nI L.length) (hLb : L.length < 1000000) : MC l D9 cB cI cJ cG a O y_By_putTwo b_By_putTwo 2 none 2 [.ref (a 20), .int x] I F (fun v I' F' => v = none ∧ sm [13] I I' ∧ I' 13 = nI (L.length + 2) ∧ sm [21] F F' ∧ BR c9 65536 (F' 21) (L ++ b2 (un x))) := mw_mono (m_By_putTwo_ms l D9 cB cI cJ cG a O I F x) (fun v w h => by
  obtain ⟨I', F', hw, h1, h2, h3⟩ := h
  subst h2 h3
  exact ⟨_, _, hw, h1, sm_up sm_rf (by decide), (uf_s.trans (by rw [hLl]; simp only [nI_1])), sm_up sm_rf (by decide), BR_eq (BR_bp2 hBL hLb) (uf_s.trans (by rw [hLl]))⟩)
theorem m_By_putFourL_ms (l : Launch) (D9 : va_G) (cB cI cJ cG : ClassId) (a : Nat → Nat) (O : Nat → Int64) (I : Nat → Int32) (F : Nat → Nat → Int32) (L : List Nat) (c9 : Nat) (x : Int32) (hBL : BR c9 65536 (F 21) L) (hLl : I 13 = nI L.length) (hLb : L.length < 1000000) : MC l D9 cB cI cJ cG a O y_By_putFour b_By_putFour 2 none 3 [.ref (a 20), .int x] I F (fun v I' F' => v = none ∧ sm [13] I I' ∧ I' 13 = nI (L.length + 4) ∧ sm [21] F F' ∧ BR c9 65536 (F' 21) (L ++ b4 x)) := mw_mono (m_By_putFour_ms l D9 cB cI cJ cG a O I F x) (fun v w h => by
  obtain ⟨I', F', hw, h1, h2, h3⟩ := h
  subst h2 h3
  exact ⟨_, _, hw, h1, sm_up sm_rf (by decide), (uf_s.trans (by rw [hLl]; simp only [nI_1])), sm_up sm_rf (by decide), BR_eq (BR_bp4 hBL hLb) (uf_s.trans (by rw [hLl]))⟩)
theorem m_By_setTwoL_ms (l : Launch) (D9 : va_G) (cB cI cJ cG : ClassId) (a : Nat → Nat) (O : Nat → Int64) (I : Nat → Int32) (F : Nat → Nat → Int32) (L : List Nat) (c9 q : Nat) (x : Int32) (hBL : BR c9 65536 (F 21) L) (hq : q < 1000000) : MC l D9 cB cI cJ cG a O y_By_setTwo b_By_setTwo 3 none 1 [.ref (a 20), .int (nI q), .int x] I F (fun v I' F' => v = none ∧ I = I' ∧ sm [21] F F' ∧ BR c9 65536 (F' 21) ((L.set q (un x / 256 % 256)).set (q + 1) (un x % 256))) := mw_mono (m_By_setTwo_ms l D9 cB cI cJ cG a O I F (nI q) x) (fun v w h => by
  obtain ⟨I', F', hw, h1, h2, h3⟩ := h
  subst h2 h3
  exact ⟨_, _, hw, h1, rfl, sm_up sm_rf (by decide), BR_eq (BR_bset2 hBL hq) uf_s⟩)
theorem m_By_atL_ms (l : Launch) (D9 : va_G) (cB cI cJ cG : ClassId) (a : Nat → Nat) (O : Nat → Int64) (I : Nat → Int32) (F : Nat → Nat → Int32) (L : List Nat) (q : Nat) (hBL : BR 0 65536 (F 21) L) (hLb : L.length ≤ 65536) (hq : q < L.length) : MC l D9 cB cI cJ cG a O y_By_at b_By_at 2 (some .int) 0 [.ref (a 20), .int (nI q)] I F (fun v I' F' => v = some (.int (nI (tb L q))) ∧ I = I' ∧ F = F') := mw_mono (m_By_at_ms l D9 cB cI cJ cG a O I F (nI q)) (fun v w h => by
  obtain ⟨I', F', hw, h1, h2, h3⟩ := h
  rw [BR_bt hBL hq hLb] at h1
  exact ⟨_, _, hw, h1, h2, h3⟩)
theorem m_By_twoAtL_ms (l : Launch) (D9 : va_G) (cB cI cJ cG : ClassId) (a : Nat → Nat) (O : Nat → Int64) (I : Nat → Int32) (F : Nat → Nat → Int32) (L : List Nat) (q : Nat) (hBL : BR 0 65536 (F 21) L) (hLb : L.length ≤ 65536) (hq : q + 1 < L.length) : MC l D9 cB cI cJ cG a O y_By_twoAt b_By_twoAt 2 (some .int) 1 [.ref (a 20), .int (nI q)] I F (fun v I' F' => v = some (.int (nI (tb L q * 256 + tb L (q + 1)))) ∧ I = I' ∧ F = F') := mw_mono (m_By_twoAt_ms l D9 cB cI cJ cG a O I F (nI q)) (fun v w h => by
  obtain ⟨I', F', hw, h1, h2, h3⟩ := h
  rw [bt2_L hBL hLb hq] at h1
  exact ⟨_, _, hw, h1, h2, h3⟩)
theorem m_By_fourAtL_tp (l : Launch) (D9 : va_G) (cB cI cJ cG : ClassId) (a : Nat → Nat) (O : Nat → Int64) (I : Nat → Int32) (F : Nat → Nat → Int32) (L : List Nat) (q : Nat) (hBL : BR 0 65536 (F 2) L) (hLb : L.length ≤ 65536) (hq : q + 3 < L.length) : MC l D9 cB cI cJ cG a O y_By_fourAt b_By_fourAt 2 (some .int) 2 [.ref (a 1), .int (nI q)] I F (fun v I' F' => v = some (.int (i4 L q)) ∧ I = I' ∧ F = F') := mw_mono (m_By_fourAt_tp l D9 cB cI cJ cG a O I F (nI q)) (fun v w h => by
  obtain ⟨I', F', hw, h1, h2, h3⟩ := h
  rw [show nI q + 2 = nI (q + 2) from nI_add q 2, bt2_L hBL hLb (by omega), bt2_L hBL hLb (by omega)] at h1
  exact ⟨_, _, hw, h1, h2, h3⟩)
