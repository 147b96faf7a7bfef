/-! THE LAYER over the one world: named states, lists of bytes in rows -/
theorem lv_topq {p : Program} {l : Launch} {e : Env} {R : Room} {s : State} {m : MethodId} {args : Array Value} {below : List Frame} {meth : Method} {c : Code} {H : Heap} {locs : List Loc} {cells slots : Nat} {Q : State → Prop} {pc : Nat} {ls : Array Slot} {rest : List Value} {x y : Int32} (h : x = y) (k : W p l e R s m args below meth c H locs cells slots Q (F0 m pc ls (.int y :: rest))) : W p l e R s m args below meth c H locs cells slots Q (F0 m pc ls (.int x :: rest)) := by
  rw [h]; exact k
theorem va_aldG {p : Program} {l : Launch} {e : Env} {R : Room} {s : State} {m : MethodId} {args : Array Value} {below : List Frame} {meth : Method} {c : Code} {H : Heap} {locs : List Loc} {cells slots : Nat} {Q : State → Prop} {pc : Nat} {ls : Array Slot} {rest : List Value} {cc : ByteArray} {D : va_G} {cl : List vw_C} {tys : List (ClassId × FieldType)} {ws : va_W} {a : Nat} (hexec : p.tables.exec = Jvm.exec) (hb : c.code = cc) (hK : va_K D cl tys s) (hP : va_P D cl ws H) (q0 t0 : Nat) {cA : ClassId} {n : Nat} {f : Nat → Option Nat} (ha : ws[q0]? = some (a, .inl (cA, n, .inr (.inr (.inr (.inr f)))))) (ht : tys[t0]? = some (cA, .array .int)) {i : Int32} (hin : vp_in i n) (hdg : decode cc pc = .ok (.aaload, 1))
    (kk : W p l e R s m args below meth c H locs cells slots Q (F0 m (pc + 1) ls (va_rf (f i.toNatClampNeg) :: rest))) : W p l e R s m args below meth c H locs cells slots Q (F0 m pc ls (.int i :: .ref a :: rest)) := by
  have hlt : i.toNatClampNeg < n := Nat.not_le.mp fun q => hin (Or.inr q)
  exact W.aald (v := va_rf (f i.toNatClampNeg)) (ty := .array .int) hexec hb (hP q0 _ ha) ((hK.2 t0 _ ht).1 n (fun j => va_rf (f j))) rfl (fun q => by cases q) (by show ¬ (i < 0 ∨ (arrV _ _ _).slots.size ≤ _); rw [arrV_size]; exact hin) (by show (arrV _ _ _).slots[_]? = _; rw [arrV_read _ _ hlt]) rfl rfl hdg kk
theorem va_rf4 {a : Nat → Nat} {s : Nat} (h : s < 4) : va_rf (if s < 4 then some (a (12 + s)) else none) = .ref (a (12 + s)) := by rw [if_pos h]; rfl
theorem lt4 {s : Nat} (h : s < 4) : s = 0 ∨ s = 1 ∨ s = 2 ∨ s = 3 := by omega
theorem rw_ne {k s : Nat} (h : s < 4) (h2 : k < 12 ∨ 15 < k := by decide) : k ∉ [12 + s] := by simp; omega
theorem row_in {s : Nat} {M : List Nat} (h : s < 4) (hM : 12 ∈ M ∧ 13 ∈ M ∧ 14 ∈ M ∧ 15 ∈ M) : ∀ k ∈ [12 + s], k ∈ M := by
  intro k hk
  rcases lt4 h with rfl | rfl | rfl | rfl <;> simp at hk <;> subst hk
  · exact hM.1
  · exact hM.2.1
  · exact hM.2.2.1
  · exact hM.2.2.2
section WRW
variable {a : Nat → Nat} {cB cI cJ cG : ClassId} {I : Nat → Int32} {F : Nat → Nat → Int32} {O : Nat → Int64} {D : va_G} {cl : List vw_C} {H : Heap} {A : Nat → Prop} {s : Nat}
theorem ww_row (h : s < 4) : (WW a cB cI cJ cG I F O)[12 + s]? = some (a (12 + s), .inl (cI, 1000, .inl (F (12 + s)))) := by
  rcases lt4 h with rfl | rfl | rfl | rfl <;> rfl
theorem wpa_row {f : Nat → Int32} (h : s < 4) (hP : va_P D cl ((WW a cB cI cJ cG I F O).set (12 + s) (a (12 + s), .inl (cI, 1000, .inl f))) H) : va_P D cl (WW a cB cI cJ cG I (uf F (12 + s) f) O) H := by
  rcases lt4 h with rfl | rfl | rfl | rfl
  · exact wpa_12 hP
  · exact wpa_13 hP
  · exact wpa_14 hP
  · exact wpa_15 hP
theorem wda_row {f : Nat → Int32} (h : s < 4) (hP : va_D A ((WW a cB cI cJ cG I F O).set (12 + s) (a (12 + s), .inl (cI, 1000, .inl f)))) : va_D A (WW a cB cI cJ cG I (uf F (12 + s) f) O) := by
  rcases lt4 h with rfl | rfl | rfl | rfl
  · exact wda_12 hP
  · exact wda_13 hP
  · exact wda_14 hP
  · exact wda_15 hP
end WRW
theorem fx {α : Type} {P : (Nat → α) → Prop} {F : Nat → α} {k : Nat} {f : α} (h : P (uf F k f)) : ∃ F', F' k = f ∧ sm [k] F F' ∧ P F' := ⟨_, uf_s, sm_up sm_rf List.mem_cons_self, h⟩
theorem lv_pk {ls : Array Slot} {nL : Nat} {L L' : List (Nat × Value)} (h : lv_has ls nL L) (js : List Nat) (hs : js.map (fun i => L[i]?) = L'.map some) : lv_has ls nL L' := ⟨h.1, h.2.1, fun q hq => by
  have h1 : some q ∈ js.map (fun i => L[i]?) := by rw [hs]; exact List.mem_map.mpr ⟨q, hq, rfl⟩
  obtain ⟨i, -, h2⟩ := List.mem_map.mp h1
  exact lv_at h i (i := q.1) (v := q.2) h2⟩
theorem ii_d {n : Nat} (h : 0 < n) : nI n + Int32.ofInt (-1) = nI (n - 1) := sb_m1 h
def bI (b : Bool) : Int32 := if b then 1 else 0
theorem bI_f {b : Bool} (h : bI b = 0) : b = false := by cases b; rfl; exact absurd h (by decide)
theorem bI_t {b : Bool} (h : ¬ bI b = 0) : b = true := by cases b; exact absurd rfl h; rfl
theorem bI_01 (b : Bool) : bI b = 0 ∨ bI b = 1 := by cases b; exact Or.inl rfl; exact Or.inr rfl
/-- the row f holds the list L, from place c on, below place n -/
def BR (c n : Nat) (f : Nat → Int32) (L : List Nat) : Prop := sb_Fit f ∧ ∀ i b, L[i]? = some b → c ≤ i → i < n → ub (f i) = b
def tb (t : List Nat) (i : Nat) : Nat := t.getD i 0
theorem tb_in {t : List Nat} {i : Nat} (h : i < t.length) : t[i]? = some (tb t i) := by
  unfold tb; rw [List.getD_eq_getElem?_getD, List.getElem?_eq_getElem h]; rfl
theorem BR_tb {c n : Nat} {f : Nat → Int32} {t : List Nat} (h : BR c n f t) {i : Nat} (hi : i < t.length) (hc : c ≤ i) (hn : i < n) : ub (f i) = tb t i := h.2 i _ (tb_in hi) hc hn
theorem BR_bn {f : Nat → Int32} {t : List Nat} (h : BR 0 65536 f t) {i : Nat} (hi : i < t.length) (hn : t.length ≤ 65536) : bn f i = tb t i := by
  rw [bn, if_pos (by omega)]; exact BR_tb h hi (Nat.zero_le _) (by omega)
theorem BR_lt {c n : Nat} {f : Nat → Int32} {t : List Nat} (h : BR c n f t) {i : Nat} (hi : i < t.length) (hc : c ≤ i) (hn : i < n) : tb t i < 256 := by
  rw [← BR_tb h hi hc hn]; exact ub_lt _
theorem BR_pre {c n : Nat} {f : Nat → Int32} {L M : List Nat} (h : BR c n f (L ++ M)) : BR c n f L := ⟨h.1, fun i b hb => h.2 i b (by
  rw [List.getElem?_append_left (List.getElem?_eq_some_iff.mp hb).1]; exact hb)⟩
theorem BR_nil {c n : Nat} {f : Nat → Int32} (h : sb_Fit f) : BR c n f [] := ⟨h, fun i b hb => by simp at hb⟩
theorem BR_bt {f : Nat → Int32} {t : List Nat} (h : BR 0 65536 f t) {i : Nat} (hi : i < t.length) (hn : t.length ≤ 65536) : bt f (nI i) = nI (tb t i) := by
  rw [bt_bn (by omega), BR_bn h hi hn]
theorem mod_256 (w : Int32) : (w.toBitVec.toNat : Int) % 256 = w.toInt % 256 := by
  have h : w.toInt = w.toBitVec.toInt := rfl
  rw [h, BitVec.toInt_eq_toNat_cond]
  split <;> omega
/-- one byte more -/
theorem BR_put {c n : Nat} {f : Nat → Int32} {L : List Nat} {x : Int32} (h : BR c n f L) : BR c n (upd f L.length x.toInt8.toInt32) (L ++ [ub x]) := by
  refine ⟨sb_fitU h.1 (pk_fb x), ?_⟩
  intro i b hb hc hn
  by_cases hi : i < L.length
  · rw [pk_un (by omega)]
    rw [List.getElem?_append_left hi] at hb
    exact h.2 i b hb hc hn
  · have h2 := (List.getElem?_eq_some_iff.mp hb).1
    rw [List.length_append, List.length_singleton] at h2
    have h3 : i = L.length := by omega
    subst h3
    rw [List.getElem?_append_right (Nat.le_refl _), Nat.sub_self] at hb
    simp only [List.getElem?_cons_zero, Option.some.injEq] at hb
    rw [pk_us, ← hb]
    unfold ub
    have h4 : (x.toInt8.toInt32).toBitVec.toNat % 256 = x.toBitVec.toNat % 256 := by
      have e1 := mod_256 x
      have e2 := mod_256 x.toInt8.toInt32
      rw [Int8.toInt_toInt32, Int32.toInt_toInt8] at e2
      have e3 : Int.bmod x.toInt 256 % 256 = x.toInt % 256 := by
        unfold Int.bmod; simp only; split <;> omega
      have e4 : Int.bmod x.toInt (2 ^ 8) % 256 = x.toInt % 256 := e3
      omega
    exact h4
theorem BR_bset {c : Nat} {f : Nat → Int32} {L : List Nat} {x : Int32} (h : BR c 65536 f L) (hL : L.length < 2 ^ 31) : BR c 65536 (bset f (nI L.length) x) (L ++ [ub x]) := by
  by_cases hi : L.length < 65536
  · rw [bset_in hi]; exact BR_put h
  · rw [bset_out (by omega) hL]
    refine ⟨h.1, ?_⟩
    intro i b hb hc hn
    rw [List.getElem?_append_left (by omega)] at hb
    exact h.2 i b hb hc hn
theorem BR_eq {c n : Nat} {f g : Nat → Int32} {L : List Nat} (h : BR c n f L) (e : g = f) : BR c n g L := by rw [e]; exact h
/-- a copy from another row -/
def sl9 (t : List Nat) (p k : Nat) : List Nat := (t.drop p).take k
theorem sl9_len {t : List Nat} {p k : Nat} (h : p + k ≤ t.length) : (sl9 t p k).length = k := by
  unfold sl9; rw [List.length_take, List.length_drop]; omega
theorem sl9_get {t : List Nat} {p k i : Nat} (h : i < k) : (sl9 t p k)[i]? = t[p + i]? := by
  unfold sl9; rw [List.getElem?_take_of_lt h, List.getElem?_drop]
/-- the class's rows hold es -/
def GaR (F : Nat → Nat → Int32) (es : List En9) : Prop :=
  (∀ r e, es[r]? = some e → F 5 r = nI (of9 es r) ∧ F 6 r = nI (eN e).length ∧ F 7 r = nI (eD e).length ∧ F 8 r = nI (eT e) ∧ F 9 r = nI (eK e) ∧ F 10 r = eL e ∧ F (12 + eS e) (cn (eS e) (es.take r)) = nI r) ∧ (∀ s, s < 4 → F 16 s = nI (cn s es)) ∧ BR 0 65536 (F 4) (fl es)
/-- the reference's rows hold es -/
def MoR (F : Nat → Nat → Int32) (es : List En9) : Prop :=
  (∀ r e, es[r]? = some e → F 36 r = nI (eS e) ∧ F 37 r = nI (eT e) ∧ F 38 r = nI (eK e) ∧ F 39 r = eL e ∧ F 40 r = nI (of9 es r) ∧ F 41 r = nI (eN e).length ∧ F 42 r = nI (of9 es r + (eN e).length) ∧ F 43 r = nI (eD e).length) ∧ BR 0 140000 (F 35) (fl es)
