/-! CONTRACTS OVER THE ONE WORLD -/
theorem mw_mono {l : Launch} {D : va_G} {cl : List vw_C} {tys : List (ClassId × FieldType)} {y : MethodName} {cc : ByteArray} {nL : Nat} {ret : Option FieldType} {rm : Room} {av : List Value} {ws : va_W} {post post' : Option Value → va_W → Prop} {mc ms : Nat}
    (h : MW l D cl tys y cc nL ret rm av ws post mc ms) (hp : ∀ v w, post v w → post' v w) : MW l D cl tys y cc nL ret rm av ws post' mc ms := fun sz =>
  MetFree.mono (h sz) (fun _ _ q => q) (fun _ _ _ _ _ q => q) (fun a st o t _ q => by
    obtain ⟨⟨⟨v, w2, h1, h2, h3, h4⟩, h5⟩, h6⟩ := q
    exact ⟨⟨⟨v, w2, h1, hp v w2 h2, h3, h4⟩, h5⟩, h6⟩)
/-- how a method over the one world ends: an int, nothing -/
def rt_i (p : Program) (l : Launch) (e : Env) (R : Room) (s : State) (m : MethodId) (args : Array Value) (below : List Frame) (meth : Method) (c : Code) (cc : ByteArray) (ret : Option FieldType) (D : va_G) (cB cI cJ cG : ClassId) (a : Nat → Nat) (O : Nat → Int64) (A0 : Nat → Prop) (Q : State → Prop) (post : Option Value → (Nat → Int32) → (Nat → Nat → Int32) → Prop) : Prop :=
  ∀ (pc : Nat) (ls : Array Slot) (v : Int32) (I : Nat → Int32) (F : Nat → Nat → Int32) (H : Heap) (locs : List Loc), va_S A0 s.heap H locs → va_P D cls9 (WW a cB cI cJ cG I F O) H → va_D A0 (WW a cB cI cJ cG I F O) → decode cc pc = .ok (.ireturn, 1) → (∀ ty, ret = some ty → narrow ty (.int v) = .int v) → post (some (.int v)) I F → W p l e R s m args below meth c H locs 0 0 Q (F0 m pc ls [.int v])
def rt_v (p : Program) (l : Launch) (e : Env) (R : Room) (s : State) (m : MethodId) (args : Array Value) (below : List Frame) (meth : Method) (c : Code) (cc : ByteArray) (D : va_G) (cB cI cJ cG : ClassId) (a : Nat → Nat) (O : Nat → Int64) (A0 : Nat → Prop) (Q : State → Prop) (post : Option Value → (Nat → Int32) → (Nat → Nat → Int32) → Prop) : Prop :=
  ∀ (pc : Nat) (ls : Array Slot) (I : Nat → Int32) (F : Nat → Nat → Int32) (H : Heap) (locs : List Loc), va_S A0 s.heap H locs → va_P D cls9 (WW a cB cI cJ cG I F O) H → va_D A0 (WW a cB cI cJ cG I F O) → decode cc pc = .ok (.return_, 1) → post none I F → W p l e R s m args below meth c H locs 0 0 Q (F0 m pc ls [])
theorem mc_of {l : Launch} {D : va_G} {cB cI cJ cG : ClassId} {a : Nat → Nat} {O : Nat → Int64} {y : MethodName} {cc : ByteArray} {nL : Nat} {ty : FieldType} {lev : Nat} {av : List Value} {I : Nat → Int32} {F : Nat → Nat → Int32} {post : Option Value → (Nat → Int32) → (Nat → Nat → Int32) → Prop} (hy : plainName y.cls = true) (hn : (lg_sl av).length ≤ nL)
    (body : ∀ (p : Program) (e : Env) (s : State) (m : MethodId) (below : List Frame) (meth : Method) (c : Code) (ls : Array Slot) (A0 : Nat → Prop) (Q : State → Prop), mw_C p s m av.toArray meth c cc nL (some ty) y.cls D cls9 (ty9 cB cI cJ cG) → va_P D cls9 (WW a cB cI cJ cG I F O) s.heap → va_D A0 (WW a cB cI cJ cG I F O) → (∀ q : Nat, s.heap.size ≤ q → A0 q) → va_S A0 s.heap s.heap [] → lv_has ls nL (lv_args 0 av) → rt_i p l e (rm9 lev 0 0) s m av.toArray below meth c cc (some ty) D cB cI cJ cG a O A0 Q post →
      W p l e (rm9 lev 0 0) s m av.toArray below meth c s.heap [] 0 0 Q (F0 m 0 ls [])) :
    MC l D cB cI cJ cG a O y cc nL (some ty) lev av I F post := by
  refine mw_of hy hn ?_
  intro p e s m below meth c ls C0 hin hP hD hA hS hl
  obtain ⟨hx, hb, hml, hr, hlocks, hown, hts, hK⟩ := id C0
  exact body p e s m below meth c ls _ _ C0 hP hD hA hS hl (fun pc ls v I' F' H locs hS hP hD hdg hn hq => mw_zret hx hb hr hlocks hS hP hD (Nat.le_refl _) (Nat.le_refl _) hdg (hn ty rfl) ⟨I', F', rfl, hq⟩)
theorem mc_ofv {l : Launch} {D : va_G} {cB cI cJ cG : ClassId} {a : Nat → Nat} {O : Nat → Int64} {y : MethodName} {cc : ByteArray} {nL : Nat} {lev : Nat} {av : List Value} {I : Nat → Int32} {F : Nat → Nat → Int32} {post : Option Value → (Nat → Int32) → (Nat → Nat → Int32) → Prop} (hy : plainName y.cls = true) (hn : (lg_sl av).length ≤ nL)
    (body : ∀ (p : Program) (e : Env) (s : State) (m : MethodId) (below : List Frame) (meth : Method) (c : Code) (ls : Array Slot) (A0 : Nat → Prop) (Q : State → Prop), mw_C p s m av.toArray meth c cc nL none y.cls D cls9 (ty9 cB cI cJ cG) → va_P D cls9 (WW a cB cI cJ cG I F O) s.heap → va_D A0 (WW a cB cI cJ cG I F O) → (∀ q : Nat, s.heap.size ≤ q → A0 q) → va_S A0 s.heap s.heap [] → lv_has ls nL (lv_args 0 av) → rt_v p l e (rm9 lev 0 0) s m av.toArray below meth c cc D cB cI cJ cG a O A0 Q post →
      W p l e (rm9 lev 0 0) s m av.toArray below meth c s.heap [] 0 0 Q (F0 m 0 ls [])) :
    MC l D cB cI cJ cG a O y cc nL none lev av I F post := by
  refine mw_of hy hn ?_
  intro p e s m below meth c ls C0 hin hP hD hA hS hl
  obtain ⟨hx, hb, hml, hr, hlocks, hown, hts, hK⟩ := id C0
  exact body p e s m below meth c ls _ _ C0 hP hD hA hS hl (fun pc ls I' F' H locs hS hP hD hdg hq => mw_vret hx hb hr hlocks hS hP hD (Nat.le_refl _) (Nat.le_refl _) hdg ⟨I', F', rfl, hq⟩)
theorem nr_i {v : Int32} : ∀ ty, (some FieldType.int : Option FieldType) = some ty → narrow ty (.int v) = .int v := fun _ h => by cases h; rfl
theorem nr_z {v : Int32} (h : v = 0 ∨ v = 1) : ∀ ty, (some FieldType.boolean : Option FieldType) = some ty → narrow ty (.int v) = .int v := fun _ h9 => by cases h9; rcases h with rfl | rfl <;> rfl
/-! BYTES, as numbers -/
def ub (x : Int32) : Nat := x.toBitVec.toNat % 256
theorem ub_lt (x : Int32) : ub x < 256 := Nat.mod_lt _ (by decide)
theorem ub_and (x : Int32) : x &&& 255 = nI (ub x) := pk_and x 8 (by decide)
theorem ub_sb {n : Nat} (h : n < 256) : ub (sb_b n) = n := by
  have h1 := (sb_byte n h).1
  rw [ub_and] at h1
  exact (nI_eq (Nat.lt_trans (ub_lt _) (by decide)) (Nat.lt_trans h (by decide))).mp h1
theorem bt_nI {f : Nat → Int32} {n : Nat} (h : n < 65536) : bt f (nI n) = nI (ub (f n)) := by
  rw [bt, if_neg (nI_pos (Nat.lt_trans h (by decide))), if_neg (nI_ge h (by decide)), nI_clamp (Nat.lt_trans h (by decide)), ub_and]
theorem bt_out {f : Nat → Int32} {n : Nat} (h : 65536 ≤ n) (h2 : n < 2 ^ 31) : bt f (nI n) = 0 := by
  rw [bt, if_neg (nI_pos h2), if_pos (nI_le h h2)]
/-- the byte there, as a number, 0 outside -/
def bn (f : Nat → Int32) (n : Nat) : Nat := if n < 65536 then ub (f n) else 0
theorem bn_lt (f : Nat → Int32) (n : Nat) : bn f n < 256 := by
  unfold bn; split
  · exact ub_lt _
  · decide
theorem bt_bn {f : Nat → Int32} {n : Nat} (h2 : n < 2 ^ 31) : bt f (nI n) = nI (bn f n) := by
  by_cases h : n < 65536
  · rw [bt_nI h, bn, if_pos h]
  · rw [bt_out (Nat.le_of_not_lt h) h2, bn, if_neg h]; rfl
theorem bset_in {f : Nat → Int32} {n : Nat} {v : Int32} (h : n < 65536) : bset f (nI n) v = upd f n v.toInt8.toInt32 := by
  rw [bset, if_neg (nI_pos (Nat.lt_trans h (by decide))), if_neg (nI_ge h (by decide)), nI_clamp (Nat.lt_trans h (by decide)), pk_vb]
theorem bset_out {f : Nat → Int32} {n : Nat} {v : Int32} (h : 65536 ≤ n) (h2 : n < 2 ^ 31) : bset f (nI n) v = f := by
  rw [bset, if_neg (nI_pos h2), if_pos (nI_le h h2)]
