/-! THE STEPS of both over the one state; and that they agree -/
theorem t2_lt9 {f : Nat → Int32} {t : List Nat} (h : BR 0 65536 f t) (hl : t.length ≤ 65536) {i : Nat} (hi : i + 1 < t.length) : t2 t i < 65536 := by
  have h1 := BR_lt h (i := i) (by omega) (Nat.zero_le _) (by omega)
  have h2 := BR_lt h (i := i + 1) hi (Nat.zero_le _) (by omega)
  unfold t2; omega
theorem en_len : ∀ {es : List En9} {r : Nat} {e : En9}, es[r]? = some e → (eN e).length + (eD e).length ≤ (fl es).length
  | [], r, e, h => by simp at h
  | x :: es, 0, e, h => by
    rw [List.getElem?_cons_zero] at h
    cases Option.some.inj h
    rw [show fl (x :: es) = fl [x] ++ fl es from fl_app [x] es, fl_one, List.length_append, List.length_append]
    omega
  | x :: es, r + 1, e, h => by
    rw [List.getElem?_cons_succ] at h
    have := en_len h
    rw [show fl (x :: es) = fl [x] ++ fl es from fl_app [x] es, List.length_append]
    omega
set_option maxHeartbeats 1000000 in
theorem s_feed (l : Launch) (D9 : va_G) (cB cI cJ cG : ClassId) (a : Nat → Nat) (O : Nat → Int64) (I : Nat → Int32) (F : Nat → Nat → Int32) (hfl : l.flags = pinnedFlags ++ [noTraceFlag]) (A : Ab) (hC : CS I F A) (hP : PS A) (v1 v2 v3 v4 v5 : Int32) : MKW l D9 cB cI cJ cG a O y_La_feed b_La_feed 8 [(0, 16, 19, 13)] [.ref (a 0), .int v1, .int v2, .int v3, .int v4, .int v5, .ref (a 48)] I F (SC I F (T_feed v1 v2 v3 v4 v5 A)) := by
  refine mkw_mono (m_La_feed l D9 cB cI cJ cG a O I F v1 v2 v3 v4 v5 (m_Wm_feed l D9 cB cI cJ cG a O I F hfl A.1 hC.1.1 hP.1 hC.1.2 v1 v2 v3 v4 v5) (fun v I' F' h => ⟨_, h.2.1⟩) (fun E I' F' h => h.1)) ?_
  rintro k I1 F1 O1 (⟨r, ⟨h1, h2, h3, h4, h5, h6⟩, rfl, hO⟩ | ⟨E, ⟨rfl, h1, rfl, rfl⟩, -, rfl⟩)
  · cases h2
    exact ⟨kpC_of h3 h5 (by decide) (by decide), _, _, Or.inl ⟨h1, rfl, rfl, rfl⟩, fun _ => hO, ⟨⟨h4.trans (congrArg nI (by simp only [List.length_append, b4, List.length_cons, List.length_nil])), h6⟩, CG_s hC.2.1 hP.2.1 h3 h5 (by unfold frI; decide), CM_s hC.2.2.1 h3 h5 (by unfold frI; decide), nu_s hC.2.2.2.1 h3 (by decide), nu_s hC.2.2.2.2.1 h3 (by decide), CE_s hC.2.2.2.2.2 h3 h5 (by unfold frI; decide)⟩, by simp only [List.length_append, b4, List.length_cons, List.length_nil]; omega, hP.2⟩
  · exact SC_no hC hP 0 (Or.inr ⟨h1, rfl, rfl⟩) (fun h => absurd h (by decide))
set_option maxHeartbeats 1000000 in
theorem r_feed (l : Launch) (D9 : va_G) (cB cI cJ cG : ClassId) (a : Nat → Nat) (O : Nat → Int64) (I : Nat → Int32) (F : Nat → Nat → Int32) (A : Ab) (hR : RS I F A) (hP : PS A) (v1 v2 v3 v4 v5 : Int32) : MC l D9 cB cI cJ cG a O y_Mo_feed b_Mo_feed 8 (some .int) 1 [.ref (a 33), .int v1, .int v2, .int v3, .int v4, .int v5] I F (SR I F (T_feed v1 v2 v3 v4 v5 A)) := by
  refine mc_mono (m_Mo_feed l D9 cB cI cJ cG a O I F A.1 hR.1.2 hR.1.1 hP.1 v1 v2 v3 v4 v5) ?_
  rintro v I1 F1 (⟨h1, rfl, h3, h0, h4, h5, h6⟩ | ⟨h1, ⟨b, rfl⟩, h3, h0, rfl⟩)
  · exact ⟨kpR_of h3 h5 (by decide) (by decide), _, _, _, rfl, Or.inl ⟨h1, h0, rfl, rfl⟩, fun _ => rfl, ⟨h4.trans (congrArg nI (by simp only [List.length_append, b4, List.length_cons, List.length_nil])), h6⟩, RG_s hR.2.1 h3 h5 (by unfold frI; decide), RM_s hR.2.2.1 h3 h5 (by unfold frI; decide), nu_s hR.2.2.2.1 h3 (by decide), nu_s hR.2.2.2.2 h3 (by decide)⟩
  · exact SR_no hR h3 0 _ h0 (Or.inr ⟨h1, rfl, rfl⟩) (fun h => absurd h (by decide))
set_option maxHeartbeats 1000000 in
theorem u_feed {A : Ab} (hP : PS A) {v1 v2 v3 v4 v5 : Int32} : Uq (T_feed v1 v2 v3 v4 v5 A) := by
  intro th an A1 th2 an2 A2 h1 h2
  rcases h1 with ⟨a, rfl, rfl, rfl⟩ | ⟨a, rfl, rfl⟩ <;> rcases h2 with ⟨b, rfl, rfl, rfl⟩ | ⟨b, rfl, rfl⟩
  · exact ⟨rfl, fun _ => rfl, rfl⟩
  · omega
  · omega
  · exact ⟨rfl, fun h => absurd h (by decide), rfl⟩
set_option maxHeartbeats 1000000 in
theorem s_end (l : Launch) (D9 : va_G) (cB cI cJ cG : ClassId) (a : Nat → Nat) (O : Nat → Int64) (I : Nat → Int32) (F : Nat → Nat → Int32) (hfl : l.flags = pinnedFlags ++ [noTraceFlag]) (A : Ab) (hC : CS I F A) (hP : PS A) (x : Int32) : MKW l D9 cB cI cJ cG a O y_La_end b_La_end 4 [(0, 9, 12, 19)] [.ref (a 0), .int x, .ref (a 48)] I F (SC I F (T_end x A)) := by
  refine mkw_mono (m_La_end l D9 cB cI cJ cG a O I F x (m_Wm_end l D9 cB cI cJ cG a O I F hfl A.1 hC.1.1 hP.1 hC.1.2 x) (fun v I' F' ⟨k, h⟩ => ⟨_, h.2.2.1⟩) (fun E I' F' h => h.1)) ?_
  rintro k I1 F1 O1 (⟨r, ⟨k, h1, h1b, h2, h3, h4, rfl⟩, rfl, hO⟩ | ⟨E, ⟨rfl, h1, rfl, rfl⟩, -, rfl⟩)
  · cases h2
    exact ⟨kpC_of h3 (sm_rf (L := [])) (by decide) (by decide), _, _, Or.inl ⟨k, h1, h1b, rfl, rfl, rfl⟩, fun _ => hO, ⟨⟨h4.trans (congrArg nI (by rw [List.length_take]; omega)), BR_take hC.1.2⟩, CG_s hC.2.1 hP.2.1 h3 (sm_rf (L := [])) (by unfold frI; decide), CM_s hC.2.2.1 h3 (sm_rf (L := [])) (by unfold frI; decide), nu_s hC.2.2.2.1 h3 (by decide), nu_s hC.2.2.2.2.1 h3 (by decide), CE_s hC.2.2.2.2.2 h3 (sm_rf (L := [])) (by unfold frI; decide)⟩, by rw [List.length_take]; have := hP.1; omega, hP.2⟩
  · exact SC_no hC hP 0 (Or.inr ⟨h1, rfl, rfl⟩) (fun h => absurd h (by decide))
set_option maxHeartbeats 1000000 in
theorem r_end (l : Launch) (D9 : va_G) (cB cI cJ cG : ClassId) (a : Nat → Nat) (O : Nat → Int64) (I : Nat → Int32) (F : Nat → Nat → Int32) (A : Ab) (hR : RS I F A) (hP : PS A) (x : Int32) : MC l D9 cB cI cJ cG a O y_Mo_end b_Mo_end 2 (some .int) 1 [.ref (a 33), .int x] I F (SR I F (T_end x A)) := by
  refine mc_mono (m_Mo_end l D9 cB cI cJ cG a O I F A.1 hR.1.2 hR.1.1 hP.1 x) ?_
  rintro v I1 F1 (⟨k, h1, h1b, rfl, h3, h0, h4, rfl⟩ | ⟨h1, ⟨b, rfl⟩, h3, h0, rfl⟩)
  · exact ⟨kpR_f h3 (by decide), _, _, _, rfl, Or.inl ⟨k, h1, h1b, h0, rfl, rfl⟩, fun _ => rfl, ⟨h4.trans (congrArg nI (by rw [List.length_take]; omega)), BR_take hR.1.2⟩, RG_s hR.2.1 h3 (sm_rf (L := [])) (by unfold frI; decide), RM_s hR.2.2.1 h3 (sm_rf (L := [])) (by unfold frI; decide), nu_s hR.2.2.2.1 h3 (by decide), nu_s hR.2.2.2.2 h3 (by decide)⟩
  · exact SR_no hR h3 0 _ h0 (Or.inr ⟨h1, rfl, rfl⟩) (fun h => absurd h (by decide))
set_option maxHeartbeats 1000000 in
theorem u_end {A : Ab} (hP : PS A) {x : Int32} : Uq (T_end x A) := by
  intro th an A1 th2 an2 A2 h1 h2
  have hT := hP.1
  rcases h1 with ⟨k, a, a2, rfl, rfl, rfl⟩ | ⟨a, rfl, rfl⟩ <;> rcases h2 with ⟨k2, b, b2, rfl, rfl, rfl⟩ | ⟨b, rfl, rfl⟩
  · have e := (nI_eq (a := k) (b := k2) (by omega) (by omega)).mp (a2.symm.trans b2)
    exact ⟨rfl, fun _ => rfl, by rw [e]⟩
  · exact absurd a2 (b k a)
  · exact absurd b2 (a k2 b)
  · exact ⟨rfl, fun h => absurd h (by decide), rfl⟩
set_option maxHeartbeats 1000000 in
theorem s_question (l : Launch) (D9 : va_G) (cB cI cJ cG : ClassId) (a : Nat → Nat) (O : Nat → Int64) (I : Nat → Int32) (F : Nat → Nat → Int32) (hfl : l.flags = pinnedFlags ++ [noTraceFlag]) (A : Ab) (hC : CS I F A) (hP : PS A) (x y : Int32) : MKW l D9 cB cI cJ cG a O y_La_question b_La_question 5 [(0, 10, 13, 19), (0, 10, 17, 13)] [.ref (a 0), .int x, .int y, .ref (a 48)] I F (SC I F (T_question x y A)) := by
  refine mkw_mono (m_La_question l D9 cB cI cJ cG a O I F x y (m_Wm_question l D9 cB cI cJ cG a O I F hfl A.1 hC.1.1 hP.1 hC.1.2 A.2.1 hC.2.1.1 hP.2.1 hC.2.1.2.1 x y) (fun v I' F' ⟨nm, h⟩ => ⟨_, h.2.2.2.1⟩) (fun E I' F' h => h.elim (fun h => Or.inl h.1) (fun h => Or.inr h.1))) ?_
  rintro k I1 F1 O1 (⟨r, ⟨nm, h1, h1b, hE, h2, h3, h4, h5, h6, h7⟩, rfl, hO⟩ | ⟨E, ⟨rfl, h1, h3, h5, h6, h7⟩ | ⟨rfl, nm, h1, h1b, h3, h5, h6, h7⟩, hk⟩)
  · cases h2
    refine ⟨kpC_of h3 h6 (by decide) (by decide), _, _, Or.inr (Or.inr ⟨nm, h1, h1b, rfl, rfl, rfl⟩), fun _ => hO, ⟨⟨h4, BR_nil (by rw [h6 2 (by decide)]; exact hC.1.2.1)⟩, ⟨h7, h5, nu_s hC.2.1.2.2.1 h3 (by decide), nu_s hC.2.1.2.2.2 h3 (by decide)⟩, CM_s hC.2.2.1 h3 h6 (by unfold frI; decide), nu_s hC.2.2.2.1 h3 (by decide), nu_s hC.2.2.2.2.1 h3 (by decide), CE_s hC.2.2.2.2.2 h3 h6 (by unfold frI; decide)⟩, Nat.zero_le _, hE, fun e he => ?_, hP.2.2.2⟩
    rcases List.mem_append.mp he with he | he
    · exact hP.2.2.1 e he
    · rw [List.mem_singleton.mp he]
      exact ⟨qN_wf h1, fun h => absurd rfl h, fun h => absurd h.1 (show ¬ (0 : Nat) = 3 by decide)⟩
  · rcases hk with ⟨-, rfl⟩ | ⟨h, -⟩
    · refine ⟨kpC_of h3 h6 (by decide) (by decide), 0, A, Or.inl ⟨h1, rfl, rfl⟩, fun h => absurd h (by decide), ⟨CT_s hC.1 h3 h6 (by unfold frI; decide), ⟨GaR_sm hC.2.1.1 h6 (by decide) h7 hP.2.1, h5, nu_s hC.2.1.2.2.1 h3 (by decide), nu_s hC.2.1.2.2.2 h3 (by decide)⟩, CM_s hC.2.2.1 h3 h6 (by unfold frI; decide), nu_s hC.2.2.2.1 h3 (by decide), nu_s hC.2.2.2.2.1 h3 (by decide), CE_s hC.2.2.2.2.2 h3 h6 (by unfold frI; decide)⟩, hP⟩
    · exact absurd h (by decide)
  · rcases hk with ⟨h, -⟩ | ⟨-, rfl⟩
    · exact absurd h (by decide)
    · refine ⟨kpC_of h3 h6 (by decide) (by decide), 0, A, Or.inr (Or.inl ⟨nm, h1, h1b, rfl, rfl⟩), fun h => absurd h (by decide), ⟨CT_s hC.1 h3 h6 (by unfold frI; decide), ⟨GaR_sm hC.2.1.1 h6 (by decide) h7 hP.2.1, h5, nu_s hC.2.1.2.2.1 h3 (by decide), nu_s hC.2.1.2.2.2 h3 (by decide)⟩, CM_s hC.2.2.1 h3 h6 (by unfold frI; decide), nu_s hC.2.2.2.1 h3 (by decide), nu_s hC.2.2.2.2.1 h3 (by decide), CE_s hC.2.2.2.2.2 h3 h6 (by unfold frI; decide)⟩, hP⟩
set_option maxHeartbeats 1000000 in
theorem r_question (l : Launch) (D9 : va_G) (cB cI cJ cG : ClassId) (a : Nat → Nat) (O : Nat → Int64) (I : Nat → Int32) (F : Nat → Nat → Int32) (A : Ab) (hR : RS I F A) (hP : PS A) (x y : Int32) : MC l D9 cB cI cJ cG a O y_Mo_question b_Mo_question 3 (some .int) 3 [.ref (a 33), .int x, .int y] I F (SR I F (T_question x y A)) := by
  refine mc_mono (m_Mo_question l D9 cB cI cJ cG a O I F A.1 hR.1.2 hR.1.1 hP.1 A.2.1 hR.2.1.1 hR.2.1.2.2.1 hP.2.1 x y hR.2.1.2.1) ?_
  rintro v I1 F1 (⟨h1, ⟨b, rfl⟩, h3, h0, rfl⟩ | ⟨nm, h1, h1b, ⟨b, rfl⟩, h3, h0, rfl⟩ | ⟨nm, h1, h1b, hE, rfl, h3, h0, h4, h5, h5b, h6, h7⟩)
  · exact SR_no hR h3 0 _ h0 (Or.inl ⟨h1, rfl, rfl⟩) (fun h => absurd h (by decide))
  · exact SR_no hR h3 0 _ h0 (Or.inr (Or.inl ⟨nm, h1, h1b, rfl, rfl⟩)) (fun h => absurd h (by decide))
  · exact ⟨kpR_of h3 h6 (by decide) (by decide), _, _, _, rfl, Or.inr (Or.inr ⟨nm, h1, h1b, h0, rfl, rfl⟩), fun _ => rfl, ⟨h4, BR_nil (by rw [h6 34 (by decide)]; exact hR.1.2.1)⟩, ⟨h7, h5, h5b, nu_s hR.2.1.2.2.2.1 h3 (by decide), nu_s hR.2.1.2.2.2.2 h3 (by decide)⟩, RM_s hR.2.2.1 h3 h6 (by unfold frI; decide), nu_s hR.2.2.2.1 h3 (by decide), nu_s hR.2.2.2.2 h3 (by decide)⟩
set_option maxHeartbeats 1000000 in
theorem u_question {A : Ab} (hP : PS A) {x y : Int32} : Uq (T_question x y A) := by
  intro th an A1 th2 an2 A2 h1 h2
  rcases h1 with ⟨a, rfl, rfl⟩ | ⟨nm, a, a2, rfl, rfl⟩ | ⟨nm, a, a2, rfl, rfl, rfl⟩ <;> rcases h2 with ⟨b, rfl, rfl⟩ | ⟨nm2, b, b2, rfl, rfl⟩ | ⟨nm2, b, b2, rfl, rfl, rfl⟩
  · exact ⟨rfl, fun h => absurd h (by decide), rfl⟩
  · cases a.symm.trans b
  · cases a.symm.trans b
  · cases a.symm.trans b
  · exact ⟨rfl, fun h => absurd h (by decide), rfl⟩
  · cases a.symm.trans b
    cases a2.symm.trans b2
  · cases a.symm.trans b
  · cases a.symm.trans b
    cases a2.symm.trans b2
  · cases a.symm.trans b
    exact ⟨rfl, fun _ => rfl, rfl⟩
set_option maxHeartbeats 1000000 in
theorem s_record (l : Launch) (D9 : va_G) (cB cI cJ cG : ClassId) (a : Nat → Nat) (O : Nat → Int64) (I : Nat → Int32) (F : Nat → Nat → Int32) (hfl : l.flags = pinnedFlags ++ [noTraceFlag]) (A : Ab) (hC : CS I F A) (hP : PS A) (w x y z : Int32) : MKW l D9 cB cI cJ cG a O y_La_record b_La_record 7 [(0, 14, 17, 29), (0, 14, 21, 19), (0, 14, 25, 13)] [.ref (a 0), .int w, .int x, .int y, .int z, .ref (a 48)] I F (SC I F (T_record w x y z A)) := by
  refine mkw_mono (m_La_record l D9 cB cI cJ cG a O I F w x y z (m_Wm_record l D9 cB cI cJ cG a O I F hfl A.1 hC.1.1 hP.1 hC.1.2 A.2.1 hC.2.1.1 hP.2.1 hC.2.1.2.1 w x y z) (fun v I' F' ⟨sc, hs, hw, nm, dd, h⟩ => ⟨_, h.2.2.2.1⟩) (fun E I' F' h => h.elim (fun h => Or.inl h.1) (fun ⟨sc, hs, hw, h⟩ => h.elim (fun h => Or.inr (Or.inl h.1)) (fun h => Or.inr (Or.inr h.1))))) ?_
  rintro k I1 F1 O1 (⟨r, ⟨sc, hs, hw, nm, dd, h1, h1b, hE, h2, h3, h4, h5, h6, h7⟩, rfl, hO⟩ | ⟨E, ⟨rfl, h1, rfl, rfl⟩ | ⟨sc, hs, hw, ⟨rfl, h1, h3, h5, h6, h7⟩ | ⟨rfl, nm, dd, h1, h1b, h3, h5, h6, h7⟩⟩, hk⟩)
  · cases h2
    refine ⟨kpC_of h3 h6 (by decide) (by decide), _, _, Or.inr ⟨sc, hs, hw, Or.inr (Or.inr ⟨nm, dd, h1, h1b, rfl, rfl, rfl⟩)⟩, fun _ => hO, ⟨⟨h4, BR_nil (by rw [h6 2 (by decide)]; exact hC.1.2.1)⟩, ⟨h7, h5, nu_s hC.2.1.2.2.1 h3 (by decide), nu_s hC.2.1.2.2.2 h3 (by decide)⟩, CM_s hC.2.2.1 h3 h6 (by unfold frI; decide), nu_s hC.2.2.2.1 h3 (by decide), nu_s hC.2.2.2.2.1 h3 (by decide), CE_s hC.2.2.2.2.2 h3 h6 (by unfold frI; decide)⟩, Nat.zero_le _, hE, fun e he => ?_, hP.2.2.2⟩
    rcases List.mem_append.mp he with he | he
    · exact hP.2.2.1 e he
    · rw [List.mem_singleton.mp he]
      obtain ⟨q1, q2, q3⟩ := qD_wf h1
      exact ⟨q1, fun _ => q2, fun h => q3 h.2⟩
  · rcases hk with ⟨-, rfl⟩ | ⟨h, -⟩ | ⟨h, -⟩
    · exact SC_no hC hP 0 (Or.inl ⟨h1, rfl, rfl⟩) (fun h => absurd h (by decide))
    · exact absurd h (by decide)
    · exact absurd h (by decide)
  · rcases hk with ⟨h, -⟩ | ⟨-, rfl⟩ | ⟨h, -⟩
    · exact absurd h (by decide)
    · refine ⟨kpC_of h3 h6 (by decide) (by decide), 0, A, Or.inr ⟨sc, hs, hw, Or.inl ⟨h1, rfl, rfl⟩⟩, fun h => absurd h (by decide), ⟨CT_s hC.1 h3 h6 (by unfold frI; decide), ⟨GaR_sm hC.2.1.1 h6 (by decide) h7 hP.2.1, h5, nu_s hC.2.1.2.2.1 h3 (by decide), nu_s hC.2.1.2.2.2 h3 (by decide)⟩, CM_s hC.2.2.1 h3 h6 (by unfold frI; decide), nu_s hC.2.2.2.1 h3 (by decide), nu_s hC.2.2.2.2.1 h3 (by decide), CE_s hC.2.2.2.2.2 h3 h6 (by unfold frI; decide)⟩, hP⟩
    · exact absurd h (by decide)
  · rcases hk with ⟨h, -⟩ | ⟨h, -⟩ | ⟨-, rfl⟩
    · exact absurd h (by decide)
    · exact absurd h (by decide)
    · refine ⟨kpC_of h3 h6 (by decide) (by decide), 0, A, Or.inr ⟨sc, hs, hw, Or.inr (Or.inl ⟨nm, dd, h1, h1b, rfl, rfl⟩)⟩, fun h => absurd h (by decide), ⟨CT_s hC.1 h3 h6 (by unfold frI; decide), ⟨GaR_sm hC.2.1.1 h6 (by decide) h7 hP.2.1, h5, nu_s hC.2.1.2.2.1 h3 (by decide), nu_s hC.2.1.2.2.2 h3 (by decide)⟩, CM_s hC.2.2.1 h3 h6 (by unfold frI; decide), nu_s hC.2.2.2.1 h3 (by decide), nu_s hC.2.2.2.2.1 h3 (by decide), CE_s hC.2.2.2.2.2 h3 h6 (by unfold frI; decide)⟩, hP⟩
set_option maxHeartbeats 1000000 in
theorem r_record (l : Launch) (D9 : va_G) (cB cI cJ cG : ClassId) (a : Nat → Nat) (O : Nat → Int64) (I : Nat → Int32) (F : Nat → Nat → Int32) (A : Ab) (hR : RS I F A) (hP : PS A) (w x y z : Int32) : MC l D9 cB cI cJ cG a O y_Mo_record b_Mo_record 6 (some .int) 3 [.ref (a 33), .int w, .int x, .int y, .int z] I F (SR I F (T_record w x y z A)) := by
  refine mc_mono (m_Mo_record l D9 cB cI cJ cG a O I F A.1 hR.1.2 hR.1.1 hP.1 A.2.1 hR.2.1.1 hR.2.1.2.2.1 hP.2.1 w x y z hR.2.1.2.1) ?_
  rintro v I1 F1 (⟨h1, ⟨b, rfl⟩, h3, h0, rfl⟩ | ⟨sc, hs, hw, ⟨h1, ⟨b, rfl⟩, h3, h0, rfl⟩ | ⟨nm, dd, h1, h1b, ⟨b, rfl⟩, h3, h0, rfl⟩ | ⟨nm, dd, h1, h1b, hE, rfl, h3, h0, h4, h5, h5b, h6, h7⟩⟩)
  · exact SR_no hR h3 0 _ h0 (Or.inl ⟨h1, rfl, rfl⟩) (fun h => absurd h (by decide))
  · exact SR_no hR h3 0 _ h0 (Or.inr ⟨sc, hs, hw, Or.inl ⟨h1, rfl, rfl⟩⟩) (fun h => absurd h (by decide))
  · exact SR_no hR h3 0 _ h0 (Or.inr ⟨sc, hs, hw, Or.inr (Or.inl ⟨nm, dd, h1, h1b, rfl, rfl⟩)⟩) (fun h => absurd h (by decide))
  · exact ⟨kpR_of h3 h6 (by decide) (by decide), _, _, _, rfl, Or.inr ⟨sc, hs, hw, Or.inr (Or.inr ⟨nm, dd, h1, h1b, h0, rfl, rfl⟩)⟩, fun _ => rfl, ⟨h4, BR_nil (by rw [h6 34 (by decide)]; exact hR.1.2.1)⟩, ⟨h7, h5, h5b, nu_s hR.2.1.2.2.2.1 h3 (by decide), nu_s hR.2.1.2.2.2.2 h3 (by decide)⟩, RM_s hR.2.2.1 h3 h6 (by unfold frI; decide), nu_s hR.2.2.2.1 h3 (by decide), nu_s hR.2.2.2.2 h3 (by decide)⟩
set_option maxHeartbeats 1000000 in
theorem u_record {A : Ab} (hP : PS A) {w x y z : Int32} : Uq (T_record w x y z A) := by
  intro th an A1 th2 an2 A2 h1 h2
  rcases h1 with ⟨a, rfl, rfl⟩ | ⟨sc, hs, hw, h1⟩ <;> rcases h2 with ⟨b, rfl, rfl⟩ | ⟨sc2, hs2, hw2, h2⟩
  · exact ⟨rfl, fun h => absurd h (by decide), rfl⟩
  · exact absurd hw2 (a sc2 hs2.1 hs2.2)
  · exact absurd hw (b sc hs.1 hs.2)
  · have e := (nI_eq (a := sc) (b := sc2) (by omega) (by omega)).mp (hw.symm.trans hw2)
    subst e
    rcases h1 with ⟨a, rfl, rfl⟩ | ⟨nm, dd, a, a2, rfl, rfl⟩ | ⟨nm, dd, a, a2, rfl, rfl, rfl⟩ <;> rcases h2 with ⟨b, rfl, rfl⟩ | ⟨nm2, dd2, b, b2, rfl, rfl⟩ | ⟨nm2, dd2, b, b2, rfl, rfl, rfl⟩
    · exact ⟨rfl, fun h => absurd h (by decide), rfl⟩
    · cases a.symm.trans b
    · cases a.symm.trans b
    · cases a.symm.trans b
    · exact ⟨rfl, fun h => absurd h (by decide), rfl⟩
    · cases a.symm.trans b
      cases a2.symm.trans b2
    · cases a.symm.trans b
    · cases a.symm.trans b
      cases a2.symm.trans b2
    · cases a.symm.trans b
      exact ⟨rfl, fun _ => rfl, rfl⟩
set_option maxHeartbeats 1000000 in
theorem s_write (l : Launch) (D9 : va_G) (cB cI cJ cG : ClassId) (a : Nat → Nat) (O : Nat → Int64) (I : Nat → Int32) (F : Nat → Nat → Int32) (hfl : l.flags = pinnedFlags ++ [noTraceFlag]) (A : Ab) (hC : CS I F A) (hP : PS A) (x : Int32) : MKW l D9 cB cI cJ cG a O y_La_write b_La_write 4 [(0, 9, 12, 19), (0, 9, 15, 34)] [.ref (a 0), .int x, .ref (a 48)] I F (SC I F (T_write x A)) := by
  obtain ⟨n0, g1, g2, g3⟩ := hC.2.2.2.2.2
  refine mkw_mono (m_La_write l D9 cB cI cJ cG a O I F x (m_Wm_write l D9 cB cI cJ cG a O I F hfl A.2.1 hC.2.1.1 hP.2.1 x A.2.2.1 A.2.2.2.1 n0 (PS_ek hP) hC.2.1.2.2.1 hC.2.1.2.2.2 hP.2.2.2.1 hP.2.2.2.2.1 hC.2.2.1.1.1 g3 g2 g1) (fun v I' F' ⟨lim, h⟩ => ⟨_, h.2.2.2.2.1⟩) (fun E I' F' h => h.elim (fun h => Or.inl h.1) (fun h => Or.inr h.1))) ?_
  rintro k I1 F1 O1 (⟨r, ⟨lim, l1, l2, l3, l4, h2, h3, h4, h5, h6, h7, h8, n1, g4, g5, g6⟩, rfl, hO⟩ | ⟨E, ⟨rfl, h1, rfl, rfl⟩ | ⟨rfl, lim, l1, l2, l3, l4, rfl, rfl⟩, hk⟩)
  · cases h2
    exact ⟨kpC_of h3 h6 (by decide) (by decide), _, _, Or.inr ⟨lim, l1, l2, l3, Or.inr ⟨l4, rfl, rfl, rfl⟩⟩, fun _ => hO, ⟨CT_s hC.1 h3 h6 (by unfold frI; decide), CG_s hC.2.1 hP.2.1 h3 h6 (by unfold frI; decide), ⟨h7, h4⟩, h5, nu_s hC.2.2.2.2.1 h3 (by decide), n1, g4, g5, g6⟩, hP.1, hP.2.1, hP.2.2.1, hP.2.2.2.1, hP.2.2.2.2.1, Nat.le_trans h8 (Nat.le_trans l2 (by decide))⟩
  · rcases hk with ⟨-, rfl⟩ | ⟨h, -⟩
    · exact SC_no hC hP 0 (Or.inl ⟨h1, rfl, rfl⟩) (fun h => absurd h (by decide))
    · exact absurd h (by decide)
  · rcases hk with ⟨h, -⟩ | ⟨-, rfl⟩
    · exact absurd h (by decide)
    · exact SC_no hC hP 0 (Or.inr ⟨lim, l1, l2, l3, Or.inl ⟨l4, rfl, rfl⟩⟩) (fun h => absurd h (by decide))
set_option maxHeartbeats 1000000 in
theorem r_write (l : Launch) (D9 : va_G) (cB cI cJ cG : ClassId) (a : Nat → Nat) (O : Nat → Int64) (I : Nat → Int32) (F : Nat → Nat → Int32) (A : Ab) (hR : RS I F A) (hP : PS A) (x : Int32) : MC l D9 cB cI cJ cG a O y_Mo_write b_Mo_write 10 (some .int) 5 [.ref (a 33), .int x] I F (SR I F (T_write x A)) := by
  refine mc_mono (m_Mo_write l D9 cB cI cJ cG a O I F A.2.1 hR.2.1.1 hR.2.1.2.2.1 hP.2.1 x A.2.2.1 A.2.2.2.1 (PS_ek hP) hR.2.1.2.2.2.1 hR.2.1.2.2.2.2 hP.2.2.2.1 hP.2.2.2.2.1 hR.2.2.1.1.1) ?_
  rintro v I1 F1 (⟨h1, ⟨b, rfl⟩, h3, h0, rfl⟩ | ⟨lim, l1, l2, l3, ⟨l4, ⟨b, rfl⟩, h3, h0, rfl⟩ | ⟨l4, rfl, h3, h0, h4, h5, h6, h7⟩⟩)
  · exact SR_no hR h3 0 _ h0 (Or.inl ⟨h1, rfl, rfl⟩) (fun h => absurd h (by decide))
  · exact SR_no hR h3 0 _ h0 (Or.inr ⟨lim, l1, l2, l3, Or.inl ⟨l4, rfl, rfl⟩⟩) (fun h => absurd h (by decide))
  · exact ⟨kpR_of h3 h6 (by decide) (by decide), _, _, _, rfl, Or.inr ⟨lim, l1, l2, l3, Or.inr ⟨l4, h0, rfl, rfl⟩⟩, fun _ => rfl, RT_s hR.1 h3 h6 (by unfold frI; decide), RG_s hR.2.1 h3 h6 (by unfold frI; decide), ⟨h7, h4⟩, h5, nu_s hR.2.2.2.2 h3 (by decide)⟩
set_option maxHeartbeats 1000000 in
theorem u_write {A : Ab} (hP : PS A) {x : Int32} : Uq (T_write x A) := by
  intro th an A1 th2 an2 A2 h1 h2
  rcases h1 with ⟨a, rfl, rfl⟩ | ⟨lim, l1, l2, l3, h1⟩ <;> rcases h2 with ⟨b, rfl, rfl⟩ | ⟨lim2, k1, k2, k3, h2⟩
  · exact ⟨rfl, fun h => absurd h (by decide), rfl⟩
  · exact absurd k3 (a lim2 k1 k2)
  · exact absurd l3 (b lim l1 l2)
  · have e := (nI_eq (a := lim) (b := lim2) (by omega) (by omega)).mp (l3.symm.trans k3)
    subst e
    rcases h1 with ⟨a, rfl, rfl⟩ | ⟨a, rfl, rfl, rfl⟩ <;> rcases h2 with ⟨b, rfl, rfl⟩ | ⟨b, rfl, rfl, rfl⟩
    · exact ⟨rfl, fun h => absurd h (by decide), rfl⟩
    · omega
    · omega
    · exact ⟨rfl, fun _ => rfl, rfl⟩
set_option maxHeartbeats 1000000 in
theorem s_back (l : Launch) (D9 : va_G) (cB cI cJ cG : ClassId) (a : Nat → Nat) (O : Nat → Int64) (I : Nat → Int32) (F : Nat → Nat → Int32) (hfl : l.flags = pinnedFlags ++ [noTraceFlag]) (A : Ab) (hC : CS I F A) (hP : PS A) (x y : Int32) : MKW l D9 cB cI cJ cG a O y_La_back b_La_back 5 [(0, 10, 13, 39)] [.ref (a 0), .int x, .int y, .ref (a 48)] I F (SC I F (T_back x y A)) := by
  refine mkw_mono (m_La_back l D9 cB cI cJ cG a O I F x y (m_Wm_back l D9 cB cI cJ cG a O I F hfl A.1 hC.1.1 hP.1 hC.1.2 A.2.2.2.2.1 hC.2.2.1.1 hC.2.2.1.2 hP.2.2.2.2.2 x y) (fun v I' F' h => ⟨_, h.2.2.1⟩) (fun E I' F' h => h.1)) ?_
  rintro k I1 F1 O1 (⟨r, ⟨h1, h1b, h2, h3, h4, h5, h6⟩, rfl, hO⟩ | ⟨E, ⟨rfl, h1, rfl, rfl⟩, -, rfl⟩)
  · cases h2
    exact ⟨kpC_of h3 h5 (by decide) (by decide), _, _, Or.inl ⟨h1, h1b, rfl, rfl, rfl⟩, fun _ => hO, ⟨⟨h4.trans (congrArg nI (bkL_len _ _ _).symm), h6⟩, CG_s hC.2.1 hP.2.1 h3 h5 (by unfold frI; decide), CM_s hC.2.2.1 h3 h5 (by unfold frI; decide), nu_s hC.2.2.2.1 h3 (by decide), nu_s hC.2.2.2.2.1 h3 (by decide), CE_s hC.2.2.2.2.2 h3 h5 (by unfold frI; decide)⟩, by rw [bkL_len]; exact hP.2.2.2.2.2, hP.2⟩
  · exact SC_no hC hP 0 (Or.inr ⟨h1, rfl, rfl⟩) (fun h => absurd h (by decide))
set_option maxHeartbeats 1000000 in
theorem r_back (l : Launch) (D9 : va_G) (cB cI cJ cG : ClassId) (a : Nat → Nat) (O : Nat → Int64) (I : Nat → Int32) (F : Nat → Nat → Int32) (A : Ab) (hR : RS I F A) (hP : PS A) (x y : Int32) : MC l D9 cB cI cJ cG a O y_Mo_back b_Mo_back 4 (some .int) 1 [.ref (a 33), .int x, .int y] I F (SR I F (T_back x y A)) := by
  refine mc_mono (m_Mo_back l D9 cB cI cJ cG a O I F A.2.2.2.2.1 hR.2.2.1.1 hR.2.2.1.2 hP.2.2.2.2.2 x y hR.1.2.1) ?_
  rintro v I1 F1 (⟨h1, h1b, rfl, h3, h0, h4, h5, h6⟩ | ⟨h1, ⟨b, rfl⟩, h3, h0, rfl⟩)
  · exact ⟨kpR_of h3 h5 (by decide) (by decide), _, _, _, rfl, Or.inl ⟨h1, h1b, h0, rfl, rfl⟩, fun _ => rfl, ⟨h4.trans (congrArg nI (bkL_len _ _ _).symm), h6⟩, RG_s hR.2.1 h3 h5 (by unfold frI; decide), RM_s hR.2.2.1 h3 h5 (by unfold frI; decide), nu_s hR.2.2.2.1 h3 (by decide), nu_s hR.2.2.2.2 h3 (by decide)⟩
  · exact SR_no hR h3 0 _ h0 (Or.inr ⟨h1, rfl, rfl⟩) (fun h => absurd h (by decide))
set_option maxHeartbeats 1000000 in
theorem u_back {A : Ab} (hP : PS A) {x y : Int32} : Uq (T_back x y A) := by
  intro th an A1 th2 an2 A2 h1 h2
  have hM := hP.2.2.2.2.2
  have no : (¬ x < -1 ∧ (x < 0 ∨ ∃ k, k < A.2.2.2.2.1.length ∧ x = nI k)) → (x < -1 ∨ nI A.2.2.2.2.1.length ≤ x) → False := by
    rintro ⟨p1, p2⟩ (q | q)
    · exact p1 q
    · rcases p2 with p | ⟨k, p, rfl⟩
      · exact absurd (Int32.lt_of_le_of_lt q p) (nI_pos (by omega))
      · exact nI_ge (by omega) (by omega) q
  rcases h1 with ⟨a, a2, rfl, rfl, rfl⟩ | ⟨a, rfl, rfl⟩ <;> rcases h2 with ⟨b, b2, rfl, rfl, rfl⟩ | ⟨b, rfl, rfl⟩
  · exact ⟨rfl, fun _ => rfl, rfl⟩
  · exact (no ⟨a, a2⟩ b).elim
  · exact (no ⟨b, b2⟩ a).elim
  · exact ⟨rfl, fun h => absurd h (by decide), rfl⟩
set_option maxHeartbeats 1000000 in
theorem s_written (l : Launch) (D9 : va_G) (cB cI cJ cG : ClassId) (a : Nat → Nat) (O : Nat → Int64) (I : Nat → Int32) (F : Nat → Nat → Int32) (hfl : l.flags = pinnedFlags ++ [noTraceFlag]) (A : Ab) (hC : CS I F A) (hP : PS A) (x : Int32) : MKW l D9 cB cI cJ cG a O y_La_written b_La_written 4 [(0, 9, 12, 39)] [.ref (a 0), .int x, .ref (a 48)] I F (SC I F (T_written x A)) := by
  refine mkw_mono (m_La_written l D9 cB cI cJ cG a O I F x (m_Wm_written l D9 cB cI cJ cG a O I F hfl A.2.2.2.2.1 hC.2.2.1.1 hC.2.2.1.2 hP.2.2.2.2.2 x) (fun v I' F' ⟨k, h⟩ => ⟨_, h.2.2.1⟩) (fun E I' F' h => h.1)) ?_
  rintro k I1 F1 O1 (⟨r, ⟨k, h1, h1b, h2, rfl, rfl⟩, rfl, hO⟩ | ⟨E, ⟨rfl, h1, rfl, rfl⟩, -, rfl⟩)
  · cases h2
    exact SC_no hC hP _ (Or.inl ⟨k, h1, h1b, rfl, rfl, rfl⟩) (fun _ => hO)
  · exact SC_no hC hP 0 (Or.inr ⟨h1, rfl, rfl⟩) (fun h => absurd h (by decide))
set_option maxHeartbeats 1000000 in
theorem r_written (l : Launch) (D9 : va_G) (cB cI cJ cG : ClassId) (a : Nat → Nat) (O : Nat → Int64) (I : Nat → Int32) (F : Nat → Nat → Int32) (A : Ab) (hR : RS I F A) (hP : PS A) (x : Int32) : MC l D9 cB cI cJ cG a O y_Mo_written b_Mo_written 2 (some .int) 1 [.ref (a 33), .int x] I F (SR I F (T_written x A)) := by
  refine mc_mono (m_Mo_written l D9 cB cI cJ cG a O I F A.2.2.2.2.1 hR.2.2.1.1 hR.2.2.1.2 hP.2.2.2.2.2 x) ?_
  rintro v I1 F1 (⟨k, h1, h1b, rfl, h3, h0, rfl⟩ | ⟨h1, ⟨b, rfl⟩, h3, h0, rfl⟩)
  · exact SR_no hR h3 _ _ h0 (Or.inl ⟨k, h1, h1b, rfl, rfl, rfl⟩) (fun _ => rfl)
  · exact SR_no hR h3 0 _ h0 (Or.inr ⟨h1, rfl, rfl⟩) (fun h => absurd h (by decide))
set_option maxHeartbeats 1000000 in
theorem u_written {A : Ab} (hP : PS A) {x : Int32} : Uq (T_written x A) := by
  intro th an A1 th2 an2 A2 h1 h2
  have hM := hP.2.2.2.2.2
  rcases h1 with ⟨k, a, a2, rfl, rfl, rfl⟩ | ⟨a, rfl, rfl⟩ <;> rcases h2 with ⟨k2, b, b2, rfl, rfl, rfl⟩ | ⟨b, rfl, rfl⟩
  · have e := (nI_eq (a := k) (b := k2) (by omega) (by omega)).mp (a2.symm.trans b2)
    exact ⟨rfl, fun _ => by rw [e], rfl⟩
  · exact absurd a2 (b k a)
  · exact absurd b2 (a k2 b)
  · exact ⟨rfl, fun h => absurd h (by decide), rfl⟩
set_option maxHeartbeats 1000000 in
theorem s_header (l : Launch) (D9 : va_G) (cB cI cJ cG : ClassId) (a : Nat → Nat) (O : Nat → Int64) (I : Nat → Int32) (F : Nat → Nat → Int32) (hfl : l.flags = pinnedFlags ++ [noTraceFlag]) (A : Ab) (hC : CS I F A) (hP : PS A) (x : Int32) : MKW l D9 cB cI cJ cG a O y_La_header b_La_header 4 [(0, 9, 12, 19)] [.ref (a 0), .int x, .ref (a 48)] I F (SC I F (T_header x A)) := by
  refine mkw_mono (m_La_header l D9 cB cI cJ cG a O I F x (m_Wm_header l D9 cB cI cJ cG a O I F hfl A.2.1 hC.2.1.1 hP.2.1 A.2.2.1 A.2.2.2.1 x hC.2.1.2.2.1 hC.2.1.2.2.2) (fun v I' F' h => ⟨_, h.2.1⟩) (fun E I' F' h => h.1)) ?_
  rintro k I1 F1 O1 (⟨r, ⟨h1, h2, rfl, rfl⟩, rfl, hO⟩ | ⟨E, ⟨rfl, h1, rfl, rfl⟩, -, rfl⟩)
  · cases h2
    exact SC_no hC hP _ (Or.inl ⟨h1, rfl, rfl, rfl⟩) (fun _ => hO)
  · exact SC_no hC hP 0 (Or.inr ⟨h1, rfl, rfl⟩) (fun h => absurd h (by decide))
set_option maxHeartbeats 1000000 in
theorem r_header (l : Launch) (D9 : va_G) (cB cI cJ cG : ClassId) (a : Nat → Nat) (O : Nat → Int64) (I : Nat → Int32) (F : Nat → Nat → Int32) (A : Ab) (hR : RS I F A) (hP : PS A) (x : Int32) : MC l D9 cB cI cJ cG a O y_Mo_header b_Mo_header 2 (some .int) 1 [.ref (a 33), .int x] I F (SR I F (T_header x A)) := by
  refine mc_mono (m_Mo_header l D9 cB cI cJ cG a O I F A.2.1 hR.2.1.1 hR.2.1.2.2.1 hP.2.1 A.2.2.1 A.2.2.2.1 x hR.2.1.2.2.2.1 hR.2.1.2.2.2.2) ?_
  rintro v I1 F1 (⟨h1, rfl, h3, h0, rfl⟩ | ⟨h1, ⟨b, rfl⟩, h3, h0, rfl⟩)
  · exact SR_no hR h3 _ _ h0 (Or.inl ⟨h1, rfl, rfl, rfl⟩) (fun _ => rfl)
  · exact SR_no hR h3 0 _ h0 (Or.inr ⟨h1, rfl, rfl⟩) (fun h => absurd h (by decide))
set_option maxHeartbeats 1000000 in
theorem u_header {A : Ab} (hP : PS A) {x : Int32} : Uq (T_header x A) := by
  intro th an A1 th2 an2 A2 h1 h2
  rcases h1 with ⟨a, rfl, rfl, rfl⟩ | ⟨a, rfl, rfl⟩ <;> rcases h2 with ⟨b, rfl, rfl, rfl⟩ | ⟨b, rfl, rfl⟩
  · exact ⟨rfl, fun _ => rfl, rfl⟩
  · exact absurd b a
  · exact absurd a b
  · exact ⟨rfl, fun h => absurd h (by decide), rfl⟩
set_option maxHeartbeats 1000000 in
theorem s_told (l : Launch) (D9 : va_G) (cB cI cJ cG : ClassId) (a : Nat → Nat) (O : Nat → Int64) (I : Nat → Int32) (F : Nat → Nat → Int32) (hfl : l.flags = pinnedFlags ++ [noTraceFlag]) (A : Ab) (hC : CS I F A) (hP : PS A) (x y w : Int32) : MKW l D9 cB cI cJ cG a O y_La_told b_La_told 6 [(0, 12, 15, 29), (0, 12, 19, 19)] [.ref (a 0), .int x, .int y, .int w, .ref (a 48)] I F (SC I F (T_told x y w A)) := by
  refine mkw_mono (m_La_told l D9 cB cI cJ cG a O I F x y w (m_Wm_told l D9 cB cI cJ cG a O I F hfl A.2.1 hC.2.1.1 hP.2.1 x y w) (fun v I' F' ⟨r, e, h⟩ => ⟨_, h.2.2.2.1⟩) (fun E I' F' h => h.elim (fun h => Or.inl h.1) (fun h => Or.inr h.1))) ?_
  rintro k I1 F1 O1 (⟨r9, ⟨r, e, h1, h1b, h1c, h2, rfl, rfl⟩, rfl, hO⟩ | ⟨E, ⟨rfl, h1, rfl, rfl⟩ | ⟨rfl, r, e, h1, h1b, h1c, rfl, rfl⟩, hk⟩)
  · cases h2
    exact SC_no hC hP _ (Or.inr ⟨r, e, h1, h1b, Or.inr ⟨h1c, rfl, rfl, rfl⟩⟩) (fun _ => hO)
  · rcases hk with ⟨-, rfl⟩ | ⟨h, -⟩
    · exact SC_no hC hP 0 (Or.inl ⟨h1, rfl, rfl⟩) (fun h => absurd h (by decide))
    · exact absurd h (by decide)
  · rcases hk with ⟨h, -⟩ | ⟨-, rfl⟩
    · exact absurd h (by decide)
    · exact SC_no hC hP 0 (Or.inr ⟨r, e, h1, h1b, Or.inl ⟨h1c, rfl, rfl⟩⟩) (fun h => absurd h (by decide))
set_option maxHeartbeats 1000000 in
theorem r_told (l : Launch) (D9 : va_G) (cB cI cJ cG : ClassId) (a : Nat → Nat) (O : Nat → Int64) (I : Nat → Int32) (F : Nat → Nat → Int32) (A : Ab) (hR : RS I F A) (hP : PS A) (x y w : Int32) : MC l D9 cB cI cJ cG a O y_Mo_told b_Mo_told 5 (some .int) 1 [.ref (a 33), .int x, .int y, .int w] I F (SR I F (T_told x y w A)) := by
  refine mc_mono (m_Mo_told l D9 cB cI cJ cG a O I F A.2.1 hR.2.1.1 hR.2.1.2.2.1 hP.2.1 x y w) ?_
  rintro v I1 F1 (⟨h1, ⟨b, rfl⟩, h3, h0, rfl⟩ | ⟨r, e, h1, h1b, ⟨h1c, ⟨b, rfl⟩, h3, h0, rfl⟩ | ⟨h1c, rfl, h3, h0, rfl⟩⟩)
  · exact SR_no hR h3 0 _ h0 (Or.inl ⟨h1, rfl, rfl⟩) (fun h => absurd h (by decide))
  · exact SR_no hR h3 0 _ h0 (Or.inr ⟨r, e, h1, h1b, Or.inl ⟨h1c, rfl, rfl⟩⟩) (fun h => absurd h (by decide))
  · exact SR_no hR h3 _ _ h0 (Or.inr ⟨r, e, h1, h1b, Or.inr ⟨h1c, rfl, rfl, rfl⟩⟩) (fun _ => rfl)
set_option maxHeartbeats 1000000 in
theorem u_told {A : Ab} (hP : PS A) {x y w : Int32} : Uq (T_told x y w A) := by
  intro th an A1 th2 an2 A2 h1 h2
  rcases h1 with ⟨a, rfl, rfl⟩ | ⟨r, e, a, a1, ⟨a2, rfl, rfl⟩ | ⟨a2, rfl, rfl, rfl⟩⟩ <;> rcases h2 with ⟨b, rfl, rfl⟩ | ⟨r2, e2, b, b1, ⟨b2, rfl, rfl⟩ | ⟨b2, rfl, rfl, rfl⟩⟩
  · exact ⟨rfl, fun h => absurd h (by decide), rfl⟩
  · cases a.symm.trans b
  · cases a.symm.trans b
  · cases a.symm.trans b
  · exact ⟨rfl, fun h => absurd h (by decide), rfl⟩
  · exact absurd a2 b2
  · cases a.symm.trans b
  · exact absurd b2 a2
  · cases a.symm.trans b
    cases a1.symm.trans b1
    exact ⟨rfl, fun _ => rfl, rfl⟩
set_option maxHeartbeats 1000000 in
theorem s_byteOf (l : Launch) (D9 : va_G) (cB cI cJ cG : ClassId) (a : Nat → Nat) (O : Nat → Int64) (I : Nat → Int32) (F : Nat → Nat → Int32) (hfl : l.flags = pinnedFlags ++ [noTraceFlag]) (A : Ab) (hC : CS I F A) (hP : PS A) (x y w : Int32) : MKW l D9 cB cI cJ cG a O y_La_byteOf b_La_byteOf 6 [(0, 12, 15, 29), (0, 12, 19, 39)] [.ref (a 0), .int x, .int y, .int w, .ref (a 48)] I F (SC I F (T_byteOf x y w A)) := by
  refine mkw_mono (m_La_byteOf l D9 cB cI cJ cG a O I F x y w (m_Wm_byteOf l D9 cB cI cJ cG a O I F hfl A.2.1 hC.2.1.1 hP.2.1 x y w) (fun v I' F' ⟨r, e, h1, h2, j, h⟩ => ⟨_, h.2.2.1⟩) (fun E I' F' h => h.elim (fun h => Or.inl h.1) (fun h => Or.inr h.1))) ?_
  rintro k I1 F1 O1 (⟨r9, ⟨r, e, h1, h1b, j, h1c, h1d, h2, rfl, rfl⟩, rfl, hO⟩ | ⟨E, ⟨rfl, h1, rfl, rfl⟩ | ⟨rfl, r, e, h1, h1b, h1c, rfl, rfl⟩, hk⟩)
  · cases h2
    exact SC_no hC hP _ (Or.inr ⟨r, e, h1, h1b, Or.inr ⟨j, h1c, h1d, rfl, rfl, rfl⟩⟩) (fun _ => hO)
  · rcases hk with ⟨-, rfl⟩ | ⟨h, -⟩
    · exact SC_no hC hP 0 (Or.inl ⟨h1, rfl, rfl⟩) (fun h => absurd h (by decide))
    · exact absurd h (by decide)
  · rcases hk with ⟨h, -⟩ | ⟨-, rfl⟩
    · exact absurd h (by decide)
    · exact SC_no hC hP 0 (Or.inr ⟨r, e, h1, h1b, Or.inl ⟨h1c, rfl, rfl⟩⟩) (fun h => absurd h (by decide))
set_option maxHeartbeats 1000000 in
theorem r_byteOf (l : Launch) (D9 : va_G) (cB cI cJ cG : ClassId) (a : Nat → Nat) (O : Nat → Int64) (I : Nat → Int32) (F : Nat → Nat → Int32) (A : Ab) (hR : RS I F A) (hP : PS A) (x y w : Int32) : MC l D9 cB cI cJ cG a O y_Mo_byteOf b_Mo_byteOf 5 (some .int) 1 [.ref (a 33), .int x, .int y, .int w] I F (SR I F (T_byteOf x y w A)) := by
  refine mc_mono (m_Mo_byteOf l D9 cB cI cJ cG a O I F A.2.1 hR.2.1.1 hR.2.1.2.2.1 hP.2.1 x y w) ?_
  rintro v I1 F1 (⟨h1, ⟨b, rfl⟩, h3, h0, rfl⟩ | ⟨r, e, h1, h1b, ⟨h1c, ⟨b, rfl⟩, h3, h0, rfl⟩ | ⟨j, h1c, h1d, rfl, h3, h0, rfl⟩⟩)
  · exact SR_no hR h3 0 _ h0 (Or.inl ⟨h1, rfl, rfl⟩) (fun h => absurd h (by decide))
  · exact SR_no hR h3 0 _ h0 (Or.inr ⟨r, e, h1, h1b, Or.inl ⟨h1c, rfl, rfl⟩⟩) (fun h => absurd h (by decide))
  · exact SR_no hR h3 _ _ h0 (Or.inr ⟨r, e, h1, h1b, Or.inr ⟨j, h1c, h1d, rfl, rfl, rfl⟩⟩) (fun _ => rfl)
set_option maxHeartbeats 1000000 in
theorem u_byteOf {A : Ab} (hP : PS A) {x y w : Int32} : Uq (T_byteOf x y w A) := by
  intro th an A1 th2 an2 A2 h1 h2
  rcases h1 with ⟨a, rfl, rfl⟩ | ⟨r, e, a, a1, h1⟩ <;> rcases h2 with ⟨b, rfl, rfl⟩ | ⟨r2, e2, b, b1, h2⟩
  · exact ⟨rfl, fun h => absurd h (by decide), rfl⟩
  · cases a.symm.trans b
  · cases a.symm.trans b
  · cases a.symm.trans b
    cases a1.symm.trans b1
    have hl : (eN e).length + (eD e).length ≤ 65536 := Nat.le_trans (en_len a1) hP.2.1.2.2.1
    rcases h1 with ⟨a2, rfl, rfl⟩ | ⟨j, a2, a3, rfl, rfl, rfl⟩ <;> rcases h2 with ⟨b2, rfl, rfl⟩ | ⟨j2, b2, b3, rfl, rfl, rfl⟩
    · exact ⟨rfl, fun h => absurd h (by decide), rfl⟩
    · exact absurd b3 (a2 j2 b2)
    · exact absurd a3 (b2 j a2)
    · have e9 := (nI_eq (a := j) (b := j2) (by omega) (by omega)).mp (a3.symm.trans b3)
      exact ⟨rfl, fun _ => by rw [e9], rfl⟩
set_option maxHeartbeats 1000000 in
theorem s_order (l : Launch) (D9 : va_G) (cB cI cJ cG : ClassId) (a : Nat → Nat) (O : Nat → Int64) (I : Nat → Int32) (F : Nat → Nat → Int32) (hfl : l.flags = pinnedFlags ++ [noTraceFlag]) (A : Ab) (hC : CS I F A) (hP : PS A) (x y w z : Int32) : MKW l D9 cB cI cJ cG a O y_La_order b_La_order 7 [(0, 14, 17, 29)] [.ref (a 0), .int x, .int y, .int w, .int z, .ref (a 48)] I F (SC I F (T_order x y w z A)) := by
  refine mkw_mono (m_La_order l D9 cB cI cJ cG a O I F x y w z (m_Wm_order l D9 cB cI cJ cG a O I F hfl A.2.1 hC.2.1.1 hP.2.1 (PS_ek hP) x y w z) (fun v I' F' ⟨r1, r2, e1, e2, h⟩ => ⟨_, h.2.2.2.2.1⟩) (fun E I' F' h => h.1)) ?_
  rintro k I1 F1 O1 (⟨r9, ⟨r1, r2, e1, e2, h1, h1b, h1c, h1d, h2, rfl, h5⟩, rfl, hO⟩ | ⟨E, ⟨rfl, h1, rfl, rfl⟩, -, rfl⟩)
  · cases h2
    exact ⟨kpC_of (sm_rf (L := [])) h5 (by decide) (by decide), _, A, Or.inr ⟨r1, r2, h1, h1b, rfl, rfl, rfl⟩, fun _ => hO, ⟨CT_s hC.1 (sm_rf (L := [])) h5 (by unfold frI; decide), CG_s hC.2.1 hP.2.1 (sm_rf (L := [])) h5 (by unfold frI; decide), CM_s hC.2.2.1 (sm_rf (L := [])) h5 (by unfold frI; decide), hC.2.2.2.1, hC.2.2.2.2.1, CE_s hC.2.2.2.2.2 (sm_rf (L := [])) h5 (by unfold frI; decide)⟩, hP⟩
  · exact SC_no hC hP 0 (Or.inl ⟨h1, rfl, rfl⟩) (fun h => absurd h (by decide))
set_option maxHeartbeats 1000000 in
theorem r_order (l : Launch) (D9 : va_G) (cB cI cJ cG : ClassId) (a : Nat → Nat) (O : Nat → Int64) (I : Nat → Int32) (F : Nat → Nat → Int32) (A : Ab) (hR : RS I F A) (hP : PS A) (x y w z : Int32) : MC l D9 cB cI cJ cG a O y_Mo_order b_Mo_order 11 (some .int) 2 [.ref (a 33), .int x, .int y, .int w, .int z] I F (SR I F (T_order x y w z A)) := by
  refine mc_mono (m_Mo_order l D9 cB cI cJ cG a O I F A.2.1 hR.2.1.1 hR.2.1.2.2.1 hP.2.1 (PS_ek hP) x y w z) ?_
  rintro v I1 F1 (⟨h1, ⟨b, rfl⟩, h3, h0, rfl⟩ | ⟨r1, r2, e1, e2, h1, h1b, h1c, h1d, rfl, h3, h0, rfl⟩)
  · exact SR_no hR h3 0 _ h0 (Or.inl ⟨h1, rfl, rfl⟩) (fun h => absurd h (by decide))
  · exact SR_no hR h3 _ _ h0 (Or.inr ⟨r1, r2, h1, h1b, rfl, rfl, rfl⟩) (fun _ => rfl)
set_option maxHeartbeats 1000000 in
theorem u_order {A : Ab} (hP : PS A) {x y w z : Int32} : Uq (T_order x y w z A) := by
  intro th an A1 th2 an2 A2 h1 h2
  rcases h1 with ⟨a, rfl, rfl⟩ | ⟨r1, r2, a, a2, rfl, rfl, rfl⟩ <;> rcases h2 with ⟨b, rfl, rfl⟩ | ⟨s1, s2, b, b2, rfl, rfl, rfl⟩
  · exact ⟨rfl, fun h => absurd h (by decide), rfl⟩
  · rcases a with a | a
    · cases a.symm.trans b
    · cases a.symm.trans b2
  · rcases b with b | b
    · cases a.symm.trans b
    · cases a2.symm.trans b
  · cases a.symm.trans b
    cases a2.symm.trans b2
    exact ⟨rfl, fun _ => rfl, rfl⟩
set_option maxHeartbeats 1000000 in
theorem s_same (l : Launch) (D9 : va_G) (cB cI cJ cG : ClassId) (a : Nat → Nat) (O : Nat → Int64) (I : Nat → Int32) (F : Nat → Nat → Int32) (hfl : l.flags = pinnedFlags ++ [noTraceFlag]) (A : Ab) (hC : CS I F A) (hP : PS A) (x y w z : Int32) : MKW l D9 cB cI cJ cG a O y_La_same b_La_same 7 [(0, 21, 24, 29)] [.ref (a 0), .int x, .int y, .int w, .int z, .ref (a 48)] I F (fun k I1 F1 O1 => kpC I I1 F F1 ∧ T_same x y w z A k 0 A ∧ CS I1 F1 A ∧ PS A) := by
  refine mkw_mono (m_La_same l D9 cB cI cJ cG a O I F x y w z (m_Wm_same l D9 cB cI cJ cG a O I F hfl A.2.1 hC.2.1.1 hP.2.1 (PS_ek hP) x y w z) (fun v I' F' ⟨r1, r2, e1, e2, h1, h2, h3, h4, h5, h6⟩ => h5.elim (fun h => ⟨_, h.2⟩) (fun h => ⟨_, h.2⟩)) (fun E I' F' h => h.1)) ?_
  rintro k I1 F1 O1 (⟨r9, ⟨r1, r2, e1, e2, h1, h1b, h1c, h1d, h2, rfl, h5⟩, rfl, hO⟩ | ⟨E, ⟨rfl, h1, rfl, rfl⟩, -, rfl⟩)
  · exact ⟨kpC_of (sm_rf (L := [])) h5 (by decide) (by decide), Or.inr ⟨r1, r2, h1, h1b, rfl, rfl⟩, ⟨CT_s hC.1 (sm_rf (L := [])) h5 (by unfold frI; decide), CG_s hC.2.1 hP.2.1 (sm_rf (L := [])) h5 (by unfold frI; decide), CM_s hC.2.2.1 (sm_rf (L := [])) h5 (by unfold frI; decide), hC.2.2.2.1, hC.2.2.2.2.1, CE_s hC.2.2.2.2.2 (sm_rf (L := [])) h5 (by unfold frI; decide)⟩, hP⟩
  · exact ⟨kpC_rf, Or.inl ⟨h1, rfl, rfl⟩, hC, hP⟩
set_option maxHeartbeats 1000000 in
theorem r_same (l : Launch) (D9 : va_G) (cB cI cJ cG : ClassId) (a : Nat → Nat) (O : Nat → Int64) (I : Nat → Int32) (F : Nat → Nat → Int32) (A : Ab) (hR : RS I F A) (hP : PS A) (x y w z : Int32) : MC l D9 cB cI cJ cG a O y_Mo_same b_Mo_same 8 (some .boolean) 1 [.ref (a 33), .int x, .int y, .int w, .int z] I F (fun v I1 F1 => kpR I I1 F F1 ∧ (∃ b : Int32, v = some (.int b)) ∧ T_same x y w z A (I1 15) 0 A ∧ RS I1 F1 A) := by
  refine mc_mono (m_Mo_same l D9 cB cI cJ cG a O I F A.2.1 hR.2.1.1 hR.2.1.2.2.1 hP.2.1 (PS_ek hP) x y w z) ?_
  rintro v I1 F1 (⟨h1, ⟨b, rfl⟩, h3, h0, rfl⟩ | ⟨r1, r2, e1, e2, h1, h1b, h1c, h1d, hv, h3, h0, rfl⟩)
  · exact ⟨kpR_f h3 (by decide), ⟨_, rfl⟩, Or.inl ⟨h1, h0, rfl⟩, RS_15 hR h3⟩
  · exact ⟨kpR_f h3 (by decide), hv.elim (fun h => ⟨_, h.2⟩) (fun h => ⟨_, h.2⟩), Or.inr ⟨r1, r2, h1, h1b, h0, rfl⟩, RS_15 hR h3⟩
set_option maxHeartbeats 1000000 in
theorem s_read (l : Launch) (D9 : va_G) (cB cI cJ cG : ClassId) (a : Nat → Nat) (O : Nat → Int64) (I : Nat → Int32) (F : Nat → Nat → Int32) (A : Ab) (hC : CS I F A) (hP : PS A) : MC l D9 cB cI cJ cG a O y_Wm_read b_Wm_read 2 (some .int) 8 [.ref (a 0)] I F (fun v I1 F1 => kpC I I1 F F1 ∧ (∃ b : Int32, v = some (.int b)) ∧ ∃ A1, T_read A 0 0 A1 ∧ CS I1 F1 A1 ∧ PS A1) := by
  refine mc_mono (m_Wm_read l D9 cB cI cJ cG a O I F A.1 hC.1.1 hP.1 hC.1.2 (GaR_fit hC.2.1.1)) ?_
  rintro v I1 F1 (⟨es, c, h1, hv, h3, g1, hO, hG, g3, g11, g12, g2, h6⟩ | ⟨h1, hv, h3, hG, g3, g11, g12, g2, h6⟩)
  · exact ⟨kpC_of h3 h6 (by decide) (by decide), hv, _, Or.inl ⟨es, c, h1, rfl⟩, ⟨⟨g2, BR_nil (by rw [h6 2 (by decide)]; exact hC.1.2.1)⟩, ⟨hG, g3, g11, g12⟩, CM_s hC.2.2.1 h3 h6 (by unfold frI; decide), nu_s hC.2.2.2.1 h3 (by decide), g1, CE_s hC.2.2.2.2.2 h3 h6 (by unfold frI; decide)⟩, Nat.zero_le _, hO, (rdM_wf h1).1, t2_lt9 hC.1.2 hP.1 (by have := (rdM_wf h1).2; omega), t2_lt9 hC.1.2 hP.1 (by have := (rdM_wf h1).2; omega), hP.2.2.2.2.2⟩
  · exact ⟨kpC_of h3 h6 (by decide) (by decide), hv, _, Or.inr ⟨h1, rfl⟩, ⟨⟨g2, BR_nil (by rw [h6 2 (by decide)]; exact hC.1.2.1)⟩, ⟨hG, g3, g11, g12⟩, CM_s hC.2.2.1 h3 h6 (by unfold frI; decide), nu_s hC.2.2.2.1 h3 (by decide), nu_s hC.2.2.2.2.1 h3 (by decide), CE_s hC.2.2.2.2.2 h3 h6 (by unfold frI; decide)⟩, Nat.zero_le _, okE_nil, fun e he => absurd he List.not_mem_nil, (show 0 < 65536 by decide), (show 0 < 65536 by decide), hP.2.2.2.2.2⟩
set_option maxHeartbeats 1000000 in
theorem r_read (l : Launch) (D9 : va_G) (cB cI cJ cG : ClassId) (a : Nat → Nat) (O : Nat → Int64) (I : Nat → Int32) (F : Nat → Nat → Int32) (A : Ab) (hR : RS I F A) (hP : PS A) : MC l D9 cB cI cJ cG a O y_Mo_read b_Mo_read 4 (some .int) 5 [.ref (a 33)] I F (fun v I1 F1 => kpR I I1 F F1 ∧ (∃ b : Int32, v = some (.int b)) ∧ ∃ A1, T_read A 0 0 A1 ∧ RS I1 F1 A1) := by
  refine mc_mono (m_Mo_read l D9 cB cI cJ cG a O I F A.1 hR.1.2 hR.1.1 hP.1 hR.2.1.1.2.1) ?_
  rintro v I1 F1 (⟨es, c, h1, hv, h3, g23, hO, hG, g17, g18, g19, g20, g16, g15, h6⟩ | ⟨h1, hv, h3, hG, g17, g18, g19, g20, g16, g15, h6⟩)
  · exact ⟨kpR_of h3 h6 (by decide) (by decide), hv, _, Or.inl ⟨es, c, h1, rfl⟩, ⟨g16, BR_nil (by rw [h6 34 (by decide)]; exact hR.1.2.1)⟩, ⟨hG, g17, g18, g19, g20⟩, RM_s hR.2.2.1 h3 h6 (by unfold frI; decide), nu_s hR.2.2.2.1 h3 (by decide), g23⟩
  · exact ⟨kpR_of h3 h6 (by decide) (by decide), hv, _, Or.inr ⟨h1, rfl⟩, ⟨g16, BR_nil (by rw [h6 34 (by decide)]; exact hR.1.2.1)⟩, ⟨hG, g17, g18, g19, g20⟩, RM_s hR.2.2.1 h3 h6 (by unfold frI; decide), nu_s hR.2.2.2.1 h3 (by decide), nu_s hR.2.2.2.2 h3 (by decide)⟩
theorem u_read {A A1 A2 : Ab} (h1 : T_read A 0 0 A1) (h2 : T_read A 0 0 A2) : A1 = A2 := by
  rcases h1 with ⟨es, c, a, rfl⟩ | ⟨a, rfl⟩ <;> rcases h2 with ⟨es2, c2, b, rfl⟩ | ⟨b, rfl⟩
  · cases a.symm.trans b
    rfl
  · cases a.symm.trans b
  · cases a.symm.trans b
  · rfl
theorem s_begin (l : Launch) (D9 : va_G) (cB cI cJ cG : ClassId) (a : Nat → Nat) (O : Nat → Int64) (I : Nat → Int32) (F : Nat → Nat → Int32) (A : Ab) (hC : CS I F A) (hP : PS A) (x y : Int32) : MC l D9 cB cI cJ cG a O y_Wm_begin b_Wm_begin 3 (none) 1 [.ref (a 0), .int x, .int y] I F (fun v I1 F1 => kpC I I1 F F1 ∧ v = none ∧ ∃ A1, T_begin x y A 0 0 A1 ∧ CS I1 F1 A1 ∧ PS A1) := by
  refine mc_mono (m_Wm_begin l D9 cB cI cJ cG a O I F x y (GaR_fit hC.2.1.1)) ?_
  rintro v I1 F1 ⟨rfl, h3, g11, g12, g3, h6, hG⟩
  exact ⟨kpC_of h3 h6 (by decide) (by decide), rfl, _, rfl, ⟨CT_s hC.1 h3 h6 (by unfold frI; decide), ⟨hG, g3, g11, g12⟩, CM_s hC.2.2.1 h3 h6 (by unfold frI; decide), nu_s hC.2.2.2.1 h3 (by decide), nu_s hC.2.2.2.2.1 h3 (by decide), CE_s hC.2.2.2.2.2 h3 h6 (by unfold frI; decide)⟩, hP.1, okE_nil, fun e he => absurd he List.not_mem_nil, Nat.mod_lt _ (by decide), Nat.mod_lt _ (by decide), hP.2.2.2.2.2⟩
theorem r_begin (l : Launch) (D9 : va_G) (cB cI cJ cG : ClassId) (a : Nat → Nat) (O : Nat → Int64) (I : Nat → Int32) (F : Nat → Nat → Int32) (A : Ab) (hR : RS I F A) (hP : PS A) (x y : Int32) : MC l D9 cB cI cJ cG a O y_Mo_begin b_Mo_begin 3 (none) 1 [.ref (a 33), .int x, .int y] I F (fun v I1 F1 => kpR I I1 F F1 ∧ v = none ∧ ∃ A1, T_begin x y A 0 0 A1 ∧ RS I1 F1 A1) := by
  refine mc_mono (m_Mo_begin l D9 cB cI cJ cG a O I F x y) ?_
  rintro v I1 F1 ⟨rfl, h3, g15, g17, g18, g19, g20, rfl⟩
  exact ⟨kpR_f h3 (by decide), rfl, _, rfl, RT_s hR.1 h3 (sm_rf (L := [])) (by unfold frI; decide), ⟨MoR_nil hR.2.1.1.2.1, g17, g18, g19, g20⟩, RM_s hR.2.2.1 h3 (sm_rf (L := [])) (by unfold frI; decide), nu_s hR.2.2.2.1 h3 (by decide), nu_s hR.2.2.2.2 h3 (by decide)⟩
theorem u_begin {x y : Int32} {A A1 A2 : Ab} (h1 : T_begin x y A 0 0 A1) (h2 : T_begin x y A 0 0 A2) : A1 = A2 := h1.trans h2.symm
theorem s_faultAt (l : Launch) (D9 : va_G) (cB cI cJ cG : ClassId) (a : Nat → Nat) (O : Nat → Int64) (I : Nat → Int32) (F : Nat → Nat → Int32) (A : Ab) (hC : CS I F A) (hP : PS A) : MC l D9 cB cI cJ cG a O y_Wm_faultAt b_Wm_faultAt 1 (some .int) 0 [.ref (a 0)] I F (fun v I1 F1 => kpC I I1 F F1 ∧ (∃ b : Int32, v = some (.int b)) ∧ CS I1 F1 A) := by
  refine mc_mono (m_Wm_faultAt l D9 cB cI cJ cG a O I F) ?_
  rintro v I1 F1 ⟨hv, rfl, rfl⟩
  exact ⟨kpC_rf, hv, hC⟩
theorem r_faultAt (l : Launch) (D9 : va_G) (cB cI cJ cG : ClassId) (a : Nat → Nat) (O : Nat → Int64) (I : Nat → Int32) (F : Nat → Nat → Int32) (A : Ab) (hR : RS I F A) (hP : PS A) : MC l D9 cB cI cJ cG a O y_Mo_faultAt b_Mo_faultAt 1 (some .int) 0 [.ref (a 33)] I F (fun v I1 F1 => kpR I I1 F F1 ∧ (∃ b : Int32, v = some (.int b)) ∧ RS I1 F1 A) := by
  refine mc_mono (m_Mo_faultAt l D9 cB cI cJ cG a O I F) ?_
  rintro v I1 F1 ⟨hv, h3, h0, rfl⟩
  exact ⟨kpR_f h3 (by decide), hv, RS_15 hR h3⟩
theorem s_count (l : Launch) (D9 : va_G) (cB cI cJ cG : ClassId) (a : Nat → Nat) (O : Nat → Int64) (I : Nat → Int32) (F : Nat → Nat → Int32) (A : Ab) (hC : CS I F A) (hP : PS A) (x : Int32) : MC l D9 cB cI cJ cG a O y_Wm_count b_Wm_count 2 (some .int) 0 [.ref (a 0), .int x] I F (fun v I1 F1 => kpC I I1 F F1 ∧ v = some (.int (cnV A.1.length A.2.2.2.2.1.length A.2.2.2.2.2.1 A.2.2.2.2.2.2 x)) ∧ CS I1 F1 A) := by
  refine mc_mono (m_Wm_count l D9 cB cI cJ cG a O I F A.1.length A.2.2.2.2.1.length A.2.2.2.2.2.1 A.2.2.2.2.2.2 x hC.1.1 hC.2.2.1.2 hC.2.2.2.1 hC.2.2.2.2.1) ?_
  rintro v I1 F1 ⟨hv, rfl, rfl⟩
  exact ⟨kpC_rf, hv, hC⟩
theorem r_count (l : Launch) (D9 : va_G) (cB cI cJ cG : ClassId) (a : Nat → Nat) (O : Nat → Int64) (I : Nat → Int32) (F : Nat → Nat → Int32) (A : Ab) (hR : RS I F A) (hP : PS A) (x : Int32) : MC l D9 cB cI cJ cG a O y_Mo_count b_Mo_count 2 (some .int) 0 [.ref (a 33), .int x] I F (fun v I1 F1 => kpR I I1 F F1 ∧ v = some (.int (cnV A.1.length A.2.2.2.2.1.length A.2.2.2.2.2.1 A.2.2.2.2.2.2 x)) ∧ RS I1 F1 A) := by
  refine mc_mono (m_Mo_count l D9 cB cI cJ cG a O I F A.1.length A.2.2.2.2.1.length A.2.2.2.2.2.1 A.2.2.2.2.2.2 x hR.1.1 hR.2.2.1.2 hR.2.2.2.1 hR.2.2.2.2) ?_
  rintro v I1 F1 ⟨hv, h3, h0, rfl⟩
  exact ⟨kpR_f h3 (by decide), hv, RS_15 hR h3⟩
