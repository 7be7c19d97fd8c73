theorem LstAt.get {p : OS} {L : FL} (h : LstAt p L) {m : Int} (h0 : 0 ≤ m) (h1 : m < L.length) : p.2 0 m = (L[m.toNat]?.getD (0, 0, 0)).1 ∧ p.2 1 m = (L[m.toNat]?.getD (0, 0, 0)).2.1 ∧ p.2 2 m = (L[m.toNat]?.getD (0, 0, 0)).2.2 := by
  have hl : m.toNat < L.length := by omega
  have e := h.2 m.toNat (L[m.toNat]) (List.getElem?_eq_getElem hl)
  rw [Int.toNat_of_nonneg h0] at e
  rw [List.getElem?_eq_getElem hl]
  exact e
theorem har_ev2 {P : Nat → OS} {p3 : OS} (h : HarOK P p3) {m k : Int} (hm : 0 ≤ m ∧ m < (cntM P : Int)) (hk : 0 ≤ k ∧ k < 4) : (if (0 ≤ m ∧ m < p3.1 3) ∧ 0 ≤ k ∧ k < 4 then p3.2 1 (m * 4 + k) else -1) = evM P m.toNat k.toNat := by
  have e := har_ev h (m := m.toNat) (by omega) (k := k.toNat) (by omega)
  unfold evH at e
  rw [Int.toNat_of_nonneg hm.1, Int.toNat_of_nonneg hk.1] at e
  exact e
theorem har_tk2 {P : Nat → OS} {p3 : OS} (h : HarOK P p3) {m : Int} (hm : 0 ≤ m ∧ m < (cntM P : Int)) : (if 0 ≤ m ∧ m < p3.1 3 then p3.2 0 m else -1) = momT P m.toNat := by
  have e := har_tk h (m := m.toNat) (by omega)
  unfold tkH at e
  rw [Int.toNat_of_nonneg hm.1] at e
  exact e
set_option maxRecDepth 100000 in
theorem c_X9_moments {l : Launch} {G : jG} {h : jH} {a : Nat} {d : DA} {s : DS} {Z : Nat → Nat}  (hD : Desk G h a d s) (hI : DI s) (hZ : Dz a d Z)  : jC l G yX9_moments mX9_moments [.ref a] h (jW (oI (cntM s.1 : Int)) (DP G a d s h (fun _ => True))) := by
  refine j_body (by decide +kernel) ⟨rfl, rfl⟩ rfl ?_
  refine j_aload_n 0 dX9_moments_0 rfl rfl ?_
  refine J_callVW0 kX9_225 cvX9_hear hD.1 (c_X9_hear hD hI hZ) rfl rfl rfl rfl rfl dX9_moments_1 rfl rfl (fun h hp => ?_)
  obtain ⟨s1, hD, hI, e1, e2, ⟨e3, e4⟩, hF⟩ := hp
  obtain ⟨P1, S1, f1⟩ := s1
  obtain rfl : P1 = s.1 := e1
  have e2 : S1 0 = s.2.1 0 := e2
  have e3 : f1 7 = 1 := e3
  have hH : HarOK s.1 (S1 3) := hI.har (by show f1 7 ≠ 0; omega)
  have hcl := cntM_le s.1
  refine j_aload_n 0 dX9_moments_4 rfl rfl ?_
  refine j_get fX9_33 dX9_moments_5 hD.1 rfl ?_
  refine J_callV1 kX9_228 cvX3_size (hD.2.2.2.2.2.1).1 (c_X3_size (hD.2.2.2.2.2.1)) rfl rfl rfl rfl rfl dX9_moments_8 rfl rfl ?_
  refine J_top ((cntM s.1 : Int)) ?_ (by exact hH.1)
  refine j_iret rfl dX9_moments_11 ?_
  exact ⟨rfl, ⟨(s.1, S1, f1), hD, hI, rfl, e2, True.intro, hF⟩⟩
set_option maxRecDepth 100000 in
theorem c_X9_tickOf {l : Launch} {G : jG} {h : jH} {a : Nat} {d : DA} {s : DS} {Z : Nat → Nat} {m : Int} (hl0 : l.stackTraces = false) (hD : Desk G h a d s) (hI : DI s) (hZ : Dz a d Z) (hm : rg m) : jC l G yX9_tickOf mX9_tickOf [.ref a, vI m] h (jW (if 0 ≤ m ∧ m < (cntM s.1 : Int) then oI (momT s.1 m.toNat) else .inr "java/lang/IndexOutOfBoundsException") (DP G a d s h (fun _ => True))) := by
  refine j_body (by decide +kernel) ⟨rfl, rfl⟩ rfl ?_
  refine j_aload_n 0 dX9_tickOf_0 rfl rfl ?_
  refine j_iload_n 1 dX9_tickOf_1 rfl rfl ?_
  by_cases t2 : 0 ≤ m ∧ m < (cntM s.1 : Int)
  · refine J_callVW0 (show jLk _ _ yX9_checkMoment z9_checkMoment _ from kX9_229) cvX9_checkMoment hD.1 (c0_X9_checkMoment hD hI hZ hm t2) rfl rfl rfl rfl rfl dX9_tickOf_2 rfl rfl (fun h hp => ?_)
    obtain ⟨s1, hD, hI, e1, e2, ⟨e3, e4⟩, hF⟩ := hp
    obtain ⟨P1, S1, f1⟩ := s1
    obtain rfl : P1 = s.1 := e1
    have e2 : S1 0 = s.2.1 0 := e2
    have e3 : f1 7 = 1 := e3
    have hH : HarOK s.1 (S1 3) := hI.har (by show f1 7 ≠ 0; omega)
    have hcl := cntM_le s.1
    refine j_aload_n 0 dX9_tickOf_5 rfl rfl ?_
    refine j_get fX9_33 dX9_tickOf_6 hD.1 rfl ?_
    refine j_iload_n 1 dX9_tickOf_9 rfl rfl ?_
    refine J_callV1 kX9_232 cvX3_tickAt (hD.2.2.2.2.2.1).1 (c_X3_tickAt (hD.2.2.2.2.2.1) (har_n hH) hm) rfl rfl rfl rfl rfl dX9_tickOf_10 rfl rfl ?_
    refine J_top (momT s.1 m.toNat) ?_ (by exact har_tk2 hH t2)
    refine j_iret rfl dX9_tickOf_13 ?_
    exact ⟨by rw [if_pos t2], ⟨(s.1, S1, f1), hD, hI, rfl, e2, True.intro, hF⟩⟩
  · refine J_callVX kX9_229 cvX9_checkMoment hD.1 (c_X9_checkMoment hl0 hD hI hZ hm t2) rfl rfl rfl rfl rfl dX9_tickOf_2 rfl (by decide) (by decide) (fun h9 hp => ?_)
    exact ⟨by rw [if_neg t2], hp.any⟩
set_option maxRecDepth 100000 in
theorem c_X9_root {l : Launch} {G : jG} {h : jH} {a : Nat} {d : DA} {s : DS} {Z : Nat → Nat} {m : Int} (hl0 : l.stackTraces = false) (hD : Desk G h a d s) (hI : DI s) (hZ : Dz a d Z) (hm : rg m) : jC l G yX9_root mX9_root [.ref a, vI m] h (jW (if 0 ≤ m ∧ m < (cntM s.1 : Int) then oI ((chdF s.1 m.toNat).1 0) else .inr "java/lang/IndexOutOfBoundsException") (DP G a d s h (fun _ => True))) := by
  refine j_body (by decide +kernel) ⟨rfl, rfl⟩ rfl ?_
  refine j_aload_n 0 dX9_root_0 rfl rfl ?_
  refine j_iload_n 1 dX9_root_1 rfl rfl ?_
  by_cases t2 : 0 ≤ m ∧ m < (cntM s.1 : Int)
  · refine J_callVW0 (show jLk _ _ yX9_checkMoment z9_checkMoment _ from kX9_229) cvX9_checkMoment hD.1 (c0_X9_checkMoment hD hI hZ hm t2) rfl rfl rfl rfl rfl dX9_root_2 rfl rfl (fun h hp => ?_)
    obtain ⟨s1, hD, hI, e1, e2, ⟨e3, e4⟩, hF⟩ := hp
    obtain ⟨P1, S1, f1⟩ := s1
    obtain rfl : P1 = s.1 := e1
    have e2 : S1 0 = s.2.1 0 := e2
    have e3 : f1 7 = 1 := e3
    have hH : HarOK s.1 (S1 3) := hI.har (by show f1 7 ≠ 0; omega)
    have hcl := cntM_le s.1
    refine j_aload_n 0 dX9_root_5 rfl rfl ?_
    refine j_iload_n 1 dX9_root_6 rfl rfl ?_
    have gch := c_X9_chordAt (l := l) (m := m.toNat) hD hI hZ e3 (by show m.toNat < cntM s.1; omega)
    rw [Int.toNat_of_nonneg t2.1] at gch
    refine J_callVW1 kX9_237 cvX9_chordAt hD.1 gch rfl rfl rfl rfl rfl dX9_root_7 rfl rfl (fun h hp => ?_)
    obtain ⟨s2, hD, hI, g1, g2, ⟨g3, g4⟩, hF8⟩ := hp
    have hF := hF.tr hF8
    refine J_callV1 kX9_241 cvX1_rootClass (hD.2.2.2.1).1 (c_X1_rootClass (hD.2.2.2.1)) rfl rfl rfl rfl rfl dX9_root_10 rfl rfl ?_
    refine J_top ((chdF s.1 m.toNat).1 0) ?_ (by exact g4.1)
    refine j_iret rfl dX9_root_13 ?_
    exact ⟨by rw [if_pos t2], s2, hD, hI, g1, g2.trans e2, True.intro, hF⟩
  · refine J_callVX kX9_229 cvX9_checkMoment hD.1 (c_X9_checkMoment hl0 hD hI hZ hm t2) rfl rfl rfl rfl rfl dX9_root_2 rfl (by decide) (by decide) (fun h9 hp => ?_)
    exact ⟨by rw [if_neg t2], hp.any⟩
set_option maxRecDepth 100000 in
theorem c_X9_kind {l : Launch} {G : jG} {h : jH} {a : Nat} {d : DA} {s : DS} {Z : Nat → Nat} {m : Int} (hl0 : l.stackTraces = false) (hD : Desk G h a d s) (hI : DI s) (hZ : Dz a d Z) (hm : rg m) : jC l G yX9_kind mX9_kind [.ref a, vI m] h (jW (if 0 ≤ m ∧ m < (cntM s.1 : Int) then oI ((chdF s.1 m.toNat).1 1) else .inr "java/lang/IndexOutOfBoundsException") (DP G a d s h (fun _ => True))) := by
  refine j_body (by decide +kernel) ⟨rfl, rfl⟩ rfl ?_
  refine j_aload_n 0 dX9_kind_0 rfl rfl ?_
  refine j_iload_n 1 dX9_kind_1 rfl rfl ?_
  by_cases t2 : 0 ≤ m ∧ m < (cntM s.1 : Int)
  · refine J_callVW0 (show jLk _ _ yX9_checkMoment z9_checkMoment _ from kX9_229) cvX9_checkMoment hD.1 (c0_X9_checkMoment hD hI hZ hm t2) rfl rfl rfl rfl rfl dX9_kind_2 rfl rfl (fun h hp => ?_)
    obtain ⟨s1, hD, hI, e1, e2, ⟨e3, e4⟩, hF⟩ := hp
    obtain ⟨P1, S1, f1⟩ := s1
    obtain rfl : P1 = s.1 := e1
    have e2 : S1 0 = s.2.1 0 := e2
    have e3 : f1 7 = 1 := e3
    have hH : HarOK s.1 (S1 3) := hI.har (by show f1 7 ≠ 0; omega)
    have hcl := cntM_le s.1
    refine j_aload_n 0 dX9_kind_5 rfl rfl ?_
    refine j_iload_n 1 dX9_kind_6 rfl rfl ?_
    have gch := c_X9_chordAt (l := l) (m := m.toNat) hD hI hZ e3 (by show m.toNat < cntM s.1; omega)
    rw [Int.toNat_of_nonneg t2.1] at gch
    refine J_callVW1 kX9_237 cvX9_chordAt hD.1 gch rfl rfl rfl rfl rfl dX9_kind_7 rfl rfl (fun h hp => ?_)
    obtain ⟨s2, hD, hI, g1, g2, ⟨g3, g4⟩, hF8⟩ := hp
    have hF := hF.tr hF8
    refine J_callV1 kX9_244 cvX1_kindNumber (hD.2.2.2.1).1 (c_X1_kindNumber (hD.2.2.2.1)) rfl rfl rfl rfl rfl dX9_kind_10 rfl rfl ?_
    refine J_top ((chdF s.1 m.toNat).1 1) ?_ (by exact g4.2.1)
    refine j_iret rfl dX9_kind_13 ?_
    exact ⟨by rw [if_pos t2], s2, hD, hI, g1, g2.trans e2, True.intro, hF⟩
  · refine J_callVX kX9_229 cvX9_checkMoment hD.1 (c_X9_checkMoment hl0 hD hI hZ hm t2) rfl rfl rfl rfl rfl dX9_kind_2 rfl (by decide) (by decide) (fun h9 hp => ?_)
    exact ⟨by rw [if_neg t2], hp.any⟩
set_option maxRecDepth 100000 in
theorem c_X9_inversion {l : Launch} {G : jG} {h : jH} {a : Nat} {d : DA} {s : DS} {Z : Nat → Nat} {m : Int} (hl0 : l.stackTraces = false) (hD : Desk G h a d s) (hI : DI s) (hZ : Dz a d Z) (hm : rg m) : jC l G yX9_inversion mX9_inversion [.ref a, vI m] h (jW (if 0 ≤ m ∧ m < (cntM s.1 : Int) then oI ((chdF s.1 m.toNat).1 2) else .inr "java/lang/IndexOutOfBoundsException") (DP G a d s h (fun _ => True))) := by
  refine j_body (by decide +kernel) ⟨rfl, rfl⟩ rfl ?_
  refine j_aload_n 0 dX9_inversion_0 rfl rfl ?_
  refine j_iload_n 1 dX9_inversion_1 rfl rfl ?_
  by_cases t2 : 0 ≤ m ∧ m < (cntM s.1 : Int)
  · refine J_callVW0 (show jLk _ _ yX9_checkMoment z9_checkMoment _ from kX9_229) cvX9_checkMoment hD.1 (c0_X9_checkMoment hD hI hZ hm t2) rfl rfl rfl rfl rfl dX9_inversion_2 rfl rfl (fun h hp => ?_)
    obtain ⟨s1, hD, hI, e1, e2, ⟨e3, e4⟩, hF⟩ := hp
    obtain ⟨P1, S1, f1⟩ := s1
    obtain rfl : P1 = s.1 := e1
    have e2 : S1 0 = s.2.1 0 := e2
    have e3 : f1 7 = 1 := e3
    have hH : HarOK s.1 (S1 3) := hI.har (by show f1 7 ≠ 0; omega)
    have hcl := cntM_le s.1
    refine j_aload_n 0 dX9_inversion_5 rfl rfl ?_
    refine j_iload_n 1 dX9_inversion_6 rfl rfl ?_
    have gch := c_X9_chordAt (l := l) (m := m.toNat) hD hI hZ e3 (by show m.toNat < cntM s.1; omega)
    rw [Int.toNat_of_nonneg t2.1] at gch
    refine J_callVW1 kX9_237 cvX9_chordAt hD.1 gch rfl rfl rfl rfl rfl dX9_inversion_7 rfl rfl (fun h hp => ?_)
    obtain ⟨s2, hD, hI, g1, g2, ⟨g3, g4⟩, hF8⟩ := hp
    have hF := hF.tr hF8
    refine J_callV1 kX9_247 cvX1_lowestTone (hD.2.2.2.1).1 (c_X1_lowestTone (hD.2.2.2.1)) rfl rfl rfl rfl rfl dX9_inversion_10 rfl rfl ?_
    refine J_top ((chdF s.1 m.toNat).1 2) ?_ (by exact g4.2.2)
    refine j_iret rfl dX9_inversion_13 ?_
    exact ⟨by rw [if_pos t2], s2, hD, hI, g1, g2.trans e2, True.intro, hF⟩
  · refine J_callVX kX9_229 cvX9_checkMoment hD.1 (c_X9_checkMoment hl0 hD hI hZ hm t2) rfl rfl rfl rfl rfl dX9_inversion_2 rfl (by decide) (by decide) (fun h9 hp => ?_)
    exact ⟨by rw [if_neg t2], hp.any⟩
set_option maxRecDepth 100000 in
theorem c_X9_faults {l : Launch} {G : jG} {h : jH} {a : Nat} {d : DA} {s : DS} {Z : Nat → Nat}  (hD : Desk G h a d s) (hI : DI s) (hZ : Dz a d Z)  : jC l G yX9_faults mX9_faults [.ref a] h (jW (oI ((fauA s.1).length : Int)) (DP G a d s h (fun _ => True))) := by
  refine j_body (by decide +kernel) ⟨rfl, rfl⟩ rfl ?_
  refine j_aload_n 0 dX9_faults_0 rfl rfl ?_
  refine J_callVW0 kX9_250 cvX9_searchFaults hD.1 (c_X9_searchFaults hD hI hZ) rfl rfl rfl rfl rfl dX9_faults_1 rfl rfl (fun h hp => ?_)
  obtain ⟨s1, hD, hI, e1, e2, ⟨e3, e5, e4⟩, hF⟩ := hp
  obtain ⟨P1, S1, f1⟩ := s1
  obtain rfl : P1 = s.1 := e1
  have e2 : S1 0 = s.2.1 0 := e2
  have e5 : f1 8 = 1 := e5
  have hL : LstAt (S1 2) (fauA s.1) := hI.fau (by show f1 8 ≠ 0; omega)
  refine j_aload_n 0 dX9_faults_4 rfl rfl ?_
  refine j_get fX9_47 dX9_faults_5 hD.1 rfl ?_
  refine J_callV1 kX9_253 cvX2_size (hD.2.2.2.2.1).1 (c_X2_size (hD.2.2.2.2.1)) rfl rfl rfl rfl rfl dX9_faults_8 rfl rfl ?_
  refine J_top (((fauA s.1).length : Int)) ?_ (by exact hL.1)
  refine j_iret rfl dX9_faults_11 ?_
  exact ⟨rfl, ⟨(s.1, S1, f1), hD, hI, rfl, e2, True.intro, hF⟩⟩
set_option maxRecDepth 100000 in
theorem c_X9_kindOfFault {l : Launch} {G : jG} {h : jH} {a : Nat} {d : DA} {s : DS} {Z : Nat → Nat} {m : Int} (hl0 : l.stackTraces = false) (hD : Desk G h a d s) (hI : DI s) (hZ : Dz a d Z) (hm : rg m) : jC l G yX9_kindOfFault mX9_kindOfFault [.ref a, vI m] h (jW (if 0 ≤ m ∧ m < ((fauA s.1).length : Int) then oI (((fauA s.1)[m.toNat]?.getD (0, 0, 0)).1) else .inr "java/lang/IndexOutOfBoundsException") (DP G a d s h (fun _ => True))) := by
  refine j_body (by decide +kernel) ⟨rfl, rfl⟩ rfl ?_
  refine j_aload_n 0 dX9_kindOfFault_0 rfl rfl ?_
  refine J_callVW0 kX9_250 cvX9_searchFaults hD.1 (c_X9_searchFaults hD hI hZ) rfl rfl rfl rfl rfl dX9_kindOfFault_1 rfl rfl (fun h hp => ?_)
  obtain ⟨s1, hD, hI, e1, e2, ⟨e3, e5, e4⟩, hF⟩ := hp
  obtain ⟨P1, S1, f1⟩ := s1
  obtain rfl : P1 = s.1 := e1
  have e2 : S1 0 = s.2.1 0 := e2
  have e5 : f1 8 = 1 := e5
  have hL : LstAt (S1 2) (fauA s.1) := hI.fau (by show f1 8 ≠ 0; omega)
  refine j_aload_n 0 dX9_kindOfFault_4 rfl rfl ?_
  refine j_iload_n 1 dX9_kindOfFault_5 rfl rfl ?_
  by_cases t6 : 0 ≤ m ∧ m < ((fauA s.1).length : Int)
  · refine J_callV0 (show jLk _ _ yX9_checkFault z9_checkFault _ from kX9_254) cvX9_checkFault hD.1 (c0_X9_checkFault hD hI hZ hm e5 t6) rfl rfl rfl rfl rfl dX9_kindOfFault_6 rfl rfl ?_
    refine j_aload_n 0 dX9_kindOfFault_9 rfl rfl ?_
    refine j_get fX9_47 dX9_kindOfFault_10 hD.1 rfl ?_
    refine j_iload_n 1 dX9_kindOfFault_13 rfl rfl ?_
    refine J_callV1 kX9_257 cvX2_kindAt (hD.2.2.2.2.1).1 (c_X2_kindAt (hD.2.2.2.2.1) hI.2.2.2.2.1.1 hm) rfl rfl rfl rfl rfl dX9_kindOfFault_14 rfl rfl ?_
    refine J_top (((fauA s.1)[m.toNat]?.getD (0, 0, 0)).1) ?_ (by rw [if_pos ⟨t6.1, by rw [show ((s.1, S1, f1) : DS).2.1 2 = S1 2 from rfl, hL.1]; exact t6.2⟩]; exact (hL.get t6.1 t6.2).1)
    refine j_iret rfl dX9_kindOfFault_17 ?_
    exact ⟨by rw [if_pos t6], ⟨(s.1, S1, f1), hD, hI, rfl, e2, True.intro, hF⟩⟩
  · refine J_callVX kX9_254 cvX9_checkFault hD.1 (c_X9_checkFault hl0 hD hI hZ hm e5 t6) rfl rfl rfl rfl rfl dX9_kindOfFault_6 rfl (by decide) (by decide) (fun h9 hp => ?_)
    exact ⟨by rw [if_neg t6], (s.1, S1, f1), hp.symm ▸ hD, hI, rfl, e2, True.intro, hp.symm ▸ hF⟩
set_option maxRecDepth 100000 in
theorem c_X9_tickOfFault {l : Launch} {G : jG} {h : jH} {a : Nat} {d : DA} {s : DS} {Z : Nat → Nat} {m : Int} (hl0 : l.stackTraces = false) (hD : Desk G h a d s) (hI : DI s) (hZ : Dz a d Z) (hm : rg m) : jC l G yX9_tickOfFault mX9_tickOfFault [.ref a, vI m] h (jW (if 0 ≤ m ∧ m < ((fauA s.1).length : Int) then oI (((fauA s.1)[m.toNat]?.getD (0, 0, 0)).2.1) else .inr "java/lang/IndexOutOfBoundsException") (DP G a d s h (fun _ => True))) := by
  refine j_body (by decide +kernel) ⟨rfl, rfl⟩ rfl ?_
  refine j_aload_n 0 dX9_tickOfFault_0 rfl rfl ?_
  refine J_callVW0 kX9_250 cvX9_searchFaults hD.1 (c_X9_searchFaults hD hI hZ) rfl rfl rfl rfl rfl dX9_tickOfFault_1 rfl rfl (fun h hp => ?_)
  obtain ⟨s1, hD, hI, e1, e2, ⟨e3, e5, e4⟩, hF⟩ := hp
  obtain ⟨P1, S1, f1⟩ := s1
  obtain rfl : P1 = s.1 := e1
  have e2 : S1 0 = s.2.1 0 := e2
  have e5 : f1 8 = 1 := e5
  have hL : LstAt (S1 2) (fauA s.1) := hI.fau (by show f1 8 ≠ 0; omega)
  refine j_aload_n 0 dX9_tickOfFault_4 rfl rfl ?_
  refine j_iload_n 1 dX9_tickOfFault_5 rfl rfl ?_
  by_cases t6 : 0 ≤ m ∧ m < ((fauA s.1).length : Int)
  · refine J_callV0 (show jLk _ _ yX9_checkFault z9_checkFault _ from kX9_254) cvX9_checkFault hD.1 (c0_X9_checkFault hD hI hZ hm e5 t6) rfl rfl rfl rfl rfl dX9_tickOfFault_6 rfl rfl ?_
    refine j_aload_n 0 dX9_tickOfFault_9 rfl rfl ?_
    refine j_get fX9_47 dX9_tickOfFault_10 hD.1 rfl ?_
    refine j_iload_n 1 dX9_tickOfFault_13 rfl rfl ?_
    refine J_callV1 kX9_260 cvX2_tickAt (hD.2.2.2.2.1).1 (c_X2_tickAt (hD.2.2.2.2.1) hI.2.2.2.2.1.1 hm) rfl rfl rfl rfl rfl dX9_tickOfFault_14 rfl rfl ?_
    refine J_top (((fauA s.1)[m.toNat]?.getD (0, 0, 0)).2.1) ?_ (by rw [if_pos ⟨t6.1, by rw [show ((s.1, S1, f1) : DS).2.1 2 = S1 2 from rfl, hL.1]; exact t6.2⟩]; exact (hL.get t6.1 t6.2).2.1)
    refine j_iret rfl dX9_tickOfFault_17 ?_
    exact ⟨by rw [if_pos t6], ⟨(s.1, S1, f1), hD, hI, rfl, e2, True.intro, hF⟩⟩
  · refine J_callVX kX9_254 cvX9_checkFault hD.1 (c_X9_checkFault hl0 hD hI hZ hm e5 t6) rfl rfl rfl rfl rfl dX9_tickOfFault_6 rfl (by decide) (by decide) (fun h9 hp => ?_)
    exact ⟨by rw [if_neg t6], (s.1, S1, f1), hp.symm ▸ hD, hI, rfl, e2, True.intro, hp.symm ▸ hF⟩
set_option maxRecDepth 100000 in
theorem c_X9_partsOfFault {l : Launch} {G : jG} {h : jH} {a : Nat} {d : DA} {s : DS} {Z : Nat → Nat} {m : Int} (hl0 : l.stackTraces = false) (hD : Desk G h a d s) (hI : DI s) (hZ : Dz a d Z) (hm : rg m) : jC l G yX9_partsOfFault mX9_partsOfFault [.ref a, vI m] h (jW (if 0 ≤ m ∧ m < ((fauA s.1).length : Int) then oI (((fauA s.1)[m.toNat]?.getD (0, 0, 0)).2.2) else .inr "java/lang/IndexOutOfBoundsException") (DP G a d s h (fun _ => True))) := by
  refine j_body (by decide +kernel) ⟨rfl, rfl⟩ rfl ?_
  refine j_aload_n 0 dX9_partsOfFault_0 rfl rfl ?_
  refine J_callVW0 kX9_250 cvX9_searchFaults hD.1 (c_X9_searchFaults hD hI hZ) rfl rfl rfl rfl rfl dX9_partsOfFault_1 rfl rfl (fun h hp => ?_)
  obtain ⟨s1, hD, hI, e1, e2, ⟨e3, e5, e4⟩, hF⟩ := hp
  obtain ⟨P1, S1, f1⟩ := s1
  obtain rfl : P1 = s.1 := e1
  have e2 : S1 0 = s.2.1 0 := e2
  have e5 : f1 8 = 1 := e5
  have hL : LstAt (S1 2) (fauA s.1) := hI.fau (by show f1 8 ≠ 0; omega)
  refine j_aload_n 0 dX9_partsOfFault_4 rfl rfl ?_
  refine j_iload_n 1 dX9_partsOfFault_5 rfl rfl ?_
  by_cases t6 : 0 ≤ m ∧ m < ((fauA s.1).length : Int)
  · refine J_callV0 (show jLk _ _ yX9_checkFault z9_checkFault _ from kX9_254) cvX9_checkFault hD.1 (c0_X9_checkFault hD hI hZ hm e5 t6) rfl rfl rfl rfl rfl dX9_partsOfFault_6 rfl rfl ?_
    refine j_aload_n 0 dX9_partsOfFault_9 rfl rfl ?_
    refine j_get fX9_47 dX9_partsOfFault_10 hD.1 rfl ?_
    refine j_iload_n 1 dX9_partsOfFault_13 rfl rfl ?_
    refine J_callV1 kX9_261 cvX2_partsAt (hD.2.2.2.2.1).1 (c_X2_partsAt (hD.2.2.2.2.1) hI.2.2.2.2.1.1 hm) rfl rfl rfl rfl rfl dX9_partsOfFault_14 rfl rfl ?_
    refine J_top (((fauA s.1)[m.toNat]?.getD (0, 0, 0)).2.2) ?_ (by rw [if_pos ⟨t6.1, by rw [show ((s.1, S1, f1) : DS).2.1 2 = S1 2 from rfl, hL.1]; exact t6.2⟩]; exact (hL.get t6.1 t6.2).2.2)
    refine j_iret rfl dX9_partsOfFault_17 ?_
    exact ⟨by rw [if_pos t6], ⟨(s.1, S1, f1), hD, hI, rfl, e2, True.intro, hF⟩⟩
  · refine J_callVX kX9_254 cvX9_checkFault hD.1 (c_X9_checkFault hl0 hD hI hZ hm e5 t6) rfl rfl rfl rfl rfl dX9_partsOfFault_6 rfl (by decide) (by decide) (fun h9 hp => ?_)
    exact ⟨by rw [if_neg t6], (s.1, S1, f1), hp.symm ▸ hD, hI, rfl, e2, True.intro, hp.symm ▸ hF⟩
set_option maxRecDepth 100000 in
theorem c_X9_bars {l : Launch} {G : jG} {h : jH} {a : Nat} {d : DA} {s : DS} {Z : Nat → Nat}  (hD : Desk G h a d s) (hI : DI s) (hZ : Dz a d Z)  : jC l G yX9_bars mX9_bars [.ref a] h (jW (oI (barsA s.1 (s.2.1 0))) (DP G a d s h (fun _ => True))) := by
  refine j_body (by decide +kernel) ⟨rfl, rfl⟩ rfl ?_
  have hle := lastE_rg hI.1
  refine j_aload_n 0 dX9_bars_0 rfl rfl ?_
  refine j_get fX9_19 dX9_bars_1 hD.1 rfl ?_
  refine j_aload_n 0 dX9_bars_4 rfl rfl ?_
  refine J_callV1 kX9_274 cvX9_lastEnd hD.1 (c_X9_lastEnd hD hI hZ) rfl rfl rfl rfl rfl dX9_bars_5 rfl rfl ?_
  refine J_callV1 kX9_277 cvX0_barsUpTo (hD.2.2.1).1 (c_X0_barsUpTo (hD.2.2.1) hI.2.2.1.1.1 (by have := hI.2.2.1.1.2.1; omega) (by omega)) rfl rfl rfl rfl rfl dX9_bars_8 rfl rfl ?_
  refine J_top (barsA s.1 (s.2.1 0)) ?_ (by rfl)
  refine j_iret rfl dX9_bars_11 ?_
  exact ⟨rfl, DP.same hD hI⟩
set_option maxRecDepth 100000 in
theorem c_X9_widthOf {l : Launch} {G : jG} {h : jH} {a : Nat} {d : DA} {s : DS} {Z : Nat → Nat} {b : Int} (hl0 : l.stackTraces = false) (hD : Desk G h a d s) (hI : DI s) (hZ : Dz a d Z) (hb : rg b) : jC l G yX9_widthOf mX9_widthOf [.ref a, vI b] h (jW (if isBar b then oI (widF s.1 (s.2.1 0) b) else .inr "java/lang/IndexOutOfBoundsException") (DP G a d s h (fun _ => True))) := by
  refine j_body (by decide +kernel) ⟨rfl, rfl⟩ rfl ?_
  refine j_iload_n 1 dX9_widthOf_0 rfl rfl ?_
  by_cases t1 : isBar b
  · refine J_callS0 (show jLk _ _ yX9_checkBar z9_checkBar _ from kX9_127) csX9_checkBar (c0_X9_checkBar hb t1) rfl rfl rfl rfl rfl dX9_widthOf_1 rfl rfl ?_
    refine j_aload_n 0 dX9_widthOf_4 rfl rfl ?_
    refine J_callVW0 kX9_280 cvX9_measureWidths hD.1 (c_X9_measureWidths hD hI hZ) rfl rfl rfl rfl rfl dX9_widthOf_5 rfl rfl (fun h hp => ?_)
    obtain ⟨s1, hD, hI, e1, e2, ⟨e3, e5, e4⟩, hF⟩ := hp
    obtain ⟨P1, S1, f1⟩ := s1
    obtain rfl : P1 = s.1 := e1
    have e2 : S1 0 = s.2.1 0 := e2
    have e5 : f1 9 = 1 := e5
    have hW : WidOK s.1 (S1 0) (S1 4) := hI.wid (by show f1 9 ≠ 0; omega)
    rw [e2] at hW
    refine j_aload_n 0 dX9_widthOf_8 rfl rfl ?_
    refine j_get fX9_54 dX9_widthOf_9 hD.1 rfl ?_
    refine j_iload_n 1 dX9_widthOf_12 rfl rfl ?_
    refine J_callV1 kX9_283 cvX4_widthAt (hD.2.2.2.2.2.2.1).1 (c_X4_widthAt (hD.2.2.2.2.2.2.1) hb) rfl rfl rfl rfl rfl dX9_widthOf_13 rfl rfl ?_
    refine J_top (widF s.1 (s.2.1 0) b) ?_ (by rw [if_pos t1]; exact hW b t1.1 t1.2)
    refine j_iret rfl dX9_widthOf_16 ?_
    exact ⟨by rw [if_pos t1], ⟨(s.1, S1, f1), hD, hI, rfl, e2, True.intro, hF⟩⟩
  · refine J_callSX kX9_127 csX9_checkBar (c_X9_checkBar hl0 hb t1) rfl rfl rfl rfl rfl dX9_widthOf_1 rfl (by decide) (by decide) (fun h9 hp => ?_)
    exact ⟨by rw [if_neg (t1)], DP.eq hp hD hI⟩
set_option maxRecDepth 100000 in
theorem c_X9_lines {l : Launch} {G : jG} {h : jH} {a : Nat} {d : DA} {s : DS} {Z : Nat → Nat} {w : Int} (hl0 : l.stackTraces = false) (hD : Desk G h a d s) (hI : DI s) (hZ : Dz a d Z) (hw : rg w) : jC l G yX9_lines mX9_lines [.ref a, vI w] h (jW (if 10 ≤ w ∧ w ≤ 400 then oI ((lnP s.1 (s.2.1 0) (barsA s.1 (s.2.1 0)) w).1 4) else .inr "java/lang/IllegalArgumentException") (DP G a d s h (fun _ => True))) := by
  refine j_body (by decide +kernel) ⟨rfl, rfl⟩ rfl ?_
  refine j_iload_n 1 dX9_lines_0 rfl rfl ?_
  by_cases t1 : 10 ≤ w ∧ w ≤ 400
  · refine J_callS0 (show jLk _ _ yX9_checkWidth z9_checkWidth _ from kX9_286) csX9_checkWidth (c0_X9_checkWidth hw t1) rfl rfl rfl rfl rfl dX9_lines_1 rfl rfl ?_
    have tw := t1
    refine j_aload_n 0 dX9_lines_4 rfl rfl ?_
    refine J_callVW0 kX9_280 cvX9_measureWidths hD.1 (c_X9_measureWidths hD hI hZ) rfl rfl rfl rfl rfl dX9_lines_5 rfl rfl (fun h hp => ?_)
    obtain ⟨s1, hD, hI, e1, e2, ⟨e3, e5, e4⟩, hF⟩ := hp
    obtain ⟨P1, S1, f1⟩ := s1
    obtain rfl : P1 = s.1 := e1
    have e2 : S1 0 = s.2.1 0 := e2
    have e5 : f1 9 = 1 := e5
    have hW : WidOK s.1 (S1 0) (S1 4) := hI.wid (by show f1 9 ≠ 0; omega)
    rw [e2] at hW
    refine j_aload_n 0 dX9_lines_8 rfl rfl ?_
    refine j_iload_n 1 dX9_lines_9 rfl rfl ?_
    refine J_callVW0 kX9_289 cvX9_breakLines hD.1 (c_X9_breakLines hD hI hZ tw e5) rfl rfl rfl rfl rfl dX9_lines_10 rfl rfl (fun h hp => ?_)
    obtain ⟨s2, hD, hI, g1, g2, ⟨g3, g4⟩, hF8⟩ := hp
    have hF := hF.tr hF8
    have g4 : BrkEq (s2.2.1 4) (lnP s.1 (S1 0) (barsA s.1 (S1 0)) w) := g4
    rw [e2] at g4
    refine j_aload_n 0 dX9_lines_13 rfl rfl ?_
    refine j_get fX9_54 dX9_lines_14 hD.1 rfl ?_
    refine J_callV1 kX9_292 cvX4_size (hD.2.2.2.2.2.2.1).1 (c_X4_size (hD.2.2.2.2.2.2.1)) rfl rfl rfl rfl rfl dX9_lines_17 rfl rfl ?_
    refine J_top ((lnP s.1 (s.2.1 0) (barsA s.1 (s.2.1 0)) w).1 4) ?_ (by exact g4.1)
    refine j_iret rfl dX9_lines_20 ?_
    exact ⟨by rw [if_pos t1], s2, hD, hI, g1, g2.trans e2, True.intro, hF⟩
  · refine J_callSX kX9_286 csX9_checkWidth (c_X9_checkWidth hl0 hw t1) rfl rfl rfl rfl rfl dX9_lines_1 rfl (by decide) (by decide) (fun h9 hp => ?_)
    exact ⟨by rw [if_neg (t1)], DP.eq hp hD hI⟩
set_option maxRecDepth 100000 in
theorem c_X9_costOf {l : Launch} {G : jG} {h : jH} {a : Nat} {d : DA} {s : DS} {Z : Nat → Nat} {w : Int} (hl0 : l.stackTraces = false) (hD : Desk G h a d s) (hI : DI s) (hZ : Dz a d Z) (hw : rg w) : jC l G yX9_costOf mX9_costOf [.ref a, vI w] h (jW (if 10 ≤ w ∧ w ≤ 400 then oI ((lnP s.1 (s.2.1 0) (barsA s.1 (s.2.1 0)) w).2 1 0) else .inr "java/lang/IllegalArgumentException") (DP G a d s h (fun _ => True))) := by
  refine j_body (by decide +kernel) ⟨rfl, rfl⟩ rfl ?_
  refine j_iload_n 1 dX9_costOf_0 rfl rfl ?_
  by_cases t1 : 10 ≤ w ∧ w ≤ 400
  · refine J_callS0 (show jLk _ _ yX9_checkWidth z9_checkWidth _ from kX9_286) csX9_checkWidth (c0_X9_checkWidth hw t1) rfl rfl rfl rfl rfl dX9_costOf_1 rfl rfl ?_
    have tw := t1
    refine j_aload_n 0 dX9_costOf_4 rfl rfl ?_
    refine J_callVW0 kX9_280 cvX9_measureWidths hD.1 (c_X9_measureWidths hD hI hZ) rfl rfl rfl rfl rfl dX9_costOf_5 rfl rfl (fun h hp => ?_)
    obtain ⟨s1, hD, hI, e1, e2, ⟨e3, e5, e4⟩, hF⟩ := hp
    obtain ⟨P1, S1, f1⟩ := s1
    obtain rfl : P1 = s.1 := e1
    have e2 : S1 0 = s.2.1 0 := e2
    have e5 : f1 9 = 1 := e5
    have hW : WidOK s.1 (S1 0) (S1 4) := hI.wid (by show f1 9 ≠ 0; omega)
    rw [e2] at hW
    refine j_aload_n 0 dX9_costOf_8 rfl rfl ?_
    refine j_iload_n 1 dX9_costOf_9 rfl rfl ?_
    refine J_callVW0 kX9_289 cvX9_breakLines hD.1 (c_X9_breakLines hD hI hZ tw e5) rfl rfl rfl rfl rfl dX9_costOf_10 rfl rfl (fun h hp => ?_)
    obtain ⟨s2, hD, hI, g1, g2, ⟨g3, g4⟩, hF8⟩ := hp
    have hF := hF.tr hF8
    have g4 : BrkEq (s2.2.1 4) (lnP s.1 (S1 0) (barsA s.1 (S1 0)) w) := g4
    rw [e2] at g4
    refine j_aload_n 0 dX9_costOf_13 rfl rfl ?_
    refine j_get fX9_54 dX9_costOf_14 hD.1 rfl ?_
    refine J_callV1 kX9_296 cvX4_leastCost (hD.2.2.2.2.2.2.1).1 (c_X4_leastCost (hD.2.2.2.2.2.2.1)) rfl rfl rfl rfl rfl dX9_costOf_17 rfl rfl ?_
    refine J_top ((lnP s.1 (s.2.1 0) (barsA s.1 (s.2.1 0)) w).2 1 0) ?_ (by exact g4.2.1)
    refine j_iret rfl dX9_costOf_20 ?_
    exact ⟨by rw [if_pos t1], s2, hD, hI, g1, g2.trans e2, True.intro, hF⟩
  · refine J_callSX kX9_286 csX9_checkWidth (c_X9_checkWidth hl0 hw t1) rfl rfl rfl rfl rfl dX9_costOf_1 rfl (by decide) (by decide) (fun h9 hp => ?_)
    exact ⟨by rw [if_neg (t1)], DP.eq hp hD hI⟩
set_option maxRecDepth 100000 in
theorem c_X9_lineOf {l : Launch} {G : jG} {h : jH} {a : Nat} {d : DA} {s : DS} {Z : Nat → Nat} {w b : Int} (hl0 : l.stackTraces = false) (hD : Desk G h a d s) (hI : DI s) (hZ : Dz a d Z) (hw : rg w) (hb : rg b) : jC l G yX9_lineOf mX9_lineOf [.ref a, vI w, vI b] h (jW (if isBar b then (if 10 ≤ w ∧ w ≤ 400 then oI ((lnP s.1 (s.2.1 0) (barsA s.1 (s.2.1 0)) w).2 3 b) else .inr "java/lang/IllegalArgumentException") else .inr "java/lang/IndexOutOfBoundsException") (DP G a d s h (fun _ => True))) := by
  refine j_body (by decide +kernel) ⟨rfl, rfl⟩ rfl ?_
  refine j_iload_n 2 dX9_lineOf_0 rfl rfl ?_
  by_cases t1 : isBar b
  · refine J_callS0 (show jLk _ _ yX9_checkBar z9_checkBar _ from kX9_127) csX9_checkBar (c0_X9_checkBar hb t1) rfl rfl rfl rfl rfl dX9_lineOf_1 rfl rfl ?_
    refine j_iload_n 1 dX9_lineOf_4 rfl rfl ?_
    by_cases t5 : 10 ≤ w ∧ w ≤ 400
    · refine J_callS0 (show jLk _ _ yX9_checkWidth z9_checkWidth _ from kX9_286) csX9_checkWidth (c0_X9_checkWidth hw t5) rfl rfl rfl rfl rfl dX9_lineOf_5 rfl rfl ?_
      have tw := t5
      refine j_aload_n 0 dX9_lineOf_8 rfl rfl ?_
      refine J_callVW0 kX9_280 cvX9_measureWidths hD.1 (c_X9_measureWidths hD hI hZ) rfl rfl rfl rfl rfl dX9_lineOf_9 rfl rfl (fun h hp => ?_)
      obtain ⟨s1, hD, hI, e1, e2, ⟨e3, e5, e4⟩, hF⟩ := hp
      obtain ⟨P1, S1, f1⟩ := s1
      obtain rfl : P1 = s.1 := e1
      have e2 : S1 0 = s.2.1 0 := e2
      have e5 : f1 9 = 1 := e5
      have hW : WidOK s.1 (S1 0) (S1 4) := hI.wid (by show f1 9 ≠ 0; omega)
      rw [e2] at hW
      refine j_aload_n 0 dX9_lineOf_12 rfl rfl ?_
      refine j_iload_n 1 dX9_lineOf_13 rfl rfl ?_
      refine J_callVW0 kX9_289 cvX9_breakLines hD.1 (c_X9_breakLines hD hI hZ tw e5) rfl rfl rfl rfl rfl dX9_lineOf_14 rfl rfl (fun h hp => ?_)
      obtain ⟨s2, hD, hI, g1, g2, ⟨g3, g4⟩, hF8⟩ := hp
      have hF := hF.tr hF8
      have g4 : BrkEq (s2.2.1 4) (lnP s.1 (S1 0) (barsA s.1 (S1 0)) w) := g4
      rw [e2] at g4
      refine j_aload_n 0 dX9_lineOf_17 rfl rfl ?_
      refine j_get fX9_54 dX9_lineOf_18 hD.1 rfl ?_
      refine j_iload_n 2 dX9_lineOf_21 rfl rfl ?_
      refine J_callV1 kX9_293 cvX4_lineAt (hD.2.2.2.2.2.2.1).1 (c_X4_lineAt (hD.2.2.2.2.2.2.1) hb) rfl rfl rfl rfl rfl dX9_lineOf_22 rfl rfl ?_
      refine J_top ((lnP s.1 (s.2.1 0) (barsA s.1 (s.2.1 0)) w).2 3 b) ?_ (by rw [if_pos t1]; exact g4.2.2 b t1.1 t1.2)
      refine j_iret rfl dX9_lineOf_25 ?_
      exact ⟨by rw [if_pos t1, if_pos t5], s2, hD, hI, g1, g2.trans e2, True.intro, hF⟩
    · refine J_callSX kX9_286 csX9_checkWidth (c_X9_checkWidth hl0 hw t5) rfl rfl rfl rfl rfl dX9_lineOf_5 rfl (by decide) (by decide) (fun h9 hp => ?_)
      exact ⟨by rw [if_pos t1, if_neg t5], DP.eq hp hD hI⟩
  · refine J_callSX kX9_127 csX9_checkBar (c_X9_checkBar hl0 hb t1) rfl rfl rfl rfl rfl dX9_lineOf_1 rfl (by decide) (by decide) (fun h9 hp => ?_)
    exact ⟨by rw [if_neg (t1)], DP.eq hp hD hI⟩
