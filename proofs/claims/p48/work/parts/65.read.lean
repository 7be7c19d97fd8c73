theorem DP.same {G : jG} {h : jH} {a : Nat} {d : DA} {s : DS} (hD : Desk G h a d s) (hI : DI s) : DP G a d s h (fun _ => True) h := ⟨s, hD, hI, rfl, rfl, True.intro, Fr.rf⟩
theorem DP.eq {G : jG} {h h9 : jH} {a : Nat} {d : DA} {s : DS} (e : h9 = h) (hD : Desk G h a d s) (hI : DI s) : DP G a d s h (fun _ => True) h9 := by
  subst e
  exact DP.same hD hI
theorem DP.any {G : jG} {h h' : jH} {a : Nat} {d : DA} {s : DS} {R : DS → Prop} (x : DP G a d s h R h') : DP G a d s h (fun _ => True) h' := by
  obtain ⟨s', h1, h2, h3, h4, -, h6⟩ := x
  exact ⟨s', h1, h2, h3, h4, True.intro, h6⟩
set_option maxRecDepth 100000 in
theorem c_X9_events {l : Launch} {G : jG} {h : jH} {a : Nat} {d : DA} {s : DS} {Z : Nat → Nat} {k : Int} (hl0 : l.stackTraces = false) (hD : Desk G h a d s) (hI : DI s) (hZ : Dz a d Z) (hk : rg k) : jC l G yX9_events mX9_events [.ref a, vI k] h (jW (if 0 ≤ k ∧ k < 4 then oI ((s.1 k.toNat).1 7) else .inr "java/lang/IndexOutOfBoundsException") (DP G a d s h (fun _ => True))) := by
  refine j_body (by decide +kernel) ⟨rfl, rfl⟩ rfl ?_
  refine j_aload_n 0 dX9_events_0 rfl rfl ?_
  refine j_iload_n 1 dX9_events_1 rfl rfl ?_
  by_cases t2 : 0 ≤ k ∧ k < 4
  · refine J_callV1 (show jLk _ _ yX9_partAt z9_partAt _ from kX9_75) cvX9_partAt hD.1 (c0_X9_partAt hD hI hZ t2) rfl rfl rfl rfl rfl dX9_events_2 rfl rfl ?_
    have hPk := hD.2.1.2 k.toNat (by omega)
    have hPt := hI.1 k.toNat (by omega)
    refine J_callV1 kX9_98 cvX6_size hPk.1 (c_X6_size hPk) rfl rfl rfl rfl rfl dX9_events_5 rfl rfl ?_
    refine j_iret rfl dX9_events_8 ?_
    exact ⟨by rw [if_pos t2], DP.same hD hI⟩
  · refine J_callVX kX9_75 cvX9_partAt hD.1 (c_X9_partAt hl0 hD hI hZ hk t2) rfl rfl rfl rfl rfl dX9_events_2 rfl (by decide) (by decide) (fun h9 hp => ?_)
    exact ⟨by rw [if_neg (t2)], DP.eq hp hD hI⟩
set_option maxRecDepth 100000 in
theorem c_X9_heightOf {l : Launch} {G : jG} {h : jH} {a : Nat} {d : DA} {s : DS} {Z : Nat → Nat} {k e : Int} (hl0 : l.stackTraces = false) (hD : Desk G h a d s) (hI : DI s) (hZ : Dz a d Z) (hk : rg k) (he : rg e) : jC l G yX9_heightOf mX9_heightOf [.ref a, vI k, vI e] h (jW (if (0 ≤ k ∧ k < 4) ∧ inP (s.1 k.toNat) e then oI ((s.1 k.toNat).2 2 e) else .inr "java/lang/IndexOutOfBoundsException") (DP G a d s h (fun _ => True))) := by
  refine j_body (by decide +kernel) ⟨rfl, rfl⟩ rfl ?_
  refine j_aload_n 0 dX9_heightOf_0 rfl rfl ?_
  refine j_iload_n 1 dX9_heightOf_1 rfl rfl ?_
  refine j_iload_n 2 dX9_heightOf_2 rfl rfl ?_
  by_cases t3 : (0 ≤ k ∧ k < 4) ∧ inP (s.1 k.toNat) e
  · refine J_callV1 (show jLk _ _ yX9_partWith z9_partWith _ from kX9_112) cvX9_partWith hD.1 (c0_X9_partWith hD hI hZ he t3) rfl rfl rfl rfl rfl dX9_heightOf_3 rfl rfl ?_
    have hPk := hD.2.1.2 k.toNat (by have := t3.1; omega)
    have hPt := hI.1 k.toNat (by have := t3.1; omega)
    refine j_iload_n 2 dX9_heightOf_6 rfl rfl ?_
    refine J_callV1 kX9_119 cvX6_heightAt hPk.1 (c_X6_heightAt hPk hPt.1 he) rfl rfl rfl rfl rfl dX9_heightOf_7 rfl rfl ?_
    refine J_top ((s.1 k.toNat).2 2 e) ?_ (by exact if_pos t3.2)
    refine j_iret rfl dX9_heightOf_10 ?_
    exact ⟨by rw [if_pos t3], DP.same hD hI⟩
  · refine J_callVX kX9_112 cvX9_partWith hD.1 (c_X9_partWith hl0 hD hI hZ hk he t3) rfl rfl rfl rfl rfl dX9_heightOf_3 rfl (by decide) (by decide) (fun h9 hp => ?_)
    exact ⟨by rw [if_neg (t3)], DP.eq hp hD hI⟩
set_option maxRecDepth 100000 in
theorem c_X9_writtenPlace {l : Launch} {G : jG} {h : jH} {a : Nat} {d : DA} {s : DS} {Z : Nat → Nat} {k e : Int} (hl0 : l.stackTraces = false) (hD : Desk G h a d s) (hI : DI s) (hZ : Dz a d Z) (hk : rg k) (he : rg e) : jC l G yX9_writtenPlace mX9_writtenPlace [.ref a, vI k, vI e] h (jW (if (0 ≤ k ∧ k < 4) ∧ inP (s.1 k.toNat) e then oI ((s.1 k.toNat).2 5 e) else .inr "java/lang/IndexOutOfBoundsException") (DP G a d s h (fun _ => True))) := by
  refine j_body (by decide +kernel) ⟨rfl, rfl⟩ rfl ?_
  refine j_aload_n 0 dX9_writtenPlace_0 rfl rfl ?_
  refine j_iload_n 1 dX9_writtenPlace_1 rfl rfl ?_
  refine j_iload_n 2 dX9_writtenPlace_2 rfl rfl ?_
  by_cases t3 : (0 ≤ k ∧ k < 4) ∧ inP (s.1 k.toNat) e
  · refine J_callV1 (show jLk _ _ yX9_partWith z9_partWith _ from kX9_112) cvX9_partWith hD.1 (c0_X9_partWith hD hI hZ he t3) rfl rfl rfl rfl rfl dX9_writtenPlace_3 rfl rfl ?_
    have hPk := hD.2.1.2 k.toNat (by have := t3.1; omega)
    have hPt := hI.1 k.toNat (by have := t3.1; omega)
    refine j_iload_n 2 dX9_writtenPlace_6 rfl rfl ?_
    refine J_callV1 kX9_172 cvX6_writtenPlaceAt hPk.1 (c_X6_writtenPlaceAt hPk hPt.1 he) rfl rfl rfl rfl rfl dX9_writtenPlace_7 rfl rfl ?_
    refine J_top ((s.1 k.toNat).2 5 e) ?_ (by exact if_pos t3.2)
    refine j_iret rfl dX9_writtenPlace_10 ?_
    exact ⟨by rw [if_pos t3], DP.same hD hI⟩
  · refine J_callVX kX9_112 cvX9_partWith hD.1 (c_X9_partWith hl0 hD hI hZ hk he t3) rfl rfl rfl rfl rfl dX9_writtenPlace_3 rfl (by decide) (by decide) (fun h9 hp => ?_)
    exact ⟨by rw [if_neg (t3)], DP.eq hp hD hI⟩
set_option maxRecDepth 100000 in
theorem c_X9_writtenAlter {l : Launch} {G : jG} {h : jH} {a : Nat} {d : DA} {s : DS} {Z : Nat → Nat} {k e : Int} (hl0 : l.stackTraces = false) (hD : Desk G h a d s) (hI : DI s) (hZ : Dz a d Z) (hk : rg k) (he : rg e) : jC l G yX9_writtenAlter mX9_writtenAlter [.ref a, vI k, vI e] h (jW (if (0 ≤ k ∧ k < 4) ∧ inP (s.1 k.toNat) e then oI ((s.1 k.toNat).2 6 e) else .inr "java/lang/IndexOutOfBoundsException") (DP G a d s h (fun _ => True))) := by
  refine j_body (by decide +kernel) ⟨rfl, rfl⟩ rfl ?_
  refine j_aload_n 0 dX9_writtenAlter_0 rfl rfl ?_
  refine j_iload_n 1 dX9_writtenAlter_1 rfl rfl ?_
  refine j_iload_n 2 dX9_writtenAlter_2 rfl rfl ?_
  by_cases t3 : (0 ≤ k ∧ k < 4) ∧ inP (s.1 k.toNat) e
  · refine J_callV1 (show jLk _ _ yX9_partWith z9_partWith _ from kX9_112) cvX9_partWith hD.1 (c0_X9_partWith hD hI hZ he t3) rfl rfl rfl rfl rfl dX9_writtenAlter_3 rfl rfl ?_
    have hPk := hD.2.1.2 k.toNat (by have := t3.1; omega)
    have hPt := hI.1 k.toNat (by have := t3.1; omega)
    refine j_iload_n 2 dX9_writtenAlter_6 rfl rfl ?_
    refine J_callV1 kX9_175 cvX6_writtenAlterAt hPk.1 (c_X6_writtenAlterAt hPk hPt.1 he) rfl rfl rfl rfl rfl dX9_writtenAlter_7 rfl rfl ?_
    refine J_top ((s.1 k.toNat).2 6 e) ?_ (by exact if_pos t3.2)
    refine j_iret rfl dX9_writtenAlter_10 ?_
    exact ⟨by rw [if_pos t3], DP.same hD hI⟩
  · refine J_callVX kX9_112 cvX9_partWith hD.1 (c_X9_partWith hl0 hD hI hZ hk he t3) rfl rfl rfl rfl rfl dX9_writtenAlter_3 rfl (by decide) (by decide) (fun h9 hp => ?_)
    exact ⟨by rw [if_neg (t3)], DP.eq hp hD hI⟩
set_option maxRecDepth 100000 in
theorem c_X9_beginOfBar {l : Launch} {G : jG} {h : jH} {a : Nat} {d : DA} {s : DS} {Z : Nat → Nat} {b : Int} (hl0 : l.stackTraces = false) (hD : Desk G h a d s) (hI : DI s) (hZ : Dz a d Z) (hb : rg b) : jC l G yX9_beginOfBar mX9_beginOfBar [.ref a, vI b] h (jW (if isBar b then oI (sumN ((s.2.1 0).2 2) b.toNat) else .inr "java/lang/IndexOutOfBoundsException") (DP G a d s h (fun _ => True))) := by
  refine j_body (by decide +kernel) ⟨rfl, rfl⟩ rfl ?_
  refine j_iload_n 1 dX9_beginOfBar_0 rfl rfl ?_
  by_cases t1 : isBar b
  · refine J_callS0 (show jLk _ _ yX9_checkBar z9_checkBar _ from kX9_127) csX9_checkBar (c0_X9_checkBar hb t1) rfl rfl rfl rfl rfl dX9_beginOfBar_1 rfl rfl ?_
    refine j_aload_n 0 dX9_beginOfBar_4 rfl rfl ?_
    refine j_get fX9_19 dX9_beginOfBar_5 hD.1 rfl ?_
    refine j_iload_n 1 dX9_beginOfBar_8 rfl rfl ?_
    refine J_callV1 kX9_189 cvX0_beginAt (hD.2.2.1).1 (c_X0_beginAt (hD.2.2.1) hb) rfl rfl rfl rfl rfl dX9_beginOfBar_9 rfl rfl ?_
    refine J_top (sumN ((s.2.1 0).2 2) b.toNat) ?_ (by (rw [show (min b 24).toNat = b.toNat by omega]))
    refine j_iret rfl dX9_beginOfBar_12 ?_
    exact ⟨by rw [if_pos t1], DP.same hD hI⟩
  · refine J_callSX kX9_127 csX9_checkBar (c_X9_checkBar hl0 hb t1) rfl rfl rfl rfl rfl dX9_beginOfBar_1 rfl (by decide) (by decide) (fun h9 hp => ?_)
    exact ⟨by rw [if_neg (t1)], DP.eq hp hD hI⟩
set_option maxRecDepth 100000 in
theorem c_X9_lengthOfBar {l : Launch} {G : jG} {h : jH} {a : Nat} {d : DA} {s : DS} {Z : Nat → Nat} {b : Int} (hl0 : l.stackTraces = false) (hD : Desk G h a d s) (hI : DI s) (hZ : Dz a d Z) (hb : rg b) : jC l G yX9_lengthOfBar mX9_lengthOfBar [.ref a, vI b] h (jW (if isBar b then oI ((s.2.1 0).2 2 b) else .inr "java/lang/IndexOutOfBoundsException") (DP G a d s h (fun _ => True))) := by
  refine j_body (by decide +kernel) ⟨rfl, rfl⟩ rfl ?_
  refine j_iload_n 1 dX9_lengthOfBar_0 rfl rfl ?_
  by_cases t1 : isBar b
  · refine J_callS0 (show jLk _ _ yX9_checkBar z9_checkBar _ from kX9_127) csX9_checkBar (c0_X9_checkBar hb t1) rfl rfl rfl rfl rfl dX9_lengthOfBar_1 rfl rfl ?_
    refine j_aload_n 0 dX9_lengthOfBar_4 rfl rfl ?_
    refine j_get fX9_19 dX9_lengthOfBar_5 hD.1 rfl ?_
    refine j_iload_n 1 dX9_lengthOfBar_8 rfl rfl ?_
    refine J_callV1 kX9_138 cvX0_lengthAt (hD.2.2.1).1 (c_X0_lengthAt (hD.2.2.1) hb) rfl rfl rfl rfl rfl dX9_lengthOfBar_9 rfl rfl ?_
    refine J_top ((s.2.1 0).2 2 b) ?_ (by exact if_pos t1)
    refine j_iret rfl dX9_lengthOfBar_12 ?_
    exact ⟨by rw [if_pos t1], DP.same hD hI⟩
  · refine J_callSX kX9_127 csX9_checkBar (c_X9_checkBar hl0 hb t1) rfl rfl rfl rfl rfl dX9_lengthOfBar_1 rfl (by decide) (by decide) (fun h9 hp => ?_)
    exact ⟨by rw [if_neg (t1)], DP.eq hp hD hI⟩
set_option maxRecDepth 100000 in
theorem c_X9_missing {l : Launch} {G : jG} {h : jH} {a : Nat} {d : DA} {s : DS} {Z : Nat → Nat} {k b : Int} (hl0 : l.stackTraces = false) (hD : Desk G h a d s) (hI : DI s) (hZ : Dz a d Z) (hk : rg k) (hb : rg b) : jC l G yX9_missing mX9_missing [.ref a, vI k, vI b] h (jW (if (0 ≤ k ∧ k < 4) ∧ isBar b then oI (max 0 (min ((s.2.1 0).2 2 b) (sumN ((s.2.1 0).2 2) b.toNat + (s.2.1 0).2 2 b - (s.1 k.toNat).1 8))) else .inr "java/lang/IndexOutOfBoundsException") (DP G a d s h (fun _ => True))) := by
  refine j_body (by decide +kernel) ⟨rfl, rfl⟩ rfl ?_
  refine j_aload_n 0 dX9_missing_0 rfl rfl ?_
  refine j_iload_n 1 dX9_missing_1 rfl rfl ?_
  by_cases t2 : 0 ≤ k ∧ k < 4
  · refine J_callV1 (show jLk _ _ yX9_partAt z9_partAt _ from kX9_75) cvX9_partAt hD.1 (c0_X9_partAt hD hI hZ t2) rfl rfl rfl rfl rfl dX9_missing_2 rfl rfl ?_
    have hPk := hD.2.1.2 k.toNat (by omega)
    have hPt := hI.1 k.toNat (by omega)
    refine j_astore_n 3 (L' := [(3, _), (0, _), (1, _), (2, _)]) dX9_missing_5 rfl rfl rfl ?_
    refine j_iload_n 2 dX9_missing_6 rfl rfl ?_
    by_cases t7 : isBar b
    · refine J_callS0 (show jLk _ _ yX9_checkBar z9_checkBar _ from kX9_127) csX9_checkBar (c0_X9_checkBar hb t7) rfl rfl rfl rfl rfl dX9_missing_7 rfl rfl ?_
      refine j_aload_n 0 dX9_missing_10 rfl rfl ?_
      refine j_get fX9_19 dX9_missing_11 hD.1 rfl ?_
      refine j_aload_n 3 dX9_missing_14 rfl rfl ?_
      refine J_callV1 kX9_219 cvX6_end hPk.1 (c_X6_end hPk) rfl rfl rfl rfl rfl dX9_missing_15 rfl rfl ?_
      refine j_iload_n 2 dX9_missing_18 rfl rfl ?_
      refine J_callV1 kX9_222 cvX0_ticksBehind (hD.2.2.1).1 (c_X0_ticksBehind (hD.2.2.1) hI.2.2.1.1.1 t7 (by have := hPt.2.2.1.1; omega)) rfl rfl rfl rfl rfl dX9_missing_19 rfl rfl ?_
      refine j_iret rfl dX9_missing_22 ?_
      exact ⟨by rw [if_pos ⟨t2, t7⟩], DP.same hD hI⟩
    · refine J_callSX kX9_127 csX9_checkBar (c_X9_checkBar hl0 hb t7) rfl rfl rfl rfl rfl dX9_missing_7 rfl (by decide) (by decide) (fun h9 hp => ?_)
      exact ⟨by rw [if_neg (fun z => t7 z.2)], DP.eq hp hD hI⟩
  · refine J_callVX kX9_75 cvX9_partAt hD.1 (c_X9_partAt hl0 hD hI hZ hk t2) rfl rfl rfl rfl rfl dX9_missing_2 rfl (by decide) (by decide) (fun h9 hp => ?_)
    exact ⟨by rw [if_neg (fun z => t2 z.1)], DP.eq hp hD hI⟩
set_option maxRecDepth 100000 in
theorem c_X9_signs {l : Launch} {G : jG} {h : jH} {a : Nat} {d : DA} {s : DS} {Z : Nat → Nat} {k b : Int} (hl0 : l.stackTraces = false) (hD : Desk G h a d s) (hI : DI s) (hZ : Dz a d Z) (hk : rg k) (hb : rg b) : jC l G yX9_signs mX9_signs [.ref a, vI k, vI b] h (jW (if (0 ≤ k ∧ k < 4) ∧ isBar b then oI ((wrP (s.1 k.toNat) (s.2.1 0) b zOS).1 9) else .inr "java/lang/IndexOutOfBoundsException") (DP G a d s h (fun _ => True))) := by
  refine j_body (by decide +kernel) ⟨rfl, rfl⟩ rfl ?_
  refine j_aload_n 0 dX9_signs_0 rfl rfl ?_
  refine j_iload_n 1 dX9_signs_1 rfl rfl ?_
  refine j_iload_n 2 dX9_signs_2 rfl rfl ?_
  by_cases t3 : (0 ≤ k ∧ k < 4) ∧ isBar b
  · refine J_callVW1 (show jLk _ _ yX9_measureAt z9_measureAt _ from kX9_190) cvX9_measureAt hD.1 (c0_X9_measureAt hD hI hZ t3) rfl rfl rfl rfl rfl dX9_signs_3 rfl rfl (fun h hp => ?_)
    obtain ⟨s1, hD, hI, e1, e2, ⟨e3, e4⟩, hF⟩ := hp
    have hq := e4.2.2
    refine J_callV1 kX9_194 cvX5_size (hD.2.2.2.2.2.2.2).1 (c_X5_size (hD.2.2.2.2.2.2.2)) rfl rfl rfl rfl rfl dX9_signs_6 rfl rfl ?_
    refine J_top ((wrP (s.1 k.toNat) (s.2.1 0) b zOS).1 9) ?_ (by exact hq.1)
    refine j_iret rfl dX9_signs_9 ?_
    exact ⟨by rw [if_pos t3], ⟨s1, hD, hI, e1, e2, True.intro, hF⟩⟩
  · refine J_callVX kX9_190 cvX9_measureAt hD.1 (c_X9_measureAt hl0 hD hI hZ hk hb t3) rfl rfl rfl rfl rfl dX9_signs_3 rfl (by decide) (by decide) (fun h9 hp => ?_)
    exact ⟨by rw [if_neg (t3)], DP.eq hp hD hI⟩
set_option maxRecDepth 100000 in
theorem c_X9_beams {l : Launch} {G : jG} {h : jH} {a : Nat} {d : DA} {s : DS} {Z : Nat → Nat} {k b : Int} (hl0 : l.stackTraces = false) (hD : Desk G h a d s) (hI : DI s) (hZ : Dz a d Z) (hk : rg k) (hb : rg b) : jC l G yX9_beams mX9_beams [.ref a, vI k, vI b] h (jW (if (0 ≤ k ∧ k < 4) ∧ isBar b then oI ((wrP (s.1 k.toNat) (s.2.1 0) b zOS).1 10) else .inr "java/lang/IndexOutOfBoundsException") (DP G a d s h (fun _ => True))) := by
  refine j_body (by decide +kernel) ⟨rfl, rfl⟩ rfl ?_
  refine j_aload_n 0 dX9_beams_0 rfl rfl ?_
  refine j_iload_n 1 dX9_beams_1 rfl rfl ?_
  refine j_iload_n 2 dX9_beams_2 rfl rfl ?_
  by_cases t3 : (0 ≤ k ∧ k < 4) ∧ isBar b
  · refine J_callVW1 (show jLk _ _ yX9_measureAt z9_measureAt _ from kX9_190) cvX9_measureAt hD.1 (c0_X9_measureAt hD hI hZ t3) rfl rfl rfl rfl rfl dX9_beams_3 rfl rfl (fun h hp => ?_)
    obtain ⟨s1, hD, hI, e1, e2, ⟨e3, e4⟩, hF⟩ := hp
    have hq := e4.2.2
    refine J_callV1 kX9_213 cvX5_beamTotal (hD.2.2.2.2.2.2.2).1 (c_X5_beamTotal (hD.2.2.2.2.2.2.2)) rfl rfl rfl rfl rfl dX9_beams_6 rfl rfl ?_
    refine J_top ((wrP (s.1 k.toNat) (s.2.1 0) b zOS).1 10) ?_ (by exact hq.2.1)
    refine j_iret rfl dX9_beams_9 ?_
    exact ⟨by rw [if_pos t3], ⟨s1, hD, hI, e1, e2, True.intro, hF⟩⟩
  · refine J_callVX kX9_190 cvX9_measureAt hD.1 (c_X9_measureAt hl0 hD hI hZ hk hb t3) rfl rfl rfl rfl rfl dX9_beams_3 rfl (by decide) (by decide) (fun h9 hp => ?_)
    exact ⟨by rw [if_neg (t3)], DP.eq hp hD hI⟩
set_option maxRecDepth 100000 in
theorem c_X9_eventOf {l : Launch} {G : jG} {h : jH} {a : Nat} {d : DA} {s : DS} {Z : Nat → Nat} {k b i : Int} (hl0 : l.stackTraces = false) (hD : Desk G h a d s) (hI : DI s) (hZ : Dz a d Z) (hk : rg k) (hb : rg b) (hi : rg i) : jC l G yX9_eventOf mX9_eventOf [.ref a, vI k, vI b, vI i] h (jW (if ((0 ≤ k ∧ k < 4) ∧ isBar b) ∧ 0 ≤ i ∧ i < (wrP (s.1 k.toNat) (s.2.1 0) b zOS).1 9 then oI ((wrP (s.1 k.toNat) (s.2.1 0) b zOS).2 0 i) else .inr "java/lang/IndexOutOfBoundsException") (DP G a d s h (fun _ => True))) := by
  refine j_body (by decide +kernel) ⟨rfl, rfl⟩ rfl ?_
  refine j_aload_n 0 dX9_eventOf_0 rfl rfl ?_
  refine j_iload_n 1 dX9_eventOf_1 rfl rfl ?_
  refine j_iload_n 2 dX9_eventOf_2 rfl rfl ?_
  refine j_iload_n 3 dX9_eventOf_3 rfl rfl ?_
  by_cases t4 : ((0 ≤ k ∧ k < 4) ∧ isBar b) ∧ 0 ≤ i ∧ i < (wrP (s.1 k.toNat) (s.2.1 0) b zOS).1 9
  · refine J_callVW1 (show jLk _ _ yX9_measureWith z9_measureWith _ from kX9_195) cvX9_measureWith hD.1 (c0_X9_measureWith hD hI hZ hi t4) rfl rfl rfl rfl rfl dX9_eventOf_4 rfl rfl (fun h hp => ?_)
    obtain ⟨s1, hD, hI, e1, e2, ⟨e3, e4⟩, hF⟩ := hp
    have hq := e4.2.2
    have hin : inM (s1.2.1 5) i := ⟨t4.2.1, by rw [hq.1]; exact t4.2.2⟩
    refine j_iload_n 3 dX9_eventOf_7 rfl rfl ?_
    refine J_callV1 kX9_199 cvX5_eventAt (hD.2.2.2.2.2.2.2).1 (c_X5_eventAt (hD.2.2.2.2.2.2.2) e4.1 hi) rfl rfl rfl rfl rfl dX9_eventOf_8 rfl rfl ?_
    refine J_top ((wrP (s.1 k.toNat) (s.2.1 0) b zOS).2 0 i) ?_ (by rw [if_pos hin]; exact hq.2.2.1 i hin.1 hin.2)
    refine j_iret rfl dX9_eventOf_11 ?_
    exact ⟨by rw [if_pos t4], ⟨s1, hD, hI, e1, e2, True.intro, hF⟩⟩
  · refine J_callVX kX9_195 cvX9_measureWith hD.1 (c_X9_measureWith hl0 hD hI hZ hk hb hi t4) rfl rfl rfl rfl rfl dX9_eventOf_4 rfl (by decide) (by decide) (fun h9 hp => ?_)
    exact ⟨by rw [if_neg t4], hp⟩
set_option maxRecDepth 100000 in
theorem c_X9_lengthOf {l : Launch} {G : jG} {h : jH} {a : Nat} {d : DA} {s : DS} {Z : Nat → Nat} {k b i : Int} (hl0 : l.stackTraces = false) (hD : Desk G h a d s) (hI : DI s) (hZ : Dz a d Z) (hk : rg k) (hb : rg b) (hi : rg i) : jC l G yX9_lengthOf mX9_lengthOf [.ref a, vI k, vI b, vI i] h (jW (if ((0 ≤ k ∧ k < 4) ∧ isBar b) ∧ 0 ≤ i ∧ i < (wrP (s.1 k.toNat) (s.2.1 0) b zOS).1 9 then oI ((wrP (s.1 k.toNat) (s.2.1 0) b zOS).2 2 i) else .inr "java/lang/IndexOutOfBoundsException") (DP G a d s h (fun _ => True))) := by
  refine j_body (by decide +kernel) ⟨rfl, rfl⟩ rfl ?_
  refine j_aload_n 0 dX9_lengthOf_0 rfl rfl ?_
  refine j_iload_n 1 dX9_lengthOf_1 rfl rfl ?_
  refine j_iload_n 2 dX9_lengthOf_2 rfl rfl ?_
  refine j_iload_n 3 dX9_lengthOf_3 rfl rfl ?_
  by_cases t4 : ((0 ≤ k ∧ k < 4) ∧ isBar b) ∧ 0 ≤ i ∧ i < (wrP (s.1 k.toNat) (s.2.1 0) b zOS).1 9
  · refine J_callVW1 (show jLk _ _ yX9_measureWith z9_measureWith _ from kX9_195) cvX9_measureWith hD.1 (c0_X9_measureWith hD hI hZ hi t4) rfl rfl rfl rfl rfl dX9_lengthOf_4 rfl rfl (fun h hp => ?_)
    obtain ⟨s1, hD, hI, e1, e2, ⟨e3, e4⟩, hF⟩ := hp
    have hq := e4.2.2
    have hin : inM (s1.2.1 5) i := ⟨t4.2.1, by rw [hq.1]; exact t4.2.2⟩
    refine j_iload_n 3 dX9_lengthOf_7 rfl rfl ?_
    refine J_callV1 kX9_202 cvX5_lengthAt (hD.2.2.2.2.2.2.2).1 (c_X5_lengthAt (hD.2.2.2.2.2.2.2) e4.1 hi) rfl rfl rfl rfl rfl dX9_lengthOf_8 rfl rfl ?_
    refine J_top ((wrP (s.1 k.toNat) (s.2.1 0) b zOS).2 2 i) ?_ (by rw [if_pos hin]; exact hq.2.2.2.1 i hin.1 hin.2)
    refine j_iret rfl dX9_lengthOf_11 ?_
    exact ⟨by rw [if_pos t4], ⟨s1, hD, hI, e1, e2, True.intro, hF⟩⟩
  · refine J_callVX kX9_195 cvX9_measureWith hD.1 (c_X9_measureWith hl0 hD hI hZ hk hb hi t4) rfl rfl rfl rfl rfl dX9_lengthOf_4 rfl (by decide) (by decide) (fun h9 hp => ?_)
    exact ⟨by rw [if_neg t4], hp⟩
set_option maxRecDepth 100000 in
theorem c_X9_shown {l : Launch} {G : jG} {h : jH} {a : Nat} {d : DA} {s : DS} {Z : Nat → Nat} {k b i : Int} (hl0 : l.stackTraces = false) (hD : Desk G h a d s) (hI : DI s) (hZ : Dz a d Z) (hk : rg k) (hb : rg b) (hi : rg i) : jC l G yX9_shown mX9_shown [.ref a, vI k, vI b, vI i] h (jW (if ((0 ≤ k ∧ k < 4) ∧ isBar b) ∧ 0 ≤ i ∧ i < (wrP (s.1 k.toNat) (s.2.1 0) b zOS).1 9 then oI ((wrP (s.1 k.toNat) (s.2.1 0) b zOS).2 5 i) else .inr "java/lang/IndexOutOfBoundsException") (DP G a d s h (fun _ => True))) := by
  refine j_body (by decide +kernel) ⟨rfl, rfl⟩ rfl ?_
  refine j_aload_n 0 dX9_shown_0 rfl rfl ?_
  refine j_iload_n 1 dX9_shown_1 rfl rfl ?_
  refine j_iload_n 2 dX9_shown_2 rfl rfl ?_
  refine j_iload_n 3 dX9_shown_3 rfl rfl ?_
  by_cases t4 : ((0 ≤ k ∧ k < 4) ∧ isBar b) ∧ 0 ≤ i ∧ i < (wrP (s.1 k.toNat) (s.2.1 0) b zOS).1 9
  · refine J_callVW1 (show jLk _ _ yX9_measureWith z9_measureWith _ from kX9_195) cvX9_measureWith hD.1 (c0_X9_measureWith hD hI hZ hi t4) rfl rfl rfl rfl rfl dX9_shown_4 rfl rfl (fun h hp => ?_)
    obtain ⟨s1, hD, hI, e1, e2, ⟨e3, e4⟩, hF⟩ := hp
    have hq := e4.2.2
    have hin : inM (s1.2.1 5) i := ⟨t4.2.1, by rw [hq.1]; exact t4.2.2⟩
    refine j_iload_n 3 dX9_shown_7 rfl rfl ?_
    refine J_callV1 kX9_207 cvX5_shownAt (hD.2.2.2.2.2.2.2).1 (c_X5_shownAt (hD.2.2.2.2.2.2.2) e4.1 hi) rfl rfl rfl rfl rfl dX9_shown_8 rfl rfl ?_
    refine J_top ((wrP (s.1 k.toNat) (s.2.1 0) b zOS).2 5 i) ?_ (by rw [if_pos hin]; exact hq.2.2.2.2.2.1 i hin.1 hin.2)
    refine j_iret rfl dX9_shown_11 ?_
    exact ⟨by rw [if_pos t4], ⟨s1, hD, hI, e1, e2, True.intro, hF⟩⟩
  · refine J_callVX kX9_195 cvX9_measureWith hD.1 (c_X9_measureWith hl0 hD hI hZ hk hb hi t4) rfl rfl rfl rfl rfl dX9_shown_4 rfl (by decide) (by decide) (fun h9 hp => ?_)
    exact ⟨by rw [if_neg t4], hp⟩
set_option maxRecDepth 100000 in
theorem c_X9_shownWritten {l : Launch} {G : jG} {h : jH} {a : Nat} {d : DA} {s : DS} {Z : Nat → Nat} {k b i : Int} (hl0 : l.stackTraces = false) (hD : Desk G h a d s) (hI : DI s) (hZ : Dz a d Z) (hk : rg k) (hb : rg b) (hi : rg i) : jC l G yX9_shownWritten mX9_shownWritten [.ref a, vI k, vI b, vI i] h (jW (if ((0 ≤ k ∧ k < 4) ∧ isBar b) ∧ 0 ≤ i ∧ i < (wrP (s.1 k.toNat) (s.2.1 0) b zOS).1 9 then oI ((wrP (s.1 k.toNat) (s.2.1 0) b zOS).2 6 i) else .inr "java/lang/IndexOutOfBoundsException") (DP G a d s h (fun _ => True))) := by
  refine j_body (by decide +kernel) ⟨rfl, rfl⟩ rfl ?_
  refine j_aload_n 0 dX9_shownWritten_0 rfl rfl ?_
  refine j_iload_n 1 dX9_shownWritten_1 rfl rfl ?_
  refine j_iload_n 2 dX9_shownWritten_2 rfl rfl ?_
  refine j_iload_n 3 dX9_shownWritten_3 rfl rfl ?_
  by_cases t4 : ((0 ≤ k ∧ k < 4) ∧ isBar b) ∧ 0 ≤ i ∧ i < (wrP (s.1 k.toNat) (s.2.1 0) b zOS).1 9
  · refine J_callVW1 (show jLk _ _ yX9_measureWith z9_measureWith _ from kX9_195) cvX9_measureWith hD.1 (c0_X9_measureWith hD hI hZ hi t4) rfl rfl rfl rfl rfl dX9_shownWritten_4 rfl rfl (fun h hp => ?_)
    obtain ⟨s1, hD, hI, e1, e2, ⟨e3, e4⟩, hF⟩ := hp
    have hq := e4.2.2
    have hin : inM (s1.2.1 5) i := ⟨t4.2.1, by rw [hq.1]; exact t4.2.2⟩
    refine j_iload_n 3 dX9_shownWritten_7 rfl rfl ?_
    refine J_callV1 kX9_210 cvX5_shownAsWrittenAt (hD.2.2.2.2.2.2.2).1 (c_X5_shownAsWrittenAt (hD.2.2.2.2.2.2.2) e4.1 hi) rfl rfl rfl rfl rfl dX9_shownWritten_8 rfl rfl ?_
    refine J_top ((wrP (s.1 k.toNat) (s.2.1 0) b zOS).2 6 i) ?_ (by rw [if_pos hin]; exact hq.2.2.2.2.2.2.1 i hin.1 hin.2)
    refine j_iret rfl dX9_shownWritten_11 ?_
    exact ⟨by rw [if_pos t4], ⟨s1, hD, hI, e1, e2, True.intro, hF⟩⟩
  · refine J_callVX kX9_195 cvX9_measureWith hD.1 (c_X9_measureWith hl0 hD hI hZ hk hb hi t4) rfl rfl rfl rfl rfl dX9_shownWritten_4 rfl (by decide) (by decide) (fun h9 hp => ?_)
    exact ⟨by rw [if_neg t4], hp⟩
set_option maxRecDepth 100000 in
theorem c_X9_beamOf {l : Launch} {G : jG} {h : jH} {a : Nat} {d : DA} {s : DS} {Z : Nat → Nat} {k b i : Int} (hl0 : l.stackTraces = false) (hD : Desk G h a d s) (hI : DI s) (hZ : Dz a d Z) (hk : rg k) (hb : rg b) (hi : rg i) : jC l G yX9_beamOf mX9_beamOf [.ref a, vI k, vI b, vI i] h (jW (if ((0 ≤ k ∧ k < 4) ∧ isBar b) ∧ 0 ≤ i ∧ i < (wrP (s.1 k.toNat) (s.2.1 0) b zOS).1 9 then oI ((wrP (s.1 k.toNat) (s.2.1 0) b zOS).2 7 i) else .inr "java/lang/IndexOutOfBoundsException") (DP G a d s h (fun _ => True))) := by
  refine j_body (by decide +kernel) ⟨rfl, rfl⟩ rfl ?_
  refine j_aload_n 0 dX9_beamOf_0 rfl rfl ?_
  refine j_iload_n 1 dX9_beamOf_1 rfl rfl ?_
  refine j_iload_n 2 dX9_beamOf_2 rfl rfl ?_
  refine j_iload_n 3 dX9_beamOf_3 rfl rfl ?_
  by_cases t4 : ((0 ≤ k ∧ k < 4) ∧ isBar b) ∧ 0 ≤ i ∧ i < (wrP (s.1 k.toNat) (s.2.1 0) b zOS).1 9
  · refine J_callVW1 (show jLk _ _ yX9_measureWith z9_measureWith _ from kX9_195) cvX9_measureWith hD.1 (c0_X9_measureWith hD hI hZ hi t4) rfl rfl rfl rfl rfl dX9_beamOf_4 rfl rfl (fun h hp => ?_)
    obtain ⟨s1, hD, hI, e1, e2, ⟨e3, e4⟩, hF⟩ := hp
    have hq := e4.2.2
    have hin : inM (s1.2.1 5) i := ⟨t4.2.1, by rw [hq.1]; exact t4.2.2⟩
    refine j_iload_n 3 dX9_beamOf_7 rfl rfl ?_
    refine J_callV1 kX9_216 cvX5_beamAt (hD.2.2.2.2.2.2.2).1 (c_X5_beamAt (hD.2.2.2.2.2.2.2) e4.1 hi) rfl rfl rfl rfl rfl dX9_beamOf_8 rfl rfl ?_
    refine J_top ((wrP (s.1 k.toNat) (s.2.1 0) b zOS).2 7 i) ?_ (by rw [if_pos hin]; exact hq.2.2.2.2.2.2.2 i hin.1 hin.2)
    refine j_iret rfl dX9_beamOf_11 ?_
    exact ⟨by rw [if_pos t4], ⟨s1, hD, hI, e1, e2, True.intro, hF⟩⟩
  · refine J_callVX kX9_195 cvX9_measureWith hD.1 (c_X9_measureWith hl0 hD hI hZ hk hb hi t4) rfl rfl rfl rfl rfl dX9_beamOf_4 rfl (by decide) (by decide) (fun h9 hp => ?_)
    exact ⟨by rw [if_neg t4], hp⟩
set_option maxRecDepth 100000 in
theorem c_X9_isTied {l : Launch} {G : jG} {h : jH} {a : Nat} {d : DA} {s : DS} {Z : Nat → Nat} {k b i : Int} (hl0 : l.stackTraces = false) (hD : Desk G h a d s) (hI : DI s) (hZ : Dz a d Z) (hk : rg k) (hb : rg b) (hi : rg i) : jC l G yX9_isTied mX9_isTied [.ref a, vI k, vI b, vI i] h (jW (if ((0 ≤ k ∧ k < 4) ∧ isBar b) ∧ 0 ≤ i ∧ i < (wrP (s.1 k.toNat) (s.2.1 0) b zOS).1 9 then oI (bI ((wrP (s.1 k.toNat) (s.2.1 0) b zOS).2 4 i ≠ 0)) else .inr "java/lang/IndexOutOfBoundsException") (DP G a d s h (fun _ => True))) := by
  refine j_body (by decide +kernel) ⟨rfl, rfl⟩ rfl ?_
  refine j_aload_n 0 dX9_isTied_0 rfl rfl ?_
  refine j_iload_n 1 dX9_isTied_1 rfl rfl ?_
  refine j_iload_n 2 dX9_isTied_2 rfl rfl ?_
  refine j_iload_n 3 dX9_isTied_3 rfl rfl ?_
  by_cases t4 : ((0 ≤ k ∧ k < 4) ∧ isBar b) ∧ 0 ≤ i ∧ i < (wrP (s.1 k.toNat) (s.2.1 0) b zOS).1 9
  · refine J_callVW1 (show jLk _ _ yX9_measureWith z9_measureWith _ from kX9_195) cvX9_measureWith hD.1 (c0_X9_measureWith hD hI hZ hi t4) rfl rfl rfl rfl rfl dX9_isTied_4 rfl rfl (fun h hp => ?_)
    obtain ⟨s1, hD, hI, e1, e2, ⟨e3, e4⟩, hF⟩ := hp
    have hq := e4.2.2
    have hin : inM (s1.2.1 5) i := ⟨t4.2.1, by rw [hq.1]; exact t4.2.2⟩
    refine j_iload_n 3 dX9_isTied_7 rfl rfl ?_
    refine J_callVZ kX9_203 cvX5_tiedAt (hD.2.2.2.2.2.2.2).1 (c_X5_tiedAt (hD.2.2.2.2.2.2.2) e4.1 hi (fun z => e4.2.1 i z.1 z.2)) rfl rfl rfl rfl rfl dX9_isTied_8 rfl rfl (fun z8 => ?_) (fun z8 => ?_)
    · refine j_zret rfl rfl dX9_isTied_11 ?_
      first | exact ⟨by rw [if_pos t4, show bI ((wrP (s.1 k.toNat) (s.2.1 0) b zOS).2 4 i ≠ 0) = 1 from if_pos (by rw [← hq.2.2.2.2.1 i hin.1 hin.2]; exact z8.2)], ⟨s1, hD, hI, e1, e2, True.intro, hF⟩⟩ | exact ⟨by rw [if_pos t4, show bI ((wrP (s.1 k.toNat) (s.2.1 0) b zOS).2 4 i ≠ 0) = 0 from if_neg (fun z => z8 ⟨hin, by rw [hq.2.2.2.2.1 i hin.1 hin.2]; exact z⟩)], ⟨s1, hD, hI, e1, e2, True.intro, hF⟩⟩
    · refine j_zret rfl rfl dX9_isTied_11 ?_
      first | exact ⟨by rw [if_pos t4, show bI ((wrP (s.1 k.toNat) (s.2.1 0) b zOS).2 4 i ≠ 0) = 1 from if_pos (by rw [← hq.2.2.2.2.1 i hin.1 hin.2]; exact z8.2)], ⟨s1, hD, hI, e1, e2, True.intro, hF⟩⟩ | exact ⟨by rw [if_pos t4, show bI ((wrP (s.1 k.toNat) (s.2.1 0) b zOS).2 4 i ≠ 0) = 0 from if_neg (fun z => z8 ⟨hin, by rw [hq.2.2.2.2.1 i hin.1 hin.2]; exact z⟩)], ⟨s1, hD, hI, e1, e2, True.intro, hF⟩⟩
  · refine J_callVX kX9_195 cvX9_measureWith hD.1 (c_X9_measureWith hl0 hD hI hZ hk hb hi t4) rfl rfl rfl rfl rfl dX9_isTied_4 rfl (by decide) (by decide) (fun h9 hp => ?_)
    exact ⟨by rw [if_neg t4], hp⟩
