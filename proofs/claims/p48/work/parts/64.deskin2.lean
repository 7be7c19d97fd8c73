set_option maxRecDepth 100000 in
theorem c0_X9_checkMoment {l : Launch} {G : jG} {h : jH} {a : Nat} {d : DA} {s : DS} {Z : Nat → Nat} {m : Int} (hD : Desk G h a d s) (hI : DI s) (hZ : Dz a d Z) (hm : rg m) (hg : 0 ≤ m ∧ m < (cntM s.1 : Int)) : jC l G yX9_checkMoment z9_checkMoment [.ref a, vI m] h (jW oN (DP G a d s h (fun s' => s'.2.2 7 = 1 ∧ ∀ k, k ≠ 7 → s'.2.2 k = s.2.2 k))) := by
  refine j_body (by decide +kernel) ⟨rfl, rfl⟩ rfl ?_
  have hF : Fr (FtD a d) h h := Fr.rf
  have hcl := cntM_le s.1
  refine j_aload_n 0 dX9_checkMoment_0 rfl rfl ?_
  refine J_callVW0 kX9_225 cvX9_hear hD.1 (c_X9_hear hD hI hZ) rfl rfl rfl rfl rfl dX9_checkMoment_1 rfl rfl (fun h hp => ?_)
  obtain ⟨s1, hD, hI, e1, e2, ⟨e3, e4⟩, hF9⟩ := hp
  have hF := hF.tr hF9
  have hH := hI.har (by omega)
  have hn3 := hH.1
  rw [e1] at hn3
  refine j_aload_n 0 dX9_checkMoment_4 rfl rfl ?_
  refine j_get fX9_33 dX9_checkMoment_5 hD.1 rfl ?_
  refine j_iload_n 1 dX9_checkMoment_8 rfl rfl ?_
  refine J_callVZ kX9_374 cvX3_has (hD.2.2.2.2.2.1).1 (c_X3_has (hD.2.2.2.2.2.1) (har_n hH) hm) rfl rfl rfl rfl rfl dX9_checkMoment_9 rfl rfl (fun z9 => ?_) (fun z9 => ?_)
  · refine J_if_ne 26 dX9_checkMoment_12 (by decide) (fun c12 => ?_) (fun c12 => absurd c12 (by decide)) 
    refine j_vret rfl dX9_checkMoment_26 ?_
    exact ⟨rfl, s1, hD, hI, e1, e2, ⟨e3, e4⟩, hF⟩
  · refine J_if_ne 26 dX9_checkMoment_12 (by decide) (fun c12 => absurd c12 (by decide)) (fun c12 => ?_) 
    exact absurd (show 0 ≤ m ∧ m < (s1.2.1 3).1 3 by rw [hn3]; exact hg) z9
set_option maxRecDepth 100000 in
theorem c_X9_checkMoment {l : Launch} {G : jG} {h : jH} {a : Nat} {d : DA} {s : DS} {Z : Nat → Nat} {m : Int} (hl0 : l.stackTraces = false) (hD : Desk G h a d s) (hI : DI s) (hZ : Dz a d Z) (hm : rg m) (hg : ¬ (0 ≤ m ∧ m < (cntM s.1 : Int))) : jC l G yX9_checkMoment mX9_checkMoment [.ref a, vI m] h (jW (.inr "java/lang/IndexOutOfBoundsException") (DP G a d s h (fun s' => s'.2.2 7 = 1 ∧ ∀ k, k ≠ 7 → s'.2.2 k = s.2.2 k))) := by
  refine j_body (by decide +kernel) ⟨rfl, rfl⟩ rfl ?_
  have hF : Fr (FtD a d) h h := Fr.rf
  have hcl := cntM_le s.1
  refine j_aload_n 0 dX9_checkMoment_0 rfl rfl ?_
  refine J_callVW0 kX9_225 cvX9_hear hD.1 (c_X9_hear hD hI hZ) rfl rfl rfl rfl rfl dX9_checkMoment_1 rfl rfl (fun h hp => ?_)
  obtain ⟨s1, hD, hI, e1, e2, ⟨e3, e4⟩, hF9⟩ := hp
  have hF := hF.tr hF9
  have hH := hI.har (by omega)
  have hn3 := hH.1
  rw [e1] at hn3
  refine j_aload_n 0 dX9_checkMoment_4 rfl rfl ?_
  refine j_get fX9_33 dX9_checkMoment_5 hD.1 rfl ?_
  refine j_iload_n 1 dX9_checkMoment_8 rfl rfl ?_
  refine J_callVZ kX9_374 cvX3_has (hD.2.2.2.2.2.1).1 (c_X3_has (hD.2.2.2.2.2.1) (har_n hH) hm) rfl rfl rfl rfl rfl dX9_checkMoment_9 rfl rfl (fun z9 => ?_) (fun z9 => ?_)
  · refine J_if_ne 26 dX9_checkMoment_12 (by decide) (fun c12 => ?_) (fun c12 => absurd c12 (by decide)) 
    exact absurd (by rw [hn3] at z9; exact z9) hg
  · refine J_if_ne 26 dX9_checkMoment_12 (by decide) (fun c12 => absurd c12 (by decide)) (fun c12 => ?_) 
    refine j_throwSW (k := 14) hl0 rfl nX9_353 rfl rfl dX9_checkMoment_15 dX9_checkMoment_18 dX9_checkMoment_19 dX9_checkMoment_22 dX9_checkMoment_25 rfl rfl (by decide) (by decide) ?_
    exact ⟨rfl, s1, hD, hI, e1, e2, ⟨e3, e4⟩, hF⟩
set_option maxRecDepth 100000 in
theorem c0_X9_checkFault {l : Launch} {G : jG} {h : jH} {a : Nat} {d : DA} {s : DS} {Z : Nat → Nat} {m : Int} (hD : Desk G h a d s) (hI : DI s) (hZ : Dz a d Z) (hm : rg m) (h8 : s.2.2 8 = 1) (hg : 0 ≤ m ∧ m < ((fauA s.1).length : Int)) : jC l G yX9_checkFault z9_checkFault [.ref a, vI m] h (jE oN h) := by
  refine j_body (by decide +kernel) ⟨rfl, rfl⟩ rfl ?_
  have hfa := (hI.fau (by omega)).1
  have hfl := fauA_len hI.1 hI.2.1
  refine j_aload_n 0 dX9_checkFault_0 rfl rfl ?_
  refine j_get fX9_47 dX9_checkFault_1 hD.1 rfl ?_
  refine j_iload_n 1 dX9_checkFault_4 rfl rfl ?_
  refine J_callVZ kX9_377 cvX2_has (hD.2.2.2.2.1).1 (c_X2_has (hD.2.2.2.2.1) hI.2.2.2.2.1.1 hm) rfl rfl rfl rfl rfl dX9_checkFault_5 rfl rfl (fun z5 => ?_) (fun z5 => ?_)
  · refine J_if_ne 22 dX9_checkFault_8 (by decide) (fun c8 => ?_) (fun c8 => absurd c8 (by decide)) 
    refine j_vret rfl dX9_checkFault_22 ?_
    exact ⟨rfl, rfl⟩
  · refine J_if_ne 22 dX9_checkFault_8 (by decide) (fun c8 => absurd c8 (by decide)) (fun c8 => ?_) 
    exact absurd (show 0 ≤ m ∧ m < (s.2.1 2).1 7 by rw [hfa]; exact hg) z5
set_option maxRecDepth 100000 in
theorem c_X9_checkFault {l : Launch} {G : jG} {h : jH} {a : Nat} {d : DA} {s : DS} {Z : Nat → Nat} {m : Int} (hl0 : l.stackTraces = false) (hD : Desk G h a d s) (hI : DI s) (hZ : Dz a d Z) (hm : rg m) (h8 : s.2.2 8 = 1) (hg : ¬ (0 ≤ m ∧ m < ((fauA s.1).length : Int))) : jC l G yX9_checkFault mX9_checkFault [.ref a, vI m] h (jE (.inr "java/lang/IndexOutOfBoundsException") h) := by
  refine j_body (by decide +kernel) ⟨rfl, rfl⟩ rfl ?_
  have hfa := (hI.fau (by omega)).1
  have hfl := fauA_len hI.1 hI.2.1
  refine j_aload_n 0 dX9_checkFault_0 rfl rfl ?_
  refine j_get fX9_47 dX9_checkFault_1 hD.1 rfl ?_
  refine j_iload_n 1 dX9_checkFault_4 rfl rfl ?_
  refine J_callVZ kX9_377 cvX2_has (hD.2.2.2.2.1).1 (c_X2_has (hD.2.2.2.2.1) hI.2.2.2.2.1.1 hm) rfl rfl rfl rfl rfl dX9_checkFault_5 rfl rfl (fun z5 => ?_) (fun z5 => ?_)
  · refine J_if_ne 22 dX9_checkFault_8 (by decide) (fun c8 => ?_) (fun c8 => absurd c8 (by decide)) 
    exact absurd (by rw [hfa] at z5; exact z5) hg
  · refine J_if_ne 22 dX9_checkFault_8 (by decide) (fun c8 => absurd c8 (by decide)) (fun c8 => ?_) 
    refine j_throwSW (k := 15) hl0 rfl nX9_353 rfl rfl dX9_checkFault_11 dX9_checkFault_14 dX9_checkFault_15 dX9_checkFault_18 dX9_checkFault_21 rfl rfl (by decide) (by decide) ?_
    exact ⟨rfl, rfl⟩
set_option maxRecDepth 100000 in
theorem c_X9_chordAt {l : Launch} {G : jG} {h : jH} {a : Nat} {d : DA} {s : DS} {Z : Nat → Nat} {m : Nat} (hD : Desk G h a d s) (hI : DI s) (hZ : Dz a d Z) (h7 : s.2.2 7 = 1) (hg : m < cntM s.1) : jC l G yX9_chordAt mX9_chordAt [.ref a, vI (m : Int)] h (jW (.inl (some (.ref (d.oa 1)))) (DP G a d s h (fun s' => (∀ k, s'.2.2 k = s.2.2 k) ∧ ChdEq (s'.2.1 1) (chdF s.1 m)))) := by
  refine j_body (by decide +kernel) ⟨rfl, rfl⟩ rfl ?_
  have hF : Fr (FtD a d) h h := Fr.rf
  have hcl := cntM_le s.1
  have hH := hI.har (by omega)
  refine j_aload_n 0 dX9_chordAt_0 rfl rfl ?_
  refine j_get fX9_40 dX9_chordAt_1 hD.1 rfl ?_
  refine j_aload_n 0 dX9_chordAt_4 rfl rfl ?_
  refine j_get fX9_11 dX9_chordAt_5 hD.1 rfl ?_
  refine j_aload_n 0 dX9_chordAt_8 rfl rfl ?_
  refine j_get fX9_33 dX9_chordAt_9 hD.1 rfl ?_
  refine j_iload_n 1 dX9_chordAt_12 rfl rfl ?_
  refine J_callVW0 kX9_370 cvX1_tell (hD.2.2.2.1).1 (c_X1_tell (hD.2.2.2.1) hD.2.1 hI.1.Z (hD.2.2.2.2.2.1) (har_n hH) (by omega) (fun k hk => by have := har_E hI.1 hH m k hk; omega)) rfl rfl rfl rfl rfl dX9_chordAt_13 rfl rfl (fun h hp => ?_)
  obtain ⟨hD, hF8⟩ := hD.w1 hZ hp.1 hp.2
  have hF := hF.tr hF8
  refine j_aload_n 0 dX9_chordAt_16 rfl rfl ?_
  refine j_get fX9_40 dX9_chordAt_17 hD.1 rfl ?_
  refine j_aret rfl dX9_chordAt_20 ?_
  exact ⟨rfl, _, hD, hI.chd _, rfl, rfl, ⟨fun _ => rfl, by show ChdEq (upN s.2.1 1 _ 1) _; rw [upN_s]; exact tel_ok hH hg _⟩, hF⟩
set_option maxRecDepth 100000 in
theorem c0_X9_measureAt {l : Launch} {G : jG} {h : jH} {a : Nat} {d : DA} {s : DS} {Z : Nat → Nat} {k b : Int} (hD : Desk G h a d s) (hI : DI s) (hZ : Dz a d Z) (hg : (0 ≤ k ∧ k < 4) ∧ isBar b) : jC l G yX9_measureAt z9_measureAt [.ref a, vI k, vI b] h (jW (.inl (some (.ref (d.oa 5)))) (DP G a d s h (fun s' => (∀ j, j ≠ 10 → j ≠ 11 → s'.2.2 j = s.2.2 j) ∧ MeaOK (s.1 k.toNat) (s.2.1 0) b (s'.2.1 5)))) := by
  refine j_body (by decide +kernel) ⟨rfl, rfl⟩ rfl ?_
  have hF : Fr (FtD a d) h h := Fr.rf
  have hcl := cntM_le s.1
  have hPt := hI.1 k.toNat (by omega)
  have hrl := hI.rg1011
  refine j_aload_n 0 dX9_measureAt_0 rfl rfl ?_
  refine j_iload_n 1 dX9_measureAt_1 rfl rfl ?_
  refine J_callV1 (show jLk _ _ yX9_partAt z9_partAt _ from kX9_75) cvX9_partAt hD.1 (c0_X9_partAt hD hI hZ hg.1) rfl rfl rfl rfl rfl dX9_measureAt_2 rfl rfl ?_
  refine j_astore_n 3 (L' := [(3, _), (0, _), (1, _), (2, _)]) dX9_measureAt_5 rfl rfl rfl ?_
  refine j_iload_n 2 dX9_measureAt_6 rfl rfl ?_
  refine J_callS0 (show jLk _ _ yX9_checkBar z9_checkBar _ from kX9_127) csX9_checkBar (c0_X9_checkBar (by omega) hg.2) rfl rfl rfl rfl rfl dX9_measureAt_7 rfl rfl ?_
  refine j_iload_n 1 dX9_measureAt_10 rfl rfl ?_
  refine j_aload_n 0 dX9_measureAt_11 rfl rfl ?_
  refine j_get fX9_68 dX9_measureAt_12 hD.1 rfl ?_
  refine J_icmp_ne 26 dX9_measureAt_15 (by decide) (fun c15 => ?_) (fun c15 => ?_) 
  · refine j_aload_n 0 dX9_measureAt_26 rfl rfl ?_
    refine j_get fX9_26 dX9_measureAt_27 hD.1 rfl ?_
    refine j_aload_n 3 dX9_measureAt_30 rfl rfl ?_
    refine j_aload_n 0 dX9_measureAt_31 rfl rfl ?_
    refine j_get fX9_19 dX9_measureAt_32 hD.1 rfl ?_
    refine j_iload_n 2 dX9_measureAt_35 rfl rfl ?_
    refine J_callVW0 kX9_363 cvX5_write (hD.2.2.2.2.2.2.2).1 (c_X5_write (hD.2.2.2.2.2.2.2) (hD.2.1.2 k.toNat (by omega)) hPt.1 hPt.2.1 hPt.2.2.1 hPt.mon (hD.2.2.1) hI.2.2.1.1 (hZ.k5 k.toNat (by omega)) hZ.d05 hg.2) rfl rfl rfl rfl rfl dX9_measureAt_36 rfl rfl (fun h hp => ?_)
    obtain ⟨hD, hF8⟩ := hD.w5 hZ hp.1 hp.2
    have hF := hF.tr hF8
    refine j_aload_n 0 dX9_measureAt_39 rfl rfl ?_
    refine j_iload_n 1 dX9_measureAt_40 rfl rfl ?_
    refine J_putD hD hZ fX9_68 tyX9_laidPart dX9_measureAt_41 rfl rfl (fun h hD hF41 => ?_)
    have hF := hF.tr hF41
    refine j_aload_n 0 dX9_measureAt_44 rfl rfl ?_
    refine j_iload_n 2 dX9_measureAt_45 rfl rfl ?_
    refine J_putD hD hZ fX9_72 tyX9_laidBar dX9_measureAt_46 rfl rfl (fun h hD hF46 => ?_)
    have hF := hF.tr hF46
    refine j_aload_n 0 dX9_measureAt_49 rfl rfl ?_
    refine j_get fX9_26 dX9_measureAt_50 hD.1 rfl ?_
    refine j_aret rfl dX9_measureAt_53 ?_
    first | exact ⟨rfl, _, hD, hI, rfl, rfl, ⟨fun _ _ _ => rfl, by have hm := hI.mea (by omega); rw [← c15, ← c23] at hm; exact hm⟩, hF⟩ | exact ⟨rfl, _, hD, hI.mea5 hg.1 hg.2 (mea_ok hPt hI.2.2.1 hg.2 _), rfl, rfl, ⟨fun j x y => (upN_n y).trans (upN_n x), by show MeaOK _ _ _ (upN s.2.1 5 _ 5); rw [upN_s]; exact mea_ok hPt hI.2.2.1 hg.2 _⟩, hF⟩
  · refine j_iload_n 2 dX9_measureAt_18 rfl rfl ?_
    refine j_aload_n 0 dX9_measureAt_19 rfl rfl ?_
    refine j_get fX9_72 dX9_measureAt_20 hD.1 rfl ?_
    refine J_icmp_eq 49 dX9_measureAt_23 (by decide) (fun c23 => ?_) (fun c23 => ?_) 
    · refine j_aload_n 0 dX9_measureAt_49 rfl rfl ?_
      refine j_get fX9_26 dX9_measureAt_50 hD.1 rfl ?_
      refine j_aret rfl dX9_measureAt_53 ?_
      first | exact ⟨rfl, _, hD, hI, rfl, rfl, ⟨fun _ _ _ => rfl, by have hm := hI.mea (by omega); rw [← c15, ← c23] at hm; exact hm⟩, hF⟩ | exact ⟨rfl, _, hD, hI.mea5 hg.1 hg.2 (mea_ok hPt hI.2.2.1 hg.2 _), rfl, rfl, ⟨fun j x y => (upN_n y).trans (upN_n x), by show MeaOK _ _ _ (upN s.2.1 5 _ 5); rw [upN_s]; exact mea_ok hPt hI.2.2.1 hg.2 _⟩, hF⟩
    · refine j_aload_n 0 dX9_measureAt_26 rfl rfl ?_
      refine j_get fX9_26 dX9_measureAt_27 hD.1 rfl ?_
      refine j_aload_n 3 dX9_measureAt_30 rfl rfl ?_
      refine j_aload_n 0 dX9_measureAt_31 rfl rfl ?_
      refine j_get fX9_19 dX9_measureAt_32 hD.1 rfl ?_
      refine j_iload_n 2 dX9_measureAt_35 rfl rfl ?_
      refine J_callVW0 kX9_363 cvX5_write (hD.2.2.2.2.2.2.2).1 (c_X5_write (hD.2.2.2.2.2.2.2) (hD.2.1.2 k.toNat (by omega)) hPt.1 hPt.2.1 hPt.2.2.1 hPt.mon (hD.2.2.1) hI.2.2.1.1 (hZ.k5 k.toNat (by omega)) hZ.d05 hg.2) rfl rfl rfl rfl rfl dX9_measureAt_36 rfl rfl (fun h hp => ?_)
      obtain ⟨hD, hF8⟩ := hD.w5 hZ hp.1 hp.2
      have hF := hF.tr hF8
      refine j_aload_n 0 dX9_measureAt_39 rfl rfl ?_
      refine j_iload_n 1 dX9_measureAt_40 rfl rfl ?_
      refine J_putD hD hZ fX9_68 tyX9_laidPart dX9_measureAt_41 rfl rfl (fun h hD hF41 => ?_)
      have hF := hF.tr hF41
      refine j_aload_n 0 dX9_measureAt_44 rfl rfl ?_
      refine j_iload_n 2 dX9_measureAt_45 rfl rfl ?_
      refine J_putD hD hZ fX9_72 tyX9_laidBar dX9_measureAt_46 rfl rfl (fun h hD hF46 => ?_)
      have hF := hF.tr hF46
      refine j_aload_n 0 dX9_measureAt_49 rfl rfl ?_
      refine j_get fX9_26 dX9_measureAt_50 hD.1 rfl ?_
      refine j_aret rfl dX9_measureAt_53 ?_
      first | exact ⟨rfl, _, hD, hI, rfl, rfl, ⟨fun _ _ _ => rfl, by have hm := hI.mea (by omega); rw [← c15, ← c23] at hm; exact hm⟩, hF⟩ | exact ⟨rfl, _, hD, hI.mea5 hg.1 hg.2 (mea_ok hPt hI.2.2.1 hg.2 _), rfl, rfl, ⟨fun j x y => (upN_n y).trans (upN_n x), by show MeaOK _ _ _ (upN s.2.1 5 _ 5); rw [upN_s]; exact mea_ok hPt hI.2.2.1 hg.2 _⟩, hF⟩
set_option maxRecDepth 100000 in
theorem c_X9_measureAt {l : Launch} {G : jG} {h : jH} {a : Nat} {d : DA} {s : DS} {Z : Nat → Nat} {k b : Int} (hl0 : l.stackTraces = false) (hD : Desk G h a d s) (hI : DI s) (hZ : Dz a d Z) (hk : rg k) (hb : rg b) (hg : ¬ ((0 ≤ k ∧ k < 4) ∧ isBar b)) : jC l G yX9_measureAt mX9_measureAt [.ref a, vI k, vI b] h (jE (.inr "java/lang/IndexOutOfBoundsException") h) := by
  refine j_body (by decide +kernel) ⟨rfl, rfl⟩ rfl ?_
  refine j_aload_n 0 dX9_measureAt_0 rfl rfl ?_
  refine j_iload_n 1 dX9_measureAt_1 rfl rfl ?_
  by_cases t2 : 0 ≤ k ∧ k < 4
  · refine J_callV1 (show jLk _ _ yX9_partAt z9_partAt _ from kX9_75) cvX9_partAt hD.1 (c0_X9_partAt hD hI hZ t2) rfl rfl rfl rfl rfl dX9_measureAt_2 rfl rfl ?_
    refine j_astore_n 3 (L' := [(3, _), (0, _), (1, _), (2, _)]) dX9_measureAt_5 rfl rfl rfl ?_
    refine j_iload_n 2 dX9_measureAt_6 rfl rfl ?_
    refine J_callSX kX9_127 csX9_checkBar (c_X9_checkBar hl0 hb (fun z => hg ⟨t2, z⟩)) rfl rfl rfl rfl rfl dX9_measureAt_7 rfl (by decide) (by decide) (fun h9 hp => ?_)
    exact ⟨rfl, hp⟩
  · refine J_callVX kX9_75 cvX9_partAt hD.1 (c_X9_partAt hl0 hD hI hZ hk t2) rfl rfl rfl rfl rfl dX9_measureAt_2 rfl (by decide) (by decide) (fun h9 hp => ?_)
    exact ⟨rfl, hp⟩
set_option maxRecDepth 100000 in
theorem c0_X9_measureWith {l : Launch} {G : jG} {h : jH} {a : Nat} {d : DA} {s : DS} {Z : Nat → Nat} {k b i : Int} (hD : Desk G h a d s) (hI : DI s) (hZ : Dz a d Z) (hi : rg i) (hg : ((0 ≤ k ∧ k < 4) ∧ isBar b) ∧ 0 ≤ i ∧ i < (wrP (s.1 k.toNat) (s.2.1 0) b zOS).1 9) : jC l G yX9_measureWith z9_measureWith [.ref a, vI k, vI b, vI i] h (jW (.inl (some (.ref (d.oa 5)))) (DP G a d s h (fun s' => (∀ j, j ≠ 10 → j ≠ 11 → s'.2.2 j = s.2.2 j) ∧ MeaOK (s.1 k.toNat) (s.2.1 0) b (s'.2.1 5)))) := by
  refine j_body (by decide +kernel) ⟨rfl, rfl⟩ rfl ?_
  have hF : Fr (FtD a d) h h := Fr.rf
  have hcl := cntM_le s.1
  refine j_aload_n 0 dX9_measureWith_0 rfl rfl ?_
  refine j_iload_n 1 dX9_measureWith_1 rfl rfl ?_
  refine j_iload_n 2 dX9_measureWith_2 rfl rfl ?_
  refine J_callVW1 (show jLk _ _ yX9_measureAt z9_measureAt _ from kX9_190) cvX9_measureAt hD.1 (c0_X9_measureAt hD hI hZ hg.1) rfl rfl rfl rfl rfl dX9_measureWith_3 rfl rfl (fun h hp => ?_)
  obtain ⟨s1, hD, hI, e1, e2, ⟨e3, e4⟩, hF9⟩ := hp
  have hF := hF.tr hF9
  have e9 := e4.2.2.1
  refine j_astore (L' := [(4, _), (0, _), (1, _), (2, _), (3, _)]) dX9_measureWith_6 rfl rfl ?_
  refine j_aload dX9_measureWith_8 rfl ?_
  refine j_iload_n 3 dX9_measureWith_10 rfl rfl ?_
  refine J_callVZ kX9_367 cvX5_has (hD.2.2.2.2.2.2.2).1 (c_X5_has (hD.2.2.2.2.2.2.2) e4.1 hi) rfl rfl rfl rfl rfl dX9_measureWith_11 rfl rfl (fun z11 => ?_) (fun z11 => ?_)
  · refine J_if_ne 28 dX9_measureWith_14 (by decide) (fun c14 => ?_) (fun c14 => absurd c14 (by decide)) 
    refine j_aload dX9_measureWith_28 rfl ?_
    refine j_aret rfl dX9_measureWith_30 ?_
    exact ⟨rfl, s1, hD, hI, e1, e2, ⟨e3, e4⟩, hF⟩
  · refine J_if_ne 28 dX9_measureWith_14 (by decide) (fun c14 => absurd c14 (by decide)) (fun c14 => ?_) 
    exact absurd (show 0 ≤ i ∧ i < (s1.2.1 5).1 9 by rw [e9]; exact hg.2) z11
set_option maxRecDepth 100000 in
theorem c_X9_measureWith {l : Launch} {G : jG} {h : jH} {a : Nat} {d : DA} {s : DS} {Z : Nat → Nat} {k b i : Int} (hl0 : l.stackTraces = false) (hD : Desk G h a d s) (hI : DI s) (hZ : Dz a d Z) (hk : rg k) (hb : rg b) (hi : rg i) (hg : ¬ (((0 ≤ k ∧ k < 4) ∧ isBar b) ∧ 0 ≤ i ∧ i < (wrP (s.1 k.toNat) (s.2.1 0) b zOS).1 9)) : jC l G yX9_measureWith mX9_measureWith [.ref a, vI k, vI b, vI i] h (jW (.inr "java/lang/IndexOutOfBoundsException") (DP G a d s h (fun _ => True))) := by
  refine j_body (by decide +kernel) ⟨rfl, rfl⟩ rfl ?_
  have hF : Fr (FtD a d) h h := Fr.rf
  have hcl := cntM_le s.1
  refine j_aload_n 0 dX9_measureWith_0 rfl rfl ?_
  refine j_iload_n 1 dX9_measureWith_1 rfl rfl ?_
  refine j_iload_n 2 dX9_measureWith_2 rfl rfl ?_
  by_cases t3 : (0 ≤ k ∧ k < 4) ∧ isBar b
  · refine J_callVW1 (show jLk _ _ yX9_measureAt z9_measureAt _ from kX9_190) cvX9_measureAt hD.1 (c0_X9_measureAt hD hI hZ t3) rfl rfl rfl rfl rfl dX9_measureWith_3 rfl rfl (fun h hp => ?_)
    obtain ⟨s1, hD, hI, e1, e2, ⟨e3, e4⟩, hF9⟩ := hp
    have hF := hF.tr hF9
    have e9 := e4.2.2.1
    refine j_astore (L' := [(4, _), (0, _), (1, _), (2, _), (3, _)]) dX9_measureWith_6 rfl rfl ?_
    refine j_aload dX9_measureWith_8 rfl ?_
    refine j_iload_n 3 dX9_measureWith_10 rfl rfl ?_
    refine J_callVZ kX9_367 cvX5_has (hD.2.2.2.2.2.2.2).1 (c_X5_has (hD.2.2.2.2.2.2.2) e4.1 hi) rfl rfl rfl rfl rfl dX9_measureWith_11 rfl rfl (fun z11 => ?_) (fun z11 => ?_)
    · refine J_if_ne 28 dX9_measureWith_14 (by decide) (fun c14 => ?_) (fun c14 => absurd c14 (by decide)) 
      exact absurd ⟨t3, by rw [inM, e9] at z11; exact z11⟩ hg
    · refine J_if_ne 28 dX9_measureWith_14 (by decide) (fun c14 => absurd c14 (by decide)) (fun c14 => ?_) 
      refine j_throwSW (k := 13) hl0 rfl nX9_353 rfl rfl dX9_measureWith_17 dX9_measureWith_20 dX9_measureWith_21 dX9_measureWith_24 dX9_measureWith_27 rfl rfl (by decide) (by decide) ?_
      exact ⟨rfl, s1, hD, hI, e1, e2, True.intro, hF⟩
  · refine J_callVX kX9_190 cvX9_measureAt hD.1 (c_X9_measureAt hl0 hD hI hZ hk hb t3) rfl rfl rfl rfl rfl dX9_measureWith_3 rfl (by decide) (by decide) (fun h9 hp => ?_)
    exact ⟨rfl, s, hp.symm ▸ hD, hI, rfl, rfl, True.intro, hp.symm ▸ hF⟩
