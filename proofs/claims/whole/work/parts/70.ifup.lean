set_option maxRecDepth 100000 in
theorem c_X9_faultsIfUp {l : Launch} {G : jG} {h : jH} {a : Nat} {d : DA} {s : DS} {Z : Nat → Nat} {k e : Int} (hl0 : l.stackTraces = false) (hD : Desk G h a d s) (hI : DI s) (hZ : Dz a d Z) (hk : rg k) (he : rg e) : jC l G yX9_faultsIfUp mX9_faultsIfUp [.ref a, vI k, vI e] h (jW (if (0 ≤ k ∧ k < 4) ∧ inP (s.1 k.toNat) e then (if inP (s.1 k.toNat) e ∧ (s.1 k.toNat).2 0 e ≠ 0 then (if 62 < (s.1 k.toNat).2 0 e + 7 then oI (-1) else oI ((fauA (raiseP s.1 k.toNat e)).length : Int)) else .inr "java/lang/IllegalStateException") else .inr "java/lang/IndexOutOfBoundsException") (DP G a d s h (fun _ => True))) := by
  refine j_body (by decide +kernel) ⟨rfl, rfl⟩ rfl ?_
  refine j_aload_n 0 dX9_faultsIfUp_0 rfl rfl ?_
  refine j_iload_n 1 dX9_faultsIfUp_1 rfl rfl ?_
  refine j_iload_n 2 dX9_faultsIfUp_2 rfl rfl ?_
  by_cases t3 : (0 ≤ k ∧ k < 4) ∧ inP (s.1 k.toNat) e
  · refine J_callV1 (show jLk _ _ yX9_partWith z9_partWith _ from kX9_112) cvX9_partWith hD.1 (c0_X9_partWith hD hI hZ he t3) rfl rfl rfl rfl rfl dX9_faultsIfUp_3 rfl rfl ?_
    have tk := t3.1
    have hPk := hD.2.1.2 k.toNat (by omega)
    have hPt := hI.1 k.toNat (by omega)
    have hn7 : 0 ≤ (s.1 k.toNat).1 7 ∧ (s.1 k.toNat).1 7 ≤ 512 := hPt.1
    have hev := hPt.ev e t3.2.1 t3.2.2
    have hpl := hev.1
    have hal := hev.2.1
    refine j_astore_n 3 (L' := [(3, _), (0, _), (1, _), (2, _)]) dX9_faultsIfUp_6 rfl rfl rfl ?_
    refine j_aload_n 3 dX9_faultsIfUp_7 rfl rfl ?_
    refine j_iload_n 2 dX9_faultsIfUp_8 rfl rfl ?_
    by_cases t9 : inP (s.1 k.toNat) e ∧ (s.1 k.toNat).2 0 e ≠ 0
    · refine J_callS0 (show jLk _ _ yX9_checkNote z9_checkNote _ from kX9_116) csX9_checkNote (c0_X9_checkNote hPk hPt.1 hPt.2.1 he t9) rfl rfl rfl rfl rfl dX9_faultsIfUp_9 rfl rfl ?_
      refine j_aload_n 3 dX9_faultsIfUp_12 rfl rfl ?_
      refine j_iload_n 2 dX9_faultsIfUp_13 rfl rfl ?_
      refine J_callV1 kX9_264 cvX6_placeAt hPk.1 (c_X6_placeAt hPk hPt.1 he) rfl rfl rfl rfl rfl dX9_faultsIfUp_14 rfl rfl ?_
      refine J_top ((s.1 k.toNat).2 0 e) ?_ (by exact if_pos t9.1)
      refine j_istore (L' := [(4, _), (3, _), (0, _), (1, _), (2, _)]) dX9_faultsIfUp_17 rfl rfl ?_
      refine j_aload_n 3 dX9_faultsIfUp_19 rfl rfl ?_
      refine j_iload_n 2 dX9_faultsIfUp_20 rfl rfl ?_
      refine J_callV1 kX9_267 cvX6_alterAt hPk.1 (c_X6_alterAt hPk hPt.1 he) rfl rfl rfl rfl rfl dX9_faultsIfUp_21 rfl rfl ?_
      refine J_top ((s.1 k.toNat).2 1 e) ?_ (by exact if_pos t9.1)
      refine j_istore (L' := [(5, _), (4, _), (3, _), (0, _), (1, _), (2, _)]) dX9_faultsIfUp_24 rfl rfl ?_
      refine j_iload dX9_faultsIfUp_26 rfl ?_
      refine J_bipush dX9_faultsIfUp_28 (by decide) ?_
      refine J_iadd dX9_faultsIfUp_30 ?_
      refine J_bipush dX9_faultsIfUp_31 (by decide) ?_
      refine J_icmp_le 38 dX9_faultsIfUp_33 (by decide) (fun c33 => ?_) (fun c33 => ?_) 
      · refine j_aload_n 0 dX9_faultsIfUp_38 rfl rfl ?_
        refine J_callVW0 kX9_225 cvX9_hear hD.1 (c_X9_hear hD hI hZ) rfl rfl rfl rfl rfl dX9_faultsIfUp_39 rfl rfl (fun h hp => ?_)
        obtain ⟨s1, hD, hI, e1, e2, ⟨e3, e4⟩, hF⟩ := hp
        obtain ⟨P1, S1, f1⟩ := s1
        obtain rfl : P1 = s.1 := e1
        have e2 : S1 0 = s.2.1 0 := e2
        have e3 : f1 7 = 1 := e3
        have hH : HarOK s.1 (S1 3) := hI.har (by show f1 7 ≠ 0; omega)
        have hPk : AtX6 G h (d.pad k.toNat) (d.pq k.toNat) (s.1 k.toNat) := hD.2.1.2 k.toNat (by omega)
        have hPr : partOK (givP (s.1 k.toNat) e ((s.1 k.toNat).2 0 e + 7) ((s.1 k.toNat).2 1 e)) := hPt.giv (by omega) (by omega) (fun z => by omega)
        have hsr : scoOK (raiseP s.1 k.toNat e) := scoOK.up (P := s.1) hI.1 hPr
        have her : evs (raiseP s.1 k.toNat e) ≤ 512 := by
          have e5 := evs_up s.1 (k := k.toNat) (by omega) (givP (s.1 k.toNat) e ((s.1 k.toNat).2 0 e + 7) ((s.1 k.toNat).2 1 e))
          have e6 : (givP (s.1 k.toNat) e ((s.1 k.toNat).2 0 e + 7) ((s.1 k.toNat).2 1 e)).1 7 = (s.1 k.toNat).1 7 := by rw [(giv_f _ _ _ _).1]
          have e7 : evs s.1 ≤ 512 := hI.2.1
          unfold raiseP
          omega
        have hHr : HarOK (raiseP s.1 k.toNat e) (S1 3) := hH.tm (giv_tim s.1 k.toNat e _ _)
        have hz2 : fZ (S1 2) := hI.2.2.2.2.1
        have hS2 : HarOK s.1 (S1 3) := hH
        refine j_aload_n 3 dX9_faultsIfUp_42 rfl rfl ?_
        refine j_iload_n 2 dX9_faultsIfUp_43 rfl rfl ?_
        refine j_iload dX9_faultsIfUp_44 rfl ?_
        refine J_bipush dX9_faultsIfUp_46 (by decide) ?_
        refine J_iadd dX9_faultsIfUp_48 ?_
        refine j_iload dX9_faultsIfUp_49 rfl ?_
        refine J_callVW0 kX9_123 cvX6_givePitch hPk.1 (c_X6_givePitch hPk hPt.1 hPt.2.2.1 t9.1 (by omega) (by omega)) rfl rfl rfl rfl rfl dX9_faultsIfUp_51 rfl rfl (fun h hp => ?_)
        obtain ⟨hD, hF8⟩ := hD.wP hZ (by omega) hp.1 hp.2
        have hF := hF.tr hF8
        have hD : Desk G h a d ((raiseP s.1 k.toNat e), S1, f1) := hD
        refine j_aload_n 0 dX9_faultsIfUp_54 rfl rfl ?_
        refine j_get fX9_47 dX9_faultsIfUp_55 hD.1 rfl ?_
        refine j_aload_n 0 dX9_faultsIfUp_58 rfl rfl ?_
        refine j_get fX9_11 dX9_faultsIfUp_59 hD.1 rfl ?_
        refine j_aload_n 0 dX9_faultsIfUp_62 rfl rfl ?_
        refine j_get fX9_33 dX9_faultsIfUp_63 hD.1 rfl ?_
        refine J_callVW0 kX9_270 cvX2_search (hD.2.2.2.2.1).1 (c_X2_search (hD.2.2.2.2.1) hz2 hD.2.1 hsr.Z (hD.2.2.2.2.2.1) (har_n hHr) (har_E hsr hHr) (har_T hsr hHr) hZ.p2 hZ.d32) rfl rfl rfl rfl rfl dX9_faultsIfUp_66 rfl rfl (fun h hp => ?_)
        obtain ⟨hD, hF8⟩ := hD.w2 hZ hp.1 hp.2
        have hF := hF.tr hF8
        have hD : Desk G h a d ((raiseP s.1 k.toNat e), upN S1 2 (seaP (raiseP s.1 k.toNat e) (S1 3) (S1 2)), f1) := hD
        have hPk : AtX6 G h (d.pad k.toNat) (d.pq k.toNat) (givP (s.1 k.toNat) e ((s.1 k.toNat).2 0 e + 7) ((s.1 k.toNat).2 1 e)) := by have g := hD.2.1.2 k.toNat (by omega); rw [show ((raiseP s.1 k.toNat e), upN S1 2 (seaP (raiseP s.1 k.toNat e) (S1 3) (S1 2)), f1).1 k.toNat = (givP (s.1 k.toNat) e ((s.1 k.toNat).2 0 e + 7) ((s.1 k.toNat).2 1 e)) from upN_s _ _ _] at g; exact g
        refine j_aload_n 3 dX9_faultsIfUp_69 rfl rfl ?_
        refine j_iload_n 2 dX9_faultsIfUp_70 rfl rfl ?_
        refine j_iload dX9_faultsIfUp_71 rfl ?_
        refine j_iload dX9_faultsIfUp_73 rfl ?_
        refine J_callVW0 kX9_123 cvX6_givePitch hPk.1 (c_X6_givePitch hPk hPr.1 hPr.2.2.1 (show inP (givP (s.1 k.toNat) e ((s.1 k.toNat).2 0 e + 7) ((s.1 k.toNat).2 1 e)) e by unfold inP; rw [(giv_f _ _ _ _).1]; exact t9.1) (by omega) (by omega)) rfl rfl rfl rfl rfl dX9_faultsIfUp_75 rfl rfl (fun h hp => ?_)
        rw [giv_back hPt t9.1] at hp
        obtain ⟨hD, hF8⟩ := hD.wP hZ (by omega) hp.1 hp.2
        have hF := hF.tr hF8
        have hD : Desk G h a d (s.1, upN S1 2 (seaP (raiseP s.1 k.toNat e) (S1 3) (S1 2)), f1) := by
          have e8 : upN (raiseP s.1 k.toNat e) k.toNat (s.1 k.toNat) = s.1 := by unfold raiseP; rw [upN_upN, upN_id]
          have g : Desk G h a d (upN (raiseP s.1 k.toNat e) k.toNat (s.1 k.toNat), upN S1 2 (seaP (raiseP s.1 k.toNat e) (S1 3) (S1 2)), f1) := hD
          rw [e8] at g
          exact g
        have hL : LstAt (seaP (raiseP s.1 k.toNat e) (S1 3) (S1 2)) (fauA (raiseP s.1 k.toNat e)) := sea_ok hsr her _ hHr
        refine j_aload_n 0 dX9_faultsIfUp_78 rfl rfl ?_
        refine J_iconst dX9_faultsIfUp_79 ?_
        refine J_putZD hD hZ fX9_62 tyX9_searched dX9_faultsIfUp_80 ⟨rfl, rfl⟩ rfl rfl (fun h hD hF80 => ?_)
        have hF := hF.tr hF80
        refine j_aload_n 0 dX9_faultsIfUp_83 rfl rfl ?_
        refine j_get fX9_47 dX9_faultsIfUp_84 hD.1 rfl ?_
        refine J_callV1 kX9_253 cvX2_size (hD.2.2.2.2.1).1 (c_X2_size (hD.2.2.2.2.1)) rfl rfl rfl rfl rfl dX9_faultsIfUp_87 rfl rfl ?_
        refine J_top (((fauA (raiseP s.1 k.toNat e)).length : Int)) ?_ (by exact hL.1)
        refine j_iret rfl dX9_faultsIfUp_90 ?_
        exact ⟨by rw [if_pos t3, if_pos t9, if_neg (by omega)], _, hD, DI.uns (s := (s.1, S1, f1)) hI (fZ_sea hsr.Z hz2), rfl, e2, True.intro, hF⟩
      · refine J_iconst dX9_faultsIfUp_36 ?_
        refine j_iret rfl dX9_faultsIfUp_37 ?_
        exact ⟨by rw [if_pos t3, if_pos t9, if_pos (by omega)], DP.same hD hI⟩
    · refine J_callSX kX9_116 csX9_checkNote (c_X9_checkNote hl0 hPk hPt.1 hPt.2.1 he t9) rfl rfl rfl rfl rfl dX9_faultsIfUp_9 rfl (by decide) (by decide) (fun h9 hp => ?_)
      exact ⟨by rw [if_pos t3, if_neg t9], DP.eq hp hD hI⟩
  · refine J_callVX kX9_112 cvX9_partWith hD.1 (c_X9_partWith hl0 hD hI hZ hk he t3) rfl rfl rfl rfl rfl dX9_faultsIfUp_3 rfl (by decide) (by decide) (fun h9 hp => ?_)
    exact ⟨by rw [if_neg t3], DP.eq hp hD hI⟩
