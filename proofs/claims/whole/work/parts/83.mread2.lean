theorem MI.u {d : MD} {P mp : Nat → OS} {p0 p : OS} {k : Nat} {x : Int} (hI : MI d P p0 mp p.2) : MI d P p0 mp (oU p k x).2 := hI
set_option maxRecDepth 100000 in
theorem c_X11_events {l : Launch} {G : jG} {h : jH} {a : Nat} {d : MD} {mp P : Nat → OS} {p p0 : OS} {Z : Nat → Nat} {k : Int} (hM : Mod G h a d mp p) (hZ : Mz a d Z) (hI : MI d P p0 mp p.2) (hk : rg k) : jC l G yX11_events mX11_events [.ref a, vI k] h (jW (oI (if 0 ≤ k ∧ k < 4 then (P k.toNat).1 7 else 0)) (fun h' => ∃ p', Mod G h' a d mp p' ∧ MI d P p0 mp p'.2 ∧ p'.1 0 = (if 0 ≤ k ∧ k < 4 then 0 else 1) ∧ Fr (FtM a d) h h')) := by
  refine j_body (by decide +kernel) ⟨rfl, rfl⟩ rfl ?_
  have hP := hM.1
  have hF : Fr (FtM a d) h h := Fr.rf
  obtain ⟨Fa, hpa, hFa⟩ := hM.2.1
  refine j_aload_n 0 dX11_events_0 rfl rfl ?_
  refine J_iconst dX11_events_1 ?_
  refine J_putA hP fX11_87 tyX11_thrown dX11_events_2 rfl rfl (fun h hP hF2 => ?_)
  have hM := hM.w hZ hP hF2
  have hF := hF.tr (hF2.mono (fun _ q => Or.inl q))
  obtain ⟨Fa, hpa, hFa⟩ := hM.2.1
  refine j_iload_n 1 dX11_events_5 rfl rfl ?_
  refine J_callSZ kX11_95 csX11_isPart (c_X11_isPart hk) rfl rfl rfl rfl rfl dX11_events_6 rfl rfl (fun z6 => ?_) (fun z6 => ?_)
  · refine J_if_eq 24 dX11_events_9 (by decide) (fun c9 => absurd c9 (by decide)) (fun c9 => ?_) 
    have hPk := hM.2.2 k.toNat (by omega)
    have hmk := hI.2.1 k.toNat (by omega)
    have hpk := hI.1.1 k.toNat (by omega)
    have hnk : 0 ≤ (P k.toNat).1 7 ∧ (P k.toNat).1 7 ≤ 512 := hpk.1
    refine j_aload_n 0 dX11_events_12 rfl rfl ?_
    refine j_get fX11_24 dX11_events_13 hP.1 rfl ?_
    refine j_iload_n 1 dX11_events_16 rfl rfl ?_
    refine J_qaldM dX11_events_17 hpa (hFa _ (by omega)) ?_ 
    refine j_getN fX11_99 dX11_events_18 hPk.1 rfl ?_
    refine J_top ((P k.toNat).1 7) ?_ (by exact hmk.1.1)
    refine j_goto 29 dX11_events_21 (by decide) ?_
    refine j_iret rfl dX11_events_29 ?_
    first | exact ⟨oIe (if_pos z6).symm, _, hM, hI, (if_pos z6).symm, hF⟩ | exact ⟨oIe (if_neg z6).symm, _, hM, hI, (if_neg z6).symm, hF⟩
  · refine J_if_eq 24 dX11_events_9 (by decide) (fun c9 => ?_) (fun c9 => absurd c9 (by decide)) 
    refine j_aload_n 0 dX11_events_24 rfl rfl ?_
    refine J_iconst dX11_events_25 ?_
    refine J_callVW1 kX11_115 cvX11_refuse hP.1 (c_X11_refuse hM hZ hI) rfl rfl rfl rfl rfl dX11_events_26 rfl rfl (fun h hp => ?_)
    obtain ⟨hM, hF9⟩ := hp
    have hF := hF.tr hF9
    have hP := hM.1
    refine j_iret rfl dX11_events_29 ?_
    first | exact ⟨oIe (if_pos z6).symm, _, hM, hI, (if_pos z6).symm, hF⟩ | exact ⟨oIe (if_neg z6).symm, _, hM, hI, (if_neg z6).symm, hF⟩
set_option maxRecDepth 100000 in
theorem c_X11_beginOf {l : Launch} {G : jG} {h : jH} {a : Nat} {d : MD} {mp P : Nat → OS} {p p0 : OS} {Z : Nat → Nat} {k e : Int} (hM : Mod G h a d mp p) (hZ : Mz a d Z) (hI : MI d P p0 mp p.2) (hk : rg k) (he : rg e) : jC l G yX11_beginOf mX11_beginOf [.ref a, vI k, vI e] h (jW (oI (if (0 ≤ k ∧ k < 4) ∧ inP (P k.toNat) e then (P k.toNat).2 3 e else 0)) (fun h' => ∃ p', Mod G h' a d mp p' ∧ MI d P p0 mp p'.2 ∧ p'.1 0 = (if (0 ≤ k ∧ k < 4) ∧ inP (P k.toNat) e then 0 else 1) ∧ Fr (FtM a d) h h')) := by
  refine j_body (by decide +kernel) ⟨rfl, rfl⟩ rfl ?_
  have hP := hM.1
  have hF : Fr (FtM a d) h h := Fr.rf
  obtain ⟨Fa, hpa, hFa⟩ := hM.2.1
  refine j_aload_n 0 dX11_beginOf_0 rfl rfl ?_
  refine J_iconst dX11_beginOf_1 ?_
  refine J_putA hP fX11_87 tyX11_thrown dX11_beginOf_2 rfl rfl (fun h hP hF2 => ?_)
  have hM := hM.w hZ hP hF2
  have hF := hF.tr (hF2.mono (fun _ q => Or.inl q))
  obtain ⟨Fa, hpa, hFa⟩ := hM.2.1
  refine j_aload_n 0 dX11_beginOf_5 rfl rfl ?_
  refine j_iload_n 1 dX11_beginOf_6 rfl rfl ?_
  refine j_iload_n 2 dX11_beginOf_7 rfl rfl ?_
  refine J_callVZ kX11_134 cvX11_isEvent hP.1 (c_X11_isEvent hM hZ hI hk he) rfl rfl rfl rfl rfl dX11_beginOf_8 rfl rfl (fun z8 => ?_) (fun z8 => ?_)
  · refine J_if_eq 28 dX11_beginOf_11 (by decide) (fun c11 => absurd c11 (by decide)) (fun c11 => ?_) 
    have hPk := hM.2.2 k.toNat (by omega)
    have hmk := hI.2.1 k.toNat (by omega)
    have hpk := hI.1.1 k.toNat (by omega)
    have hnk : 0 ≤ (P k.toNat).1 7 ∧ (P k.toNat).1 7 ≤ 512 := hpk.1
    have hi := z8.2
    obtain ⟨g1, g2, g3, g4⟩ := hmk.2.1 e hi.1 hi.2
    have hen := hmk.2.2.1
    have hez := hmk.2.2.2
    obtain ⟨zz0, zz1, zz2, zz3, zz4, zz5, zz6⟩ := hpk.2.1 e hi.1 hi.2
    refine j_aload_n 0 dX11_beginOf_14 rfl rfl ?_
    refine j_get fX11_24 dX11_beginOf_15 hP.1 rfl ?_
    refine j_iload_n 1 dX11_beginOf_18 rfl rfl ?_
    refine J_qaldM dX11_beginOf_19 hpa (hFa _ (by omega)) ?_ 
    refine j_getN fX11_170 dX11_beginOf_20 hPk.1 rfl ?_
    refine j_iload_n 2 dX11_beginOf_23 rfl rfl ?_
    refine J_iald dX11_beginOf_24 (hPk.2.1 1 rfl) ?_ 
    refine J_top ((P k.toNat).2 3 e) ?_ (by exact g1)
    refine j_goto 33 dX11_beginOf_25 (by decide) ?_
    refine j_iret rfl dX11_beginOf_33 ?_
    first | exact ⟨oIe (if_pos z8).symm, _, hM, hI, (if_pos z8).symm, hF⟩ | exact ⟨oIe (if_neg z8).symm, _, hM, hI, (if_neg z8).symm, hF⟩
  · refine J_if_eq 28 dX11_beginOf_11 (by decide) (fun c11 => ?_) (fun c11 => absurd c11 (by decide)) 
    refine j_aload_n 0 dX11_beginOf_28 rfl rfl ?_
    refine J_iconst dX11_beginOf_29 ?_
    refine J_callVW1 kX11_115 cvX11_refuse hP.1 (c_X11_refuse hM hZ hI) rfl rfl rfl rfl rfl dX11_beginOf_30 rfl rfl (fun h hp => ?_)
    obtain ⟨hM, hF9⟩ := hp
    have hF := hF.tr hF9
    have hP := hM.1
    refine j_iret rfl dX11_beginOf_33 ?_
    first | exact ⟨oIe (if_pos z8).symm, _, hM, hI, (if_pos z8).symm, hF⟩ | exact ⟨oIe (if_neg z8).symm, _, hM, hI, (if_neg z8).symm, hF⟩
set_option maxRecDepth 100000 in
theorem c_X11_heightOf {l : Launch} {G : jG} {h : jH} {a : Nat} {d : MD} {mp P : Nat → OS} {p p0 : OS} {Z : Nat → Nat} {k e : Int} (hM : Mod G h a d mp p) (hZ : Mz a d Z) (hI : MI d P p0 mp p.2) (hk : rg k) (he : rg e) : jC l G yX11_heightOf mX11_heightOf [.ref a, vI k, vI e] h (jW (oI (if (0 ≤ k ∧ k < 4) ∧ inP (P k.toNat) e then (P k.toNat).2 2 e else 0)) (fun h' => ∃ p', Mod G h' a d mp p' ∧ MI d P p0 mp p'.2 ∧ p'.1 0 = (if (0 ≤ k ∧ k < 4) ∧ inP (P k.toNat) e then 0 else 1) ∧ Fr (FtM a d) h h')) := by
  refine j_body (by decide +kernel) ⟨rfl, rfl⟩ rfl ?_
  have hP := hM.1
  have hF : Fr (FtM a d) h h := Fr.rf
  obtain ⟨Fa, hpa, hFa⟩ := hM.2.1
  refine j_aload_n 0 dX11_heightOf_0 rfl rfl ?_
  refine J_iconst dX11_heightOf_1 ?_
  refine J_putA hP fX11_87 tyX11_thrown dX11_heightOf_2 rfl rfl (fun h hP hF2 => ?_)
  have hM := hM.w hZ hP hF2
  have hF := hF.tr (hF2.mono (fun _ q => Or.inl q))
  obtain ⟨Fa, hpa, hFa⟩ := hM.2.1
  refine j_aload_n 0 dX11_heightOf_5 rfl rfl ?_
  refine j_iload_n 1 dX11_heightOf_6 rfl rfl ?_
  refine j_iload_n 2 dX11_heightOf_7 rfl rfl ?_
  refine J_callVZ kX11_134 cvX11_isEvent hP.1 (c_X11_isEvent hM hZ hI hk he) rfl rfl rfl rfl rfl dX11_heightOf_8 rfl rfl (fun z8 => ?_) (fun z8 => ?_)
  · refine J_if_eq 23 dX11_heightOf_11 (by decide) (fun c11 => absurd c11 (by decide)) (fun c11 => ?_) 
    refine j_aload_n 0 dX11_heightOf_14 rfl rfl ?_
    refine j_iload_n 1 dX11_heightOf_15 rfl rfl ?_
    refine j_iload_n 2 dX11_heightOf_16 rfl rfl ?_
    refine J_callV1 kX11_172 cvX11_heightNow hP.1 (c_X11_heightNow hM hZ hI z8.1 z8.2) rfl rfl rfl rfl rfl dX11_heightOf_17 rfl rfl ?_
    refine J_top ((P k.toNat).2 2 e) ?_ (by exact if_pos z8.2)
    refine j_goto 28 dX11_heightOf_20 (by decide) ?_
    refine j_iret rfl dX11_heightOf_28 ?_
    first | exact ⟨oIe (if_pos z8).symm, _, hM, hI, (if_pos z8).symm, hF⟩ | exact ⟨oIe (if_neg z8).symm, _, hM, hI, (if_neg z8).symm, hF⟩
  · refine J_if_eq 23 dX11_heightOf_11 (by decide) (fun c11 => ?_) (fun c11 => absurd c11 (by decide)) 
    refine j_aload_n 0 dX11_heightOf_23 rfl rfl ?_
    refine J_iconst dX11_heightOf_24 ?_
    refine J_callVW1 kX11_115 cvX11_refuse hP.1 (c_X11_refuse hM hZ hI) rfl rfl rfl rfl rfl dX11_heightOf_25 rfl rfl (fun h hp => ?_)
    obtain ⟨hM, hF9⟩ := hp
    have hF := hF.tr hF9
    have hP := hM.1
    refine j_iret rfl dX11_heightOf_28 ?_
    first | exact ⟨oIe (if_pos z8).symm, _, hM, hI, (if_pos z8).symm, hF⟩ | exact ⟨oIe (if_neg z8).symm, _, hM, hI, (if_neg z8).symm, hF⟩
set_option maxRecDepth 100000 in
theorem c_X11_barOf {l : Launch} {G : jG} {h : jH} {a : Nat} {d : MD} {mp P : Nat → OS} {p p0 : OS} {Z : Nat → Nat} {k e : Int} (hM : Mod G h a d mp p) (hZ : Mz a d Z) (hI : MI d P p0 mp p.2) (hk : rg k) (he : rg e) : jC l G yX11_barOf mX11_barOf [.ref a, vI k, vI e] h (jW (oI (if (0 ≤ k ∧ k < 4) ∧ inP (P k.toNat) e then barF (p0.2 2) ((P k.toNat).2 3 e) 24 else 0)) (fun h' => ∃ p', Mod G h' a d mp p' ∧ MI d P p0 mp p'.2 ∧ p'.1 0 = (if (0 ≤ k ∧ k < 4) ∧ inP (P k.toNat) e then 0 else 1) ∧ Fr (FtM a d) h h')) := by
  refine j_body (by decide +kernel) ⟨rfl, rfl⟩ rfl ?_
  have hP := hM.1
  have hF : Fr (FtM a d) h h := Fr.rf
  obtain ⟨Fa, hpa, hFa⟩ := hM.2.1
  refine j_aload_n 0 dX11_barOf_0 rfl rfl ?_
  refine J_iconst dX11_barOf_1 ?_
  refine J_putA hP fX11_87 tyX11_thrown dX11_barOf_2 rfl rfl (fun h hP hF2 => ?_)
  have hM := hM.w hZ hP hF2
  have hF := hF.tr (hF2.mono (fun _ q => Or.inl q))
  obtain ⟨Fa, hpa, hFa⟩ := hM.2.1
  refine j_aload_n 0 dX11_barOf_5 rfl rfl ?_
  refine j_iload_n 1 dX11_barOf_6 rfl rfl ?_
  refine j_iload_n 2 dX11_barOf_7 rfl rfl ?_
  refine J_callVZ kX11_134 cvX11_isEvent hP.1 (c_X11_isEvent hM hZ hI hk he) rfl rfl rfl rfl rfl dX11_barOf_8 rfl rfl (fun z8 => ?_) (fun z8 => ?_)
  · refine J_if_eq 32 dX11_barOf_11 (by decide) (fun c11 => absurd c11 (by decide)) (fun c11 => ?_) 
    have hPk := hM.2.2 k.toNat (by omega)
    have hmk := hI.2.1 k.toNat (by omega)
    have hpk := hI.1.1 k.toNat (by omega)
    have hnk : 0 ≤ (P k.toNat).1 7 ∧ (P k.toNat).1 7 ≤ 512 := hpk.1
    have hi := z8.2
    obtain ⟨g1, g2, g3, g4⟩ := hmk.2.1 e hi.1 hi.2
    have hen := hmk.2.2.1
    have hez := hmk.2.2.2
    obtain ⟨zz0, zz1, zz2, zz3, zz4, zz5, zz6⟩ := hpk.2.1 e hi.1 hi.2
    refine j_aload_n 0 dX11_barOf_14 rfl rfl ?_
    refine j_aload_n 0 dX11_barOf_15 rfl rfl ?_
    refine j_get fX11_24 dX11_barOf_16 hP.1 rfl ?_
    refine j_iload_n 1 dX11_barOf_19 rfl rfl ?_
    refine J_qaldM dX11_barOf_20 hpa (hFa _ (by omega)) ?_ 
    refine j_getN fX11_170 dX11_barOf_21 hPk.1 rfl ?_
    refine j_iload_n 2 dX11_barOf_24 rfl rfl ?_
    refine J_iald dX11_barOf_25 (hPk.2.1 1 rfl) ?_ 
    refine J_top ((P k.toNat).2 3 e) ?_ (by exact g1)
    refine J_callV1 kX11_175 cvX11_barAt hP.1 (c_X11_barAt hM hZ hI (by omega)) rfl rfl rfl rfl rfl dX11_barOf_26 rfl rfl ?_
    refine j_goto 37 dX11_barOf_29 (by decide) ?_
    refine j_iret rfl dX11_barOf_37 ?_
    first | exact ⟨oIe (if_pos z8).symm, _, hM, hI, (if_pos z8).symm, hF⟩ | exact ⟨oIe (if_neg z8).symm, _, hM, hI, (if_neg z8).symm, hF⟩
  · refine J_if_eq 32 dX11_barOf_11 (by decide) (fun c11 => ?_) (fun c11 => absurd c11 (by decide)) 
    refine j_aload_n 0 dX11_barOf_32 rfl rfl ?_
    refine J_iconst dX11_barOf_33 ?_
    refine J_callVW1 kX11_115 cvX11_refuse hP.1 (c_X11_refuse hM hZ hI) rfl rfl rfl rfl rfl dX11_barOf_34 rfl rfl (fun h hp => ?_)
    obtain ⟨hM, hF9⟩ := hp
    have hF := hF.tr hF9
    have hP := hM.1
    refine j_iret rfl dX11_barOf_37 ?_
    first | exact ⟨oIe (if_pos z8).symm, _, hM, hI, (if_pos z8).symm, hF⟩ | exact ⟨oIe (if_neg z8).symm, _, hM, hI, (if_neg z8).symm, hF⟩
set_option maxRecDepth 100000 in
theorem c_X11_writtenPlace {l : Launch} {G : jG} {h : jH} {a : Nat} {d : MD} {mp P : Nat → OS} {p p0 : OS} {Z : Nat → Nat} {k e : Int} (hM : Mod G h a d mp p) (hZ : Mz a d Z) (hI : MI d P p0 mp p.2) (hk : rg k) (he : rg e) : jC l G yX11_writtenPlace mX11_writtenPlace [.ref a, vI k, vI e] h (jW (oI (if (0 ≤ k ∧ k < 4) ∧ inP (P k.toNat) e then (P k.toNat).2 5 e else 0)) (fun h' => ∃ p', Mod G h' a d mp p' ∧ MI d P p0 mp p'.2 ∧ p'.1 0 = (if (0 ≤ k ∧ k < 4) ∧ inP (P k.toNat) e then 0 else 1) ∧ Fr (FtM a d) h h')) := by
  refine j_body (by decide +kernel) ⟨rfl, rfl⟩ rfl ?_
  have hP := hM.1
  have hF : Fr (FtM a d) h h := Fr.rf
  obtain ⟨Fa, hpa, hFa⟩ := hM.2.1
  refine j_aload_n 0 dX11_writtenPlace_0 rfl rfl ?_
  refine J_iconst dX11_writtenPlace_1 ?_
  refine J_putA hP fX11_87 tyX11_thrown dX11_writtenPlace_2 rfl rfl (fun h hP hF2 => ?_)
  have hM := hM.w hZ hP hF2
  have hF := hF.tr (hF2.mono (fun _ q => Or.inl q))
  obtain ⟨Fa, hpa, hFa⟩ := hM.2.1
  refine j_aload_n 0 dX11_writtenPlace_5 rfl rfl ?_
  refine j_iload_n 1 dX11_writtenPlace_6 rfl rfl ?_
  refine j_iload_n 2 dX11_writtenPlace_7 rfl rfl ?_
  refine J_callVZ kX11_134 cvX11_isEvent hP.1 (c_X11_isEvent hM hZ hI hk he) rfl rfl rfl rfl rfl dX11_writtenPlace_8 rfl rfl (fun z8 => ?_) (fun z8 => ?_)
  · refine J_if_eq 23 dX11_writtenPlace_11 (by decide) (fun c11 => absurd c11 (by decide)) (fun c11 => ?_) 
    refine j_aload_n 0 dX11_writtenPlace_14 rfl rfl ?_
    refine j_iload_n 1 dX11_writtenPlace_15 rfl rfl ?_
    refine j_iload_n 2 dX11_writtenPlace_16 rfl rfl ?_
    refine J_callV1 kX11_184 cvX11_writtenPlaceNow hP.1 (c_X11_writtenPlaceNow hM hZ hI z8.1 z8.2) rfl rfl rfl rfl rfl dX11_writtenPlace_17 rfl rfl ?_
    refine j_goto 28 dX11_writtenPlace_20 (by decide) ?_
    refine j_iret rfl dX11_writtenPlace_28 ?_
    first | exact ⟨oIe (if_pos z8).symm, _, hM, hI, (if_pos z8).symm, hF⟩ | exact ⟨oIe (if_neg z8).symm, _, hM, hI, (if_neg z8).symm, hF⟩
  · refine J_if_eq 23 dX11_writtenPlace_11 (by decide) (fun c11 => ?_) (fun c11 => absurd c11 (by decide)) 
    refine j_aload_n 0 dX11_writtenPlace_23 rfl rfl ?_
    refine J_iconst dX11_writtenPlace_24 ?_
    refine J_callVW1 kX11_115 cvX11_refuse hP.1 (c_X11_refuse hM hZ hI) rfl rfl rfl rfl rfl dX11_writtenPlace_25 rfl rfl (fun h hp => ?_)
    obtain ⟨hM, hF9⟩ := hp
    have hF := hF.tr hF9
    have hP := hM.1
    refine j_iret rfl dX11_writtenPlace_28 ?_
    first | exact ⟨oIe (if_pos z8).symm, _, hM, hI, (if_pos z8).symm, hF⟩ | exact ⟨oIe (if_neg z8).symm, _, hM, hI, (if_neg z8).symm, hF⟩
set_option maxRecDepth 100000 in
theorem c_X11_writtenAlter {l : Launch} {G : jG} {h : jH} {a : Nat} {d : MD} {mp P : Nat → OS} {p p0 : OS} {Z : Nat → Nat} {k e : Int} (hM : Mod G h a d mp p) (hZ : Mz a d Z) (hI : MI d P p0 mp p.2) (hk : rg k) (he : rg e) : jC l G yX11_writtenAlter mX11_writtenAlter [.ref a, vI k, vI e] h (jW (oI (if (0 ≤ k ∧ k < 4) ∧ inP (P k.toNat) e then (P k.toNat).2 6 e else 0)) (fun h' => ∃ p', Mod G h' a d mp p' ∧ MI d P p0 mp p'.2 ∧ p'.1 0 = (if (0 ≤ k ∧ k < 4) ∧ inP (P k.toNat) e then 0 else 1) ∧ Fr (FtM a d) h h')) := by
  refine j_body (by decide +kernel) ⟨rfl, rfl⟩ rfl ?_
  have hP := hM.1
  have hF : Fr (FtM a d) h h := Fr.rf
  obtain ⟨Fa, hpa, hFa⟩ := hM.2.1
  refine j_aload_n 0 dX11_writtenAlter_0 rfl rfl ?_
  refine J_iconst dX11_writtenAlter_1 ?_
  refine J_putA hP fX11_87 tyX11_thrown dX11_writtenAlter_2 rfl rfl (fun h hP hF2 => ?_)
  have hM := hM.w hZ hP hF2
  have hF := hF.tr (hF2.mono (fun _ q => Or.inl q))
  obtain ⟨Fa, hpa, hFa⟩ := hM.2.1
  refine j_aload_n 0 dX11_writtenAlter_5 rfl rfl ?_
  refine j_iload_n 1 dX11_writtenAlter_6 rfl rfl ?_
  refine j_iload_n 2 dX11_writtenAlter_7 rfl rfl ?_
  refine J_callVZ kX11_134 cvX11_isEvent hP.1 (c_X11_isEvent hM hZ hI hk he) rfl rfl rfl rfl rfl dX11_writtenAlter_8 rfl rfl (fun z8 => ?_) (fun z8 => ?_)
  · refine J_if_eq 23 dX11_writtenAlter_11 (by decide) (fun c11 => absurd c11 (by decide)) (fun c11 => ?_) 
    refine j_aload_n 0 dX11_writtenAlter_14 rfl rfl ?_
    refine j_iload_n 1 dX11_writtenAlter_15 rfl rfl ?_
    refine j_iload_n 2 dX11_writtenAlter_16 rfl rfl ?_
    refine J_callV1 kX11_187 cvX11_writtenAlterNow hP.1 (c_X11_writtenAlterNow hM hZ hI z8.1 z8.2) rfl rfl rfl rfl rfl dX11_writtenAlter_17 rfl rfl ?_
    refine j_goto 28 dX11_writtenAlter_20 (by decide) ?_
    refine j_iret rfl dX11_writtenAlter_28 ?_
    first | exact ⟨oIe (if_pos z8).symm, _, hM, hI, (if_pos z8).symm, hF⟩ | exact ⟨oIe (if_neg z8).symm, _, hM, hI, (if_neg z8).symm, hF⟩
  · refine J_if_eq 23 dX11_writtenAlter_11 (by decide) (fun c11 => ?_) (fun c11 => absurd c11 (by decide)) 
    refine j_aload_n 0 dX11_writtenAlter_23 rfl rfl ?_
    refine J_iconst dX11_writtenAlter_24 ?_
    refine J_callVW1 kX11_115 cvX11_refuse hP.1 (c_X11_refuse hM hZ hI) rfl rfl rfl rfl rfl dX11_writtenAlter_25 rfl rfl (fun h hp => ?_)
    obtain ⟨hM, hF9⟩ := hp
    have hF := hF.tr hF9
    have hP := hM.1
    refine j_iret rfl dX11_writtenAlter_28 ?_
    first | exact ⟨oIe (if_pos z8).symm, _, hM, hI, (if_pos z8).symm, hF⟩ | exact ⟨oIe (if_neg z8).symm, _, hM, hI, (if_neg z8).symm, hF⟩
set_option maxRecDepth 100000 in
theorem c_X11_alterIn {l : Launch} {G : jG} {h : jH} {a : Nat} {d : MD} {mp P : Nat → OS} {p p0 : OS} {Z : Nat → Nat} {k e : Int} (hM : Mod G h a d mp p) (hZ : Mz a d Z) (hI : MI d P p0 mp p.2) (hk : rg k) (he : rg e) : jC l G yX11_alterIn mX11_alterIn [.ref a, vI k, vI e] h (jW (oI (if (-7 ≤ k ∧ k ≤ 7) ∧ 0 ≤ e ∧ e < 7 then altK k e else 0)) (fun h' => ∃ p', Mod G h' a d mp p' ∧ MI d P p0 mp p'.2 ∧ p'.1 0 = (if (-7 ≤ k ∧ k ≤ 7) ∧ 0 ≤ e ∧ e < 7 then 0 else 1) ∧ Fr (FtM a d) h h')) := by
  refine j_body (by decide +kernel) ⟨rfl, rfl⟩ rfl ?_
  have hP := hM.1
  have hF : Fr (FtM a d) h h := Fr.rf
  obtain ⟨Fa, hpa, hFa⟩ := hM.2.1
  refine j_aload_n 0 dX11_alterIn_0 rfl rfl ?_
  refine J_iconst dX11_alterIn_1 ?_
  refine J_putA hP fX11_87 tyX11_thrown dX11_alterIn_2 rfl rfl (fun h hP hF2 => ?_)
  have hM := hM.w hZ hP hF2
  have hF := hF.tr (hF2.mono (fun _ q => Or.inl q))
  obtain ⟨Fa, hpa, hFa⟩ := hM.2.1
  refine j_iload_n 1 dX11_alterIn_5 rfl rfl ?_
  refine J_bipush dX11_alterIn_6 (by decide) ?_
  refine J_bipush dX11_alterIn_8 (by decide) ?_
  refine J_callSZ kX11_91 csX11_is (c_X11_is hk (by decide) (by decide)) rfl rfl rfl rfl rfl dX11_alterIn_10 rfl rfl (fun z10 => ?_) (fun z10 => ?_)
  · refine J_if_eq 34 dX11_alterIn_13 (by decide) (fun c13 => absurd c13 (by decide)) (fun c13 => ?_) 
    refine j_iload_n 2 dX11_alterIn_16 rfl rfl ?_
    refine J_iconst dX11_alterIn_17 ?_
    refine J_bipush dX11_alterIn_18 (by decide) ?_
    refine J_callSZ kX11_91 csX11_is (c_X11_is he (by decide) (by decide)) rfl rfl rfl rfl rfl dX11_alterIn_20 rfl rfl (fun z20 => ?_) (fun z20 => ?_)
    · refine J_if_eq 34 dX11_alterIn_23 (by decide) (fun c23 => absurd c23 (by decide)) (fun c23 => ?_) 
      have q20 : e < 7 := by omega
      refine j_iload_n 1 dX11_alterIn_26 rfl rfl ?_
      refine j_iload_n 2 dX11_alterIn_27 rfl rfl ?_
      refine J_callS1 kX11_196 csX11_altered (c_X11_altered z10 ⟨z20.1, q20⟩) rfl rfl rfl rfl rfl dX11_alterIn_28 rfl rfl ?_
      refine j_goto 39 dX11_alterIn_31 (by decide) ?_
      refine j_iret rfl dX11_alterIn_39 ?_
      first | exact ⟨oIe (if_pos ⟨z10, z20.1, q20⟩).symm, _, hM, hI, (if_pos ⟨z10, z20.1, q20⟩).symm, hF⟩ | exact ⟨oIe (if_neg (fun q => z10 q.1)).symm, _, hM, hI, (if_neg (fun q => z10 q.1)).symm, hF⟩ | exact ⟨oIe (if_neg (fun q => z20 ⟨q.2.1, Int.lt_add_one_iff.mp q.2.2⟩)).symm, _, hM, hI, (if_neg (fun q => z20 ⟨q.2.1, Int.lt_add_one_iff.mp q.2.2⟩)).symm, hF⟩
    · refine J_if_eq 34 dX11_alterIn_23 (by decide) (fun c23 => ?_) (fun c23 => absurd c23 (by decide)) 
      refine j_aload_n 0 dX11_alterIn_34 rfl rfl ?_
      refine J_iconst dX11_alterIn_35 ?_
      refine J_callVW1 kX11_115 cvX11_refuse hP.1 (c_X11_refuse hM hZ hI) rfl rfl rfl rfl rfl dX11_alterIn_36 rfl rfl (fun h hp => ?_)
      obtain ⟨hM, hF9⟩ := hp
      have hF := hF.tr hF9
      have hP := hM.1
      refine j_iret rfl dX11_alterIn_39 ?_
      first | exact ⟨oIe (if_pos ⟨z10, z20.1, q20⟩).symm, _, hM, hI, (if_pos ⟨z10, z20.1, q20⟩).symm, hF⟩ | exact ⟨oIe (if_neg (fun q => z10 q.1)).symm, _, hM, hI, (if_neg (fun q => z10 q.1)).symm, hF⟩ | exact ⟨oIe (if_neg (fun q => z20 ⟨q.2.1, Int.lt_add_one_iff.mp q.2.2⟩)).symm, _, hM, hI, (if_neg (fun q => z20 ⟨q.2.1, Int.lt_add_one_iff.mp q.2.2⟩)).symm, hF⟩
  · refine J_if_eq 34 dX11_alterIn_13 (by decide) (fun c13 => ?_) (fun c13 => absurd c13 (by decide)) 
    refine j_aload_n 0 dX11_alterIn_34 rfl rfl ?_
    refine J_iconst dX11_alterIn_35 ?_
    refine J_callVW1 kX11_115 cvX11_refuse hP.1 (c_X11_refuse hM hZ hI) rfl rfl rfl rfl rfl dX11_alterIn_36 rfl rfl (fun h hp => ?_)
    obtain ⟨hM, hF9⟩ := hp
    have hF := hF.tr hF9
    have hP := hM.1
    refine j_iret rfl dX11_alterIn_39 ?_
    first | exact ⟨oIe (if_pos ⟨z10, z20.1, q20⟩).symm, _, hM, hI, (if_pos ⟨z10, z20.1, q20⟩).symm, hF⟩ | exact ⟨oIe (if_neg (fun q => z10 q.1)).symm, _, hM, hI, (if_neg (fun q => z10 q.1)).symm, hF⟩ | exact ⟨oIe (if_neg (fun q => z20 ⟨q.2.1, Int.lt_add_one_iff.mp q.2.2⟩)).symm, _, hM, hI, (if_neg (fun q => z20 ⟨q.2.1, Int.lt_add_one_iff.mp q.2.2⟩)).symm, hF⟩
set_option maxRecDepth 100000 in
theorem c_X11_writtenKey {l : Launch} {G : jG} {h : jH} {a : Nat} {d : MD} {mp P : Nat → OS} {p p0 : OS} {Z : Nat → Nat} {k b : Int} (hM : Mod G h a d mp p) (hZ : Mz a d Z) (hI : MI d P p0 mp p.2) (hk : rg k) (hb : rg b) : jC l G yX11_writtenKey mX11_writtenKey [.ref a, vI k, vI b] h (jW (oI (if (0 ≤ k ∧ k < 4) ∧ isBar b then kwF (P k.toNat) (p0.2 3 b) else 0)) (fun h' => ∃ p', Mod G h' a d mp p' ∧ MI d P p0 mp p'.2 ∧ p'.1 0 = (if (0 ≤ k ∧ k < 4) ∧ isBar b then 0 else 1) ∧ Fr (FtM a d) h h')) := by
  refine j_body (by decide +kernel) ⟨rfl, rfl⟩ rfl ?_
  have hP := hM.1
  have hF : Fr (FtM a d) h h := Fr.rf
  obtain ⟨Fa, hpa, hFa⟩ := hM.2.1
  refine j_aload_n 0 dX11_writtenKey_0 rfl rfl ?_
  refine J_iconst dX11_writtenKey_1 ?_
  refine J_putA hP fX11_87 tyX11_thrown dX11_writtenKey_2 rfl rfl (fun h hP hF2 => ?_)
  have hM := hM.w hZ hP hF2
  have hF := hF.tr (hF2.mono (fun _ q => Or.inl q))
  obtain ⟨Fa, hpa, hFa⟩ := hM.2.1
  refine j_iload_n 1 dX11_writtenKey_5 rfl rfl ?_
  refine J_callSZ kX11_95 csX11_isPart (c_X11_isPart hk) rfl rfl rfl rfl rfl dX11_writtenKey_6 rfl rfl (fun z6 => ?_) (fun z6 => ?_)
  · refine J_if_eq 28 dX11_writtenKey_9 (by decide) (fun c9 => absurd c9 (by decide)) (fun c9 => ?_) 
    refine j_iload_n 2 dX11_writtenKey_12 rfl rfl ?_
    refine J_callSZ kX11_149 csX11_isBar (c_X11_isBar hb) rfl rfl rfl rfl rfl dX11_writtenKey_13 rfl rfl (fun z13 => ?_) (fun z13 => ?_)
    · refine J_if_eq 28 dX11_writtenKey_16 (by decide) (fun c16 => absurd c16 (by decide)) (fun c16 => ?_) 
      refine j_aload_n 0 dX11_writtenKey_19 rfl rfl ?_
      refine j_iload_n 1 dX11_writtenKey_20 rfl rfl ?_
      refine j_iload_n 2 dX11_writtenKey_21 rfl rfl ?_
      refine J_callV1 kX11_199 cvX11_keyWritten hP.1 (c_X11_keyWritten hM hZ hI z6 z13) rfl rfl rfl rfl rfl dX11_writtenKey_22 rfl rfl ?_
      refine j_goto 33 dX11_writtenKey_25 (by decide) ?_
      refine j_iret rfl dX11_writtenKey_33 ?_
      first | exact ⟨oIe (if_pos ⟨z6, z13⟩).symm, _, hM, hI, (if_pos ⟨z6, z13⟩).symm, hF⟩ | exact ⟨oIe (if_neg (fun q => z6 q.1)).symm, _, hM, hI, (if_neg (fun q => z6 q.1)).symm, hF⟩ | exact ⟨oIe (if_neg (fun q => z13 q.2)).symm, _, hM, hI, (if_neg (fun q => z13 q.2)).symm, hF⟩
    · refine J_if_eq 28 dX11_writtenKey_16 (by decide) (fun c16 => ?_) (fun c16 => absurd c16 (by decide)) 
      refine j_aload_n 0 dX11_writtenKey_28 rfl rfl ?_
      refine J_iconst dX11_writtenKey_29 ?_
      refine J_callVW1 kX11_115 cvX11_refuse hP.1 (c_X11_refuse hM hZ hI) rfl rfl rfl rfl rfl dX11_writtenKey_30 rfl rfl (fun h hp => ?_)
      obtain ⟨hM, hF9⟩ := hp
      have hF := hF.tr hF9
      have hP := hM.1
      refine j_iret rfl dX11_writtenKey_33 ?_
      first | exact ⟨oIe (if_pos ⟨z6, z13⟩).symm, _, hM, hI, (if_pos ⟨z6, z13⟩).symm, hF⟩ | exact ⟨oIe (if_neg (fun q => z6 q.1)).symm, _, hM, hI, (if_neg (fun q => z6 q.1)).symm, hF⟩ | exact ⟨oIe (if_neg (fun q => z13 q.2)).symm, _, hM, hI, (if_neg (fun q => z13 q.2)).symm, hF⟩
  · refine J_if_eq 28 dX11_writtenKey_9 (by decide) (fun c9 => ?_) (fun c9 => absurd c9 (by decide)) 
    refine j_aload_n 0 dX11_writtenKey_28 rfl rfl ?_
    refine J_iconst dX11_writtenKey_29 ?_
    refine J_callVW1 kX11_115 cvX11_refuse hP.1 (c_X11_refuse hM hZ hI) rfl rfl rfl rfl rfl dX11_writtenKey_30 rfl rfl (fun h hp => ?_)
    obtain ⟨hM, hF9⟩ := hp
    have hF := hF.tr hF9
    have hP := hM.1
    refine j_iret rfl dX11_writtenKey_33 ?_
    first | exact ⟨oIe (if_pos ⟨z6, z13⟩).symm, _, hM, hI, (if_pos ⟨z6, z13⟩).symm, hF⟩ | exact ⟨oIe (if_neg (fun q => z6 q.1)).symm, _, hM, hI, (if_neg (fun q => z6 q.1)).symm, hF⟩ | exact ⟨oIe (if_neg (fun q => z13 q.2)).symm, _, hM, hI, (if_neg (fun q => z13 q.2)).symm, hF⟩
set_option maxRecDepth 100000 in
theorem c_X11_beginOfBar {l : Launch} {G : jG} {h : jH} {a : Nat} {d : MD} {mp P : Nat → OS} {p p0 : OS} {Z : Nat → Nat} {b : Int} (hM : Mod G h a d mp p) (hZ : Mz a d Z) (hI : MI d P p0 mp p.2) (hb : rg b) : jC l G yX11_beginOfBar mX11_beginOfBar [.ref a, vI b] h (jW (oI (if isBar b then sumN (p0.2 2) b.toNat else 0)) (fun h' => ∃ p', Mod G h' a d mp p' ∧ MI d P p0 mp p'.2 ∧ p'.1 0 = (if isBar b then 0 else 1) ∧ Fr (FtM a d) h h')) := by
  refine j_body (by decide +kernel) ⟨rfl, rfl⟩ rfl ?_
  have hP := hM.1
  have hF : Fr (FtM a d) h h := Fr.rf
  obtain ⟨Fa, hpa, hFa⟩ := hM.2.1
  refine j_aload_n 0 dX11_beginOfBar_0 rfl rfl ?_
  refine J_iconst dX11_beginOfBar_1 ?_
  refine J_putA hP fX11_87 tyX11_thrown dX11_beginOfBar_2 rfl rfl (fun h hP hF2 => ?_)
  have hM := hM.w hZ hP hF2
  have hF := hF.tr (hF2.mono (fun _ q => Or.inl q))
  obtain ⟨Fa, hpa, hFa⟩ := hM.2.1
  refine j_iload_n 1 dX11_beginOfBar_5 rfl rfl ?_
  refine J_callSZ kX11_149 csX11_isBar (c_X11_isBar hb) rfl rfl rfl rfl rfl dX11_beginOfBar_6 rfl rfl (fun z6 => ?_) (fun z6 => ?_)
  · refine J_if_eq 20 dX11_beginOfBar_9 (by decide) (fun c9 => absurd c9 (by decide)) (fun c9 => ?_) 
    refine j_aload_n 0 dX11_beginOfBar_12 rfl rfl ?_
    refine j_iload_n 1 dX11_beginOfBar_13 rfl rfl ?_
    refine J_callV1 kX11_112 cvX11_begin hP.1 (c_X11_begin hM hZ hI ⟨z6.1, Int.le_of_lt z6.2⟩) rfl rfl rfl rfl rfl dX11_beginOfBar_14 rfl rfl ?_
    refine j_goto 25 dX11_beginOfBar_17 (by decide) ?_
    refine j_iret rfl dX11_beginOfBar_25 ?_
    first | exact ⟨oIe (if_pos z6).symm, _, hM, hI, (if_pos z6).symm, hF⟩ | exact ⟨oIe (if_neg z6).symm, _, hM, hI, (if_neg z6).symm, hF⟩
  · refine J_if_eq 20 dX11_beginOfBar_9 (by decide) (fun c9 => ?_) (fun c9 => absurd c9 (by decide)) 
    refine j_aload_n 0 dX11_beginOfBar_20 rfl rfl ?_
    refine J_iconst dX11_beginOfBar_21 ?_
    refine J_callVW1 kX11_115 cvX11_refuse hP.1 (c_X11_refuse hM hZ hI) rfl rfl rfl rfl rfl dX11_beginOfBar_22 rfl rfl (fun h hp => ?_)
    obtain ⟨hM, hF9⟩ := hp
    have hF := hF.tr hF9
    have hP := hM.1
    refine j_iret rfl dX11_beginOfBar_25 ?_
    first | exact ⟨oIe (if_pos z6).symm, _, hM, hI, (if_pos z6).symm, hF⟩ | exact ⟨oIe (if_neg z6).symm, _, hM, hI, (if_neg z6).symm, hF⟩
set_option maxRecDepth 100000 in
theorem c_X11_lengthOfBar {l : Launch} {G : jG} {h : jH} {a : Nat} {d : MD} {mp P : Nat → OS} {p p0 : OS} {Z : Nat → Nat} {b : Int} (hM : Mod G h a d mp p) (hZ : Mz a d Z) (hI : MI d P p0 mp p.2) (hb : rg b) : jC l G yX11_lengthOfBar mX11_lengthOfBar [.ref a, vI b] h (jW (oI (if isBar b then p0.2 2 b else 0)) (fun h' => ∃ p', Mod G h' a d mp p' ∧ MI d P p0 mp p'.2 ∧ p'.1 0 = (if isBar b then 0 else 1) ∧ Fr (FtM a d) h h')) := by
  refine j_body (by decide +kernel) ⟨rfl, rfl⟩ rfl ?_
  have hP := hM.1
  have hF : Fr (FtM a d) h h := Fr.rf
  obtain ⟨Fa, hpa, hFa⟩ := hM.2.1
  refine j_aload_n 0 dX11_lengthOfBar_0 rfl rfl ?_
  refine J_iconst dX11_lengthOfBar_1 ?_
  refine J_putA hP fX11_87 tyX11_thrown dX11_lengthOfBar_2 rfl rfl (fun h hP hF2 => ?_)
  have hM := hM.w hZ hP hF2
  have hF := hF.tr (hF2.mono (fun _ q => Or.inl q))
  obtain ⟨Fa, hpa, hFa⟩ := hM.2.1
  refine j_iload_n 1 dX11_lengthOfBar_5 rfl rfl ?_
  refine J_callSZ kX11_149 csX11_isBar (c_X11_isBar hb) rfl rfl rfl rfl rfl dX11_lengthOfBar_6 rfl rfl (fun z6 => ?_) (fun z6 => ?_)
  · refine J_if_eq 20 dX11_lengthOfBar_9 (by decide) (fun c9 => absurd c9 (by decide)) (fun c9 => ?_) 
    refine j_aload_n 0 dX11_lengthOfBar_12 rfl rfl ?_
    refine j_iload_n 1 dX11_lengthOfBar_13 rfl rfl ?_
    refine J_callV1 kX11_105 cvX11_length hP.1 (c_X11_length hM hZ hI z6) rfl rfl rfl rfl rfl dX11_lengthOfBar_14 rfl rfl ?_
    refine j_goto 25 dX11_lengthOfBar_17 (by decide) ?_
    refine j_iret rfl dX11_lengthOfBar_25 ?_
    first | exact ⟨oIe (if_pos z6).symm, _, hM, hI, (if_pos z6).symm, hF⟩ | exact ⟨oIe (if_neg z6).symm, _, hM, hI, (if_neg z6).symm, hF⟩
  · refine J_if_eq 20 dX11_lengthOfBar_9 (by decide) (fun c9 => ?_) (fun c9 => absurd c9 (by decide)) 
    refine j_aload_n 0 dX11_lengthOfBar_20 rfl rfl ?_
    refine J_iconst dX11_lengthOfBar_21 ?_
    refine J_callVW1 kX11_115 cvX11_refuse hP.1 (c_X11_refuse hM hZ hI) rfl rfl rfl rfl rfl dX11_lengthOfBar_22 rfl rfl (fun h hp => ?_)
    obtain ⟨hM, hF9⟩ := hp
    have hF := hF.tr hF9
    have hP := hM.1
    refine j_iret rfl dX11_lengthOfBar_25 ?_
    first | exact ⟨oIe (if_pos z6).symm, _, hM, hI, (if_pos z6).symm, hF⟩ | exact ⟨oIe (if_neg z6).symm, _, hM, hI, (if_neg z6).symm, hF⟩
set_option maxRecDepth 100000 in
theorem c_X11_missing {l : Launch} {G : jG} {h : jH} {a : Nat} {d : MD} {mp P : Nat → OS} {p p0 : OS} {Z : Nat → Nat} {k b : Int} (hM : Mod G h a d mp p) (hZ : Mz a d Z) (hI : MI d P p0 mp p.2) (hk : rg k) (hb : rg b) : jC l G yX11_missing mX11_missing [.ref a, vI k, vI b] h (jW (oI (if (0 ≤ k ∧ k < 4) ∧ isBar b then misF (P k.toNat) p0 b else 0)) (fun h' => ∃ p', Mod G h' a d mp p' ∧ MI d P p0 mp p'.2 ∧ p'.1 0 = (if (0 ≤ k ∧ k < 4) ∧ isBar b then 0 else 1) ∧ Fr (FtM a d) h h')) := by
  refine j_body (by decide +kernel) ⟨rfl, rfl⟩ rfl ?_
  have hP := hM.1
  have hF : Fr (FtM a d) h h := Fr.rf
  obtain ⟨Fa, hpa, hFa⟩ := hM.2.1
  refine j_aload_n 0 dX11_missing_0 rfl rfl ?_
  refine J_iconst dX11_missing_1 ?_
  refine J_putA hP fX11_87 tyX11_thrown dX11_missing_2 rfl rfl (fun h hP hF2 => ?_)
  have hM := hM.w hZ hP hF2
  have hF := hF.tr (hF2.mono (fun _ q => Or.inl q))
  obtain ⟨Fa, hpa, hFa⟩ := hM.2.1
  refine j_iload_n 1 dX11_missing_5 rfl rfl ?_
  refine J_callSZ kX11_95 csX11_isPart (c_X11_isPart hk) rfl rfl rfl rfl rfl dX11_missing_6 rfl rfl (fun z6 => ?_) (fun z6 => ?_)
  · refine J_if_eq 28 dX11_missing_9 (by decide) (fun c9 => absurd c9 (by decide)) (fun c9 => ?_) 
    refine j_iload_n 2 dX11_missing_12 rfl rfl ?_
    refine J_callSZ kX11_149 csX11_isBar (c_X11_isBar hb) rfl rfl rfl rfl rfl dX11_missing_13 rfl rfl (fun z13 => ?_) (fun z13 => ?_)
    · refine J_if_eq 28 dX11_missing_16 (by decide) (fun c16 => absurd c16 (by decide)) (fun c16 => ?_) 
      refine j_aload_n 0 dX11_missing_19 rfl rfl ?_
      refine j_iload_n 1 dX11_missing_20 rfl rfl ?_
      refine j_iload_n 2 dX11_missing_21 rfl rfl ?_
      refine J_callV1 kX11_236 cvX11_missingNow hP.1 (c_X11_missingNow hM hZ hI z6 z13) rfl rfl rfl rfl rfl dX11_missing_22 rfl rfl ?_
      refine j_goto 33 dX11_missing_25 (by decide) ?_
      refine j_iret rfl dX11_missing_33 ?_
      first | exact ⟨oIe (if_pos ⟨z6, z13⟩).symm, _, hM, hI, (if_pos ⟨z6, z13⟩).symm, hF⟩ | exact ⟨oIe (if_neg (fun q => z6 q.1)).symm, _, hM, hI, (if_neg (fun q => z6 q.1)).symm, hF⟩ | exact ⟨oIe (if_neg (fun q => z13 q.2)).symm, _, hM, hI, (if_neg (fun q => z13 q.2)).symm, hF⟩
    · refine J_if_eq 28 dX11_missing_16 (by decide) (fun c16 => ?_) (fun c16 => absurd c16 (by decide)) 
      refine j_aload_n 0 dX11_missing_28 rfl rfl ?_
      refine J_iconst dX11_missing_29 ?_
      refine J_callVW1 kX11_115 cvX11_refuse hP.1 (c_X11_refuse hM hZ hI) rfl rfl rfl rfl rfl dX11_missing_30 rfl rfl (fun h hp => ?_)
      obtain ⟨hM, hF9⟩ := hp
      have hF := hF.tr hF9
      have hP := hM.1
      refine j_iret rfl dX11_missing_33 ?_
      first | exact ⟨oIe (if_pos ⟨z6, z13⟩).symm, _, hM, hI, (if_pos ⟨z6, z13⟩).symm, hF⟩ | exact ⟨oIe (if_neg (fun q => z6 q.1)).symm, _, hM, hI, (if_neg (fun q => z6 q.1)).symm, hF⟩ | exact ⟨oIe (if_neg (fun q => z13 q.2)).symm, _, hM, hI, (if_neg (fun q => z13 q.2)).symm, hF⟩
  · refine J_if_eq 28 dX11_missing_9 (by decide) (fun c9 => ?_) (fun c9 => absurd c9 (by decide)) 
    refine j_aload_n 0 dX11_missing_28 rfl rfl ?_
    refine J_iconst dX11_missing_29 ?_
    refine J_callVW1 kX11_115 cvX11_refuse hP.1 (c_X11_refuse hM hZ hI) rfl rfl rfl rfl rfl dX11_missing_30 rfl rfl (fun h hp => ?_)
    obtain ⟨hM, hF9⟩ := hp
    have hF := hF.tr hF9
    have hP := hM.1
    refine j_iret rfl dX11_missing_33 ?_
    first | exact ⟨oIe (if_pos ⟨z6, z13⟩).symm, _, hM, hI, (if_pos ⟨z6, z13⟩).symm, hF⟩ | exact ⟨oIe (if_neg (fun q => z6 q.1)).symm, _, hM, hI, (if_neg (fun q => z6 q.1)).symm, hF⟩ | exact ⟨oIe (if_neg (fun q => z13 q.2)).symm, _, hM, hI, (if_neg (fun q => z13 q.2)).symm, hF⟩
