/-! the reference's other writers -/
theorem mpOK.rem {n : Nat} {m p : OS} (hm : mpOK n m p) (hp : partOK p) (hn : p.1 7 ≠ 0) : mpOK n (oU m 0 (m.1 0 - 1)) (remP p) := by
  have h0 : 0 ≤ p.1 7 ∧ p.1 7 ≤ 512 := hp.1
  obtain ⟨⟨e0, e5, e6, e7, e8⟩, em, en, ez⟩ := hm
  unfold remP
  rw [if_pos (by omega)]
  refine ⟨⟨?_, e5, e6, e7, e8⟩, fun i a b => em i a ?_, ?_, ez⟩
  · show m.1 0 - 1 = p.1 7 - 1; omega
  · have b2 : i < p.1 7 - 1 := b
    omega
  · show p.1 7 - 1 ≤ n; omega
theorem mpOK.giv {n : Nat} {m p : OS} (hm : mpOK n m p) (e pl al : Int) : mpOK n (oA (oA m 3 (upI (m.2 3) e pl)) 4 (upI (m.2 4) e al)) (givP p e pl al) := by
  have g := giv_f p e pl al
  obtain ⟨h1, em, en, ez⟩ := hm
  refine ⟨by rw [g.1]; exact h1, fun i a b => ?_, by rw [g.1]; exact en, ez⟩
  rw [g.1] at b
  have gi := em i a b
  rw [g.2.1, g.2.2.1, g.2.2.2.2.1, g.2.2.2.2.2.1]
  refine ⟨gi.1, gi.2.1, ?_, ?_⟩
  · show upI (m.2 3) e pl i = _
    unfold upI
    split
    · rfl
    · exact gi.2.2.1
  · show upI (m.2 4) e al i = _
    unfold upI
    split
    · rfl
    · exact gi.2.2.2
theorem mpOK.giv3 {n : Nat} {m p : OS} (hm : mpOK n m p) {e : Int} (he : inP p e) (pl : Int) : mpOK n (oA m 3 (upI (m.2 3) e pl)) (givP p e pl (p.2 1 e)) := by
  have g := giv_f p e pl (p.2 1 e)
  obtain ⟨h1, em, en, ez⟩ := hm
  refine ⟨by rw [g.1]; exact h1, fun i a b => ?_, by rw [g.1]; exact en, ez⟩
  rw [g.1] at b
  have gi := em i a b
  rw [g.2.1, g.2.2.1, g.2.2.2.2.1, g.2.2.2.2.2.1]
  refine ⟨gi.1, gi.2.1, ?_, ?_⟩
  · show upI (m.2 3) e pl i = _
    unfold upI
    split
    · rfl
    · exact gi.2.2.1
  · show m.2 4 i = upI (p.2 1) e (p.2 1 e) i
    unfold upI
    split
    · rename_i c; rw [c]; exact (em e he.1 he.2).2.2.2
    · exact gi.2.2.2
theorem mpOK.range {n : Nat} {m p : OS} (hm : mpOK n m p) (lo hi : Int) : mpOK n (oU (oU m 5 lo) 6 hi) (oU (oU p 9 lo) 10 hi) := by
  obtain ⟨⟨e0, e5, e6, e7, e8⟩, em, en, ez⟩ := hm
  exact ⟨⟨e0, rfl, rfl, e7, e8⟩, em, en, ez⟩
theorem mpOK.shift {n : Nat} {m p : OS} (hm : mpOK n m p) (fi oc : Int) (N : Nat) : mpOK n (oU (oU m 7 fi) 8 oc) (wfiN (oU (oU p 11 fi) 12 oc) N) := by
  obtain ⟨⟨e0, e5, e6, e7, e8⟩, em, en, ez⟩ := hm
  have w := wfiN_f (oU (oU p 11 fi) 12 oc) N
  refine ⟨by rw [w.1]; exact ⟨e0, e5, e6, rfl, rfl⟩, fun i a b => ?_, by rw [w.1]; exact en, ez⟩
  rw [w.1] at b
  rw [w.2.1 0 (by decide) (by decide), w.2.1 1 (by decide) (by decide), w.2.1 3 (by decide) (by decide), w.2.1 4 (by decide) (by decide)]
  exact em i a b
theorem MI.up0 {d : MD} {P mp : Nat → OS} {p0 : OS} {F F' : Nat → Int → Int} (hI : MI d P p0 mp F) {p1 : OS} (hc : calOK p1) (h : ∀ b : Int, isBar b → F' 2 b = p1.2 0 b ∧ F' 3 b = p1.2 1 b ∧ F' 4 b = p1.2 3 b) : MI d P p1 mp F' := ⟨⟨hI.1.1, hI.1.2.1, hc⟩, hI.2.1, h⟩
theorem rng_at {F F' : Int → Int} {a b v i : Int} (h : F i = F' i) : rng F a b v i = rng F' a b v i := by
  unfold rng
  split
  · rfl
  · exact h
set_option maxRecDepth 100000 in
theorem c_X11_takeLast {l : Launch} {G : jG} {h : jH} {a : Nat} {d : MD} {mp P : Nat → OS} {p p0 : OS} {Z : Nat → Nat} {k : Int} (hM : Mod G h a d mp p) (hZ : Mz a d Z) (hI : MI d P p0 mp p.2) (hk : rg k) : jC l G yX11_takeLast mX11_takeLast [.ref a, vI k] h (jW (oI (if 0 ≤ k ∧ k < 4 then (if 0 < (P k.toNat).1 7 then (P k.toNat).2 4 ((P k.toNat).1 7 - 1) else 0) else 0)) (MN G a d h (if (0 ≤ k ∧ k < 4) ∧ 0 < (P k.toNat).1 7 then upN P k.toNat (remP (P k.toNat)) else P) (p0) (if 0 ≤ k ∧ k < 4 then (if 0 < (P k.toNat).1 7 then 0 else 2) else 1))) := by
  refine j_body (by decide +kernel) ⟨rfl, rfl⟩ rfl ?_
  have hP := hM.1
  have hF : Fr (FtM a d) h h := Fr.rf
  obtain ⟨Fa, hpa, hFa⟩ := hM.2.1
  refine j_aload_n 0 dX11_takeLast_0 rfl rfl ?_
  refine J_iconst dX11_takeLast_1 ?_
  refine J_putA hP fX11_87 tyX11_thrown dX11_takeLast_2 rfl rfl (fun h hP hF2 => ?_)
  have hM := hM.w hZ hP hF2
  have hF := hF.tr (hF2.mono (fun _ q => Or.inl q))
  obtain ⟨Fa, hpa, hFa⟩ := hM.2.1
  refine j_iload_n 1 dX11_takeLast_5 rfl rfl ?_
  refine J_callSZ kX11_95 csX11_isPart (c_X11_isPart hk) rfl rfl rfl rfl rfl dX11_takeLast_6 rfl rfl (fun z6 => ?_) (fun z6 => ?_)
  · refine J_if_ne 18 dX11_takeLast_9 (by decide) (fun c9 => ?_) (fun c9 => absurd c9 (by decide)) 
    have hPk := hM.2.2 k.toNat (by omega)
    have hmk := hI.2.1 k.toNat (by omega)
    have hpk := hI.1.1 k.toNat (by omega)
    have hnk : 0 ≤ (P k.toNat).1 7 ∧ (P k.toNat).1 7 ≤ 512 := hpk.1
    refine j_aload_n 0 dX11_takeLast_18 rfl rfl ?_
    refine j_get fX11_24 dX11_takeLast_19 hP.1 rfl ?_
    refine j_iload_n 1 dX11_takeLast_22 rfl rfl ?_
    refine J_qaldM dX11_takeLast_23 hpa (hFa _ (by omega)) ?_ 
    refine j_astore_n 2 (L' := [(2, _), (0, _), (1, _)]) dX11_takeLast_24 rfl rfl rfl ?_
    refine j_aload_n 2 dX11_takeLast_25 rfl rfl ?_
    refine j_getN fX11_99 dX11_takeLast_26 hPk.1 rfl ?_
    refine J_top ((P k.toNat).1 7) ?_ (by exact hmk.1.1)
    refine J_if_ne 38 dX11_takeLast_29 (by decide) (fun c29 => ?_) (fun c29 => ?_) 
    · refine j_aload_n 2 dX11_takeLast_38 rfl rfl ?_
      refine j_dup dX11_takeLast_39 rfl ?_
      refine j_getN fX11_99 dX11_takeLast_40 hPk.1 rfl ?_
      refine J_top ((P k.toNat).1 7) ?_ (by exact hmk.1.1)
      refine J_iconst dX11_takeLast_43 ?_
      refine J_isub dX11_takeLast_44 ?_
      refine J_putNA hPk fX11_99 tyX10_many dX11_takeLast_45 rfl rfl (fun h hPk hF45 => ?_)
      have hM := hM.wk hZ (k := k.toNat) (by omega) hPk hF45
      have hF := hF.tr (hF45.mono (fun b q => Or.inr (Or.inr ⟨k.toNat, by omega, q⟩)))
      obtain ⟨Fa, hpa, hFa⟩ := hM.2.1
      have hP := hM.1
      refine j_aload_n 2 dX11_takeLast_48 rfl rfl ?_
      have hmr : mpOK (d.n k.toNat) (oU (mp k.toNat) 0 ((P k.toNat).1 7 - 1)) (remP (P k.toNat)) := by have g := hmk.rem hpk (by omega); rw [hmk.1.1] at g; exact g
      have he2 := evs_up P (k := k.toNat) (by omega) (remP (P k.toNat))
      have h7 : (remP (P k.toNat)).1 7 = (P k.toNat).1 7 - 1 := by unfold remP; rw [if_pos (by omega)]; rfl
      have hev := hI.1.2.1
      refine j_getN fX11_132 dX11_takeLast_49 hPk.1 rfl ?_
      refine j_aload_n 2 dX11_takeLast_52 rfl rfl ?_
      refine j_getN fX11_99 dX11_takeLast_53 hPk.1 rfl ?_
      refine J_top ((P k.toNat).1 7 - 1) ?_ (by rfl)
      refine J_iald dX11_takeLast_56 (hPk.2.1 2 rfl) ?_ (by have := hmk.2.2; omega)
      refine J_top ((P k.toNat).2 4 ((P k.toNat).1 7 - 1)) ?_ (by exact (hmk.2.1 _ (by omega) (by omega)).2.1)
      refine j_iret rfl dX11_takeLast_57 ?_
      have c2 : 0 < (P k.toNat).1 7 := by omega
      exact ⟨by rw [if_pos z6, if_pos c2], by rw [if_pos ⟨z6, c2⟩, if_pos z6, if_pos c2]; exact MN.same hM hZ (hI.upk hmr hpk.rem (by omega)) rfl hF⟩
    · refine j_aload_n 0 dX11_takeLast_32 rfl rfl ?_
      refine J_iconst dX11_takeLast_33 ?_
      refine J_callVW1 kX11_115 cvX11_refuse hP.1 (c_X11_refuse hM hZ hI) rfl rfl rfl rfl rfl dX11_takeLast_34 rfl rfl (fun h hp => ?_)
      obtain ⟨hM, hF9⟩ := hp
      have hF := hF.tr hF9
      refine j_iret rfl dX11_takeLast_37 ?_
      exact ⟨by rw [if_pos z6, if_neg (show ¬ (0 < (P k.toNat).1 7) by omega)], by rw [if_neg (fun q => absurd q.2 (by omega)), if_pos z6, if_neg (show ¬ (0 < (P k.toNat).1 7) by omega)]; exact MN.same hM hZ hI rfl hF⟩
  · refine J_if_ne 18 dX11_takeLast_9 (by decide) (fun c9 => absurd c9 (by decide)) (fun c9 => ?_) 
    refine j_aload_n 0 dX11_takeLast_12 rfl rfl ?_
    refine J_iconst dX11_takeLast_13 ?_
    refine J_callVW1 kX11_115 cvX11_refuse hP.1 (c_X11_refuse hM hZ hI) rfl rfl rfl rfl rfl dX11_takeLast_14 rfl rfl (fun h hp => ?_)
    obtain ⟨hM, hF9⟩ := hp
    have hF := hF.tr hF9
    refine j_iret rfl dX11_takeLast_17 ?_
    exact ⟨by rw [if_neg z6], by rw [if_neg (fun q => z6 q.1), if_neg z6]; exact MN.same hM hZ hI rfl hF⟩
set_option maxRecDepth 100000 in
theorem c_X11_setPitch {l : Launch} {G : jG} {h : jH} {a : Nat} {d : MD} {mp P : Nat → OS} {p p0 : OS} {Z : Nat → Nat} {k e pl al : Int} (hM : Mod G h a d mp p) (hZ : Mz a d Z) (hI : MI d P p0 mp p.2) (hk : rg k) (he : rg e) (hpl : rg pl) (hal : rg al) : jC l G yX11_setPitch mX11_setPitch [.ref a, vI k, vI e, vI pl, vI al] h (jW (oI (if (0 ≤ k ∧ k < 4) ∧ inP (P k.toNat) e then (if isPit pl al then (if inP (P k.toNat) e ∧ (P k.toNat).2 0 e ≠ 0 then (P k.toNat).2 2 e else 0) else 0) else 0)) (MN G a d h (if (((0 ≤ k ∧ k < 4) ∧ inP (P k.toNat) e) ∧ isPit pl al) ∧ inP (P k.toNat) e ∧ (P k.toNat).2 0 e ≠ 0 then upN P k.toNat (givP (P k.toNat) e pl al) else P) (p0) (if (0 ≤ k ∧ k < 4) ∧ inP (P k.toNat) e then (if isPit pl al then (if inP (P k.toNat) e ∧ (P k.toNat).2 0 e ≠ 0 then 0 else 3) else 2) else 1))) := by
  refine j_body (by decide +kernel) ⟨rfl, rfl⟩ rfl ?_
  have hP := hM.1
  have hF : Fr (FtM a d) h h := Fr.rf
  obtain ⟨Fa, hpa, hFa⟩ := hM.2.1
  refine j_aload_n 0 dX11_setPitch_0 rfl rfl ?_
  refine J_iconst dX11_setPitch_1 ?_
  refine J_putA hP fX11_87 tyX11_thrown dX11_setPitch_2 rfl rfl (fun h hP hF2 => ?_)
  have hM := hM.w hZ hP hF2
  have hF := hF.tr (hF2.mono (fun _ q => Or.inl q))
  obtain ⟨Fa, hpa, hFa⟩ := hM.2.1
  refine j_aload_n 0 dX11_setPitch_5 rfl rfl ?_
  refine j_iload_n 1 dX11_setPitch_6 rfl rfl ?_
  refine j_iload_n 2 dX11_setPitch_7 rfl rfl ?_
  refine J_callVZ kX11_134 cvX11_isEvent hP.1 (c_X11_isEvent hM hZ hI hk he) rfl rfl rfl rfl rfl dX11_setPitch_8 rfl rfl (fun z8 => ?_) (fun z8 => ?_)
  · refine J_if_ne 20 dX11_setPitch_11 (by decide) (fun c11 => ?_) (fun c11 => absurd c11 (by decide)) 
    refine j_iload_n 3 dX11_setPitch_20 rfl rfl ?_
    refine j_iload dX11_setPitch_21 rfl ?_
    refine J_callSZ kX11_122 csX11_isPitch (c_X11_isPitch hpl hal) rfl rfl rfl rfl rfl dX11_setPitch_23 rfl rfl (fun z23 => ?_) (fun z23 => ?_)
    · refine J_if_ne 35 dX11_setPitch_26 (by decide) (fun c26 => ?_) (fun c26 => absurd c26 (by decide)) 
      have hPk := hM.2.2 k.toNat (by omega)
      have hmk := hI.2.1 k.toNat (by omega)
      have hpk := hI.1.1 k.toNat (by omega)
      have hnk : 0 ≤ (P k.toNat).1 7 ∧ (P k.toNat).1 7 ≤ 512 := hpk.1
      refine j_aload_n 0 dX11_setPitch_35 rfl rfl ?_
      refine j_get fX11_24 dX11_setPitch_36 hP.1 rfl ?_
      refine j_iload_n 1 dX11_setPitch_39 rfl rfl ?_
      refine J_qaldM dX11_setPitch_40 hpa (hFa _ (by omega)) ?_ 
      refine j_astore (L' := [(5, _), (0, _), (1, _), (2, _), (3, _), (4, _)]) dX11_setPitch_41 rfl rfl ?_
      refine j_aload dX11_setPitch_43 rfl ?_
      refine j_iload_n 2 dX11_setPitch_45 rfl rfl ?_
      refine J_callVZ kX11_137 cvX10_isNote hPk.1 (c_X10_isNote hPk hmk hpk z8.2) rfl rfl rfl rfl rfl dX11_setPitch_46 rfl rfl (fun z46 => ?_) (fun z46 => ?_)
      · refine J_if_ne 58 dX11_setPitch_49 (by decide) (fun c49 => ?_) (fun c49 => absurd c49 (by decide)) 
        refine j_aload dX11_setPitch_58 rfl ?_
        refine j_iload_n 2 dX11_setPitch_60 rfl rfl ?_
        refine J_callV1 kX11_140 cvX10_height hPk.1 (c_X10_height hPk hmk hpk z8.2 z46) rfl rfl rfl rfl rfl dX11_setPitch_61 rfl rfl ?_
        refine j_istore (L' := [(6, _), (5, _), (0, _), (1, _), (2, _), (3, _), (4, _)]) dX11_setPitch_64 rfl rfl ?_
        have hen := hmk.2.2
        have hin := z8.2
        have hev2 : evs (upN P k.toNat (givP (P k.toNat) e pl al)) ≤ 512 := by
          have e3 : (givP (P k.toNat) e pl al).1 7 = (P k.toNat).1 7 := by rw [(giv_f _ _ _ _).1]
          have e2 := evs_up P (k := k.toNat) (by omega) (givP (P k.toNat) e pl al)
          have := hI.1.2.1
          omega
        refine j_aload dX11_setPitch_66 rfl ?_
        refine j_getN fX11_143 dX11_setPitch_68 hPk.1 rfl ?_
        refine j_iload_n 2 dX11_setPitch_71 rfl rfl ?_
        refine j_iload_n 3 dX11_setPitch_72 rfl rfl ?_
        refine J_iastA 3 hPk rfl (fun _ => rfl) (fun _ => rfl) dX11_setPitch_73 (fun h hPk hF73 => ?_) 
        have hM := hM.wk hZ (k := k.toNat) (by omega) hPk hF73
        have hF := hF.tr (hF73.mono (fun b q => Or.inr (Or.inr ⟨k.toNat, by omega, q⟩)))
        obtain ⟨Fa, hpa, hFa⟩ := hM.2.1
        have hP := hM.1
        refine j_aload dX11_setPitch_74 rfl ?_
        refine j_getN fX11_146 dX11_setPitch_76 hPk.1 rfl ?_
        refine j_iload_n 2 dX11_setPitch_79 rfl rfl ?_
        refine j_iload dX11_setPitch_80 rfl ?_
        refine J_iastA 4 hPk rfl (fun _ => rfl) (fun _ => rfl) dX11_setPitch_82 (fun h hPk hF82 => ?_) 
        have hM := hM.wk hZ (k := k.toNat) (by omega) hPk hF82
        have hF := hF.tr (hF82.mono (fun b q => Or.inr (Or.inr ⟨k.toNat, by omega, q⟩)))
        obtain ⟨Fa, hpa, hFa⟩ := hM.2.1
        have hP := hM.1
        refine j_iload dX11_setPitch_83 rfl ?_
        refine j_iret rfl dX11_setPitch_85 ?_
        have c3 : inP (P k.toNat) e ∧ (P k.toNat).2 0 e ≠ 0 := ⟨z8.2, z46⟩
        rw [upN_upN] at hM
        exact ⟨by rw [if_pos z8, if_pos z23, if_pos c3], by rw [if_pos ⟨⟨z8, z23⟩, c3⟩, if_pos z8, if_pos z23, if_pos c3]; exact MN.same hM hZ (hI.upk (hmk.giv e pl al) (hpk.giv (by omega) (by omega) (fun z => by omega)) hev2) rfl hF⟩
      · refine J_if_ne 58 dX11_setPitch_49 (by decide) (fun c49 => absurd c49 (by decide)) (fun c49 => ?_) 
        refine j_aload_n 0 dX11_setPitch_52 rfl rfl ?_
        refine J_iconst dX11_setPitch_53 ?_
        refine J_callVW1 kX11_115 cvX11_refuse hP.1 (c_X11_refuse hM hZ hI) rfl rfl rfl rfl rfl dX11_setPitch_54 rfl rfl (fun h hp => ?_)
        obtain ⟨hM, hF9⟩ := hp
        have hF := hF.tr hF9
        refine j_iret rfl dX11_setPitch_57 ?_
        have n3 : ¬ (inP (P k.toNat) e ∧ (P k.toNat).2 0 e ≠ 0) := fun q => z46 q.2
        exact ⟨by rw [if_pos z8, if_pos z23, if_neg n3], by rw [if_neg (fun q => n3 q.2), if_pos z8, if_pos z23, if_neg n3]; exact MN.same hM hZ hI rfl hF⟩
    · refine J_if_ne 35 dX11_setPitch_26 (by decide) (fun c26 => absurd c26 (by decide)) (fun c26 => ?_) 
      refine j_aload_n 0 dX11_setPitch_29 rfl rfl ?_
      refine J_iconst dX11_setPitch_30 ?_
      refine J_callVW1 kX11_115 cvX11_refuse hP.1 (c_X11_refuse hM hZ hI) rfl rfl rfl rfl rfl dX11_setPitch_31 rfl rfl (fun h hp => ?_)
      obtain ⟨hM, hF9⟩ := hp
      have hF := hF.tr hF9
      refine j_iret rfl dX11_setPitch_34 ?_
      exact ⟨by rw [if_pos z8, if_neg z23], by rw [if_neg (fun q => z23 q.1.2), if_pos z8, if_neg z23]; exact MN.same hM hZ hI rfl hF⟩
  · refine J_if_ne 20 dX11_setPitch_11 (by decide) (fun c11 => absurd c11 (by decide)) (fun c11 => ?_) 
    refine j_aload_n 0 dX11_setPitch_14 rfl rfl ?_
    refine J_iconst dX11_setPitch_15 ?_
    refine J_callVW1 kX11_115 cvX11_refuse hP.1 (c_X11_refuse hM hZ hI) rfl rfl rfl rfl rfl dX11_setPitch_16 rfl rfl (fun h hp => ?_)
    obtain ⟨hM, hF9⟩ := hp
    have hF := hF.tr hF9
    refine j_iret rfl dX11_setPitch_19 ?_
    exact ⟨by rw [if_neg z8], by rw [if_neg (fun q => z8 q.1.1), if_neg z8]; exact MN.same hM hZ hI rfl hF⟩
set_option maxRecDepth 100000 in
theorem c_X11_setMetre {l : Launch} {G : jG} {h : jH} {a : Nat} {d : MD} {mp P : Nat → OS} {p p0 : OS} {Z : Nat → Nat} {b nb nu : Int} (hM : Mod G h a d mp p) (hZ : Mz a d Z) (hI : MI d P p0 mp p.2) (hb : rg b) (hnb : rg nb) (hnu : rg nu) : jC l G yX11_setMetre mX11_setMetre [.ref a, vI b, vI nb, vI nu] h (jW (oI (if isBar b then (if (1 ≤ nb ∧ nb ≤ 12) ∧ (nu = 2 ∨ nu = 4 ∨ nu = 8) then (nb * 64).tdiv nu else 0) else 0)) (MN G a d h (P) (if isBar b ∧ (1 ≤ nb ∧ nb ≤ 12) ∧ (nu = 2 ∨ nu = 4 ∨ nu = 8) then metP p0 b nb nu else p0) (if isBar b then (if (1 ≤ nb ∧ nb ≤ 12) ∧ (nu = 2 ∨ nu = 4 ∨ nu = 8) then 0 else 2) else 1))) := by
  have loop : ∀ (n : Nat) (i : Int) (h2 : jH) (q : OS), isBar b → ((1 ≤ nb ∧ nb ≤ 12) ∧ (nu = 2 ∨ nu = 4 ∨ nu = 8)) → i + n = 24 → b ≤ i → Mod G h2 a d mp q → q.1 0 = 0 → q.2 2 = rng (p.2 2) b i nb → q.2 3 = rng (p.2 3) b i nu → q.2 4 = p.2 4 → Fr (FtM a d) h h2 → J l G mX11_setMetre (jQ G mX11_setMetre (jW (oI (if isBar b then (if (1 ≤ nb ∧ nb ≤ 12) ∧ (nu = 2 ∨ nu = 4 ∨ nu = 8) then (nb * 64).tdiv nu else 0) else 0)) (MN G a d h (P) (if isBar b ∧ (1 ≤ nb ∧ nb ≤ 12) ∧ (nu = 2 ∨ nu = 4 ∨ nu = 8) then metP p0 b nb nu else p0) (if isBar b then (if (1 ≤ nb ∧ nb ≤ 12) ∧ (nu = 2 ∨ nu = 4 ∨ nu = 8) then 0 else 2) else 1)))) 0 0 53 [(4, vI i), (0, .ref a), (1, vI b), (2, vI nb), (3, vI nu)] [] h2 := by
    intro n
    induction n with
    | zero =>
      intro i h2 q hb hC hi hbi hM h0 e2 e3 e4 hF
      obtain rfl : i = 24 := by omega
      have hI2 : MI d P (metP p0 b nb nu) mp q.2 := hI.up0 (hI.1.2.2.met hC.1 hC.2) (fun b2 hb2 => by
        have g := hI.2.2 b2 hb2
        rw [e2, e3, e4]
        exact ⟨rng_at g.1, rng_at g.2.1, g.2.2⟩)
      have hP := hM.1
      refine j_iload dX11_setMetre_53 rfl ?_
      refine J_bipush dX11_setMetre_55 (by decide) ?_
      refine J_icmp_ge 82 dX11_setMetre_57 (by decide) (fun c57 => ?_) (fun c57 => absurd c57 (by omega)) 
      refine j_aload_n 0 dX11_setMetre_82 rfl rfl ?_
      refine j_iload_n 1 dX11_setMetre_83 rfl rfl ?_
      refine J_callV1 kX11_105 cvX11_length hP.1 (c_X11_length hM hZ hI2 hb) rfl rfl rfl rfl rfl dX11_setMetre_84 rfl rfl ?_
      refine J_top ((nb * 64).tdiv nu) ?_ (by show rng (p0.2 2) b 24 ((nb * 64).tdiv nu) b = _; unfold rng; rw [if_pos ⟨Int.le_refl _, hb.2⟩])
      refine j_iret rfl dX11_setMetre_87 ?_
      exact ⟨by rw [if_pos hb, if_pos hC], by rw [if_pos ⟨hb, hC⟩, if_pos hb, if_pos hC]; exact MN.same hM hZ hI2 h0 hF⟩
    | succ n ih =>
      intro i h2 q hb hC hi hbi hM h0 e2 e3 e4 hF
      have hP := hM.1
      obtain ⟨Fa, hpa, hFa⟩ := hM.2.1
      refine j_iload dX11_setMetre_53 rfl ?_
      refine J_bipush dX11_setMetre_55 (by decide) ?_
      refine J_icmp_ge 82 dX11_setMetre_57 (by decide) (fun c57 => absurd c57 (by omega)) (fun c57 => ?_) 
      refine j_aload_n 0 dX11_setMetre_60 rfl rfl ?_
      refine j_get fX11_28 dX11_setMetre_61 hP.1 rfl ?_
      refine j_iload dX11_setMetre_64 rfl ?_
      refine j_iload_n 2 dX11_setMetre_66 rfl rfl ?_
      refine J_iastA 2 hP rfl (fun _ => rfl) (fun _ => rfl) dX11_setMetre_67 (fun h hP hF67 => ?_) 
      have hM := hM.w hZ hP hF67
      have hF := hF.tr (hF67.mono (fun _ q => Or.inl q))
      obtain ⟨Fa, hpa, hFa⟩ := hM.2.1
      refine j_aload_n 0 dX11_setMetre_68 rfl rfl ?_
      refine j_get fX11_31 dX11_setMetre_69 hP.1 rfl ?_
      refine j_iload dX11_setMetre_72 rfl ?_
      refine j_iload_n 3 dX11_setMetre_74 rfl rfl ?_
      refine J_iastA 3 hP rfl (fun _ => rfl) (fun _ => rfl) dX11_setMetre_75 (fun h hP hF75 => ?_) 
      have hM := hM.w hZ hP hF75
      have hF := hF.tr (hF75.mono (fun _ q => Or.inl q))
      obtain ⟨Fa, hpa, hFa⟩ := hM.2.1
      refine J_iinc (L' := [(4, _), (0, _), (1, _), (2, _), (3, _)]) dX11_setMetre_76 rfl rfl rfl ?_
      refine j_goto 53 dX11_setMetre_79 (by decide) ?_
      refine ih (i + 1) _ _ hb hC (by omega) (by omega) hM h0 ?_ ?_ e4 hF
      · show upI (q.2 2) i nb = _; rw [e2]; exact rng_s _ hbi
      · show upI (q.2 3) i nu = _; rw [e3]; exact rng_s _ hbi
  refine j_body (by decide +kernel) ⟨rfl, rfl⟩ rfl ?_
  have hP := hM.1
  have hF : Fr (FtM a d) h h := Fr.rf
  obtain ⟨Fa, hpa, hFa⟩ := hM.2.1
  refine j_aload_n 0 dX11_setMetre_0 rfl rfl ?_
  refine J_iconst dX11_setMetre_1 ?_
  refine J_putA hP fX11_87 tyX11_thrown dX11_setMetre_2 rfl rfl (fun h hP hF2 => ?_)
  have hM := hM.w hZ hP hF2
  have hF := hF.tr (hF2.mono (fun _ q => Or.inl q))
  obtain ⟨Fa, hpa, hFa⟩ := hM.2.1
  refine j_iload_n 1 dX11_setMetre_5 rfl rfl ?_
  refine J_callSZ kX11_149 csX11_isBar (c_X11_isBar hb) rfl rfl rfl rfl rfl dX11_setMetre_6 rfl rfl (fun z6 => ?_) (fun z6 => ?_)
  · refine J_if_ne 18 dX11_setMetre_9 (by decide) (fun c9 => ?_) (fun c9 => absurd c9 (by decide)) 
    refine j_iload_n 2 dX11_setMetre_18 rfl rfl ?_
    refine J_iconst dX11_setMetre_19 ?_
    refine J_bipush dX11_setMetre_20 (by decide) ?_
    refine J_callSZ kX11_91 csX11_is (c_X11_is hnb (by decide) (by decide)) rfl rfl rfl rfl rfl dX11_setMetre_22 rfl rfl (fun z22 => ?_) (fun z22 => ?_)
    · refine J_if_eq 44 dX11_setMetre_25 (by decide) (fun c25 => absurd c25 (by decide)) (fun c25 => ?_) 
      refine j_iload_n 3 dX11_setMetre_28 rfl rfl ?_
      refine J_iconst dX11_setMetre_29 ?_
      refine J_icmp_eq 50 dX11_setMetre_30 (by decide) (fun c30 => ?_) (fun c30 => ?_) 
      · refine j_iload_n 1 dX11_setMetre_50 rfl rfl ?_
        refine j_istore (L' := [(4, _), (0, _), (1, _), (2, _), (3, _)]) dX11_setMetre_51 rfl rfl ?_
        exact loop (24 - b).toNat b _ _ z6 ⟨z22, by omega⟩ (by omega) (Int.le_refl _) hM rfl (rng_0 _ _ _).symm (rng_0 _ _ _).symm rfl hF
      · refine j_iload_n 3 dX11_setMetre_33 rfl rfl ?_
        refine J_iconst dX11_setMetre_34 ?_
        refine J_icmp_eq 50 dX11_setMetre_35 (by decide) (fun c35 => ?_) (fun c35 => ?_) 
        · refine j_iload_n 1 dX11_setMetre_50 rfl rfl ?_
          refine j_istore (L' := [(4, _), (0, _), (1, _), (2, _), (3, _)]) dX11_setMetre_51 rfl rfl ?_
          exact loop (24 - b).toNat b _ _ z6 ⟨z22, by omega⟩ (by omega) (Int.le_refl _) hM rfl (rng_0 _ _ _).symm (rng_0 _ _ _).symm rfl hF
        · refine j_iload_n 3 dX11_setMetre_38 rfl rfl ?_
          refine J_bipush dX11_setMetre_39 (by decide) ?_
          refine J_icmp_eq 50 dX11_setMetre_41 (by decide) (fun c41 => ?_) (fun c41 => ?_) 
          · refine j_iload_n 1 dX11_setMetre_50 rfl rfl ?_
            refine j_istore (L' := [(4, _), (0, _), (1, _), (2, _), (3, _)]) dX11_setMetre_51 rfl rfl ?_
            exact loop (24 - b).toNat b _ _ z6 ⟨z22, by omega⟩ (by omega) (Int.le_refl _) hM rfl (rng_0 _ _ _).symm (rng_0 _ _ _).symm rfl hF
          · refine j_aload_n 0 dX11_setMetre_44 rfl rfl ?_
            refine J_iconst dX11_setMetre_45 ?_
            refine J_callVW1 kX11_115 cvX11_refuse hP.1 (c_X11_refuse hM hZ hI) rfl rfl rfl rfl rfl dX11_setMetre_46 rfl rfl (fun h hp => ?_)
            obtain ⟨hM, hF9⟩ := hp
            have hF := hF.tr hF9
            refine j_iret rfl dX11_setMetre_49 ?_
            have n2 : ¬ ((1 ≤ nb ∧ nb ≤ 12) ∧ (nu = 2 ∨ nu = 4 ∨ nu = 8)) := fun q => absurd q.2 (by omega)
            exact ⟨by rw [if_pos z6, if_neg n2], by rw [if_neg (fun q => n2 q.2), if_pos z6, if_neg n2]; exact MN.same hM hZ hI rfl hF⟩
    · refine J_if_eq 44 dX11_setMetre_25 (by decide) (fun c25 => ?_) (fun c25 => absurd c25 (by decide)) 
      refine j_aload_n 0 dX11_setMetre_44 rfl rfl ?_
      refine J_iconst dX11_setMetre_45 ?_
      refine J_callVW1 kX11_115 cvX11_refuse hP.1 (c_X11_refuse hM hZ hI) rfl rfl rfl rfl rfl dX11_setMetre_46 rfl rfl (fun h hp => ?_)
      obtain ⟨hM, hF9⟩ := hp
      have hF := hF.tr hF9
      refine j_iret rfl dX11_setMetre_49 ?_
      have n2 : ¬ ((1 ≤ nb ∧ nb ≤ 12) ∧ (nu = 2 ∨ nu = 4 ∨ nu = 8)) := fun q => z22 q.1
      exact ⟨by rw [if_pos z6, if_neg n2], by rw [if_neg (fun q => n2 q.2), if_pos z6, if_neg n2]; exact MN.same hM hZ hI rfl hF⟩
  · refine J_if_ne 18 dX11_setMetre_9 (by decide) (fun c9 => absurd c9 (by decide)) (fun c9 => ?_) 
    refine j_aload_n 0 dX11_setMetre_12 rfl rfl ?_
    refine J_iconst dX11_setMetre_13 ?_
    refine J_callVW1 kX11_115 cvX11_refuse hP.1 (c_X11_refuse hM hZ hI) rfl rfl rfl rfl rfl dX11_setMetre_14 rfl rfl (fun h hp => ?_)
    obtain ⟨hM, hF9⟩ := hp
    have hF := hF.tr hF9
    refine j_iret rfl dX11_setMetre_17 ?_
    exact ⟨by rw [if_neg z6], by rw [if_neg (fun q => z6 q.1), if_neg z6]; exact MN.same hM hZ hI rfl hF⟩
set_option maxRecDepth 100000 in
theorem c_X11_setKey {l : Launch} {G : jG} {h : jH} {a : Nat} {d : MD} {mp P : Nat → OS} {p p0 : OS} {Z : Nat → Nat} {b ky : Int} (hM : Mod G h a d mp p) (hZ : Mz a d Z) (hI : MI d P p0 mp p.2) (hb : rg b) (hky : rg ky) : jC l G yX11_setKey mX11_setKey [.ref a, vI b, vI ky] h (jW (oI (if isBar b then (if -7 ≤ ky ∧ ky ≤ 7 then p0.2 3 b else 0) else 0)) (MN G a d h (P) (if isBar b ∧ -7 ≤ ky ∧ ky ≤ 7 then keyP p0 b ky else p0) (if isBar b then (if -7 ≤ ky ∧ ky ≤ 7 then 0 else 2) else 1))) := by
  have loop : ∀ (n : Nat) (i : Int) (h2 : jH) (q : OS), isBar b → (-7 ≤ ky ∧ ky ≤ 7) → i + n = 24 → b ≤ i → Mod G h2 a d mp q → q.1 0 = 0 → q.2 4 = rng (p.2 4) b i ky → q.2 2 = p.2 2 → q.2 3 = p.2 3 → Fr (FtM a d) h h2 → J l G mX11_setKey (jQ G mX11_setKey (jW (oI (if isBar b then (if -7 ≤ ky ∧ ky ≤ 7 then p0.2 3 b else 0) else 0)) (MN G a d h (P) (if isBar b ∧ -7 ≤ ky ∧ ky ≤ 7 then keyP p0 b ky else p0) (if isBar b then (if -7 ≤ ky ∧ ky ≤ 7 then 0 else 2) else 1)))) 0 0 45 [(4, vI i), (3, vI (p0.2 3 b)), (0, .ref a), (1, vI b), (2, vI ky)] [] h2 := by
    intro n
    induction n with
    | zero =>
      intro i h2 q hb hC hi hbi hM h0 e4 e2 e3 hF
      obtain rfl : i = 24 := by omega
      have hI2 : MI d P (keyP p0 b ky) mp q.2 := hI.up0 (hI.1.2.2.key hC) (fun b2 hb2 => by
        have g := hI.2.2 b2 hb2
        rw [e2, e3, e4]
        exact ⟨g.1, g.2.1, rng_at g.2.2⟩)
      have hP := hM.1
      refine j_iload dX11_setKey_45 rfl ?_
      refine J_bipush dX11_setKey_47 (by decide) ?_
      refine J_icmp_ge 66 dX11_setKey_49 (by decide) (fun c49 => ?_) (fun c49 => absurd c49 (by omega)) 
      refine j_iload_n 3 dX11_setKey_66 rfl rfl ?_
      refine j_iret rfl dX11_setKey_67 ?_
      exact ⟨by rw [if_pos hb, if_pos hC], by rw [if_pos ⟨hb, hC⟩, if_pos hb, if_pos hC]; exact MN.same hM hZ hI2 h0 hF⟩
    | succ n ih =>
      intro i h2 q hb hC hi hbi hM h0 e4 e2 e3 hF
      have hP := hM.1
      obtain ⟨Fa, hpa, hFa⟩ := hM.2.1
      refine j_iload dX11_setKey_45 rfl ?_
      refine J_bipush dX11_setKey_47 (by decide) ?_
      refine J_icmp_ge 66 dX11_setKey_49 (by decide) (fun c49 => absurd c49 (by omega)) (fun c49 => ?_) 
      refine j_aload_n 0 dX11_setKey_52 rfl rfl ?_
      refine j_get fX11_34 dX11_setKey_53 hP.1 rfl ?_
      refine j_iload dX11_setKey_56 rfl ?_
      refine j_iload_n 2 dX11_setKey_58 rfl rfl ?_
      refine J_iastA 4 hP rfl (fun _ => rfl) (fun _ => rfl) dX11_setKey_59 (fun h hP hF59 => ?_) 
      have hM := hM.w hZ hP hF59
      have hF := hF.tr (hF59.mono (fun _ q => Or.inl q))
      obtain ⟨Fa, hpa, hFa⟩ := hM.2.1
      refine J_iinc (L' := [(4, _), (3, _), (0, _), (1, _), (2, _)]) dX11_setKey_60 rfl rfl rfl ?_
      refine j_goto 45 dX11_setKey_63 (by decide) ?_
      refine ih (i + 1) _ _ hb hC (by omega) (by omega) hM h0 ?_ e2 e3 hF
      show upI (q.2 4) i ky = _; rw [e4]; exact rng_s _ hbi
  refine j_body (by decide +kernel) ⟨rfl, rfl⟩ rfl ?_
  have hP := hM.1
  have hF : Fr (FtM a d) h h := Fr.rf
  obtain ⟨Fa, hpa, hFa⟩ := hM.2.1
  refine j_aload_n 0 dX11_setKey_0 rfl rfl ?_
  refine J_iconst dX11_setKey_1 ?_
  refine J_putA hP fX11_87 tyX11_thrown dX11_setKey_2 rfl rfl (fun h hP hF2 => ?_)
  have hM := hM.w hZ hP hF2
  have hF := hF.tr (hF2.mono (fun _ q => Or.inl q))
  obtain ⟨Fa, hpa, hFa⟩ := hM.2.1
  refine j_iload_n 1 dX11_setKey_5 rfl rfl ?_
  refine J_callSZ kX11_149 csX11_isBar (c_X11_isBar hb) rfl rfl rfl rfl rfl dX11_setKey_6 rfl rfl (fun z6 => ?_) (fun z6 => ?_)
  · refine J_if_ne 18 dX11_setKey_9 (by decide) (fun c9 => ?_) (fun c9 => absurd c9 (by decide)) 
    refine j_iload_n 2 dX11_setKey_18 rfl rfl ?_
    refine J_bipush dX11_setKey_19 (by decide) ?_
    refine J_bipush dX11_setKey_21 (by decide) ?_
    refine J_callSZ kX11_91 csX11_is (c_X11_is hky (by decide) (by decide)) rfl rfl rfl rfl rfl dX11_setKey_23 rfl rfl (fun z23 => ?_) (fun z23 => ?_)
    · refine J_if_ne 35 dX11_setKey_26 (by decide) (fun c26 => ?_) (fun c26 => absurd c26 (by decide)) 
      refine j_aload_n 0 dX11_setKey_35 rfl rfl ?_
      refine j_get fX11_34 dX11_setKey_36 hP.1 rfl ?_
      refine j_iload_n 1 dX11_setKey_39 rfl rfl ?_
      refine J_iald dX11_setKey_40 (hP.2.1 4 rfl) ?_ 
      refine J_top (p0.2 3 b) ?_ (by exact (hI.2.2 b z6).2.2)
      refine j_istore_n 3 (L' := [(3, _), (0, _), (1, _), (2, _)]) dX11_setKey_41 rfl rfl rfl ?_
      refine j_iload_n 1 dX11_setKey_42 rfl rfl ?_
      refine j_istore (L' := [(4, _), (3, _), (0, _), (1, _), (2, _)]) dX11_setKey_43 rfl rfl ?_
      exact loop (24 - b).toNat b _ _ z6 z23 (by omega) (Int.le_refl _) hM rfl (rng_0 _ _ _).symm rfl rfl hF
    · refine J_if_ne 35 dX11_setKey_26 (by decide) (fun c26 => absurd c26 (by decide)) (fun c26 => ?_) 
      refine j_aload_n 0 dX11_setKey_29 rfl rfl ?_
      refine J_iconst dX11_setKey_30 ?_
      refine J_callVW1 kX11_115 cvX11_refuse hP.1 (c_X11_refuse hM hZ hI) rfl rfl rfl rfl rfl dX11_setKey_31 rfl rfl (fun h hp => ?_)
      obtain ⟨hM, hF9⟩ := hp
      have hF := hF.tr hF9
      refine j_iret rfl dX11_setKey_34 ?_
      exact ⟨by rw [if_pos z6, if_neg z23], by rw [if_neg (fun q => z23 q.2), if_pos z6, if_neg z23]; exact MN.same hM hZ hI rfl hF⟩
  · refine J_if_ne 18 dX11_setKey_9 (by decide) (fun c9 => absurd c9 (by decide)) (fun c9 => ?_) 
    refine j_aload_n 0 dX11_setKey_12 rfl rfl ?_
    refine J_iconst dX11_setKey_13 ?_
    refine J_callVW1 kX11_115 cvX11_refuse hP.1 (c_X11_refuse hM hZ hI) rfl rfl rfl rfl rfl dX11_setKey_14 rfl rfl (fun h hp => ?_)
    obtain ⟨hM, hF9⟩ := hp
    have hF := hF.tr hF9
    refine j_iret rfl dX11_setKey_17 ?_
    exact ⟨by rw [if_neg z6], by rw [if_neg (fun q => z6 q.1), if_neg z6]; exact MN.same hM hZ hI rfl hF⟩
set_option maxRecDepth 100000 in
theorem c_X11_setRange {l : Launch} {G : jG} {h : jH} {a : Nat} {d : MD} {mp P : Nat → OS} {p p0 : OS} {Z : Nat → Nat} {k lo hi : Int} (hM : Mod G h a d mp p) (hZ : Mz a d Z) (hI : MI d P p0 mp p.2) (hk : rg k) (hlo : rg lo) (hhi : rg hi) : jC l G yX11_setRange mX11_setRange [.ref a, vI k, vI lo, vI hi] h (jW (oI (if 0 ≤ k ∧ k < 4 then (if 1 ≤ lo ∧ lo ≤ 62 ∧ lo ≤ hi ∧ hi ≤ 62 then sumN (fOut (oU (oU (P k.toNat) 9 lo) 10 hi)) ((P k.toNat).1 7).toNat else 0) else 0)) (MN G a d h (if (0 ≤ k ∧ k < 4) ∧ 1 ≤ lo ∧ lo ≤ 62 ∧ lo ≤ hi ∧ hi ≤ 62 then upN P k.toNat (oU (oU (P k.toNat) 9 lo) 10 hi) else P) (p0) (if 0 ≤ k ∧ k < 4 then (if 1 ≤ lo ∧ lo ≤ 62 ∧ lo ≤ hi ∧ hi ≤ 62 then 0 else 2) else 1))) := by
  have loop : ∀ (n i : Nat) (h2 : jH) (mp2 : Nat → OS) (q : OS), (0 ≤ k ∧ k < 4) → (1 ≤ lo ∧ lo ≤ 62 ∧ lo ≤ hi ∧ hi ≤ 62) → (i : Int) + n = (P k.toNat).1 7 → Mod G h2 a d mp2 q → q.1 0 = 0 → MI d (upN P k.toNat (oU (oU (P k.toNat) 9 lo) 10 hi)) p0 mp2 q.2 → Fr (FtM a d) h h2 → J l G mX11_setRange (jQ G mX11_setRange (jW (oI (if 0 ≤ k ∧ k < 4 then (if 1 ≤ lo ∧ lo ≤ 62 ∧ lo ≤ hi ∧ hi ≤ 62 then sumN (fOut (oU (oU (P k.toNat) 9 lo) 10 hi)) ((P k.toNat).1 7).toNat else 0) else 0)) (MN G a d h (if (0 ≤ k ∧ k < 4) ∧ 1 ≤ lo ∧ lo ≤ 62 ∧ lo ≤ hi ∧ hi ≤ 62 then upN P k.toNat (oU (oU (P k.toNat) 9 lo) 10 hi) else P) (p0) (if 0 ≤ k ∧ k < 4 then (if 1 ≤ lo ∧ lo ≤ 62 ∧ lo ≤ hi ∧ hi ≤ 62 then 0 else 2) else 1)))) 0 0 70 [(6, vI (i : Int)), (5, vI (sumN (fOut (oU (oU (P k.toNat) 9 lo) 10 hi)) i)), (4, .ref (d.pad k.toNat)), (0, .ref a), (1, vI k), (2, vI lo), (3, vI hi)] [] h2 := by
    intro n
    induction n with
    | zero =>
      intro i h2 mp2 q c1 hC hii hM h0 hI2 hF
      have hP := hM.1
      have hPk := hM.2.2 k.toNat (by omega)
      have hmk := hI2.2.1 k.toNat (by omega)
      rw [upN_s] at hmk
      have hpk := hI2.1.1 k.toNat (by omega)
      rw [upN_s] at hpk
      have hn7 := hpk.1
      unfold pN at hn7
      rw [show (oU (oU (P k.toNat) 9 lo) 10 hi).1 7 = (P k.toNat).1 7 from rfl] at hn7
      have hm7 := hmk.1.1
      rw [show (oU (oU (P k.toNat) 9 lo) 10 hi).1 7 = (P k.toNat).1 7 from rfl] at hm7
      refine j_iload dX11_setRange_70 rfl ?_
      refine j_aload dX11_setRange_72 rfl ?_
      refine j_getN fX11_99 dX11_setRange_74 hPk.1 rfl ?_
      refine J_top ((P k.toNat).1 7) ?_ (by exact hm7)
      refine J_icmp_ge 106 dX11_setRange_77 (by decide) (fun c77 => ?_) (fun c77 => absurd c77 (by omega)) 
      refine j_iload dX11_setRange_106 rfl ?_
      refine j_iret rfl dX11_setRange_108 ?_
      obtain rfl : i = ((P k.toNat).1 7).toNat := by omega
      exact ⟨by rw [if_pos c1, if_pos hC], by rw [if_pos ⟨c1, hC⟩, if_pos c1, if_pos hC]; exact MN.same hM hZ hI2 h0 hF⟩
    | succ n ih =>
      intro i h2 mp2 q c1 hC hii hM h0 hI2 hF
      have hP := hM.1
      have hPk := hM.2.2 k.toNat (by omega)
      have hmk := hI2.2.1 k.toNat (by omega)
      rw [upN_s] at hmk
      have hpk := hI2.1.1 k.toNat (by omega)
      rw [upN_s] at hpk
      have hn7 := hpk.1
      unfold pN at hn7
      rw [show (oU (oU (P k.toNat) 9 lo) 10 hi).1 7 = (P k.toNat).1 7 from rfl] at hn7
      have hm7 := hmk.1.1
      rw [show (oU (oU (P k.toNat) 9 lo) 10 hi).1 7 = (P k.toNat).1 7 from rfl] at hm7
      have hin : inP (oU (oU (P k.toNat) 9 lo) 10 hi) (i : Int) := ⟨by omega, by rw [show (oU (oU (P k.toNat) 9 lo) 10 hi).1 7 = (P k.toNat).1 7 from rfl]; omega⟩
      have hs : sumN (fOut (oU (oU (P k.toNat) 9 lo) 10 hi)) (i + 1) = sumN (fOut (oU (oU (P k.toNat) 9 lo) 10 hi)) i + fOut (oU (oU (P k.toNat) 9 lo) 10 hi) i := rfl
      refine j_iload dX11_setRange_70 rfl ?_
      refine j_aload dX11_setRange_72 rfl ?_
      refine j_getN fX11_99 dX11_setRange_74 hPk.1 rfl ?_
      refine J_top ((P k.toNat).1 7) ?_ (by exact hm7)
      refine J_icmp_ge 106 dX11_setRange_77 (by decide) (fun c77 => absurd c77 (by omega)) (fun c77 => ?_) 
      refine j_iload dX11_setRange_80 rfl ?_
      refine j_aload dX11_setRange_82 rfl ?_
      refine j_iload dX11_setRange_84 rfl ?_
      refine J_callVZ kX11_158 cvX10_isOut hPk.1 (c_X10_isOut hPk hmk hpk hin) rfl rfl rfl rfl rfl dX11_setRange_86 rfl rfl (fun z86 => ?_) (fun z86 => ?_)
      · refine J_if_eq 96 dX11_setRange_89 (by decide) (fun c89 => absurd c89 (by decide)) (fun c89 => ?_) 
        refine J_iconst dX11_setRange_92 ?_
        refine j_goto 97 dX11_setRange_93 (by decide) ?_
        refine J_iadd dX11_setRange_97 ?_
        refine J_top (sumN (fOut (oU (oU (P k.toNat) 9 lo) 10 hi)) (i + 1)) ?_ (by rw [hs]; exact congrArg (fun z => sumN (fOut (oU (oU (P k.toNat) 9 lo) 10 hi)) i + z) (if_pos z86).symm)
        refine j_istore (L' := [(5, _), (6, _), (4, _), (0, _), (1, _), (2, _), (3, _)]) dX11_setRange_98 rfl rfl ?_
        refine J_iinc (L' := [(6, _), (5, _), (4, _), (0, _), (1, _), (2, _), (3, _)]) dX11_setRange_100 rfl rfl rfl ?_
        refine j_goto 70 dX11_setRange_103 (by decide) ?_
        exact j_locR (ih (i + 1) _ _ _ c1 hC (by omega) hM h0 hI2 hF) (by repeat' (first | exact True.intro | refine And.intro rfl ?_))
      · refine J_if_eq 96 dX11_setRange_89 (by decide) (fun c89 => ?_) (fun c89 => absurd c89 (by decide)) 
        refine J_iconst dX11_setRange_96 ?_
        refine J_iadd dX11_setRange_97 ?_
        refine J_top (sumN (fOut (oU (oU (P k.toNat) 9 lo) 10 hi)) (i + 1)) ?_ (by rw [hs]; exact congrArg (fun z => sumN (fOut (oU (oU (P k.toNat) 9 lo) 10 hi)) i + z) (if_neg z86).symm)
        refine j_istore (L' := [(5, _), (6, _), (4, _), (0, _), (1, _), (2, _), (3, _)]) dX11_setRange_98 rfl rfl ?_
        refine J_iinc (L' := [(6, _), (5, _), (4, _), (0, _), (1, _), (2, _), (3, _)]) dX11_setRange_100 rfl rfl rfl ?_
        refine j_goto 70 dX11_setRange_103 (by decide) ?_
        exact j_locR (ih (i + 1) _ _ _ c1 hC (by omega) hM h0 hI2 hF) (by repeat' (first | exact True.intro | refine And.intro rfl ?_))
  refine j_body (by decide +kernel) ⟨rfl, rfl⟩ rfl ?_
  have hP := hM.1
  have hF : Fr (FtM a d) h h := Fr.rf
  obtain ⟨Fa, hpa, hFa⟩ := hM.2.1
  refine j_aload_n 0 dX11_setRange_0 rfl rfl ?_
  refine J_iconst dX11_setRange_1 ?_
  refine J_putA hP fX11_87 tyX11_thrown dX11_setRange_2 rfl rfl (fun h hP hF2 => ?_)
  have hM := hM.w hZ hP hF2
  have hF := hF.tr (hF2.mono (fun _ q => Or.inl q))
  obtain ⟨Fa, hpa, hFa⟩ := hM.2.1
  refine j_iload_n 1 dX11_setRange_5 rfl rfl ?_
  refine J_callSZ kX11_95 csX11_isPart (c_X11_isPart hk) rfl rfl rfl rfl rfl dX11_setRange_6 rfl rfl (fun z6 => ?_) (fun z6 => ?_)
  · refine J_if_ne 18 dX11_setRange_9 (by decide) (fun c9 => ?_) (fun c9 => absurd c9 (by decide)) 
    refine j_iload_n 2 dX11_setRange_18 rfl rfl ?_
    refine J_iconst dX11_setRange_19 ?_
    refine J_bipush dX11_setRange_20 (by decide) ?_
    refine J_callSZ kX11_91 csX11_is (c_X11_is hlo (by decide) (by decide)) rfl rfl rfl rfl rfl dX11_setRange_22 rfl rfl (fun z22 => ?_) (fun z22 => ?_)
    · refine J_if_eq 38 dX11_setRange_25 (by decide) (fun c25 => absurd c25 (by decide)) (fun c25 => ?_) 
      refine j_iload_n 3 dX11_setRange_28 rfl rfl ?_
      refine j_iload_n 2 dX11_setRange_29 rfl rfl ?_
      refine J_bipush dX11_setRange_30 (by decide) ?_
      refine J_callSZ kX11_91 csX11_is (c_X11_is hhi hlo (by decide)) rfl rfl rfl rfl rfl dX11_setRange_32 rfl rfl (fun z32 => ?_) (fun z32 => ?_)
      · refine J_if_ne 44 dX11_setRange_35 (by decide) (fun c35 => ?_) (fun c35 => absurd c35 (by decide)) 
        have hPk := hM.2.2 k.toNat (by omega)
        have hmk := hI.2.1 k.toNat (by omega)
        have hpk := hI.1.1 k.toNat (by omega)
        have hnk : 0 ≤ (P k.toNat).1 7 ∧ (P k.toNat).1 7 ≤ 512 := hpk.1
        refine j_aload_n 0 dX11_setRange_44 rfl rfl ?_
        refine j_get fX11_24 dX11_setRange_45 hP.1 rfl ?_
        refine j_iload_n 1 dX11_setRange_48 rfl rfl ?_
        refine J_qaldM dX11_setRange_49 hpa (hFa _ (by omega)) ?_ 
        refine j_astore (L' := [(4, _), (0, _), (1, _), (2, _), (3, _)]) dX11_setRange_50 rfl rfl ?_
        refine j_aload dX11_setRange_52 rfl ?_
        refine j_iload_n 2 dX11_setRange_54 rfl rfl ?_
        refine J_putNA hPk fX11_152 tyX10_lowest dX11_setRange_55 rfl rfl (fun h hPk hF55 => ?_)
        have hM := hM.wk hZ (k := k.toNat) (by omega) hPk hF55
        have hF := hF.tr (hF55.mono (fun b q => Or.inr (Or.inr ⟨k.toNat, by omega, q⟩)))
        obtain ⟨Fa, hpa, hFa⟩ := hM.2.1
        have hP := hM.1
        refine j_aload dX11_setRange_58 rfl ?_
        refine j_iload_n 3 dX11_setRange_60 rfl rfl ?_
        refine J_putNA hPk fX11_155 tyX10_highest dX11_setRange_61 rfl rfl (fun h hPk hF61 => ?_)
        have hM := hM.wk hZ (k := k.toNat) (by omega) hPk hF61
        have hF := hF.tr (hF61.mono (fun b q => Or.inr (Or.inr ⟨k.toNat, by omega, q⟩)))
        obtain ⟨Fa, hpa, hFa⟩ := hM.2.1
        have hP := hM.1
        refine J_iconst dX11_setRange_64 ?_
        refine j_istore (L' := [(5, _), (4, _), (0, _), (1, _), (2, _), (3, _)]) dX11_setRange_65 rfl rfl ?_
        refine J_iconst dX11_setRange_67 ?_
        refine j_istore (L' := [(6, _), (5, _), (4, _), (0, _), (1, _), (2, _), (3, _)]) dX11_setRange_68 rfl rfl ?_
        have e2 := evs_up P (k := k.toNat) (by omega) (oU (oU (P k.toNat) 9 lo) 10 hi)
        have hev := hI.1.2.1
        have e7 : (oU (oU (P k.toNat) 9 lo) 10 hi).1 7 = (P k.toNat).1 7 := rfl
        have hev2 : evs (upN P k.toNat (oU (oU (P k.toNat) 9 lo) 10 hi)) ≤ 512 := by omega
        rw [upN_upN] at hM
        have hI2 := hI.upk (k := k.toNat) (hmk.range lo hi) (hpk.range (lo := lo) (hi := hi) (by omega)) hev2
        exact j_locR (loop ((P k.toNat).1 7).toNat 0 _ _ _ z6 (by omega) (by omega) hM rfl hI2 hF) (by repeat' (first | exact True.intro | refine And.intro rfl ?_))
      · refine J_if_ne 44 dX11_setRange_35 (by decide) (fun c35 => absurd c35 (by decide)) (fun c35 => ?_) 
        refine j_aload_n 0 dX11_setRange_38 rfl rfl ?_
        refine J_iconst dX11_setRange_39 ?_
        refine J_callVW1 kX11_115 cvX11_refuse hP.1 (c_X11_refuse hM hZ hI) rfl rfl rfl rfl rfl dX11_setRange_40 rfl rfl (fun h hp => ?_)
        obtain ⟨hM, hF9⟩ := hp
        have hF := hF.tr hF9
        refine j_iret rfl dX11_setRange_43 ?_
        have n2 : ¬ (1 ≤ lo ∧ lo ≤ 62 ∧ lo ≤ hi ∧ hi ≤ 62) := fun q => z32 ⟨q.2.2.1, q.2.2.2⟩
        exact ⟨by rw [if_pos z6, if_neg n2], by rw [if_neg (fun q => n2 q.2), if_pos z6, if_neg n2]; exact MN.same hM hZ hI rfl hF⟩
    · refine J_if_eq 38 dX11_setRange_25 (by decide) (fun c25 => ?_) (fun c25 => absurd c25 (by decide)) 
      refine j_aload_n 0 dX11_setRange_38 rfl rfl ?_
      refine J_iconst dX11_setRange_39 ?_
      refine J_callVW1 kX11_115 cvX11_refuse hP.1 (c_X11_refuse hM hZ hI) rfl rfl rfl rfl rfl dX11_setRange_40 rfl rfl (fun h hp => ?_)
      obtain ⟨hM, hF9⟩ := hp
      have hF := hF.tr hF9
      refine j_iret rfl dX11_setRange_43 ?_
      have n2 : ¬ (1 ≤ lo ∧ lo ≤ 62 ∧ lo ≤ hi ∧ hi ≤ 62) := fun q => z22 ⟨q.1, q.2.1⟩
      exact ⟨by rw [if_pos z6, if_neg n2], by rw [if_neg (fun q => n2 q.2), if_pos z6, if_neg n2]; exact MN.same hM hZ hI rfl hF⟩
  · refine J_if_ne 18 dX11_setRange_9 (by decide) (fun c9 => absurd c9 (by decide)) (fun c9 => ?_) 
    refine j_aload_n 0 dX11_setRange_12 rfl rfl ?_
    refine J_iconst dX11_setRange_13 ?_
    refine J_callVW1 kX11_115 cvX11_refuse hP.1 (c_X11_refuse hM hZ hI) rfl rfl rfl rfl rfl dX11_setRange_14 rfl rfl (fun h hp => ?_)
    obtain ⟨hM, hF9⟩ := hp
    have hF := hF.tr hF9
    refine j_iret rfl dX11_setRange_17 ?_
    exact ⟨by rw [if_neg z6], by rw [if_neg (fun q => z6 q.1), if_neg z6]; exact MN.same hM hZ hI rfl hF⟩
set_option maxRecDepth 100000 in
theorem c_X11_setShift {l : Launch} {G : jG} {h : jH} {a : Nat} {d : MD} {mp P : Nat → OS} {p p0 : OS} {Z : Nat → Nat} {k fi oc : Int} (hM : Mod G h a d mp p) (hZ : Mz a d Z) (hI : MI d P p0 mp p.2) (hk : rg k) (hfi : rg fi) (hoc : rg oc) : jC l G yX11_setShift mX11_setShift [.ref a, vI k, vI fi, vI oc] h (jW (oI (if 0 ≤ k ∧ k < 4 then (if (-6 ≤ fi ∧ fi ≤ 6) ∧ -2 ≤ oc ∧ oc ≤ 2 then sumN (fNoW (wfiN (oU (oU (P k.toNat) 11 fi) 12 oc) ((P k.toNat).1 7).toNat)) ((P k.toNat).1 7).toNat else 0) else 0)) (MN G a d h (if (0 ≤ k ∧ k < 4) ∧ (-6 ≤ fi ∧ fi ≤ 6) ∧ -2 ≤ oc ∧ oc ≤ 2 then upN P k.toNat (wfiN (oU (oU (P k.toNat) 11 fi) 12 oc) ((P k.toNat).1 7).toNat) else P) (p0) (if 0 ≤ k ∧ k < 4 then (if (-6 ≤ fi ∧ fi ≤ 6) ∧ -2 ≤ oc ∧ oc ≤ 2 then 0 else 2) else 1))) := by
  have loop : ∀ (n i : Nat) (h2 : jH) (mp2 : Nat → OS) (q : OS), (0 ≤ k ∧ k < 4) → ((-6 ≤ fi ∧ fi ≤ 6) ∧ -2 ≤ oc ∧ oc ≤ 2) → (i : Int) + n = (P k.toNat).1 7 → Mod G h2 a d mp2 q → q.1 0 = 0 → MI d (upN P k.toNat (wfiN (oU (oU (P k.toNat) 11 fi) 12 oc) ((P k.toNat).1 7).toNat)) p0 mp2 q.2 → Fr (FtM a d) h h2 → J l G mX11_setShift (jQ G mX11_setShift (jW (oI (if 0 ≤ k ∧ k < 4 then (if (-6 ≤ fi ∧ fi ≤ 6) ∧ -2 ≤ oc ∧ oc ≤ 2 then sumN (fNoW (wfiN (oU (oU (P k.toNat) 11 fi) 12 oc) ((P k.toNat).1 7).toNat)) ((P k.toNat).1 7).toNat else 0) else 0)) (MN G a d h (if (0 ≤ k ∧ k < 4) ∧ (-6 ≤ fi ∧ fi ≤ 6) ∧ -2 ≤ oc ∧ oc ≤ 2 then upN P k.toNat (wfiN (oU (oU (P k.toNat) 11 fi) 12 oc) ((P k.toNat).1 7).toNat) else P) (p0) (if 0 ≤ k ∧ k < 4 then (if (-6 ≤ fi ∧ fi ≤ 6) ∧ -2 ≤ oc ∧ oc ≤ 2 then 0 else 2) else 1)))) 0 0 71 [(6, vI (i : Int)), (5, vI (sumN (fNoW (wfiN (oU (oU (P k.toNat) 11 fi) 12 oc) ((P k.toNat).1 7).toNat)) i)), (4, .ref (d.pad k.toNat)), (0, .ref a), (1, vI k), (2, vI fi), (3, vI oc)] [] h2 := by
    intro n
    induction n with
    | zero =>
      intro i h2 mp2 q c1 hC hii hM h0 hI2 hF
      have hP := hM.1
      have hPk := hM.2.2 k.toNat (by omega)
      have hmk := hI2.2.1 k.toNat (by omega)
      rw [upN_s] at hmk
      have hpk := hI2.1.1 k.toNat (by omega)
      rw [upN_s] at hpk
      have hn7 := hpk.1
      unfold pN at hn7
      rw [show (wfiN (oU (oU (P k.toNat) 11 fi) 12 oc) ((P k.toNat).1 7).toNat).1 7 = (P k.toNat).1 7 from by rw [(wfiN_f _ _).1]; rfl] at hn7
      have hm7 := hmk.1.1
      rw [show (wfiN (oU (oU (P k.toNat) 11 fi) 12 oc) ((P k.toNat).1 7).toNat).1 7 = (P k.toNat).1 7 from by rw [(wfiN_f _ _).1]; rfl] at hm7
      refine j_iload dX11_setShift_71 rfl ?_
      refine j_aload dX11_setShift_73 rfl ?_
      refine j_getN fX11_99 dX11_setShift_75 hPk.1 rfl ?_
      refine J_top ((P k.toNat).1 7) ?_ (by exact hm7)
      refine J_icmp_ge 117 dX11_setShift_78 (by decide) (fun c78 => ?_) (fun c78 => absurd c78 (by omega)) 
      refine j_iload dX11_setShift_117 rfl ?_
      refine j_iret rfl dX11_setShift_119 ?_
      obtain rfl : i = ((P k.toNat).1 7).toNat := by omega
      exact ⟨by rw [if_pos c1, if_pos hC], by rw [if_pos ⟨c1, hC⟩, if_pos c1, if_pos hC]; exact MN.same hM hZ hI2 h0 hF⟩
    | succ n ih =>
      intro i h2 mp2 q c1 hC hii hM h0 hI2 hF
      have hP := hM.1
      have hPk := hM.2.2 k.toNat (by omega)
      have hmk := hI2.2.1 k.toNat (by omega)
      rw [upN_s] at hmk
      have hpk := hI2.1.1 k.toNat (by omega)
      rw [upN_s] at hpk
      have hn7 := hpk.1
      unfold pN at hn7
      rw [show (wfiN (oU (oU (P k.toNat) 11 fi) 12 oc) ((P k.toNat).1 7).toNat).1 7 = (P k.toNat).1 7 from by rw [(wfiN_f _ _).1]; rfl] at hn7
      have hm7 := hmk.1.1
      rw [show (wfiN (oU (oU (P k.toNat) 11 fi) 12 oc) ((P k.toNat).1 7).toNat).1 7 = (P k.toNat).1 7 from by rw [(wfiN_f _ _).1]; rfl] at hm7
      have hin : inP (wfiN (oU (oU (P k.toNat) 11 fi) 12 oc) ((P k.toNat).1 7).toNat) (i : Int) := ⟨by omega, by rw [show (wfiN (oU (oU (P k.toNat) 11 fi) 12 oc) ((P k.toNat).1 7).toNat).1 7 = (P k.toNat).1 7 from by rw [(wfiN_f _ _).1]; rfl]; omega⟩
      have hs : sumN (fNoW (wfiN (oU (oU (P k.toNat) 11 fi) 12 oc) ((P k.toNat).1 7).toNat)) (i + 1) = sumN (fNoW (wfiN (oU (oU (P k.toNat) 11 fi) 12 oc) ((P k.toNat).1 7).toNat)) i + fNoW (wfiN (oU (oU (P k.toNat) 11 fi) 12 oc) ((P k.toNat).1 7).toNat) i := rfl
      refine j_iload dX11_setShift_71 rfl ?_
      refine j_aload dX11_setShift_73 rfl ?_
      refine j_getN fX11_99 dX11_setShift_75 hPk.1 rfl ?_
      refine J_top ((P k.toNat).1 7) ?_ (by exact hm7)
      refine J_icmp_ge 117 dX11_setShift_78 (by decide) (fun c78 => absurd c78 (by omega)) (fun c78 => ?_) 
      refine j_iload dX11_setShift_81 rfl ?_
      refine j_aload dX11_setShift_83 rfl ?_
      refine j_iload dX11_setShift_85 rfl ?_
      refine J_callVZ kX11_137 cvX10_isNote hPk.1 (c_X10_isNote hPk hmk hpk hin) rfl rfl rfl rfl rfl dX11_setShift_87 rfl rfl (fun z87 => ?_) (fun z87 => ?_)
      · refine J_if_eq 107 dX11_setShift_90 (by decide) (fun c90 => absurd c90 (by decide)) (fun c90 => ?_) 
        refine j_aload dX11_setShift_93 rfl ?_
        refine j_iload dX11_setShift_95 rfl ?_
        refine J_callVZ kX11_167 cvX10_isWritten hPk.1 (c_X10_isWritten hPk hmk hpk hin) rfl rfl rfl rfl rfl dX11_setShift_97 rfl rfl (fun z97 => ?_) (fun z97 => ?_)
        · refine J_if_ne 107 dX11_setShift_100 (by decide) (fun c100 => ?_) (fun c100 => absurd c100 (by decide)) 
          refine J_iconst dX11_setShift_107 ?_
          refine J_iadd dX11_setShift_108 ?_
          refine J_top (sumN (fNoW (wfiN (oU (oU (P k.toNat) 11 fi) 12 oc) ((P k.toNat).1 7).toNat)) (i + 1)) ?_ (by rw [hs]; exact congrArg (fun z => sumN (fNoW (wfiN (oU (oU (P k.toNat) 11 fi) 12 oc) ((P k.toNat).1 7).toNat)) i + z) (if_neg (fun q => by have g := (hpk.ev (i : Int) hin.1 hin.2).2.2.2.1.1; rw [if_pos z97] at g; have := z97.2.1; have := q.2; omega)).symm)
          refine j_istore (L' := [(5, _), (6, _), (4, _), (0, _), (1, _), (2, _), (3, _)]) dX11_setShift_109 rfl rfl ?_
          refine J_iinc (L' := [(6, _), (5, _), (4, _), (0, _), (1, _), (2, _), (3, _)]) dX11_setShift_111 rfl rfl rfl ?_
          refine j_goto 71 dX11_setShift_114 (by decide) ?_
          exact j_locR (ih (i + 1) _ _ _ c1 hC (by omega) hM h0 hI2 hF) (by repeat' (first | exact True.intro | refine And.intro rfl ?_))
        · refine J_if_ne 107 dX11_setShift_100 (by decide) (fun c100 => absurd c100 (by decide)) (fun c100 => ?_) 
          refine J_iconst dX11_setShift_103 ?_
          refine j_goto 108 dX11_setShift_104 (by decide) ?_
          refine J_iadd dX11_setShift_108 ?_
          refine J_top (sumN (fNoW (wfiN (oU (oU (P k.toNat) 11 fi) 12 oc) ((P k.toNat).1 7).toNat)) (i + 1)) ?_ (by rw [hs]; exact congrArg (fun z => sumN (fNoW (wfiN (oU (oU (P k.toNat) 11 fi) 12 oc) ((P k.toNat).1 7).toNat)) i + z) (if_pos ⟨z87, by have g := (hpk.ev (i : Int) hin.1 hin.2).2.2.2.1.1; rw [if_neg z97] at g; exact g⟩).symm)
          refine j_istore (L' := [(5, _), (6, _), (4, _), (0, _), (1, _), (2, _), (3, _)]) dX11_setShift_109 rfl rfl ?_
          refine J_iinc (L' := [(6, _), (5, _), (4, _), (0, _), (1, _), (2, _), (3, _)]) dX11_setShift_111 rfl rfl rfl ?_
          refine j_goto 71 dX11_setShift_114 (by decide) ?_
          exact j_locR (ih (i + 1) _ _ _ c1 hC (by omega) hM h0 hI2 hF) (by repeat' (first | exact True.intro | refine And.intro rfl ?_))
      · refine J_if_eq 107 dX11_setShift_90 (by decide) (fun c90 => ?_) (fun c90 => absurd c90 (by decide)) 
        refine J_iconst dX11_setShift_107 ?_
        refine J_iadd dX11_setShift_108 ?_
        refine J_top (sumN (fNoW (wfiN (oU (oU (P k.toNat) 11 fi) 12 oc) ((P k.toNat).1 7).toNat)) (i + 1)) ?_ (by rw [hs]; exact congrArg (fun z => sumN (fNoW (wfiN (oU (oU (P k.toNat) 11 fi) 12 oc) ((P k.toNat).1 7).toNat)) i + z) (if_neg (fun q => z87 q.1)).symm)
        refine j_istore (L' := [(5, _), (6, _), (4, _), (0, _), (1, _), (2, _), (3, _)]) dX11_setShift_109 rfl rfl ?_
        refine J_iinc (L' := [(6, _), (5, _), (4, _), (0, _), (1, _), (2, _), (3, _)]) dX11_setShift_111 rfl rfl rfl ?_
        refine j_goto 71 dX11_setShift_114 (by decide) ?_
        exact j_locR (ih (i + 1) _ _ _ c1 hC (by omega) hM h0 hI2 hF) (by repeat' (first | exact True.intro | refine And.intro rfl ?_))
  refine j_body (by decide +kernel) ⟨rfl, rfl⟩ rfl ?_
  have hP := hM.1
  have hF : Fr (FtM a d) h h := Fr.rf
  obtain ⟨Fa, hpa, hFa⟩ := hM.2.1
  refine j_aload_n 0 dX11_setShift_0 rfl rfl ?_
  refine J_iconst dX11_setShift_1 ?_
  refine J_putA hP fX11_87 tyX11_thrown dX11_setShift_2 rfl rfl (fun h hP hF2 => ?_)
  have hM := hM.w hZ hP hF2
  have hF := hF.tr (hF2.mono (fun _ q => Or.inl q))
  obtain ⟨Fa, hpa, hFa⟩ := hM.2.1
  refine j_iload_n 1 dX11_setShift_5 rfl rfl ?_
  refine J_callSZ kX11_95 csX11_isPart (c_X11_isPart hk) rfl rfl rfl rfl rfl dX11_setShift_6 rfl rfl (fun z6 => ?_) (fun z6 => ?_)
  · refine J_if_ne 18 dX11_setShift_9 (by decide) (fun c9 => ?_) (fun c9 => absurd c9 (by decide)) 
    refine j_iload_n 2 dX11_setShift_18 rfl rfl ?_
    refine J_bipush dX11_setShift_19 (by decide) ?_
    refine J_bipush dX11_setShift_21 (by decide) ?_
    refine J_callSZ kX11_91 csX11_is (c_X11_is hfi (by decide) (by decide)) rfl rfl rfl rfl rfl dX11_setShift_23 rfl rfl (fun z23 => ?_) (fun z23 => ?_)
    · refine J_if_eq 39 dX11_setShift_26 (by decide) (fun c26 => absurd c26 (by decide)) (fun c26 => ?_) 
      refine j_iload_n 3 dX11_setShift_29 rfl rfl ?_
      refine J_bipush dX11_setShift_30 (by decide) ?_
      refine J_iconst dX11_setShift_32 ?_
      refine J_callSZ kX11_91 csX11_is (c_X11_is hoc (by decide) (by decide)) rfl rfl rfl rfl rfl dX11_setShift_33 rfl rfl (fun z33 => ?_) (fun z33 => ?_)
      · refine J_if_ne 45 dX11_setShift_36 (by decide) (fun c36 => ?_) (fun c36 => absurd c36 (by decide)) 
        have hPk := hM.2.2 k.toNat (by omega)
        have hmk := hI.2.1 k.toNat (by omega)
        have hpk := hI.1.1 k.toNat (by omega)
        have hnk : 0 ≤ (P k.toNat).1 7 ∧ (P k.toNat).1 7 ≤ 512 := hpk.1
        refine j_aload_n 0 dX11_setShift_45 rfl rfl ?_
        refine j_get fX11_24 dX11_setShift_46 hP.1 rfl ?_
        refine j_iload_n 1 dX11_setShift_49 rfl rfl ?_
        refine J_qaldM dX11_setShift_50 hpa (hFa _ (by omega)) ?_ 
        refine j_astore (L' := [(4, _), (0, _), (1, _), (2, _), (3, _)]) dX11_setShift_51 rfl rfl ?_
        refine j_aload dX11_setShift_53 rfl ?_
        refine j_iload_n 2 dX11_setShift_55 rfl rfl ?_
        refine J_putNA hPk fX11_161 tyX10_fifths dX11_setShift_56 rfl rfl (fun h hPk hF56 => ?_)
        have hM := hM.wk hZ (k := k.toNat) (by omega) hPk hF56
        have hF := hF.tr (hF56.mono (fun b q => Or.inr (Or.inr ⟨k.toNat, by omega, q⟩)))
        obtain ⟨Fa, hpa, hFa⟩ := hM.2.1
        have hP := hM.1
        refine j_aload dX11_setShift_59 rfl ?_
        refine j_iload_n 3 dX11_setShift_61 rfl rfl ?_
        refine J_putNA hPk fX11_164 tyX10_octaves dX11_setShift_62 rfl rfl (fun h hPk hF62 => ?_)
        have hM := hM.wk hZ (k := k.toNat) (by omega) hPk hF62
        have hF := hF.tr (hF62.mono (fun b q => Or.inr (Or.inr ⟨k.toNat, by omega, q⟩)))
        obtain ⟨Fa, hpa, hFa⟩ := hM.2.1
        have hP := hM.1
        refine J_iconst dX11_setShift_65 ?_
        refine j_istore (L' := [(5, _), (4, _), (0, _), (1, _), (2, _), (3, _)]) dX11_setShift_66 rfl rfl ?_
        refine J_iconst dX11_setShift_68 ?_
        refine j_istore (L' := [(6, _), (5, _), (4, _), (0, _), (1, _), (2, _), (3, _)]) dX11_setShift_69 rfl rfl ?_
        have e2 := evs_up P (k := k.toNat) (by omega) (wfiN (oU (oU (P k.toNat) 11 fi) 12 oc) ((P k.toNat).1 7).toNat)
        have hev := hI.1.2.1
        have e7 := show (wfiN (oU (oU (P k.toNat) 11 fi) 12 oc) ((P k.toNat).1 7).toNat).1 7 = (P k.toNat).1 7 from by rw [(wfiN_f _ _).1]; rfl
        have hev2 : evs (upN P k.toNat (wfiN (oU (oU (P k.toNat) 11 fi) 12 oc) ((P k.toNat).1 7).toNat)) ≤ 512 := by rw [e2, e7]; omega
        rw [upN_upN] at hM
        have hI2 := hI.upk (k := k.toNat) (hmk.shift fi oc ((P k.toNat).1 7).toNat) (hpk.shift (fi := fi) (oc := oc) z23 z33) hev2
        exact j_locR (loop ((P k.toNat).1 7).toNat 0 _ _ _ z6 ⟨z23, z33⟩ (by omega) hM rfl hI2 hF) (by repeat' (first | exact True.intro | refine And.intro rfl ?_))
      · refine J_if_ne 45 dX11_setShift_36 (by decide) (fun c36 => absurd c36 (by decide)) (fun c36 => ?_) 
        refine j_aload_n 0 dX11_setShift_39 rfl rfl ?_
        refine J_iconst dX11_setShift_40 ?_
        refine J_callVW1 kX11_115 cvX11_refuse hP.1 (c_X11_refuse hM hZ hI) rfl rfl rfl rfl rfl dX11_setShift_41 rfl rfl (fun h hp => ?_)
        obtain ⟨hM, hF9⟩ := hp
        have hF := hF.tr hF9
        refine j_iret rfl dX11_setShift_44 ?_
        have n2 : ¬ ((-6 ≤ fi ∧ fi ≤ 6) ∧ -2 ≤ oc ∧ oc ≤ 2) := fun q => z33 q.2
        exact ⟨by rw [if_pos z6, if_neg n2], by rw [if_neg (fun q => n2 q.2), if_pos z6, if_neg n2]; exact MN.same hM hZ hI rfl hF⟩
    · refine J_if_eq 39 dX11_setShift_26 (by decide) (fun c26 => ?_) (fun c26 => absurd c26 (by decide)) 
      refine j_aload_n 0 dX11_setShift_39 rfl rfl ?_
      refine J_iconst dX11_setShift_40 ?_
      refine J_callVW1 kX11_115 cvX11_refuse hP.1 (c_X11_refuse hM hZ hI) rfl rfl rfl rfl rfl dX11_setShift_41 rfl rfl (fun h hp => ?_)
      obtain ⟨hM, hF9⟩ := hp
      have hF := hF.tr hF9
      refine j_iret rfl dX11_setShift_44 ?_
      have n2 : ¬ ((-6 ≤ fi ∧ fi ≤ 6) ∧ -2 ≤ oc ∧ oc ≤ 2) := fun q => z23 q.1
      exact ⟨by rw [if_pos z6, if_neg n2], by rw [if_neg (fun q => n2 q.2), if_pos z6, if_neg n2]; exact MN.same hM hZ hI rfl hF⟩
  · refine J_if_ne 18 dX11_setShift_9 (by decide) (fun c9 => absurd c9 (by decide)) (fun c9 => ?_) 
    refine j_aload_n 0 dX11_setShift_12 rfl rfl ?_
    refine J_iconst dX11_setShift_13 ?_
    refine J_callVW1 kX11_115 cvX11_refuse hP.1 (c_X11_refuse hM hZ hI) rfl rfl rfl rfl rfl dX11_setShift_14 rfl rfl (fun h hp => ?_)
    obtain ⟨hM, hF9⟩ := hp
    have hF := hF.tr hF9
    refine j_iret rfl dX11_setShift_17 ?_
    exact ⟨by rw [if_neg z6], by rw [if_neg (fun q => z6 q.1), if_neg z6]; exact MN.same hM hZ hI rfl hF⟩
theorem mpOK.back {n : Nat} {m p : OS} (hm : mpOK n m p) {e pl : Int} : mpOK n (oA (oA m 3 (upI (m.2 3) e pl)) 3 (upI ((oA m 3 (upI (m.2 3) e pl)).2 3) e (p.2 0 e))) p := by
  obtain ⟨h1, em, en, ez⟩ := hm
  refine ⟨h1, fun i a b => ?_, en, ez⟩
  have gi := em i a b
  refine ⟨gi.1, gi.2.1, ?_, gi.2.2.2⟩
  show upI (upI (m.2 3) e pl) e (p.2 0 e) i = _
  by_cases c : i = e
  · subst c; rw [upI_s]
  · rw [upI_n c, upI_n c]; exact gi.2.2.1
set_option maxRecDepth 100000 in
theorem c_X11_faultsIfUp {l : Launch} {G : jG} {h : jH} {a : Nat} {d : MD} {mp P : Nat → OS} {p p0 : OS} {Z : Nat → Nat} {k e : Int} (hM : Mod G h a d mp p) (hZ : Mz a d Z) (hI : MI d P p0 mp p.2) (hk : rg k) (he : rg e) : jC l G yX11_faultsIfUp mX11_faultsIfUp [.ref a, vI k, vI e] h (jW (oI (if (0 ≤ k ∧ k < 4) ∧ inP (P k.toNat) e then (if inP (P k.toNat) e ∧ (P k.toNat).2 0 e ≠ 0 then (if 62 < (P k.toNat).2 0 e + 7 then -1 else ((fauA (raiseP P k.toNat e)).length : Int)) else 0) else 0)) (MN G a d h (P) (p0) (if (0 ≤ k ∧ k < 4) ∧ inP (P k.toNat) e then (if inP (P k.toNat) e ∧ (P k.toNat).2 0 e ≠ 0 then 0 else 2) else 1))) := by
  refine j_body (by decide +kernel) ⟨rfl, rfl⟩ rfl ?_
  have hP := hM.1
  have hF : Fr (FtM a d) h h := Fr.rf
  obtain ⟨Fa, hpa, hFa⟩ := hM.2.1
  refine j_aload_n 0 dX11_faultsIfUp_0 rfl rfl ?_
  refine J_iconst dX11_faultsIfUp_1 ?_
  refine J_putA hP fX11_87 tyX11_thrown dX11_faultsIfUp_2 rfl rfl (fun h hP hF2 => ?_)
  have hM := hM.w hZ hP hF2
  have hF := hF.tr (hF2.mono (fun _ q => Or.inl q))
  obtain ⟨Fa, hpa, hFa⟩ := hM.2.1
  refine j_aload_n 0 dX11_faultsIfUp_5 rfl rfl ?_
  refine j_iload_n 1 dX11_faultsIfUp_6 rfl rfl ?_
  refine j_iload_n 2 dX11_faultsIfUp_7 rfl rfl ?_
  refine J_callVZ kX11_134 cvX11_isEvent hP.1 (c_X11_isEvent hM hZ hI hk he) rfl rfl rfl rfl rfl dX11_faultsIfUp_8 rfl rfl (fun z8 => ?_) (fun z8 => ?_)
  · refine J_if_ne 20 dX11_faultsIfUp_11 (by decide) (fun c11 => ?_) (fun c11 => absurd c11 (by decide)) 
    have hPk := hM.2.2 k.toNat (by omega)
    have hmk := hI.2.1 k.toNat (by omega)
    have hpk := hI.1.1 k.toNat (by omega)
    have hnk : 0 ≤ (P k.toNat).1 7 ∧ (P k.toNat).1 7 ≤ 512 := hpk.1
    refine j_aload_n 0 dX11_faultsIfUp_20 rfl rfl ?_
    refine j_get fX11_24 dX11_faultsIfUp_21 hP.1 rfl ?_
    refine j_iload_n 1 dX11_faultsIfUp_24 rfl rfl ?_
    refine J_qaldM dX11_faultsIfUp_25 hpa (hFa _ (by omega)) ?_ 
    refine j_astore_n 3 (L' := [(3, _), (0, _), (1, _), (2, _)]) dX11_faultsIfUp_26 rfl rfl rfl ?_
    refine j_aload_n 3 dX11_faultsIfUp_27 rfl rfl ?_
    refine j_iload_n 2 dX11_faultsIfUp_28 rfl rfl ?_
    refine J_callVZ kX11_137 cvX10_isNote hPk.1 (c_X10_isNote hPk hmk hpk z8.2) rfl rfl rfl rfl rfl dX11_faultsIfUp_29 rfl rfl (fun z29 => ?_) (fun z29 => ?_)
    · refine J_if_ne 41 dX11_faultsIfUp_32 (by decide) (fun c32 => ?_) (fun c32 => absurd c32 (by decide)) 
      have hin := z8.2
      have hen := hmk.2.2
      have hev := hI.1.2.1
      have gk := hmk.2.1 e hin.1 hin.2
      have hpe := hpk.ev e hin.1 hin.2
      have hpl := hpe.1
      have hal := hpe.2.1
      refine j_aload_n 3 dX11_faultsIfUp_41 rfl rfl ?_
      refine j_getN fX11_143 dX11_faultsIfUp_42 hPk.1 rfl ?_
      refine j_iload_n 2 dX11_faultsIfUp_45 rfl rfl ?_
      refine J_iald dX11_faultsIfUp_46 (hPk.2.1 3 rfl) ?_ 
      refine J_top ((P k.toNat).2 0 e) ?_ (by exact gk.2.2.1)
      refine J_bipush dX11_faultsIfUp_47 (by decide) ?_
      refine J_iadd dX11_faultsIfUp_49 ?_
      refine J_bipush dX11_faultsIfUp_50 (by decide) ?_
      refine J_icmp_le 57 dX11_faultsIfUp_52 (by decide) (fun c52 => ?_) (fun c52 => ?_) 
      · refine j_aload_n 3 dX11_faultsIfUp_57 rfl rfl ?_
        refine j_getN fX11_143 dX11_faultsIfUp_58 hPk.1 rfl ?_
        refine j_iload_n 2 dX11_faultsIfUp_61 rfl rfl ?_
        refine j_dup2 dX11_faultsIfUp_62 rfl rfl ?_
        refine J_iald dX11_faultsIfUp_63 (hPk.2.1 3 rfl) ?_ 
        refine J_top ((P k.toNat).2 0 e) ?_ (by exact gk.2.2.1)
        refine J_bipush dX11_faultsIfUp_64 (by decide) ?_
        refine J_iadd dX11_faultsIfUp_66 ?_
        refine J_iastA 3 hPk rfl (fun _ => rfl) (fun _ => rfl) dX11_faultsIfUp_67 (fun h hPk hF67 => ?_) 
        have hM := hM.wk hZ (k := k.toNat) (by omega) hPk hF67
        have hF := hF.tr (hF67.mono (fun b q => Or.inr (Or.inr ⟨k.toNat, by omega, q⟩)))
        obtain ⟨Fa, hpa, hFa⟩ := hM.2.1
        have hP := hM.1
        have hg := hpk.giv (e := e) (pl := (P k.toNat).2 0 e + 7) (al := (P k.toNat).2 1 e) (by omega) (by omega) (fun z => by omega)
        have hev2 : evs (upN P k.toNat (givP (P k.toNat) e ((P k.toNat).2 0 e + 7) ((P k.toNat).2 1 e))) ≤ 512 := by
          have e3 : (givP (P k.toNat) e ((P k.toNat).2 0 e + 7) ((P k.toNat).2 1 e)).1 7 = (P k.toNat).1 7 := by rw [(giv_f _ _ _ _).1]
          have e2 := evs_up P (k := k.toNat) (by omega) (givP (P k.toNat) e ((P k.toNat).2 0 e + 7) ((P k.toNat).2 1 e))
          omega
        have hI2 : MI d (raiseP P k.toNat e) p0 _ (oU p 0 0).2 := hI.upk (k := k.toNat) (hmk.giv3 hin ((P k.toNat).2 0 e + 7)) hg hev2
        refine j_aload_n 0 dX11_faultsIfUp_68 rfl rfl ?_
        refine J_iconst dX11_faultsIfUp_69 ?_
        refine J_callVW1 kX11_301 cvX11_countFaults hP.1 (c_X11_countFaults hM hZ hI2 (w := -1) (by decide)) rfl rfl rfl rfl rfl dX11_faultsIfUp_70 rfl rfl (fun h hp => ?_)
        obtain ⟨q1, hM, hS, hK, hF9⟩ := hp
        have hF := hF.tr hF9
        obtain ⟨Fa, hpa, hFa⟩ := hM.2.1
        have hP := hM.1
        have hPk := hM.2.2 k.toNat (by omega)
        rw [upN_s] at hPk
        refine j_istore (L' := [(4, _), (3, _), (0, _), (1, _), (2, _)]) dX11_faultsIfUp_73 rfl rfl ?_
        refine j_aload_n 3 dX11_faultsIfUp_75 rfl rfl ?_
        refine j_getN fX11_143 dX11_faultsIfUp_76 hPk.1 rfl ?_
        refine j_iload_n 2 dX11_faultsIfUp_79 rfl rfl ?_
        refine j_dup2 dX11_faultsIfUp_80 rfl rfl ?_
        refine J_iald dX11_faultsIfUp_81 (hPk.2.1 3 rfl) ?_ 
        refine J_top ((P k.toNat).2 0 e + 7) ?_ (by exact upI_s _ _ _)
        refine J_bipush dX11_faultsIfUp_82 (by decide) ?_
        refine J_isub dX11_faultsIfUp_84 ?_
        refine J_top ((P k.toNat).2 0 e) ?_ (by omega)
        refine J_iastA 3 hPk rfl (fun _ => rfl) (fun _ => rfl) dX11_faultsIfUp_85 (fun h hPk hF85 => ?_) 
        have hM := hM.wk hZ (k := k.toNat) (by omega) hPk hF85
        have hF := hF.tr (hF85.mono (fun b q => Or.inr (Or.inr ⟨k.toNat, by omega, q⟩)))
        obtain ⟨Fa, hpa, hFa⟩ := hM.2.1
        have hP := hM.1
        refine j_iload dX11_faultsIfUp_86 rfl ?_
        refine j_iret rfl dX11_faultsIfUp_88 ?_
        have c3 : inP (P k.toNat) e ∧ (P k.toNat).2 0 e ≠ 0 := ⟨z8.2, z29⟩
        have hI3 := (hK.mi hI).upk (k := k.toNat) (hmk.back (e := e) (pl := (P k.toNat).2 0 e + 7)) hpk (by rw [upN_id]; exact hev)
        rw [upN_id] at hI3
        rw [upN_upN] at hM
        exact ⟨by rw [if_pos z8, if_pos c3, if_neg (show ¬ (62 < (P k.toNat).2 0 e + 7) by omega)], by rw [if_pos z8, if_pos c3]; exact MN.same hM hZ hI3 hK.1 hF⟩
      · refine J_iconst dX11_faultsIfUp_55 ?_
        refine j_iret rfl dX11_faultsIfUp_56 ?_
        have c3 : inP (P k.toNat) e ∧ (P k.toNat).2 0 e ≠ 0 := ⟨z8.2, z29⟩
        exact ⟨by rw [if_pos z8, if_pos c3, if_pos (show 62 < (P k.toNat).2 0 e + 7 by omega)], by rw [if_pos z8, if_pos c3]; exact MN.same hM hZ hI rfl hF⟩
    · refine J_if_ne 41 dX11_faultsIfUp_32 (by decide) (fun c32 => absurd c32 (by decide)) (fun c32 => ?_) 
      refine j_aload_n 0 dX11_faultsIfUp_35 rfl rfl ?_
      refine J_iconst dX11_faultsIfUp_36 ?_
      refine J_callVW1 kX11_115 cvX11_refuse hP.1 (c_X11_refuse hM hZ hI) rfl rfl rfl rfl rfl dX11_faultsIfUp_37 rfl rfl (fun h hp => ?_)
      obtain ⟨hM, hF9⟩ := hp
      have hF := hF.tr hF9
      refine j_iret rfl dX11_faultsIfUp_40 ?_
      have n3 : ¬ (inP (P k.toNat) e ∧ (P k.toNat).2 0 e ≠ 0) := fun q => z29 q.2
      exact ⟨by rw [if_pos z8, if_neg n3], by rw [if_pos z8, if_neg n3]; exact MN.same hM hZ hI rfl hF⟩
  · refine J_if_ne 20 dX11_faultsIfUp_11 (by decide) (fun c11 => absurd c11 (by decide)) (fun c11 => ?_) 
    refine j_aload_n 0 dX11_faultsIfUp_14 rfl rfl ?_
    refine J_iconst dX11_faultsIfUp_15 ?_
    refine J_callVW1 kX11_115 cvX11_refuse hP.1 (c_X11_refuse hM hZ hI) rfl rfl rfl rfl rfl dX11_faultsIfUp_16 rfl rfl (fun h hp => ?_)
    obtain ⟨hM, hF9⟩ := hp
    have hF := hF.tr hF9
    refine j_iret rfl dX11_faultsIfUp_19 ?_
    exact ⟨by rw [if_neg z8], by rw [if_neg z8]; exact MN.same hM hZ hI rfl hF⟩
