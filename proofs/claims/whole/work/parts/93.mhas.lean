theorem wW_rg {d : MD} {P mp : Nat → OS} {p0 : OS} {F : Nat → Int → Int} (hI : MI d P p0 mp F) {k b : Int} (hk : 0 ≤ k ∧ k < 4) (hb : isBar b) : 0 ≤ (wW P p0 k b).1 9 ∧ (wW P p0 k b).1 9 ≤ 128 ∧ ∀ j : Int, 0 ≤ j → j < (wW P p0 k b).1 9 → (wW P p0 k b).2 4 j = 0 ∨ (wW P p0 k b).2 4 j = 1 := by
  obtain ⟨hE, w9, w10, wj⟩ := wr_parts (hI.1.1 k.toNat (by omega)) hI.1.2.2 hb
  have hm := hE.1.1
  unfold mN at hm
  show 0 ≤ (wrP (P k.toNat) p0 b zOS).1 9 ∧ (wrP (P k.toNat) p0 b zOS).1 9 ≤ 128 ∧ _
  rw [w9]
  refine ⟨hm.1, hm.2, fun j x y => ?_⟩
  rw [show (wW P p0 k b).2 4 j = _ from (wj j x y).2.2.1]
  exact bI_01 _
set_option maxRecDepth 100000 in
theorem c1_X11_has {l : Launch} {G : jG} {h : jH} {a : Nat} {d : MD} {mp P : Nat → OS} {p p0 : OS} {Z : Nat → Nat} {k b : Int} (hM : Mod G h a d mp p) (hZ : Mz a d Z) (hI : MI d P p0 mp p.2) (hk : 0 ≤ k ∧ k < 4) (hb : isBar b) : jC l G yX11_has mX11_has [.ref a, vI k, vI b] h (jW (oI 1) (fun h' => ∃ p', Mod G h' a d mp p' ∧ LD (wW P p0 k b) p' ∧ KV p p' ∧ p'.1 0 = 0 ∧ Fr (FtM a d) h h')) := by
  refine j_body (by decide +kernel) ⟨rfl, rfl⟩ rfl ?_
  have hP := hM.1
  have hF : Fr (FtM a d) h h := Fr.rf
  obtain ⟨Fa, hpa, hFa⟩ := hM.2.1
  have hbb : 0 ≤ b ∧ b < 24 := hb
  refine j_aload_n 0 dX11_has_0 rfl rfl ?_
  refine j_iload_n 1 dX11_has_1 rfl rfl ?_
  refine J_callSZ kX11_95 csX11_isPart (c_X11_isPart (by omega)) rfl rfl rfl rfl rfl dX11_has_2 rfl rfl (fun z2 => ?_) (fun z2 => ?_)
  · refine J_if_eq 19 dX11_has_5 (by decide) (fun c5 => absurd c5 (by decide)) (fun c5 => ?_) 
    refine j_iload_n 2 dX11_has_8 rfl rfl ?_
    refine J_callSZ kX11_149 csX11_isBar (c_X11_isBar (by omega)) rfl rfl rfl rfl rfl dX11_has_9 rfl rfl (fun z9 => ?_) (fun z9 => ?_)
    · refine J_if_eq 19 dX11_has_12 (by decide) (fun c12 => absurd c12 (by decide)) (fun c12 => ?_) 
      refine J_iconst dX11_has_15 ?_
      refine j_goto 20 dX11_has_16 (by decide) ?_
      refine J_putA hP fX11_87 tyX11_thrown dX11_has_20 rfl rfl (fun h hP hF20 => ?_)
      have hM := hM.w hZ hP hF20
      have hF := hF.tr (hF20.mono (fun _ q => Or.inl q))
      obtain ⟨Fa, hpa, hFa⟩ := hM.2.1
      refine j_aload_n 0 dX11_has_23 rfl rfl ?_
      refine j_get fX11_87 dX11_has_24 hP.1 rfl ?_
      refine J_top (0) ?_ (by rfl)
      refine J_if_ne 36 dX11_has_27 (by decide) (fun c27 => absurd c27 (by decide)) (fun c27 => ?_) 
      refine j_aload_n 0 dX11_has_30 rfl rfl ?_
      refine j_iload_n 1 dX11_has_31 rfl rfl ?_
      refine j_iload_n 2 dX11_has_32 rfl rfl ?_
      refine J_callVW0 kX11_227 cvX11_lay hP.1 (c_X11_lay hM hZ hI hk hb) rfl rfl rfl rfl rfl dX11_has_33 rfl rfl (fun h hp => ?_)
      obtain ⟨p1, hM, hL, hU, hF9⟩ := hp
      have hF := hF.tr hF9
      have hP := hM.1
      refine j_aload_n 0 dX11_has_36 rfl rfl ?_
      refine j_get fX11_87 dX11_has_37 hP.1 rfl ?_
      refine J_top (0) ?_ (by exact hU.1 0 (by decide) (by decide))
      refine J_if_ne 47 dX11_has_40 (by decide) (fun c40 => absurd c40 (by decide)) (fun c40 => ?_) 
      refine J_iconst dX11_has_43 ?_
      refine j_goto 48 dX11_has_44 (by decide) ?_
      refine j_zret rfl rfl dX11_has_48 ?_
      exact ⟨rfl, p1, hM, hL, ⟨hU.ku.2.1, hU.ku.2.2.1, hU.ku.2.2.2.1, hU.ku.2.2.2.2⟩, hU.1 0 (by decide) (by decide), hF⟩
    · refine J_if_eq 19 dX11_has_12 (by decide) (fun c12 => ?_) (fun c12 => absurd c12 (by decide)) 
      first | exact absurd hk z2 | exact absurd hb z9
  · refine J_if_eq 19 dX11_has_5 (by decide) (fun c5 => ?_) (fun c5 => absurd c5 (by decide)) 
    first | exact absurd hk z2 | exact absurd hb z9
set_option maxRecDepth 100000 in
theorem c0_X11_has {l : Launch} {G : jG} {h : jH} {a : Nat} {d : MD} {mp P : Nat → OS} {p p0 : OS} {Z : Nat → Nat} {k b : Int} (hM : Mod G h a d mp p) (hZ : Mz a d Z) (hI : MI d P p0 mp p.2) (hk : rg k) (hb : rg b) (hg : ¬ ((0 ≤ k ∧ k < 4) ∧ isBar b)) : jC l G yX11_has mX11_has [.ref a, vI k, vI b] h (jW (oI 0) (fun h' => ∃ p', Mod G h' a d mp p' ∧ KV p p' ∧ p'.1 0 = 1 ∧ Fr (FtM a d) h h')) := by
  refine j_body (by decide +kernel) ⟨rfl, rfl⟩ rfl ?_
  have hP := hM.1
  have hF : Fr (FtM a d) h h := Fr.rf
  obtain ⟨Fa, hpa, hFa⟩ := hM.2.1
  refine j_aload_n 0 dX11_has_0 rfl rfl ?_
  refine j_iload_n 1 dX11_has_1 rfl rfl ?_
  refine J_callSZ kX11_95 csX11_isPart (c_X11_isPart hk) rfl rfl rfl rfl rfl dX11_has_2 rfl rfl (fun z2 => ?_) (fun z2 => ?_)
  · refine J_if_eq 19 dX11_has_5 (by decide) (fun c5 => absurd c5 (by decide)) (fun c5 => ?_) 
    refine j_iload_n 2 dX11_has_8 rfl rfl ?_
    refine J_callSZ kX11_149 csX11_isBar (c_X11_isBar hb) rfl rfl rfl rfl rfl dX11_has_9 rfl rfl (fun z9 => ?_) (fun z9 => ?_)
    · refine J_if_eq 19 dX11_has_12 (by decide) (fun c12 => absurd c12 (by decide)) (fun c12 => ?_) 
      exact absurd ⟨z2, z9⟩ hg
    · refine J_if_eq 19 dX11_has_12 (by decide) (fun c12 => ?_) (fun c12 => absurd c12 (by decide)) 
      refine J_iconst dX11_has_19 ?_
      refine J_putA hP fX11_87 tyX11_thrown dX11_has_20 rfl rfl (fun h hP hF20 => ?_)
      have hM := hM.w hZ hP hF20
      have hF := hF.tr (hF20.mono (fun _ q => Or.inl q))
      obtain ⟨Fa, hpa, hFa⟩ := hM.2.1
      refine j_aload_n 0 dX11_has_23 rfl rfl ?_
      refine j_get fX11_87 dX11_has_24 hP.1 rfl ?_
      refine J_top (1) ?_ (by rfl)
      refine J_if_ne 36 dX11_has_27 (by decide) (fun c27 => ?_) (fun c27 => absurd c27 (by decide)) 
      refine j_aload_n 0 dX11_has_36 rfl rfl ?_
      refine j_get fX11_87 dX11_has_37 hP.1 rfl ?_
      refine J_top (1) ?_ (by rfl)
      refine J_if_ne 47 dX11_has_40 (by decide) (fun c40 => ?_) (fun c40 => absurd c40 (by decide)) 
      refine J_iconst dX11_has_47 ?_
      refine j_zret rfl rfl dX11_has_48 ?_
      exact ⟨rfl, _, hM, ⟨rfl, rfl, rfl, rfl⟩, rfl, hF⟩
  · refine J_if_eq 19 dX11_has_5 (by decide) (fun c5 => ?_) (fun c5 => absurd c5 (by decide)) 
    refine J_iconst dX11_has_19 ?_
    refine J_putA hP fX11_87 tyX11_thrown dX11_has_20 rfl rfl (fun h hP hF20 => ?_)
    have hM := hM.w hZ hP hF20
    have hF := hF.tr (hF20.mono (fun _ q => Or.inl q))
    obtain ⟨Fa, hpa, hFa⟩ := hM.2.1
    refine j_aload_n 0 dX11_has_23 rfl rfl ?_
    refine j_get fX11_87 dX11_has_24 hP.1 rfl ?_
    refine J_top (1) ?_ (by rfl)
    refine J_if_ne 36 dX11_has_27 (by decide) (fun c27 => ?_) (fun c27 => absurd c27 (by decide)) 
    refine j_aload_n 0 dX11_has_36 rfl rfl ?_
    refine j_get fX11_87 dX11_has_37 hP.1 rfl ?_
    refine J_top (1) ?_ (by rfl)
    refine J_if_ne 47 dX11_has_40 (by decide) (fun c40 => ?_) (fun c40 => absurd c40 (by decide)) 
    refine J_iconst dX11_has_47 ?_
    refine j_zret rfl rfl dX11_has_48 ?_
    exact ⟨rfl, _, hM, ⟨rfl, rfl, rfl, rfl⟩, rfl, hF⟩
set_option maxRecDepth 100000 in
theorem c1_X11_has_ {l : Launch} {G : jG} {h : jH} {a : Nat} {d : MD} {mp P : Nat → OS} {p p0 : OS} {Z : Nat → Nat} {k b i : Int} (hM : Mod G h a d mp p) (hZ : Mz a d Z) (hI : MI d P p0 mp p.2) (hk : 0 ≤ k ∧ k < 4) (hb : isBar b) (hi : 0 ≤ i ∧ i < (wW P p0 k b).1 9) : jC l G yX11_has_ mX11_has_ [.ref a, vI k, vI b, vI i] h (jW (oI 1) (fun h' => ∃ p', Mod G h' a d mp p' ∧ LD (wW P p0 k b) p' ∧ KV p p' ∧ p'.1 0 = 0 ∧ Fr (FtM a d) h h')) := by
  refine j_body (by decide +kernel) ⟨rfl, rfl⟩ rfl ?_
  have hP := hM.1
  have hF : Fr (FtM a d) h h := Fr.rf
  obtain ⟨Fa, hpa, hFa⟩ := hM.2.1
  have hwr := wW_rg hI hk hb
  refine j_aload_n 0 dX11_has__0 rfl rfl ?_
  refine j_iload_n 1 dX11_has__1 rfl rfl ?_
  refine j_iload_n 2 dX11_has__2 rfl rfl ?_
  refine J_callVW1 kX11_231 cvX11_has hP.1 (c1_X11_has hM hZ hI hk hb) rfl rfl rfl rfl rfl dX11_has__3 rfl rfl (fun h hp => ?_)
  obtain ⟨p1, hM, hL, hK, h01, hF9⟩ := hp
  have hF := hF.tr hF9
  have hP := hM.1
  refine J_if_eq 28 dX11_has__6 (by decide) (fun c6 => absurd c6 (by decide)) (fun c6 => ?_) 
  refine j_iload_n 3 dX11_has__9 rfl rfl ?_
  refine J_iconst dX11_has__10 ?_
  refine j_aload_n 0 dX11_has__11 rfl rfl ?_
  refine j_get fX11_202 dX11_has__12 hP.1 rfl ?_
  refine J_top ((wW P p0 k b).1 9) ?_ (by exact hL.1)
  refine J_iconst dX11_has__15 ?_
  refine J_isub dX11_has__16 ?_
  refine J_callSZ kX11_91 csX11_is (c_X11_is (by omega) (by decide) (by omega)) rfl rfl rfl rfl rfl dX11_has__17 rfl rfl (fun z17 => ?_) (fun z17 => ?_)
  · refine J_if_ne 28 dX11_has__20 (by decide) (fun c20 => ?_) (fun c20 => absurd c20 (by decide)) 
    refine j_aload_n 0 dX11_has__28 rfl rfl ?_
    refine j_get fX11_87 dX11_has__29 hP.1 rfl ?_
    refine J_top (0) ?_ (by exact h01)
    refine J_if_ne 39 dX11_has__32 (by decide) (fun c32 => absurd c32 (by decide)) (fun c32 => ?_) 
    refine J_iconst dX11_has__35 ?_
    refine j_goto 40 dX11_has__36 (by decide) ?_
    refine j_zret rfl rfl dX11_has__40 ?_
    exact ⟨rfl, p1, hM, hL, hK, h01, hF⟩
  · refine J_if_ne 28 dX11_has__20 (by decide) (fun c20 => absurd c20 (by decide)) (fun c20 => ?_) 
    exact absurd ⟨hi.1, by omega⟩ z17
set_option maxRecDepth 100000 in
theorem c0_X11_has_ {l : Launch} {G : jG} {h : jH} {a : Nat} {d : MD} {mp P : Nat → OS} {p p0 : OS} {Z : Nat → Nat} {k b i : Int} (hM : Mod G h a d mp p) (hZ : Mz a d Z) (hI : MI d P p0 mp p.2) (hk : rg k) (hb : rg b) (hi : rg i) (hg : ¬ (((0 ≤ k ∧ k < 4) ∧ isBar b) ∧ 0 ≤ i ∧ i < (wW P p0 k b).1 9)) : jC l G yX11_has_ mX11_has_ [.ref a, vI k, vI b, vI i] h (jW (oI 0) (fun h' => ∃ p', Mod G h' a d mp p' ∧ KV p p' ∧ p'.1 0 = 1 ∧ Fr (FtM a d) h h')) := by
  refine j_body (by decide +kernel) ⟨rfl, rfl⟩ rfl ?_
  have hP := hM.1
  have hF : Fr (FtM a d) h h := Fr.rf
  obtain ⟨Fa, hpa, hFa⟩ := hM.2.1
  by_cases hc : (0 ≤ k ∧ k < 4) ∧ isBar b
  · have hwr := wW_rg hI hc.1 hc.2
    refine j_aload_n 0 dX11_has__0 rfl rfl ?_
    refine j_iload_n 1 dX11_has__1 rfl rfl ?_
    refine j_iload_n 2 dX11_has__2 rfl rfl ?_
    refine J_callVW1 kX11_231 cvX11_has hP.1 (c1_X11_has hM hZ hI hc.1 hc.2) rfl rfl rfl rfl rfl dX11_has__3 rfl rfl (fun h hp => ?_)
    obtain ⟨p1, hM, hL, hK, h01, hF9⟩ := hp
    have hF := hF.tr hF9
    have hP := hM.1
    refine J_if_eq 28 dX11_has__6 (by decide) (fun c6 => absurd c6 (by decide)) (fun c6 => ?_) 
    refine j_iload_n 3 dX11_has__9 rfl rfl ?_
    refine J_iconst dX11_has__10 ?_
    refine j_aload_n 0 dX11_has__11 rfl rfl ?_
    refine j_get fX11_202 dX11_has__12 hP.1 rfl ?_
    refine J_top ((wW P p0 k b).1 9) ?_ (by exact hL.1)
    refine J_iconst dX11_has__15 ?_
    refine J_isub dX11_has__16 ?_
    refine J_callSZ kX11_91 csX11_is (c_X11_is hi (by decide) (by omega)) rfl rfl rfl rfl rfl dX11_has__17 rfl rfl (fun z17 => ?_) (fun z17 => ?_)
    · exact absurd ⟨hc, z17.1, by omega⟩ hg
    · refine J_if_ne 28 dX11_has__20 (by decide) (fun c20 => absurd c20 (by decide)) (fun c20 => ?_) 
      refine j_aload_n 0 dX11_has__23 rfl rfl ?_
      refine J_iconst dX11_has__24 ?_
      refine J_putA hP fX11_87 tyX11_thrown dX11_has__25 rfl rfl (fun h hP hF25 => ?_)
      have hM := hM.w hZ hP hF25
      have hF := hF.tr (hF25.mono (fun _ q => Or.inl q))
      obtain ⟨Fa, hpa, hFa⟩ := hM.2.1
      refine j_aload_n 0 dX11_has__28 rfl rfl ?_
      refine j_get fX11_87 dX11_has__29 hP.1 rfl ?_
      refine J_top (1) ?_ (by rfl)
      refine J_if_ne 39 dX11_has__32 (by decide) (fun c32 => ?_) (fun c32 => absurd c32 (by decide)) 
      refine J_iconst dX11_has__39 ?_
      refine j_zret rfl rfl dX11_has__40 ?_
      exact ⟨rfl, _, hM, ⟨hK.1, hK.2.1, hK.2.2.1, hK.2.2.2⟩, rfl, hF⟩
  · refine j_aload_n 0 dX11_has__0 rfl rfl ?_
    refine j_iload_n 1 dX11_has__1 rfl rfl ?_
    refine j_iload_n 2 dX11_has__2 rfl rfl ?_
    refine J_callVW1 kX11_231 cvX11_has hP.1 (c0_X11_has hM hZ hI hk hb hc) rfl rfl rfl rfl rfl dX11_has__3 rfl rfl (fun h hp => ?_)
    obtain ⟨p1, hM, hK, h01, hF9⟩ := hp
    have hF := hF.tr hF9
    have hP := hM.1
    refine J_if_eq 28 dX11_has__6 (by decide) (fun c6 => ?_) (fun c6 => absurd c6 (by decide)) 
    refine j_aload_n 0 dX11_has__28 rfl rfl ?_
    refine j_get fX11_87 dX11_has__29 hP.1 rfl ?_
    refine J_top (1) ?_ (by exact h01)
    refine J_if_ne 39 dX11_has__32 (by decide) (fun c32 => ?_) (fun c32 => absurd c32 (by decide)) 
    refine J_iconst dX11_has__39 ?_
    refine j_zret rfl rfl dX11_has__40 ?_
    exact ⟨rfl, p1, hM, hK, h01, hF⟩
set_option maxRecDepth 100000 in
theorem c_X11_signs {l : Launch} {G : jG} {h : jH} {a : Nat} {d : MD} {mp P : Nat → OS} {p p0 : OS} {Z : Nat → Nat} {k b : Int} (hM : Mod G h a d mp p) (hZ : Mz a d Z) (hI : MI d P p0 mp p.2) (hk : rg k) (hb : rg b) : jC l G yX11_signs mX11_signs [.ref a, vI k, vI b] h (jW (oI (if (0 ≤ k ∧ k < 4) ∧ isBar b then (wW P p0 k b).1 9 else 0)) (fun h' => ∃ p', Mod G h' a d mp p' ∧ MI d P p0 mp p'.2 ∧ p'.1 0 = (if (0 ≤ k ∧ k < 4) ∧ isBar b then 0 else 1) ∧ Fr (FtM a d) h h')) := by
  refine j_body (by decide +kernel) ⟨rfl, rfl⟩ rfl ?_
  have hP := hM.1
  have hF : Fr (FtM a d) h h := Fr.rf
  obtain ⟨Fa, hpa, hFa⟩ := hM.2.1
  by_cases hc : (0 ≤ k ∧ k < 4) ∧ isBar b
  · rw [if_pos hc, if_pos hc]
    refine j_aload_n 0 dX11_signs_0 rfl rfl ?_
    refine j_iload_n 1 dX11_signs_1 rfl rfl ?_
    refine j_iload_n 2 dX11_signs_2 rfl rfl ?_
    refine J_callVW1 kX11_231 cvX11_has hP.1 (c1_X11_has hM hZ hI hc.1 hc.2) rfl rfl rfl rfl rfl dX11_signs_3 rfl rfl (fun h hp => ?_)
    obtain ⟨p1, hM, hL, hK, h01, hF9⟩ := hp
    have hF := hF.tr hF9
    have hP := hM.1
    refine J_if_eq 16 dX11_signs_6 (by decide) (fun c6 => absurd c6 (by decide)) (fun c6 => ?_) 
    refine j_aload_n 0 dX11_signs_9 rfl rfl ?_
    refine j_get fX11_202 dX11_signs_10 hP.1 rfl ?_
    refine j_goto 17 dX11_signs_13 (by decide) ?_
    refine j_iret rfl dX11_signs_17 ?_
    exact ⟨oIe hL.1, p1, hM, hK.mi hI, h01, hF⟩
  · rw [if_neg hc, if_neg hc]
    refine j_aload_n 0 dX11_signs_0 rfl rfl ?_
    refine j_iload_n 1 dX11_signs_1 rfl rfl ?_
    refine j_iload_n 2 dX11_signs_2 rfl rfl ?_
    refine J_callVW1 kX11_231 cvX11_has hP.1 (c0_X11_has hM hZ hI hk hb hc) rfl rfl rfl rfl rfl dX11_signs_3 rfl rfl (fun h hp => ?_)
    obtain ⟨p1, hM, hK, h01, hF9⟩ := hp
    have hF := hF.tr hF9
    have hP := hM.1
    refine J_if_eq 16 dX11_signs_6 (by decide) (fun c6 => ?_) (fun c6 => absurd c6 (by decide)) 
    refine J_iconst dX11_signs_16 ?_
    refine j_iret rfl dX11_signs_17 ?_
    exact ⟨rfl, p1, hM, hK.mi hI, h01, hF⟩
set_option maxRecDepth 100000 in
theorem c_X11_beams {l : Launch} {G : jG} {h : jH} {a : Nat} {d : MD} {mp P : Nat → OS} {p p0 : OS} {Z : Nat → Nat} {k b : Int} (hM : Mod G h a d mp p) (hZ : Mz a d Z) (hI : MI d P p0 mp p.2) (hk : rg k) (hb : rg b) : jC l G yX11_beams mX11_beams [.ref a, vI k, vI b] h (jW (oI (if (0 ≤ k ∧ k < 4) ∧ isBar b then (wW P p0 k b).1 10 else 0)) (fun h' => ∃ p', Mod G h' a d mp p' ∧ MI d P p0 mp p'.2 ∧ p'.1 0 = (if (0 ≤ k ∧ k < 4) ∧ isBar b then 0 else 1) ∧ Fr (FtM a d) h h')) := by
  refine j_body (by decide +kernel) ⟨rfl, rfl⟩ rfl ?_
  have hP := hM.1
  have hF : Fr (FtM a d) h h := Fr.rf
  obtain ⟨Fa, hpa, hFa⟩ := hM.2.1
  by_cases hc : (0 ≤ k ∧ k < 4) ∧ isBar b
  · rw [if_pos hc, if_pos hc]
    refine j_aload_n 0 dX11_beams_0 rfl rfl ?_
    refine j_iload_n 1 dX11_beams_1 rfl rfl ?_
    refine j_iload_n 2 dX11_beams_2 rfl rfl ?_
    refine J_callVW1 kX11_231 cvX11_has hP.1 (c1_X11_has hM hZ hI hc.1 hc.2) rfl rfl rfl rfl rfl dX11_beams_3 rfl rfl (fun h hp => ?_)
    obtain ⟨p1, hM, hL, hK, h01, hF9⟩ := hp
    have hF := hF.tr hF9
    have hP := hM.1
    refine J_if_eq 16 dX11_beams_6 (by decide) (fun c6 => absurd c6 (by decide)) (fun c6 => ?_) 
    refine j_aload_n 0 dX11_beams_9 rfl rfl ?_
    refine j_get fX11_221 dX11_beams_10 hP.1 rfl ?_
    refine j_goto 17 dX11_beams_13 (by decide) ?_
    refine j_iret rfl dX11_beams_17 ?_
    exact ⟨oIe hL.2.1, p1, hM, hK.mi hI, h01, hF⟩
  · rw [if_neg hc, if_neg hc]
    refine j_aload_n 0 dX11_beams_0 rfl rfl ?_
    refine j_iload_n 1 dX11_beams_1 rfl rfl ?_
    refine j_iload_n 2 dX11_beams_2 rfl rfl ?_
    refine J_callVW1 kX11_231 cvX11_has hP.1 (c0_X11_has hM hZ hI hk hb hc) rfl rfl rfl rfl rfl dX11_beams_3 rfl rfl (fun h hp => ?_)
    obtain ⟨p1, hM, hK, h01, hF9⟩ := hp
    have hF := hF.tr hF9
    have hP := hM.1
    refine J_if_eq 16 dX11_beams_6 (by decide) (fun c6 => ?_) (fun c6 => absurd c6 (by decide)) 
    refine J_iconst dX11_beams_16 ?_
    refine j_iret rfl dX11_beams_17 ?_
    exact ⟨rfl, p1, hM, hK.mi hI, h01, hF⟩
set_option maxRecDepth 100000 in
theorem c_X11_eventOf {l : Launch} {G : jG} {h : jH} {a : Nat} {d : MD} {mp P : Nat → OS} {p p0 : OS} {Z : Nat → Nat} {k b i : Int} (hM : Mod G h a d mp p) (hZ : Mz a d Z) (hI : MI d P p0 mp p.2) (hk : rg k) (hb : rg b) (hi : rg i) : jC l G yX11_eventOf mX11_eventOf [.ref a, vI k, vI b, vI i] h (jW (oI (if ((0 ≤ k ∧ k < 4) ∧ isBar b) ∧ 0 ≤ i ∧ i < (wW P p0 k b).1 9 then (wW P p0 k b).2 0 i else 0)) (fun h' => ∃ p', Mod G h' a d mp p' ∧ MI d P p0 mp p'.2 ∧ p'.1 0 = (if ((0 ≤ k ∧ k < 4) ∧ isBar b) ∧ 0 ≤ i ∧ i < (wW P p0 k b).1 9 then 0 else 1) ∧ Fr (FtM a d) h h')) := by
  refine j_body (by decide +kernel) ⟨rfl, rfl⟩ rfl ?_
  have hP := hM.1
  have hF : Fr (FtM a d) h h := Fr.rf
  obtain ⟨Fa, hpa, hFa⟩ := hM.2.1
  by_cases hc : ((0 ≤ k ∧ k < 4) ∧ isBar b) ∧ 0 ≤ i ∧ i < (wW P p0 k b).1 9
  · rw [if_pos hc, if_pos hc]
    refine j_aload_n 0 dX11_eventOf_0 rfl rfl ?_
    refine j_iload_n 1 dX11_eventOf_1 rfl rfl ?_
    refine j_iload_n 2 dX11_eventOf_2 rfl rfl ?_
    refine j_iload_n 3 dX11_eventOf_3 rfl rfl ?_
    refine J_callVW1 kX11_234 cvX11_has_ hP.1 (c1_X11_has_ hM hZ hI hc.1.1 hc.1.2 hc.2) rfl rfl rfl rfl rfl dX11_eventOf_4 rfl rfl (fun h hp => ?_)
    obtain ⟨p1, hM, hL, hK, h01, hF9⟩ := hp
    have hF := hF.tr hF9
    have hP := hM.1
    have hv := hL.2.2 i hc.2.1 hc.2.2
    have hwr := wW_rg hI hc.1.1 hc.1.2
    have hc2 := hc.2
    refine J_if_eq 19 dX11_eventOf_7 (by decide) (fun c7 => absurd c7 (by decide)) (fun c7 => ?_) 
    refine j_aload_n 0 dX11_eventOf_10 rfl rfl ?_
    refine j_get fX11_37 dX11_eventOf_11 hP.1 rfl ?_
    refine j_iload_n 3 dX11_eventOf_14 rfl rfl ?_
    refine J_iald dX11_eventOf_15 (hP.2.1 7 rfl) ?_ 
    refine j_goto 20 dX11_eventOf_16 (by decide) ?_
    refine j_iret rfl dX11_eventOf_20 ?_
    exact ⟨oIe hv.1, p1, hM, hK.mi hI, h01, hF⟩
  · rw [if_neg hc, if_neg hc]
    refine j_aload_n 0 dX11_eventOf_0 rfl rfl ?_
    refine j_iload_n 1 dX11_eventOf_1 rfl rfl ?_
    refine j_iload_n 2 dX11_eventOf_2 rfl rfl ?_
    refine j_iload_n 3 dX11_eventOf_3 rfl rfl ?_
    refine J_callVW1 kX11_234 cvX11_has_ hP.1 (c0_X11_has_ hM hZ hI hk hb hi hc) rfl rfl rfl rfl rfl dX11_eventOf_4 rfl rfl (fun h hp => ?_)
    obtain ⟨p1, hM, hK, h01, hF9⟩ := hp
    have hF := hF.tr hF9
    have hP := hM.1
    refine J_if_eq 19 dX11_eventOf_7 (by decide) (fun c7 => ?_) (fun c7 => absurd c7 (by decide)) 
    refine J_iconst dX11_eventOf_19 ?_
    refine j_iret rfl dX11_eventOf_20 ?_
    exact ⟨rfl, p1, hM, hK.mi hI, h01, hF⟩
set_option maxRecDepth 100000 in
theorem c_X11_lengthOf {l : Launch} {G : jG} {h : jH} {a : Nat} {d : MD} {mp P : Nat → OS} {p p0 : OS} {Z : Nat → Nat} {k b i : Int} (hM : Mod G h a d mp p) (hZ : Mz a d Z) (hI : MI d P p0 mp p.2) (hk : rg k) (hb : rg b) (hi : rg i) : jC l G yX11_lengthOf mX11_lengthOf [.ref a, vI k, vI b, vI i] h (jW (oI (if ((0 ≤ k ∧ k < 4) ∧ isBar b) ∧ 0 ≤ i ∧ i < (wW P p0 k b).1 9 then (wW P p0 k b).2 2 i else 0)) (fun h' => ∃ p', Mod G h' a d mp p' ∧ MI d P p0 mp p'.2 ∧ p'.1 0 = (if ((0 ≤ k ∧ k < 4) ∧ isBar b) ∧ 0 ≤ i ∧ i < (wW P p0 k b).1 9 then 0 else 1) ∧ Fr (FtM a d) h h')) := by
  refine j_body (by decide +kernel) ⟨rfl, rfl⟩ rfl ?_
  have hP := hM.1
  have hF : Fr (FtM a d) h h := Fr.rf
  obtain ⟨Fa, hpa, hFa⟩ := hM.2.1
  by_cases hc : ((0 ≤ k ∧ k < 4) ∧ isBar b) ∧ 0 ≤ i ∧ i < (wW P p0 k b).1 9
  · rw [if_pos hc, if_pos hc]
    refine j_aload_n 0 dX11_lengthOf_0 rfl rfl ?_
    refine j_iload_n 1 dX11_lengthOf_1 rfl rfl ?_
    refine j_iload_n 2 dX11_lengthOf_2 rfl rfl ?_
    refine j_iload_n 3 dX11_lengthOf_3 rfl rfl ?_
    refine J_callVW1 kX11_234 cvX11_has_ hP.1 (c1_X11_has_ hM hZ hI hc.1.1 hc.1.2 hc.2) rfl rfl rfl rfl rfl dX11_lengthOf_4 rfl rfl (fun h hp => ?_)
    obtain ⟨p1, hM, hL, hK, h01, hF9⟩ := hp
    have hF := hF.tr hF9
    have hP := hM.1
    have hv := hL.2.2 i hc.2.1 hc.2.2
    have hwr := wW_rg hI hc.1.1 hc.1.2
    have hc2 := hc.2
    refine J_if_eq 19 dX11_lengthOf_7 (by decide) (fun c7 => absurd c7 (by decide)) (fun c7 => ?_) 
    refine j_aload_n 0 dX11_lengthOf_10 rfl rfl ?_
    refine j_get fX11_40 dX11_lengthOf_11 hP.1 rfl ?_
    refine j_iload_n 3 dX11_lengthOf_14 rfl rfl ?_
    refine J_iald dX11_lengthOf_15 (hP.2.1 8 rfl) ?_ 
    refine j_goto 20 dX11_lengthOf_16 (by decide) ?_
    refine j_iret rfl dX11_lengthOf_20 ?_
    exact ⟨oIe hv.2.1, p1, hM, hK.mi hI, h01, hF⟩
  · rw [if_neg hc, if_neg hc]
    refine j_aload_n 0 dX11_lengthOf_0 rfl rfl ?_
    refine j_iload_n 1 dX11_lengthOf_1 rfl rfl ?_
    refine j_iload_n 2 dX11_lengthOf_2 rfl rfl ?_
    refine j_iload_n 3 dX11_lengthOf_3 rfl rfl ?_
    refine J_callVW1 kX11_234 cvX11_has_ hP.1 (c0_X11_has_ hM hZ hI hk hb hi hc) rfl rfl rfl rfl rfl dX11_lengthOf_4 rfl rfl (fun h hp => ?_)
    obtain ⟨p1, hM, hK, h01, hF9⟩ := hp
    have hF := hF.tr hF9
    have hP := hM.1
    refine J_if_eq 19 dX11_lengthOf_7 (by decide) (fun c7 => ?_) (fun c7 => absurd c7 (by decide)) 
    refine J_iconst dX11_lengthOf_19 ?_
    refine j_iret rfl dX11_lengthOf_20 ?_
    exact ⟨rfl, p1, hM, hK.mi hI, h01, hF⟩
set_option maxRecDepth 100000 in
theorem c_X11_isTied {l : Launch} {G : jG} {h : jH} {a : Nat} {d : MD} {mp P : Nat → OS} {p p0 : OS} {Z : Nat → Nat} {k b i : Int} (hM : Mod G h a d mp p) (hZ : Mz a d Z) (hI : MI d P p0 mp p.2) (hk : rg k) (hb : rg b) (hi : rg i) : jC l G yX11_isTied mX11_isTied [.ref a, vI k, vI b, vI i] h (jW (oI (if ((0 ≤ k ∧ k < 4) ∧ isBar b) ∧ 0 ≤ i ∧ i < (wW P p0 k b).1 9 then bI ((wW P p0 k b).2 4 i ≠ 0) else 0)) (fun h' => ∃ p', Mod G h' a d mp p' ∧ MI d P p0 mp p'.2 ∧ p'.1 0 = (if ((0 ≤ k ∧ k < 4) ∧ isBar b) ∧ 0 ≤ i ∧ i < (wW P p0 k b).1 9 then 0 else 1) ∧ Fr (FtM a d) h h')) := by
  refine j_body (by decide +kernel) ⟨rfl, rfl⟩ rfl ?_
  have hP := hM.1
  have hF : Fr (FtM a d) h h := Fr.rf
  obtain ⟨Fa, hpa, hFa⟩ := hM.2.1
  by_cases hc : ((0 ≤ k ∧ k < 4) ∧ isBar b) ∧ 0 ≤ i ∧ i < (wW P p0 k b).1 9
  · rw [if_pos hc, if_pos hc]
    refine j_aload_n 0 dX11_isTied_0 rfl rfl ?_
    refine j_iload_n 1 dX11_isTied_1 rfl rfl ?_
    refine j_iload_n 2 dX11_isTied_2 rfl rfl ?_
    refine j_iload_n 3 dX11_isTied_3 rfl rfl ?_
    refine J_callVW1 kX11_234 cvX11_has_ hP.1 (c1_X11_has_ hM hZ hI hc.1.1 hc.1.2 hc.2) rfl rfl rfl rfl rfl dX11_isTied_4 rfl rfl (fun h hp => ?_)
    obtain ⟨p1, hM, hL, hK, h01, hF9⟩ := hp
    have hF := hF.tr hF9
    have hP := hM.1
    have hv := hL.2.2 i hc.2.1 hc.2.2
    have hwr := wW_rg hI hc.1.1 hc.1.2
    have hc2 := hc.2
    refine J_if_eq 23 dX11_isTied_7 (by decide) (fun c7 => absurd c7 (by decide)) (fun c7 => ?_) 
    refine j_aload_n 0 dX11_isTied_10 rfl rfl ?_
    refine j_get fX11_46 dX11_isTied_11 hP.1 rfl ?_
    refine j_iload_n 3 dX11_isTied_14 rfl rfl ?_
    refine J_zald dX11_isTied_15 (hP.2.1 10 rfl) ?_ 
    refine J_top ((wW P p0 k b).2 4 i) ?_ (by exact hv.2.2.1)
    refine J_if_eq 23 dX11_isTied_16 (by decide) (fun c16 => ?_) (fun c16 => ?_) (by have := hwr.2.2 i hc2.1 hc2.2; omega)
    · refine J_iconst dX11_isTied_23 ?_
      refine j_zret rfl rfl dX11_isTied_24 ?_
      first | exact ⟨oIe (if_pos c16).symm, p1, hM, hK.mi hI, h01, hF⟩ | exact ⟨oIe (if_neg (fun z => z c16)).symm, p1, hM, hK.mi hI, h01, hF⟩
    · refine J_iconst dX11_isTied_19 ?_
      refine j_goto 24 dX11_isTied_20 (by decide) ?_
      refine j_zret rfl rfl dX11_isTied_24 ?_
      first | exact ⟨oIe (if_pos c16).symm, p1, hM, hK.mi hI, h01, hF⟩ | exact ⟨oIe (if_neg (fun z => z c16)).symm, p1, hM, hK.mi hI, h01, hF⟩
  · rw [if_neg hc, if_neg hc]
    refine j_aload_n 0 dX11_isTied_0 rfl rfl ?_
    refine j_iload_n 1 dX11_isTied_1 rfl rfl ?_
    refine j_iload_n 2 dX11_isTied_2 rfl rfl ?_
    refine j_iload_n 3 dX11_isTied_3 rfl rfl ?_
    refine J_callVW1 kX11_234 cvX11_has_ hP.1 (c0_X11_has_ hM hZ hI hk hb hi hc) rfl rfl rfl rfl rfl dX11_isTied_4 rfl rfl (fun h hp => ?_)
    obtain ⟨p1, hM, hK, h01, hF9⟩ := hp
    have hF := hF.tr hF9
    have hP := hM.1
    refine J_if_eq 23 dX11_isTied_7 (by decide) (fun c7 => ?_) (fun c7 => absurd c7 (by decide)) 
    refine J_iconst dX11_isTied_23 ?_
    refine j_zret rfl rfl dX11_isTied_24 ?_
    exact ⟨rfl, p1, hM, hK.mi hI, h01, hF⟩
set_option maxRecDepth 100000 in
theorem c_X11_shown {l : Launch} {G : jG} {h : jH} {a : Nat} {d : MD} {mp P : Nat → OS} {p p0 : OS} {Z : Nat → Nat} {k b i : Int} (hM : Mod G h a d mp p) (hZ : Mz a d Z) (hI : MI d P p0 mp p.2) (hk : rg k) (hb : rg b) (hi : rg i) : jC l G yX11_shown mX11_shown [.ref a, vI k, vI b, vI i] h (jW (oI (if ((0 ≤ k ∧ k < 4) ∧ isBar b) ∧ 0 ≤ i ∧ i < (wW P p0 k b).1 9 then (wW P p0 k b).2 5 i else 0)) (fun h' => ∃ p', Mod G h' a d mp p' ∧ MI d P p0 mp p'.2 ∧ p'.1 0 = (if ((0 ≤ k ∧ k < 4) ∧ isBar b) ∧ 0 ≤ i ∧ i < (wW P p0 k b).1 9 then 0 else 1) ∧ Fr (FtM a d) h h')) := by
  refine j_body (by decide +kernel) ⟨rfl, rfl⟩ rfl ?_
  have hP := hM.1
  have hF : Fr (FtM a d) h h := Fr.rf
  obtain ⟨Fa, hpa, hFa⟩ := hM.2.1
  by_cases hc : ((0 ≤ k ∧ k < 4) ∧ isBar b) ∧ 0 ≤ i ∧ i < (wW P p0 k b).1 9
  · rw [if_pos hc, if_pos hc]
    refine j_aload_n 0 dX11_shown_0 rfl rfl ?_
    refine j_iload_n 1 dX11_shown_1 rfl rfl ?_
    refine j_iload_n 2 dX11_shown_2 rfl rfl ?_
    refine j_iload_n 3 dX11_shown_3 rfl rfl ?_
    refine J_callVW1 kX11_234 cvX11_has_ hP.1 (c1_X11_has_ hM hZ hI hc.1.1 hc.1.2 hc.2) rfl rfl rfl rfl rfl dX11_shown_4 rfl rfl (fun h hp => ?_)
    obtain ⟨p1, hM, hL, hK, h01, hF9⟩ := hp
    have hF := hF.tr hF9
    have hP := hM.1
    have hv := hL.2.2 i hc.2.1 hc.2.2
    have hwr := wW_rg hI hc.1.1 hc.1.2
    have hc2 := hc.2
    refine J_if_eq 19 dX11_shown_7 (by decide) (fun c7 => absurd c7 (by decide)) (fun c7 => ?_) 
    refine j_aload_n 0 dX11_shown_10 rfl rfl ?_
    refine j_get fX11_50 dX11_shown_11 hP.1 rfl ?_
    refine j_iload_n 3 dX11_shown_14 rfl rfl ?_
    refine J_iald dX11_shown_15 (hP.2.1 11 rfl) ?_ 
    refine j_goto 20 dX11_shown_16 (by decide) ?_
    refine j_iret rfl dX11_shown_20 ?_
    exact ⟨oIe hv.2.2.2.1, p1, hM, hK.mi hI, h01, hF⟩
  · rw [if_neg hc, if_neg hc]
    refine j_aload_n 0 dX11_shown_0 rfl rfl ?_
    refine j_iload_n 1 dX11_shown_1 rfl rfl ?_
    refine j_iload_n 2 dX11_shown_2 rfl rfl ?_
    refine j_iload_n 3 dX11_shown_3 rfl rfl ?_
    refine J_callVW1 kX11_234 cvX11_has_ hP.1 (c0_X11_has_ hM hZ hI hk hb hi hc) rfl rfl rfl rfl rfl dX11_shown_4 rfl rfl (fun h hp => ?_)
    obtain ⟨p1, hM, hK, h01, hF9⟩ := hp
    have hF := hF.tr hF9
    have hP := hM.1
    refine J_if_eq 19 dX11_shown_7 (by decide) (fun c7 => ?_) (fun c7 => absurd c7 (by decide)) 
    refine J_iconst dX11_shown_19 ?_
    refine j_iret rfl dX11_shown_20 ?_
    exact ⟨rfl, p1, hM, hK.mi hI, h01, hF⟩
set_option maxRecDepth 100000 in
theorem c_X11_shownWritten {l : Launch} {G : jG} {h : jH} {a : Nat} {d : MD} {mp P : Nat → OS} {p p0 : OS} {Z : Nat → Nat} {k b i : Int} (hM : Mod G h a d mp p) (hZ : Mz a d Z) (hI : MI d P p0 mp p.2) (hk : rg k) (hb : rg b) (hi : rg i) : jC l G yX11_shownWritten mX11_shownWritten [.ref a, vI k, vI b, vI i] h (jW (oI (if ((0 ≤ k ∧ k < 4) ∧ isBar b) ∧ 0 ≤ i ∧ i < (wW P p0 k b).1 9 then (wW P p0 k b).2 6 i else 0)) (fun h' => ∃ p', Mod G h' a d mp p' ∧ MI d P p0 mp p'.2 ∧ p'.1 0 = (if ((0 ≤ k ∧ k < 4) ∧ isBar b) ∧ 0 ≤ i ∧ i < (wW P p0 k b).1 9 then 0 else 1) ∧ Fr (FtM a d) h h')) := by
  refine j_body (by decide +kernel) ⟨rfl, rfl⟩ rfl ?_
  have hP := hM.1
  have hF : Fr (FtM a d) h h := Fr.rf
  obtain ⟨Fa, hpa, hFa⟩ := hM.2.1
  by_cases hc : ((0 ≤ k ∧ k < 4) ∧ isBar b) ∧ 0 ≤ i ∧ i < (wW P p0 k b).1 9
  · rw [if_pos hc, if_pos hc]
    refine j_aload_n 0 dX11_shownWritten_0 rfl rfl ?_
    refine j_iload_n 1 dX11_shownWritten_1 rfl rfl ?_
    refine j_iload_n 2 dX11_shownWritten_2 rfl rfl ?_
    refine j_iload_n 3 dX11_shownWritten_3 rfl rfl ?_
    refine J_callVW1 kX11_234 cvX11_has_ hP.1 (c1_X11_has_ hM hZ hI hc.1.1 hc.1.2 hc.2) rfl rfl rfl rfl rfl dX11_shownWritten_4 rfl rfl (fun h hp => ?_)
    obtain ⟨p1, hM, hL, hK, h01, hF9⟩ := hp
    have hF := hF.tr hF9
    have hP := hM.1
    have hv := hL.2.2 i hc.2.1 hc.2.2
    have hwr := wW_rg hI hc.1.1 hc.1.2
    have hc2 := hc.2
    refine J_if_eq 19 dX11_shownWritten_7 (by decide) (fun c7 => absurd c7 (by decide)) (fun c7 => ?_) 
    refine j_aload_n 0 dX11_shownWritten_10 rfl rfl ?_
    refine j_get fX11_53 dX11_shownWritten_11 hP.1 rfl ?_
    refine j_iload_n 3 dX11_shownWritten_14 rfl rfl ?_
    refine J_iald dX11_shownWritten_15 (hP.2.1 12 rfl) ?_ 
    refine j_goto 20 dX11_shownWritten_16 (by decide) ?_
    refine j_iret rfl dX11_shownWritten_20 ?_
    exact ⟨oIe hv.2.2.2.2.1, p1, hM, hK.mi hI, h01, hF⟩
  · rw [if_neg hc, if_neg hc]
    refine j_aload_n 0 dX11_shownWritten_0 rfl rfl ?_
    refine j_iload_n 1 dX11_shownWritten_1 rfl rfl ?_
    refine j_iload_n 2 dX11_shownWritten_2 rfl rfl ?_
    refine j_iload_n 3 dX11_shownWritten_3 rfl rfl ?_
    refine J_callVW1 kX11_234 cvX11_has_ hP.1 (c0_X11_has_ hM hZ hI hk hb hi hc) rfl rfl rfl rfl rfl dX11_shownWritten_4 rfl rfl (fun h hp => ?_)
    obtain ⟨p1, hM, hK, h01, hF9⟩ := hp
    have hF := hF.tr hF9
    have hP := hM.1
    refine J_if_eq 19 dX11_shownWritten_7 (by decide) (fun c7 => ?_) (fun c7 => absurd c7 (by decide)) 
    refine J_iconst dX11_shownWritten_19 ?_
    refine j_iret rfl dX11_shownWritten_20 ?_
    exact ⟨rfl, p1, hM, hK.mi hI, h01, hF⟩
set_option maxRecDepth 100000 in
theorem c_X11_beamOf {l : Launch} {G : jG} {h : jH} {a : Nat} {d : MD} {mp P : Nat → OS} {p p0 : OS} {Z : Nat → Nat} {k b i : Int} (hM : Mod G h a d mp p) (hZ : Mz a d Z) (hI : MI d P p0 mp p.2) (hk : rg k) (hb : rg b) (hi : rg i) : jC l G yX11_beamOf mX11_beamOf [.ref a, vI k, vI b, vI i] h (jW (oI (if ((0 ≤ k ∧ k < 4) ∧ isBar b) ∧ 0 ≤ i ∧ i < (wW P p0 k b).1 9 then (wW P p0 k b).2 7 i else 0)) (fun h' => ∃ p', Mod G h' a d mp p' ∧ MI d P p0 mp p'.2 ∧ p'.1 0 = (if ((0 ≤ k ∧ k < 4) ∧ isBar b) ∧ 0 ≤ i ∧ i < (wW P p0 k b).1 9 then 0 else 1) ∧ Fr (FtM a d) h h')) := by
  refine j_body (by decide +kernel) ⟨rfl, rfl⟩ rfl ?_
  have hP := hM.1
  have hF : Fr (FtM a d) h h := Fr.rf
  obtain ⟨Fa, hpa, hFa⟩ := hM.2.1
  by_cases hc : ((0 ≤ k ∧ k < 4) ∧ isBar b) ∧ 0 ≤ i ∧ i < (wW P p0 k b).1 9
  · rw [if_pos hc, if_pos hc]
    refine j_aload_n 0 dX11_beamOf_0 rfl rfl ?_
    refine j_iload_n 1 dX11_beamOf_1 rfl rfl ?_
    refine j_iload_n 2 dX11_beamOf_2 rfl rfl ?_
    refine j_iload_n 3 dX11_beamOf_3 rfl rfl ?_
    refine J_callVW1 kX11_234 cvX11_has_ hP.1 (c1_X11_has_ hM hZ hI hc.1.1 hc.1.2 hc.2) rfl rfl rfl rfl rfl dX11_beamOf_4 rfl rfl (fun h hp => ?_)
    obtain ⟨p1, hM, hL, hK, h01, hF9⟩ := hp
    have hF := hF.tr hF9
    have hP := hM.1
    have hv := hL.2.2 i hc.2.1 hc.2.2
    have hwr := wW_rg hI hc.1.1 hc.1.2
    have hc2 := hc.2
    refine J_if_eq 19 dX11_beamOf_7 (by decide) (fun c7 => absurd c7 (by decide)) (fun c7 => ?_) 
    refine j_aload_n 0 dX11_beamOf_10 rfl rfl ?_
    refine j_get fX11_56 dX11_beamOf_11 hP.1 rfl ?_
    refine j_iload_n 3 dX11_beamOf_14 rfl rfl ?_
    refine J_iald dX11_beamOf_15 (hP.2.1 13 rfl) ?_ 
    refine j_goto 20 dX11_beamOf_16 (by decide) ?_
    refine j_iret rfl dX11_beamOf_20 ?_
    exact ⟨oIe hv.2.2.2.2.2, p1, hM, hK.mi hI, h01, hF⟩
  · rw [if_neg hc, if_neg hc]
    refine j_aload_n 0 dX11_beamOf_0 rfl rfl ?_
    refine j_iload_n 1 dX11_beamOf_1 rfl rfl ?_
    refine j_iload_n 2 dX11_beamOf_2 rfl rfl ?_
    refine j_iload_n 3 dX11_beamOf_3 rfl rfl ?_
    refine J_callVW1 kX11_234 cvX11_has_ hP.1 (c0_X11_has_ hM hZ hI hk hb hi hc) rfl rfl rfl rfl rfl dX11_beamOf_4 rfl rfl (fun h hp => ?_)
    obtain ⟨p1, hM, hK, h01, hF9⟩ := hp
    have hF := hF.tr hF9
    have hP := hM.1
    refine J_if_eq 19 dX11_beamOf_7 (by decide) (fun c7 => ?_) (fun c7 => absurd c7 (by decide)) 
    refine J_iconst dX11_beamOf_19 ?_
    refine j_iret rfl dX11_beamOf_20 ?_
    exact ⟨rfl, p1, hM, hK.mi hI, h01, hF⟩
