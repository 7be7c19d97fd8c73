abbrev zL_isBarSound : jM := (RL, cL_isBarSound, 13, some .boolean, [], "isBarSound", { frames := 10, cells := 1560, slots := 9360, locals := 181 })
abbrev zL_areMomentsSound : jM := (RL, cL_areMomentsSound, 9, some .boolean, [], "areMomentsSound", { frames := 8, cells := 11272, slots := 67632, locals := 153 })
abbrev zL_areLinesSound : jM := (RL, cL_areLinesSound, 8, some .boolean, [], "areLinesSound", { frames := 8, cells := 80, slots := 480, locals := 153 })
abbrev zL_act : jM := (RL, cL_act, 6, none, [((76), (369), (372), (77)), ((76), (369), (375), (79))], "act", { frames := 9, cells := 3, slots := 24, locals := 160 })
/-! the desk as the law reads it: the score P and the calendar p0, whatever is kept beside them -/
def DD (G : jG) (a : Nat) (d : DA) (P : Nat → OS) (p0 : OS) (h : jH) : Prop := ∃ s : DS, Desk G h a d s ∧ DI s ∧ s.1 = P ∧ s.2.1 0 = p0
/-- the desk, with some score -/
def DX (G : jG) (a : Nat) (d : DA) (h : jH) : Prop := ∃ (P : Nat → OS) (p0 : OS), DD G a d P p0 h
section DDS
variable {l : Launch} {G : jG} {h h' : jH} {a : Nat} {d : DA} {s : DS} {P : Nat → OS} {p0 : OS} {Z : Nat → Nat}
theorem DP.dd {R : DS → Prop} (x : DP G a d s h R h') : DD G a d s.1 (s.2.1 0) h' := by
  obtain ⟨s', h1, h2, h3, h4, -, -⟩ := x
  exact ⟨s', h1, h2, h3, h4⟩
theorem DN.dd (x : DN G a d h P p0 h') : DD G a d P p0 h' := by
  obtain ⟨s', h1, h2, h3, h4, -⟩ := x
  exact ⟨s', h1, h2, h3, h4⟩
theorem DD.ha (H : DD G a d P p0 h) : ∃ fs : List Value, h a = some (.inr (7, fs)) := by
  obtain ⟨s, h1, -⟩ := H
  exact ⟨_, h1.1⟩
theorem DD.sco (H : DD G a d P p0 h) : scoOK P ∧ evs P ≤ 512 ∧ calOK p0 := by
  obtain ⟨s, -, h2, rfl, rfl⟩ := H
  exact ⟨h2.1, h2.2.1, h2.2.2.1⟩
theorem DD.keep (H : DD G a d P p0 h) (hd : ∀ c, FtD a d c → h' c = h c) : DD G a d P p0 h' := by
  obtain ⟨s, h1, h2, h3, h4⟩ := H
  exact ⟨s, h1.keepF hd, h2, h3, h4⟩
theorem DD.some (H : DD G a d P p0 h) {c : Nat} (hc : FtD a d c) : h c ≠ none := by
  obtain ⟨s, h1, -⟩ := H
  exact h1.someN hc
theorem r_events {k : Int} (hl0 : l.stackTraces = false) (hZ : Dz a d Z) (hD : DD G a d P p0 h) (hk : 0 ≤ k ∧ k < 4) : jC l G yX9_events mX9_events [.ref a, vI k] h (jW (oI ((P k.toNat).1 7)) (DD G a d P p0)) := by
  obtain ⟨s, h1, h2, rfl, rfl⟩ := hD
  exact (c_X9_events hl0 h1 h2 hZ (by omega)).imp (fun r h' x => ⟨by rw [x.1, if_pos hk], x.2.dd⟩)
theorem r_moments  (hl0 : l.stackTraces = false) (hZ : Dz a d Z) (hD : DD G a d P p0 h)  : jC l G yX9_moments mX9_moments [.ref a] h (jW (oI ((cntM P : Int))) (DD G a d P p0)) := by
  obtain ⟨s, h1, h2, rfl, rfl⟩ := hD
  exact (c_X9_moments h1 h2 hZ).imp (fun r h' x => ⟨x.1, x.2.dd⟩)
theorem r_faults  (hl0 : l.stackTraces = false) (hZ : Dz a d Z) (hD : DD G a d P p0 h)  : jC l G yX9_faults mX9_faults [.ref a] h (jW (oI (((fauA P).length : Int))) (DD G a d P p0)) := by
  obtain ⟨s, h1, h2, rfl, rfl⟩ := hD
  exact (c_X9_faults h1 h2 hZ).imp (fun r h' x => ⟨x.1, x.2.dd⟩)
theorem r_bars  (hl0 : l.stackTraces = false) (hZ : Dz a d Z) (hD : DD G a d P p0 h)  : jC l G yX9_bars mX9_bars [.ref a] h (jW (oI (barsA P p0)) (DD G a d P p0)) := by
  obtain ⟨s, h1, h2, rfl, rfl⟩ := hD
  exact (c_X9_bars h1 h2 hZ).imp (fun r h' x => ⟨x.1, x.2.dd⟩)
theorem r_heightOf {k e : Int} (hl0 : l.stackTraces = false) (hZ : Dz a d Z) (hD : DD G a d P p0 h) (hk : 0 ≤ k ∧ k < 4) (he : inP (P k.toNat) e) (hr : rg e) : jC l G yX9_heightOf mX9_heightOf [.ref a, vI k, vI e] h (jW (oI ((P k.toNat).2 2 e)) (DD G a d P p0)) := by
  obtain ⟨s, h1, h2, rfl, rfl⟩ := hD
  exact (c_X9_heightOf hl0 h1 h2 hZ (by omega) hr).imp (fun r h' x => ⟨by rw [x.1, if_pos ⟨hk, he⟩], x.2.dd⟩)
theorem r_writtenPlace {k e : Int} (hl0 : l.stackTraces = false) (hZ : Dz a d Z) (hD : DD G a d P p0 h) (hk : 0 ≤ k ∧ k < 4) (he : inP (P k.toNat) e) (hr : rg e) : jC l G yX9_writtenPlace mX9_writtenPlace [.ref a, vI k, vI e] h (jW (oI ((P k.toNat).2 5 e)) (DD G a d P p0)) := by
  obtain ⟨s, h1, h2, rfl, rfl⟩ := hD
  exact (c_X9_writtenPlace hl0 h1 h2 hZ (by omega) hr).imp (fun r h' x => ⟨by rw [x.1, if_pos ⟨hk, he⟩], x.2.dd⟩)
theorem r_writtenAlter {k e : Int} (hl0 : l.stackTraces = false) (hZ : Dz a d Z) (hD : DD G a d P p0 h) (hk : 0 ≤ k ∧ k < 4) (he : inP (P k.toNat) e) (hr : rg e) : jC l G yX9_writtenAlter mX9_writtenAlter [.ref a, vI k, vI e] h (jW (oI ((P k.toNat).2 6 e)) (DD G a d P p0)) := by
  obtain ⟨s, h1, h2, rfl, rfl⟩ := hD
  exact (c_X9_writtenAlter hl0 h1 h2 hZ (by omega) hr).imp (fun r h' x => ⟨by rw [x.1, if_pos ⟨hk, he⟩], x.2.dd⟩)
theorem r_beginOfBar {b : Int} (hl0 : l.stackTraces = false) (hZ : Dz a d Z) (hD : DD G a d P p0 h) (hb : isBar b) : jC l G yX9_beginOfBar mX9_beginOfBar [.ref a, vI b] h (jW (oI (sumN (p0.2 2) b.toNat)) (DD G a d P p0)) := by
  obtain ⟨s, h1, h2, rfl, rfl⟩ := hD
  exact (c_X9_beginOfBar hl0 h1 h2 hZ (by omega)).imp (fun r h' x => ⟨by rw [x.1, if_pos hb], x.2.dd⟩)
theorem r_lengthOfBar {b : Int} (hl0 : l.stackTraces = false) (hZ : Dz a d Z) (hD : DD G a d P p0 h) (hb : isBar b) : jC l G yX9_lengthOfBar mX9_lengthOfBar [.ref a, vI b] h (jW (oI (p0.2 2 b)) (DD G a d P p0)) := by
  obtain ⟨s, h1, h2, rfl, rfl⟩ := hD
  exact (c_X9_lengthOfBar hl0 h1 h2 hZ (by omega)).imp (fun r h' x => ⟨by rw [x.1, if_pos hb], x.2.dd⟩)
theorem r_missing {k b : Int} (hl0 : l.stackTraces = false) (hZ : Dz a d Z) (hD : DD G a d P p0 h) (hk : 0 ≤ k ∧ k < 4) (hb : isBar b) : jC l G yX9_missing mX9_missing [.ref a, vI k, vI b] h (jW (oI (max 0 (min (p0.2 2 b) (sumN (p0.2 2) b.toNat + p0.2 2 b - (P k.toNat).1 8)))) (DD G a d P p0)) := by
  obtain ⟨s, h1, h2, rfl, rfl⟩ := hD
  exact (c_X9_missing hl0 h1 h2 hZ (by omega) (by omega)).imp (fun r h' x => ⟨by rw [x.1, if_pos ⟨hk, hb⟩], x.2.dd⟩)
theorem r_signs {k b : Int} (hl0 : l.stackTraces = false) (hZ : Dz a d Z) (hD : DD G a d P p0 h) (hk : 0 ≤ k ∧ k < 4) (hb : isBar b) : jC l G yX9_signs mX9_signs [.ref a, vI k, vI b] h (jW (oI ((wrP (P k.toNat) p0 b zOS).1 9)) (DD G a d P p0)) := by
  obtain ⟨s, h1, h2, rfl, rfl⟩ := hD
  exact (c_X9_signs hl0 h1 h2 hZ (by omega) (by omega)).imp (fun r h' x => ⟨by rw [x.1, if_pos ⟨hk, hb⟩], x.2.dd⟩)
theorem r_beams {k b : Int} (hl0 : l.stackTraces = false) (hZ : Dz a d Z) (hD : DD G a d P p0 h) (hk : 0 ≤ k ∧ k < 4) (hb : isBar b) : jC l G yX9_beams mX9_beams [.ref a, vI k, vI b] h (jW (oI ((wrP (P k.toNat) p0 b zOS).1 10)) (DD G a d P p0)) := by
  obtain ⟨s, h1, h2, rfl, rfl⟩ := hD
  exact (c_X9_beams hl0 h1 h2 hZ (by omega) (by omega)).imp (fun r h' x => ⟨by rw [x.1, if_pos ⟨hk, hb⟩], x.2.dd⟩)
theorem r_eventOf {k b i : Int} (hl0 : l.stackTraces = false) (hZ : Dz a d Z) (hD : DD G a d P p0 h) (hk : 0 ≤ k ∧ k < 4) (hb : isBar b) (hi : 0 ≤ i ∧ i < (wrP (P k.toNat) p0 b zOS).1 9) (hr : rg i) : jC l G yX9_eventOf mX9_eventOf [.ref a, vI k, vI b, vI i] h (jW (oI ((wrP (P k.toNat) p0 b zOS).2 0 i)) (DD G a d P p0)) := by
  obtain ⟨s, h1, h2, rfl, rfl⟩ := hD
  exact (c_X9_eventOf hl0 h1 h2 hZ (by omega) (by omega) hr).imp (fun r h' x => ⟨by rw [x.1, if_pos ⟨⟨hk, hb⟩, hi⟩], x.2.dd⟩)
theorem r_lengthOf {k b i : Int} (hl0 : l.stackTraces = false) (hZ : Dz a d Z) (hD : DD G a d P p0 h) (hk : 0 ≤ k ∧ k < 4) (hb : isBar b) (hi : 0 ≤ i ∧ i < (wrP (P k.toNat) p0 b zOS).1 9) (hr : rg i) : jC l G yX9_lengthOf mX9_lengthOf [.ref a, vI k, vI b, vI i] h (jW (oI ((wrP (P k.toNat) p0 b zOS).2 2 i)) (DD G a d P p0)) := by
  obtain ⟨s, h1, h2, rfl, rfl⟩ := hD
  exact (c_X9_lengthOf hl0 h1 h2 hZ (by omega) (by omega) hr).imp (fun r h' x => ⟨by rw [x.1, if_pos ⟨⟨hk, hb⟩, hi⟩], x.2.dd⟩)
theorem r_shown {k b i : Int} (hl0 : l.stackTraces = false) (hZ : Dz a d Z) (hD : DD G a d P p0 h) (hk : 0 ≤ k ∧ k < 4) (hb : isBar b) (hi : 0 ≤ i ∧ i < (wrP (P k.toNat) p0 b zOS).1 9) (hr : rg i) : jC l G yX9_shown mX9_shown [.ref a, vI k, vI b, vI i] h (jW (oI ((wrP (P k.toNat) p0 b zOS).2 5 i)) (DD G a d P p0)) := by
  obtain ⟨s, h1, h2, rfl, rfl⟩ := hD
  exact (c_X9_shown hl0 h1 h2 hZ (by omega) (by omega) hr).imp (fun r h' x => ⟨by rw [x.1, if_pos ⟨⟨hk, hb⟩, hi⟩], x.2.dd⟩)
theorem r_shownWritten {k b i : Int} (hl0 : l.stackTraces = false) (hZ : Dz a d Z) (hD : DD G a d P p0 h) (hk : 0 ≤ k ∧ k < 4) (hb : isBar b) (hi : 0 ≤ i ∧ i < (wrP (P k.toNat) p0 b zOS).1 9) (hr : rg i) : jC l G yX9_shownWritten mX9_shownWritten [.ref a, vI k, vI b, vI i] h (jW (oI ((wrP (P k.toNat) p0 b zOS).2 6 i)) (DD G a d P p0)) := by
  obtain ⟨s, h1, h2, rfl, rfl⟩ := hD
  exact (c_X9_shownWritten hl0 h1 h2 hZ (by omega) (by omega) hr).imp (fun r h' x => ⟨by rw [x.1, if_pos ⟨⟨hk, hb⟩, hi⟩], x.2.dd⟩)
theorem r_beamOf {k b i : Int} (hl0 : l.stackTraces = false) (hZ : Dz a d Z) (hD : DD G a d P p0 h) (hk : 0 ≤ k ∧ k < 4) (hb : isBar b) (hi : 0 ≤ i ∧ i < (wrP (P k.toNat) p0 b zOS).1 9) (hr : rg i) : jC l G yX9_beamOf mX9_beamOf [.ref a, vI k, vI b, vI i] h (jW (oI ((wrP (P k.toNat) p0 b zOS).2 7 i)) (DD G a d P p0)) := by
  obtain ⟨s, h1, h2, rfl, rfl⟩ := hD
  exact (c_X9_beamOf hl0 h1 h2 hZ (by omega) (by omega) hr).imp (fun r h' x => ⟨by rw [x.1, if_pos ⟨⟨hk, hb⟩, hi⟩], x.2.dd⟩)
theorem r_isTied {k b i : Int} (hl0 : l.stackTraces = false) (hZ : Dz a d Z) (hD : DD G a d P p0 h) (hk : 0 ≤ k ∧ k < 4) (hb : isBar b) (hi : 0 ≤ i ∧ i < (wrP (P k.toNat) p0 b zOS).1 9) (hr : rg i) : jC l G yX9_isTied mX9_isTied [.ref a, vI k, vI b, vI i] h (jW (oI (bI ((wrP (P k.toNat) p0 b zOS).2 4 i ≠ 0))) (DD G a d P p0)) := by
  obtain ⟨s, h1, h2, rfl, rfl⟩ := hD
  exact (c_X9_isTied hl0 h1 h2 hZ (by omega) (by omega) hr).imp (fun r h' x => ⟨by rw [x.1, if_pos ⟨⟨hk, hb⟩, hi⟩], x.2.dd⟩)
theorem r_tickOf {m : Int} (hl0 : l.stackTraces = false) (hZ : Dz a d Z) (hD : DD G a d P p0 h) (hm : 0 ≤ m ∧ m < (cntM P : Int)) (hr : rg m) : jC l G yX9_tickOf mX9_tickOf [.ref a, vI m] h (jW (oI (momT P m.toNat)) (DD G a d P p0)) := by
  obtain ⟨s, h1, h2, rfl, rfl⟩ := hD
  exact (c_X9_tickOf hl0 h1 h2 hZ hr).imp (fun r h' x => ⟨by rw [x.1, if_pos hm], x.2.dd⟩)
theorem r_root {m : Int} (hl0 : l.stackTraces = false) (hZ : Dz a d Z) (hD : DD G a d P p0 h) (hm : 0 ≤ m ∧ m < (cntM P : Int)) (hr : rg m) : jC l G yX9_root mX9_root [.ref a, vI m] h (jW (oI ((chdF P m.toNat).1 0)) (DD G a d P p0)) := by
  obtain ⟨s, h1, h2, rfl, rfl⟩ := hD
  exact (c_X9_root hl0 h1 h2 hZ hr).imp (fun r h' x => ⟨by rw [x.1, if_pos hm], x.2.dd⟩)
theorem r_kind {m : Int} (hl0 : l.stackTraces = false) (hZ : Dz a d Z) (hD : DD G a d P p0 h) (hm : 0 ≤ m ∧ m < (cntM P : Int)) (hr : rg m) : jC l G yX9_kind mX9_kind [.ref a, vI m] h (jW (oI ((chdF P m.toNat).1 1)) (DD G a d P p0)) := by
  obtain ⟨s, h1, h2, rfl, rfl⟩ := hD
  exact (c_X9_kind hl0 h1 h2 hZ hr).imp (fun r h' x => ⟨by rw [x.1, if_pos hm], x.2.dd⟩)
theorem r_inversion {m : Int} (hl0 : l.stackTraces = false) (hZ : Dz a d Z) (hD : DD G a d P p0 h) (hm : 0 ≤ m ∧ m < (cntM P : Int)) (hr : rg m) : jC l G yX9_inversion mX9_inversion [.ref a, vI m] h (jW (oI ((chdF P m.toNat).1 2)) (DD G a d P p0)) := by
  obtain ⟨s, h1, h2, rfl, rfl⟩ := hD
  exact (c_X9_inversion hl0 h1 h2 hZ hr).imp (fun r h' x => ⟨by rw [x.1, if_pos hm], x.2.dd⟩)
theorem r_kindOfFault {m : Int} (hl0 : l.stackTraces = false) (hZ : Dz a d Z) (hD : DD G a d P p0 h) (hm : 0 ≤ m ∧ m < ((fauA P).length : Int)) (hr : rg m) : jC l G yX9_kindOfFault mX9_kindOfFault [.ref a, vI m] h (jW (oI (((fauA P)[m.toNat]?.getD (0, 0, 0)).1)) (DD G a d P p0)) := by
  obtain ⟨s, h1, h2, rfl, rfl⟩ := hD
  exact (c_X9_kindOfFault hl0 h1 h2 hZ hr).imp (fun r h' x => ⟨by rw [x.1, if_pos hm], x.2.dd⟩)
theorem r_tickOfFault {m : Int} (hl0 : l.stackTraces = false) (hZ : Dz a d Z) (hD : DD G a d P p0 h) (hm : 0 ≤ m ∧ m < ((fauA P).length : Int)) (hr : rg m) : jC l G yX9_tickOfFault mX9_tickOfFault [.ref a, vI m] h (jW (oI (((fauA P)[m.toNat]?.getD (0, 0, 0)).2.1)) (DD G a d P p0)) := by
  obtain ⟨s, h1, h2, rfl, rfl⟩ := hD
  exact (c_X9_tickOfFault hl0 h1 h2 hZ hr).imp (fun r h' x => ⟨by rw [x.1, if_pos hm], x.2.dd⟩)
theorem r_partsOfFault {m : Int} (hl0 : l.stackTraces = false) (hZ : Dz a d Z) (hD : DD G a d P p0 h) (hm : 0 ≤ m ∧ m < ((fauA P).length : Int)) (hr : rg m) : jC l G yX9_partsOfFault mX9_partsOfFault [.ref a, vI m] h (jW (oI (((fauA P)[m.toNat]?.getD (0, 0, 0)).2.2)) (DD G a d P p0)) := by
  obtain ⟨s, h1, h2, rfl, rfl⟩ := hD
  exact (c_X9_partsOfFault hl0 h1 h2 hZ hr).imp (fun r h' x => ⟨by rw [x.1, if_pos hm], x.2.dd⟩)
theorem r_widthOf {b : Int} (hl0 : l.stackTraces = false) (hZ : Dz a d Z) (hD : DD G a d P p0 h) (hb : isBar b) : jC l G yX9_widthOf mX9_widthOf [.ref a, vI b] h (jW (oI (widF P p0 b)) (DD G a d P p0)) := by
  obtain ⟨s, h1, h2, rfl, rfl⟩ := hD
  exact (c_X9_widthOf hl0 h1 h2 hZ (by omega)).imp (fun r h' x => ⟨by rw [x.1, if_pos hb], x.2.dd⟩)
theorem r_lines {w : Int} (hl0 : l.stackTraces = false) (hZ : Dz a d Z) (hD : DD G a d P p0 h) (hw : 10 ≤ w ∧ w ≤ 400) : jC l G yX9_lines mX9_lines [.ref a, vI w] h (jW (oI ((lnP P p0 (barsA P p0) w).1 4)) (DD G a d P p0)) := by
  obtain ⟨s, h1, h2, rfl, rfl⟩ := hD
  exact (c_X9_lines hl0 h1 h2 hZ (by omega)).imp (fun r h' x => ⟨by rw [x.1, if_pos hw], x.2.dd⟩)
theorem r_costOf {w : Int} (hl0 : l.stackTraces = false) (hZ : Dz a d Z) (hD : DD G a d P p0 h) (hw : 10 ≤ w ∧ w ≤ 400) : jC l G yX9_costOf mX9_costOf [.ref a, vI w] h (jW (oI ((lnP P p0 (barsA P p0) w).2 1 0)) (DD G a d P p0)) := by
  obtain ⟨s, h1, h2, rfl, rfl⟩ := hD
  exact (c_X9_costOf hl0 h1 h2 hZ (by omega)).imp (fun r h' x => ⟨by rw [x.1, if_pos hw], x.2.dd⟩)
theorem r_lineOf {w b : Int} (hl0 : l.stackTraces = false) (hZ : Dz a d Z) (hD : DD G a d P p0 h) (hw : 10 ≤ w ∧ w ≤ 400) (hb : isBar b) : jC l G yX9_lineOf mX9_lineOf [.ref a, vI w, vI b] h (jW (oI ((lnP P p0 (barsA P p0) w).2 3 b)) (DD G a d P p0)) := by
  obtain ⟨s, h1, h2, rfl, rfl⟩ := hD
  exact (c_X9_lineOf hl0 h1 h2 hZ (by omega) (by omega)).imp (fun r h' x => ⟨by rw [x.1, if_pos hb, if_pos hw], x.2.dd⟩)
theorem r_digest (hZ : Dz a d Z) (hD : DD G a d P p0 h) : jC l G yX9_digest z9_digest [.ref a] h (jW (.inl (some (vL (digD P p0)))) (DD G a d P p0)) := by
  obtain ⟨s, h1, h2, rfl, rfl⟩ := hD
  exact (c0_X9_digest h1 h2 hZ).imp (fun r h' x => ⟨x.1, x.2.dd⟩)
end DDS
section LR
variable {l : Launch} {G : jG} {M M' : jM} {QF : jF} {ck sk ck' sk' pc : Nat} {L L' : List (Nat × Value)} {st rest : List Value} {h : jH} {a : Nat} {d : DA} {P : Nat → OS} {p0 : OS}
/-- the law reads the desk -/
theorem J_rd {z : Int} {y : MethodName} {As : List Value} {n idx : Nat} {T : u_T} {N : Nat} (V : jLk M.own idx y M' n) (V2 : Cond.instanceMethod y ∈ WT ∧ Cond.selects y.cls y y ∈ WT ∧ vwCl[7]? = some (y.cls, T, N)) (hD : DD G a d P p0 h)
    (C : jC l G y M' (.ref a :: As) h (jW (oI z) (DD G a d P p0))) (hh : M'.hh = []) (hst : st = As.reverse ++ .ref a :: rest) (hn : As.length = n) (hrm : jRm M M' = true) (hrest : Nat.ble (rest.map fun v => v.category).sum 8 = true) (hd : decode M.cc pc = .ok (.invokevirtual idx, 3))
    (hck : M'.room.cells + ck' ≤ ck) (hsk : M'.room.slots + sk' ≤ sk) (kk : ∀ h', DD G a d P p0 h' → J l G M QF ck' sk' (pc + 3) L (vI z :: rest) h') : J l G M QF ck sk pc L st h := by
  obtain ⟨fs, ha⟩ := hD.ha
  exact j_callV V V2 ha C hh hst hn hrm hrest hd hck hsk (fun v h' hp => by obtain ⟨e, q⟩ := hp; cases e; exact kk h' q) (fun E h' hp => by cases hp.1)
theorem J_rdL {z : Int} {y : MethodName} {As : List Value} {n idx : Nat} {T : u_T} {N : Nat} (V : jLk M.own idx y M' n) (V2 : Cond.instanceMethod y ∈ WT ∧ Cond.selects y.cls y y ∈ WT ∧ vwCl[7]? = some (y.cls, T, N)) (hD : DD G a d P p0 h)
    (C : jC l G y M' (.ref a :: As) h (jW (.inl (some (vL z))) (DD G a d P p0))) (hh : M'.hh = []) (hst : st = As.reverse ++ .ref a :: rest) (hn : As.length = n) (hrm : jRm M M' = true) (hrest : Nat.ble (rest.map fun v => v.category).sum 8 = true) (hd : decode M.cc pc = .ok (.invokevirtual idx, 3))
    (hck : M'.room.cells + ck' ≤ ck) (hsk : M'.room.slots + sk' ≤ sk) (kk : ∀ h', DD G a d P p0 h' → J l G M QF ck' sk' (pc + 3) L (vL z :: rest) h') : J l G M QF ck sk pc L st h := by
  obtain ⟨fs, ha⟩ := hD.ha
  exact j_callV V V2 ha C hh hst hn hrm hrest hd hck hsk (fun v h' hp => by obtain ⟨e, q⟩ := hp; cases e; exact kk h' q) (fun E h' hp => by cases hp.1)
/-- the law calls a check of its own -/
theorem J_ck {z : Int} {y : MethodName} {As : List Value} {n idx : Nat} (V : jLk M.own idx y M' n) (V2 : Cond.static y ∈ WT)
    (C : jC l G y M' As h (jW (oI z) (DD G a d P p0))) (hh : M'.hh = []) (hst : st = As.reverse ++ rest) (hn : As.length = n) (hrm : jRm M M' = true) (hrest : Nat.ble (rest.map fun v => v.category).sum 8 = true) (hd : decode M.cc pc = .ok (.invokestatic idx, 3))
    (hck : M'.room.cells + ck' ≤ ck) (hsk : M'.room.slots + sk' ≤ sk) (kk : ∀ h', DD G a d P p0 h' → J l G M QF ck' sk' (pc + 3) L (vI z :: rest) h') : J l G M QF ck sk pc L st h :=
  j_callS V V2 C hh hst hn hrm hrest hd hck hsk (fun v h' hp => by obtain ⟨e, q⟩ := hp; cases e; exact kk h' q) (fun E h' hp => by cases hp.1)
/-- the law writes into the desk -/
def SetP (G : jG) (a : Nat) (d : DA) : jO → jH → Prop := fun r h' => ((∃ z : Int, r = oI z) ∨ r = .inr "java/lang/IndexOutOfBoundsException" ∨ r = .inr "java/lang/IllegalStateException") ∧ DX G a d h'
theorem J_set {y : MethodName} {As : List Value} {n idx : Nat} {T : u_T} {N : Nat} (V : jLk M.own idx y M' n) (V2 : Cond.instanceMethod y ∈ WT ∧ Cond.selects y.cls y y ∈ WT ∧ vwCl[7]? = some (y.cls, T, N)) (hD : DD G a d P p0 h)
    (C : jC l G y M' (.ref a :: As) h (SetP G a d)) (hh : M'.hh = []) (hst : st = As.reverse ++ .ref a :: rest) (hn : As.length = n) (hrm : jRm M M' = true) (hrest : Nat.ble (rest.map fun v => v.category).sum 8 = true) (hd : decode M.cc pc = .ok (.invokevirtual idx, 3))
    (hck : M'.room.cells + ck' ≤ ck) (hsk : M'.room.slots + sk' ≤ sk) (kk : ∀ (z : Int) h', DX G a d h' → J l G M QF ck' sk' (pc + 3) L (vI z :: rest) h') (kx : ∀ (E : String) h', E = "java/lang/IndexOutOfBoundsException" ∨ E = "java/lang/IllegalStateException" → DX G a d h' → jX l G M QF ck' sk' pc L rest h' E) : J l G M QF ck sk pc L st h := by
  obtain ⟨fs, ha⟩ := hD.ha
  refine j_callV V V2 ha C hh hst hn hrm hrest hd hck hsk (fun v h' hp => ?_) (fun E h' hp => ?_)
  · obtain ⟨e, q⟩ := hp
    rcases e with ⟨z, e⟩ | e | e
    · cases e; exact kk z h' q
    · cases e
    · cases e
  · obtain ⟨e, q⟩ := hp
    rcases e with ⟨z, e⟩ | e | e
    · cases e
    · cases e; exact kx _ h' (Or.inl rfl) q
    · cases e; exact kx _ h' (Or.inr rfl) q
/-- a shift to the right: some whole number -/
theorem J_ishrA {x y : Int} (hd : decode M.cc pc = .ok (.ishr, 1)) (k : ∀ z : Int, J l G M QF ck sk (pc + 1) L (vI z :: st) h) : J l G M QF ck sk pc L (vI y :: vI x :: st) h := j_ishr hd (by
  obtain ⟨z, -, e⟩ := I_of (Int32.ofInt x >>> (Int32.ofInt y &&& 31))
  rw [e]
  exact k z)
theorem J_shl2 {x : Int} (hd : decode M.cc pc = .ok (.ishl, 1)) (hx : 0 ≤ x ∧ x < 3) (k : ∀ z : Int, z = 2 ∨ z = 4 ∨ z = 8 → J l G M QF ck sk (pc + 1) L (vI z :: st) h) : J l G M QF ck sk pc L (vI x :: vI 2 :: st) h := j_ishl hd (by
  rcases (by omega : x = 0 ∨ x = 1 ∨ x = 2) with e | e | e <;> subst e
  · exact k 2 (Or.inl rfl)
  · exact k 4 (Or.inr (Or.inl rfl))
  · exact k 8 (Or.inr (Or.inr rfl)))
/-! the script -/
theorem J_slen {k : J l G M QF ck sk (pc + 1) L (vI (jSn G : Int) :: st) h} (hd : decode M.cc pc = .ok (.arraylength, 1)) : J l G M QF ck sk pc L (.ref (jSb G) :: st) h := by
  intro p e s m args below meth c H locs cells slots ls S hR hS hl hc hs
  exact va_tlen S.1 S.2.1 S.2.2.2.2.2.2.2.2.2.2.2.2.2.2.2.2 hS (Int32.ofInt_eq_ofNat).symm hd (k p e s m args below meth c H locs cells slots ls S hR hS hl hc hs)
theorem J_sld {z : Int} (hd : decode M.cc pc = .ok (.iaload, 1)) (hz : 0 ≤ z ∧ z < (jSn G : Int) ∧ jSn G < 2147483648) (kk : J l G M QF ck sk (pc + 1) L (vI (jSx G z.toNat).toInt :: st) h) : J l G M QF ck sk pc L (vI z :: .ref (jSb G) :: st) h := by
  intro p e s m args below meth c H locs cells slots ls S hR hS hl hc hs
  refine va_ti S.1 S.2.1 S.2.2.2.2.2.2.2.2.2.2.2.2.2.2.2.2 hS (I_vpin ⟨hz.1, hz.2.1⟩ hz.2.2) rfl hd ?_
  have k := kk p e s m args below meth c H locs cells slots ls S hR hS hl hc hs
  rw [I_clamp ⟨by omega, by omega⟩]
  have e1 : vI (jSx G z.toNat).toInt = .int (jSx G z.toNat) := congrArg Value.int (Int32.ofInt_toInt _)
  rw [e1] at k
  exact k
end LR
theorem and_nn (x : Int32) : 0 ≤ (x &&& 2147483647).toInt := by
  have h : (x &&& 2147483647).toBitVec.msb = false := by
    rw [Int32.toBitVec_and, BitVec.msb_and]
    have e : (2147483647 : Int32).toBitVec.msb = false := by decide
    rw [e, Bool.and_false]
  rw [BitVec.msb_eq_toInt] at h
  have h2 := of_decide_eq_false h
  exact Int.not_lt.mp h2
def belF (x n : Int) : Int := (Int32.ofInt x &&& 2147483647).toInt.tmod n
theorem belF_rg (x : Int) {n : Int} (hn : 0 < n) : 0 ≤ belF x n ∧ belF x n < n := ⟨Int.tmod_nonneg _ (and_nn _), Int.tmod_lt_of_pos _ hn⟩
set_option maxRecDepth 100000 in
theorem c_L_below {l : Launch} {G : jG} {h : jH} {x n : Int} (hn : 1 ≤ n ∧ n ≤ 1000) : jC l G yL_below mL_below [vI x, vI n] h (jE (oI (belF x n)) h) := by
  refine j_body (by decide +kernel) ⟨rfl, rfl⟩ rfl ?_
  refine j_iload_n 0 dL_below_0 rfl rfl ?_
  refine j_ldc _ dL_below_1 vL_7 ?_
  refine j_iand dL_below_3 ?_
  have e : (Int32.ofInt x &&& 2147483647) = Int32.ofInt (Int32.ofInt x &&& 2147483647).toInt := (Int32.ofInt_toInt _).symm
  have g := and_nn (Int32.ofInt x)
  have g2 := (Int32.ofInt x &&& 2147483647).toInt_lt
  unfold belF
  generalize (Int32.ofInt x &&& 2147483647).toInt = y at e g g2 ⊢
  rw [e]
  refine j_iload_n 1 dL_below_4 rfl rfl ?_
  refine J_irem dL_below_5 ?_ (by omega)
  exact j_iret rfl dL_below_6 ⟨rfl, rfl⟩
def celF (G : jG) (k : Int) : Int := if k < (jSn G : Int) then (jSx G k.toNat).toInt else 790386105 * (k + 3)
set_option maxRecDepth 100000 in
theorem c_L_cell {l : Launch} {G : jG} {h : jH} {k : Int} (hN : jSn G ≤ 260) (hk : 0 ≤ k ∧ k < 1000) : jC l G yL_cell mL_cell [.ref (jSb G), vI k] h (jE (oI (celF G k)) h) := by
  refine j_body (by decide +kernel) ⟨rfl, rfl⟩ rfl ?_
  refine j_iload_n 1 dL_cell_0 rfl rfl ?_
  refine j_aload_n 0 dL_cell_1 rfl rfl ?_
  refine J_slen dL_cell_2 (k := ?_)
  refine J_icmp_ge 12 dL_cell_3 (by decide) (fun c => ?_) (fun c => ?_) (by omega)
  · refine j_ldc _ dL_cell_12 vL_8 ?_
    refine j_iload_n 1 dL_cell_14 rfl rfl ?_
    refine J_iconst dL_cell_15 ?_
    refine J_iadd dL_cell_16 ?_
    refine J_imul (x := 790386105) dL_cell_17 ?_
    refine j_iret rfl dL_cell_18 ⟨?_, rfl⟩
    unfold celF
    rw [if_neg (by omega)]
  · refine j_aload_n 0 dL_cell_6 rfl rfl ?_
    refine j_iload_n 1 dL_cell_7 rfl rfl ?_
    refine J_sld dL_cell_8 (by omega) ?_
    refine j_goto 18 dL_cell_9 (by decide) ?_
    refine j_iret rfl dL_cell_18 ⟨?_, rfl⟩
    unfold celF
    rw [if_pos c]
