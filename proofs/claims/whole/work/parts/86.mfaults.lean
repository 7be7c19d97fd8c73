/-! faults, as the reference looks for them -/
/-- L has been blamed so far; number w of it is kept -/
def FS (w : Int) (L : FL) (p : OS) : Prop := p.1 22 = w ∧ p.1 23 = L.length ∧ ∀ x : Int × Int × Int, 0 ≤ w → L[w.toNat]? = some x → p.1 24 = x.1 ∧ p.1 25 = x.2.1 ∧ p.1 26 = x.2.2
def FU (p p' : OS) : Prop := (∀ j : Nat, j < 23 ∨ 26 < j → p'.1 j = p.1 j) ∧ p'.2 = p.2
theorem FU.rf {p : OS} : FU p p := ⟨fun _ _ => rfl, rfl⟩
theorem FU.tr {p p' p'' : OS} (a : FU p p') (b : FU p' p'') : FU p p'' := ⟨fun j hj => (b.1 j hj).trans (a.1 j hj), b.2.trans a.2⟩
theorem FU.ws {P : Nat → OS} {m : Nat} {p p' : OS} (h : FU p p') (hW : WS P m p) : WS P m p' := by
  refine ⟨(h.1 15 (Or.inl (by decide))).trans hW.1, fun k hk => ?_⟩
  rw [h.2]
  exact hW.2 k hk
theorem FU.mi {d : MD} {P mp : Nat → OS} {p0 p p' : OS} (h : FU p p') (hI : MI d P p0 mp p.2) : MI d P p0 mp p'.2 := by rw [h.2]; exact hI
/-- what every call leaves as it was -/
def KU (p p' : OS) : Prop := p'.1 0 = p.1 0 ∧ p'.1 30 = p.1 30 ∧ p'.2 2 = p.2 2 ∧ p'.2 3 = p.2 3 ∧ p'.2 4 = p.2 4
theorem KU.rf {p : OS} : KU p p := ⟨rfl, rfl, rfl, rfl, rfl⟩
theorem KU.tr {p p' p'' : OS} (a : KU p p') (b : KU p' p'') : KU p p'' := ⟨b.1.trans a.1, b.2.1.trans a.2.1, b.2.2.1.trans a.2.2.1, b.2.2.2.1.trans a.2.2.2.1, b.2.2.2.2.trans a.2.2.2.2⟩
theorem KU.mi {d : MD} {P mp : Nat → OS} {p0 p p' : OS} (h : KU p p') (hI : MI d P p0 mp p.2) : MI d P p0 mp p'.2 := hI.arr h.2.2.1 h.2.2.2.1 h.2.2.2.2
theorem FU.ku {p p' : OS} (h : FU p p') : KU p p' := ⟨h.1 0 (Or.inl (by decide)), h.1 30 (Or.inr (by decide)), by rw [h.2], by rw [h.2], by rw [h.2]⟩
theorem WU.ku {p p' : OS} (h : WU p p') : KU p p' := ⟨h.1 0 (by decide), h.1 30 (by decide), h.2 2 (by decide) (by decide), h.2 3 (by decide) (by decide), h.2 4 (by decide) (by decide)⟩
theorem CU.ku {p p' : OS} (h : CU p p') : KU p p' := ⟨h.1 0 (by decide) (by decide) (by decide), h.1 30 (by decide) (by decide) (by decide), by rw [h.2], by rw [h.2], by rw [h.2]⟩
theorem FS.hit {w : Int} {L : FL} {p : OS} (h : FS w L p) (c : p.1 23 = p.1 22) (x : Int × Int × Int) {p' : OS} (e22 : p'.1 22 = p.1 22) (e23 : p'.1 23 = p.1 23 + 1) (e24 : p'.1 24 = x.1) (e25 : p'.1 25 = x.2.1) (e26 : p'.1 26 = x.2.2) : FS w (L ++ [x]) p' := by
  obtain ⟨h1, h2, h3⟩ := h
  refine ⟨e22.trans h1, by rw [e23, h2, List.length_append]; rfl, fun y h0 hy => ?_⟩
  rw [show w.toNat = L.length by omega, List.getElem?_append_right (Nat.le_refl _), Nat.sub_self] at hy
  cases hy
  exact ⟨e24, e25, e26⟩
theorem FS.miss {w : Int} {L : FL} {p : OS} (h : FS w L p) (c : ¬ p.1 23 = p.1 22) (x : Int × Int × Int) {p' : OS} (e22 : p'.1 22 = p.1 22) (e23 : p'.1 23 = p.1 23 + 1) (e : ∀ j : Nat, 23 < j → p'.1 j = p.1 j) : FS w (L ++ [x]) p' := by
  obtain ⟨h1, h2, h3⟩ := h
  refine ⟨e22.trans h1, by rw [e23, h2, List.length_append]; rfl, fun y h0 hy => ?_⟩
  rw [e 24 (by decide), e 25 (by decide), e 26 (by decide)]
  refine h3 y h0 ?_
  by_cases d : w.toNat < L.length
  · rw [List.getElem?_append_left d] at hy; exact hy
  · rw [List.getElem?_eq_none (by rw [List.length_append]; show L.length + 1 ≤ w.toNat; omega)] at hy
    cases hy
theorem plain_ge2 {p : Int} (h : 1 ≤ p) : 2 ≤ plain p := by
  unfold plain
  have hd := Int.emod_add_mul_ediv p 7
  have h0 := Int.emod_nonneg p (show (7 : Int) ≠ 0 by decide)
  have h7 := Int.emod_lt_of_pos p (show (0 : Int) < 7 by decide)
  have hk := lkH (p % 7) ⟨h0, h7⟩
  by_cases c : p % 7 = 0
  · have : 1 ≤ p / 7 := by omega
    omega
  · by_cases c2 : 1 ≤ p / 7
    · omega
    · have e : 0 ≤ p / 7 := Int.ediv_nonneg (by omega) (by decide)
      have : 2 ≤ lk [0, 2, 4, 5, 7, 9, 11] (p % 7) := by
        rcases (by omega : p % 7 = 1 ∨ p % 7 = 2 ∨ p % 7 = 3 ∨ p % 7 = 4 ∨ p % 7 = 5 ∨ p % 7 = 6) with e | e | e | e | e | e <;> rw [e] <;> decide
      omega
theorem hei_note {p : OS} (h : partOK p) {e : Int} (hi : inP p e) : (p.2 0 e = 0 → p.2 2 e = -1) ∧ (p.2 0 e ≠ 0 → 0 ≤ p.2 2 e) := by
  have z := h.2.1 e hi.1 hi.2
  refine ⟨fun c => ?_, fun c => ?_⟩
  · rw [h.2.2.2.2.2.2.1 e hi.1 hi.2]; exact if_pos c
  · rw [h.hN hi.1 hi.2 c]
    have := plain_ge2 (p := p.2 0 e) (by have := z.1.1; omega)
    have := z.2.1.1
    omega
theorem hiM_ne {P : Nat → OS} (hs : scoOK P) {m : Nat} {k : Int} (hk : 0 ≤ k ∧ k < 4) : hiM P m k ≠ -1 ↔ (inP (P k.toNat) (evM P m k.toNat) ∧ (P k.toNat).2 0 (evM P m k.toNat) ≠ 0) := by
  unfold hiM
  by_cases c : inP (P k.toNat) (evM P m k.toNat)
  · rw [if_pos c]
    have g := hei_note (hs k.toNat (by omega)) c
    constructor
    · intro q; exact ⟨c, fun z => q (g.1 z)⟩
    · intro q z; have := g.2 q.2; omega
  · rw [if_neg c]
    constructor
    · intro q; exact absurd rfl q
    · intro q; exact absurd q.1 c
theorem bgM_ne {P : Nat → OS} (hs : scoOK P) {m : Nat} {k : Int} (hk : 0 ≤ k ∧ k < 4) : bgM P m k ≠ 0 ↔ (hiM P m k ≠ -1 ∧ begB P m k) := by
  rw [hiM_ne hs hk]
  unfold bgM
  by_cases c : (inP (P k.toNat) (evM P m k.toNat) ∧ (P k.toNat).2 0 (evM P m k.toNat) ≠ 0) ∧ (P k.toNat).2 3 (evM P m k.toNat) = momT P m
  · rw [if_pos c]
    exact ⟨fun _ => ⟨c.1, c.1.1, c.2⟩, fun _ => by decide⟩
  · rw [if_neg c]
    exact ⟨fun q => absurd rfl q, fun q => absurd ⟨q.1, q.2.2⟩ c⟩
abbrev UpDn (P : Nat → OS) (m : Nat) (i j : Int) : Prop := (hiA P m i < hiM P m i ∧ hiA P m j < hiM P m j) ∨ (hiM P m i < hiA P m i ∧ hiM P m j < hiA P m j)
theorem way_iff {P : Nat → OS} (hs : scoOK P) {m : Nat} {i j : Int} (hi : 0 ≤ i ∧ i < 4) (hj : 0 ≤ j ∧ j < 4) : (wyM P m i ≠ 0 ∧ wyM P m i = wyM P m j) ↔ ((hiM P m i ≠ -1 ∧ begB P m i) ∧ hiA P m i ≠ -1) ∧ ((hiM P m j ≠ -1 ∧ begB P m j) ∧ hiA P m j ≠ -1) ∧ UpDn P m i j := by
  have bi := bgM_ne hs (m := m) hi
  have bj := bgM_ne hs (m := m) hj
  unfold UpDn wyM
  rw [← bi, ← bj]
  by_cases ci : bgM P m i ≠ 0 ∧ hiA P m i ≠ -1
  · by_cases cj : bgM P m j ≠ 0 ∧ hiA P m j ≠ -1
    · rw [if_pos ci, if_pos cj]
      constructor
      · intro q
        refine ⟨ci, cj, ?_⟩
        revert q
        (repeat' split) <;> intro q <;> omega
      · intro q
        have q2 := q.2.2
        (repeat' split) <;> omega
    · rw [if_pos ci, if_neg cj]
      constructor
      · intro q; exact absurd (q.2 ▸ q.1) (by simp)
      · intro q; exact absurd q.2.1 cj
  · rw [if_neg ci]
    constructor
    · intro q; exact absurd rfl q.1
    · intro q; exact absurd q.1 ci
/-- when the reference calls two parts parallel -/
abbrev ParC (P : Nat → OS) (m : Nat) (i j : Int) : Prop := ((hiM P m i ≠ -1 ∧ begB P m i) ∧ hiA P m i ≠ -1) ∧ ((hiM P m j ≠ -1 ∧ begB P m j) ∧ hiA P m j ≠ -1) ∧ UpDn P m i j
theorem par_no {P : Nat → OS} (hs : scoOK P) {m : Nat} {i j : Int} (hi : 0 ≤ i ∧ i < 4) (hj : 0 ≤ j ∧ j < 4) (c : ¬ ParC P m i j) : parL (hiA P m) (hiM P m) (wyM P m) (momT P m) i j = [] := by
  unfold parL
  rw [if_neg (fun z => c ((way_iff hs hi hj).mp z))]
theorem par_yes {P : Nat → OS} (hs : scoOK P) {m : Nat} {i j : Int} (hi : 0 ≤ i ∧ i < 4) (hj : 0 ≤ j ∧ j < 4) (c : ParC P m i j) : parL (hiA P m) (hiM P m) (wyM P m) (momT P m) i j = (if (hiA P m i - hiA P m j) % 12 = (hiM P m i - hiM P m j) % 12 ∧ (hiM P m i - hiM P m j) % 12 = 7 then [(0, momT P m, 4 * i + j)] else if (hiA P m i - hiA P m j) % 12 = (hiM P m i - hiM P m j) % 12 ∧ (hiM P m i - hiM P m j) % 12 = 0 then [(1, momT P m, 4 * i + j)] else []) := by
  unfold parL
  rw [if_pos ((way_iff hs hi hj).mpr c)]
theorem hiA_rg {P : Nat → OS} (hs : scoOK P) (m : Nat) (k : Int) (hk : 0 ≤ k ∧ k < 4) : -1 ≤ hiA P m k ∧ hiA P m k ≤ 200 := by
  cases m with
  | zero => show -1 ≤ (-1 : Int) ∧ (-1 : Int) ≤ 200; omega
  | succ m => exact hiM_rgI hs m k hk
theorem bl_hit {p : OS} {x y z u : Int} {j : Nat} (hj : j < 23 ∨ 26 < j) : (oU (oU (oU (oU p 24 x) 25 y) 26 z) 23 u).1 j = p.1 j := by
  rw [oU_n (by omega), oU_n (by omega), oU_n (by omega), oU_n (by omega)]
set_option maxRecDepth 100000 in
theorem c_X11_blame {l : Launch} {G : jG} {h : jH} {a : Nat} {d : MD} {mp P : Nat → OS} {p p0 : OS} {Z : Nat → Nat} {w kd ps : Int} {L : FL} (hM : Mod G h a d mp p) (hZ : Mz a d Z) (hI : MI d P p0 mp p.2) (hS : FS w L p) (hw : rg w) (hL : L.length ≤ 3000) : jC l G yX11_blame mX11_blame [.ref a, vI kd, vI ps] h (jW oN (fun h' => ∃ p', Mod G h' a d mp p' ∧ FS w (L ++ [(kd, p.1 15, ps)]) p' ∧ FU p p' ∧ Fr (FtM a d) h h')) := by
  refine j_body (by decide +kernel) ⟨rfl, rfl⟩ rfl ?_
  have hP := hM.1
  have hF : Fr (FtM a d) h h := Fr.rf
  obtain ⟨Fa, hpa, hFa⟩ := hM.2.1
  have hs1 := hS.1
  have hs2 := hS.2.1
  refine j_aload_n 0 dX11_blame_0 rfl rfl ?_
  refine j_get fX11_273 dX11_blame_1 hP.1 rfl ?_
  refine j_aload_n 0 dX11_blame_4 rfl rfl ?_
  refine j_get fX11_276 dX11_blame_5 hP.1 rfl ?_
  refine J_icmp_ne 29 dX11_blame_8 (by decide) (fun c8 => ?_) (fun c8 => ?_) (by omega)
  · refine j_aload_n 0 dX11_blame_29 rfl rfl ?_
    refine j_dup dX11_blame_30 rfl ?_
    refine j_get fX11_273 dX11_blame_31 hP.1 rfl ?_
    refine J_iconst dX11_blame_34 ?_
    refine J_iadd dX11_blame_35 ?_
    refine J_putA hP fX11_273 tyX11_counted dX11_blame_36 rfl rfl (fun h hP hF36 => ?_)
    have hM := hM.w hZ hP hF36
    have hF := hF.tr (hF36.mono (fun _ q => Or.inl q))
    obtain ⟨Fa, hpa, hFa⟩ := hM.2.1
    refine j_vret rfl dX11_blame_39 ?_
    first | exact ⟨rfl, _, hM, hS.hit c8 _ rfl rfl rfl rfl rfl, ⟨fun j hj => bl_hit hj, rfl⟩, hF⟩ | exact ⟨rfl, _, hM, hS.miss c8 _ rfl rfl (fun j hj => oU_n (by omega)), ⟨fun j hj => oU_n (by omega), rfl⟩, hF⟩
  · refine j_aload_n 0 dX11_blame_11 rfl rfl ?_
    refine j_iload_n 1 dX11_blame_12 rfl rfl ?_
    refine J_putA hP fX11_279 tyX11_foundKind dX11_blame_13 rfl rfl (fun h hP hF13 => ?_)
    have hM := hM.w hZ hP hF13
    have hF := hF.tr (hF13.mono (fun _ q => Or.inl q))
    obtain ⟨Fa, hpa, hFa⟩ := hM.2.1
    refine j_aload_n 0 dX11_blame_16 rfl rfl ?_
    refine j_aload_n 0 dX11_blame_17 rfl rfl ?_
    refine j_get fX11_239 dX11_blame_18 hP.1 rfl ?_
    refine J_putA hP fX11_282 tyX11_foundTick dX11_blame_21 rfl rfl (fun h hP hF21 => ?_)
    have hM := hM.w hZ hP hF21
    have hF := hF.tr (hF21.mono (fun _ q => Or.inl q))
    obtain ⟨Fa, hpa, hFa⟩ := hM.2.1
    refine j_aload_n 0 dX11_blame_24 rfl rfl ?_
    refine j_iload_n 2 dX11_blame_25 rfl rfl ?_
    refine J_putA hP fX11_285 tyX11_foundParts dX11_blame_26 rfl rfl (fun h hP hF26 => ?_)
    have hM := hM.w hZ hP hF26
    have hF := hF.tr (hF26.mono (fun _ q => Or.inl q))
    obtain ⟨Fa, hpa, hFa⟩ := hM.2.1
    refine j_aload_n 0 dX11_blame_29 rfl rfl ?_
    refine j_dup dX11_blame_30 rfl ?_
    refine j_get fX11_273 dX11_blame_31 hP.1 rfl ?_
    refine J_iconst dX11_blame_34 ?_
    refine J_iadd dX11_blame_35 ?_
    refine J_putA hP fX11_273 tyX11_counted dX11_blame_36 rfl rfl (fun h hP hF36 => ?_)
    have hM := hM.w hZ hP hF36
    have hF := hF.tr (hF36.mono (fun _ q => Or.inl q))
    obtain ⟨Fa, hpa, hFa⟩ := hM.2.1
    refine j_vret rfl dX11_blame_39 ?_
    first | exact ⟨rfl, _, hM, hS.hit c8 _ rfl rfl rfl rfl rfl, ⟨fun j hj => bl_hit hj, rfl⟩, hF⟩ | exact ⟨rfl, _, hM, hS.miss c8 _ rfl rfl (fun j hj => oU_n (by omega)), ⟨fun j hj => oU_n (by omega), rfl⟩, hF⟩
set_option maxRecDepth 100000 in
theorem c_X11_blameParallels {l : Launch} {G : jG} {h : jH} {a : Nat} {d : MD} {mp P : Nat → OS} {p p0 : OS} {Z : Nat → Nat} {w i j : Int} {L : FL} {m : Nat} (hM : Mod G h a d mp p) (hZ : Mz a d Z) (hI : MI d P p0 mp p.2) (hW : WS P (m + 1) p) (hA : ∀ k : Int, 0 ≤ k ∧ k < 4 → p.2 18 k = hiA P m k) (hi : 0 ≤ i ∧ i < 4) (hj : 0 ≤ j ∧ j < 4) (hS : FS w L p) (hw : rg w) (hL : L.length ≤ 2900) : jC l G yX11_blameParallels mX11_blameParallels [.ref a, vI i, vI j] h (jW oN (fun h' => ∃ p', Mod G h' a d mp p' ∧ FS w (L ++ parL (hiA P m) (hiM P m) (wyM P m) (momT P m) i j) p' ∧ FU p p' ∧ Fr (FtM a d) h h')) := by
  refine j_body (by decide +kernel) ⟨rfl, rfl⟩ rfl ?_
  have hP := hM.1
  have hF : Fr (FtM a d) h h := Fr.rf
  obtain ⟨Fa, hpa, hFa⟩ := hM.2.1
  have hs := hI.1.1
  have a1 := hiA_rg hs m i hi
  have a2 := hiA_rg hs m j hj
  have a3 := hiM_rgI hs m i hi
  have a4 := hiM_rgI hs m j hj
  refine j_aload_n 0 dX11_blameParallels_0 rfl rfl ?_
  refine j_iload_n 1 dX11_blameParallels_1 rfl rfl ?_
  refine J_callV1 kX11_258 cvX11_soundsNow hP.1 (c_X11_soundsNow hM hZ hI hW hi) rfl rfl rfl rfl rfl dX11_blameParallels_2 rfl rfl ?_
  refine j_istore_n 3 (L' := [(3, _), (0, _), (1, _), (2, _)]) dX11_blameParallels_5 rfl rfl rfl ?_
  refine j_aload_n 0 dX11_blameParallels_6 rfl rfl ?_
  refine j_iload_n 2 dX11_blameParallels_7 rfl rfl ?_
  refine J_callV1 kX11_258 cvX11_soundsNow hP.1 (c_X11_soundsNow hM hZ hI hW hj) rfl rfl rfl rfl rfl dX11_blameParallels_8 rfl rfl ?_
  refine j_istore (L' := [(4, _), (3, _), (0, _), (1, _), (2, _)]) dX11_blameParallels_11 rfl rfl ?_
  refine j_iload_n 3 dX11_blameParallels_13 rfl rfl ?_
  refine J_iconst dX11_blameParallels_14 ?_
  refine J_icmp_eq 60 dX11_blameParallels_15 (by decide) (fun c15 => ?_) (fun c15 => ?_) 
  · refine j_vret rfl dX11_blameParallels_60 ?_
    refine ⟨rfl, p, hM, ?_, FU.rf, hF⟩
    have hno := par_no hs hi hj (fun z : ParC P m i j => by have q1 := z.1.1.1; have q2 := z.1.1.2; have q3 := z.1.2; have q4 := z.2.1.1.1; have q5 := z.2.1.1.2; have q6 := z.2.1.2; first | omega | exact z46 q2 | exact z54 q5)
    rw [hno, List.append_nil]
    exact hS
  · refine j_iload dX11_blameParallels_18 rfl ?_
    refine J_iconst dX11_blameParallels_20 ?_
    refine J_icmp_eq 60 dX11_blameParallels_21 (by decide) (fun c21 => ?_) (fun c21 => ?_) 
    · refine j_vret rfl dX11_blameParallels_60 ?_
      refine ⟨rfl, p, hM, ?_, FU.rf, hF⟩
      have hno := par_no hs hi hj (fun z : ParC P m i j => by have q1 := z.1.1.1; have q2 := z.1.1.2; have q3 := z.1.2; have q4 := z.2.1.1.1; have q5 := z.2.1.1.2; have q6 := z.2.1.2; first | omega | exact z46 q2 | exact z54 q5)
      rw [hno, List.append_nil]
      exact hS
    · refine j_aload_n 0 dX11_blameParallels_24 rfl rfl ?_
      refine j_get fX11_68 dX11_blameParallels_25 hP.1 rfl ?_
      refine j_iload_n 1 dX11_blameParallels_28 rfl rfl ?_
      refine J_iald dX11_blameParallels_29 (hP.2.1 18 rfl) ?_ 
      refine J_top (hiA P m i) ?_ (by exact hA i hi)
      refine J_iconst dX11_blameParallels_30 ?_
      refine J_icmp_eq 60 dX11_blameParallels_31 (by decide) (fun c31 => ?_) (fun c31 => ?_) 
      · refine j_vret rfl dX11_blameParallels_60 ?_
        refine ⟨rfl, p, hM, ?_, FU.rf, hF⟩
        have hno := par_no hs hi hj (fun z : ParC P m i j => by have q1 := z.1.1.1; have q2 := z.1.1.2; have q3 := z.1.2; have q4 := z.2.1.1.1; have q5 := z.2.1.1.2; have q6 := z.2.1.2; first | omega | exact z46 q2 | exact z54 q5)
        rw [hno, List.append_nil]
        exact hS
      · refine j_aload_n 0 dX11_blameParallels_34 rfl rfl ?_
        refine j_get fX11_68 dX11_blameParallels_35 hP.1 rfl ?_
        refine j_iload_n 2 dX11_blameParallels_38 rfl rfl ?_
        refine J_iald dX11_blameParallels_39 (hP.2.1 18 rfl) ?_ 
        refine J_top (hiA P m j) ?_ (by exact hA j hj)
        refine J_iconst dX11_blameParallels_40 ?_
        refine J_icmp_eq 60 dX11_blameParallels_41 (by decide) (fun c41 => ?_) (fun c41 => ?_) 
        · refine j_vret rfl dX11_blameParallels_60 ?_
          refine ⟨rfl, p, hM, ?_, FU.rf, hF⟩
          have hno := par_no hs hi hj (fun z : ParC P m i j => by have q1 := z.1.1.1; have q2 := z.1.1.2; have q3 := z.1.2; have q4 := z.2.1.1.1; have q5 := z.2.1.1.2; have q6 := z.2.1.2; first | omega | exact z46 q2 | exact z54 q5)
          rw [hno, List.append_nil]
          exact hS
        · refine j_aload_n 0 dX11_blameParallels_44 rfl rfl ?_
          refine j_iload_n 1 dX11_blameParallels_45 rfl rfl ?_
          refine J_callVZ kX11_291 cvX11_begins hP.1 (c_X11_begins hM hZ hI hW hi) rfl rfl rfl rfl rfl dX11_blameParallels_46 rfl rfl (fun z46 => ?_) (fun z46 => ?_)
          · refine J_if_eq 60 dX11_blameParallels_49 (by decide) (fun c49 => absurd c49 (by decide)) (fun c49 => ?_) 
            refine j_aload_n 0 dX11_blameParallels_52 rfl rfl ?_
            refine j_iload_n 2 dX11_blameParallels_53 rfl rfl ?_
            refine J_callVZ kX11_291 cvX11_begins hP.1 (c_X11_begins hM hZ hI hW hj) rfl rfl rfl rfl rfl dX11_blameParallels_54 rfl rfl (fun z54 => ?_) (fun z54 => ?_)
            · refine J_if_ne 61 dX11_blameParallels_57 (by decide) (fun c57 => ?_) (fun c57 => absurd c57 (by decide)) 
              refine j_iload_n 3 dX11_blameParallels_61 rfl rfl ?_
              refine j_aload_n 0 dX11_blameParallels_62 rfl rfl ?_
              refine j_get fX11_68 dX11_blameParallels_63 hP.1 rfl ?_
              refine j_iload_n 1 dX11_blameParallels_66 rfl rfl ?_
              refine J_iald dX11_blameParallels_67 (hP.2.1 18 rfl) ?_ 
              refine J_top (hiA P m i) ?_ (by exact hA i hi)
              refine J_icmp_le 82 dX11_blameParallels_68 (by decide) (fun c68 => ?_) (fun c68 => ?_) 
              · refine j_iload_n 3 dX11_blameParallels_82 rfl rfl ?_
                refine j_aload_n 0 dX11_blameParallels_83 rfl rfl ?_
                refine j_get fX11_68 dX11_blameParallels_84 hP.1 rfl ?_
                refine j_iload_n 1 dX11_blameParallels_87 rfl rfl ?_
                refine J_iald dX11_blameParallels_88 (hP.2.1 18 rfl) ?_ 
                refine J_top (hiA P m i) ?_ (by exact hA i hi)
                refine J_icmp_ge 103 dX11_blameParallels_89 (by decide) (fun c89 => ?_) (fun c89 => ?_) 
                · refine j_vret rfl dX11_blameParallels_103 ?_
                  refine ⟨rfl, p, hM, ?_, FU.rf, hF⟩
                  have hno := par_no hs hi hj (fun z : ParC P m i j => by have q7 := z.2.2; unfold UpDn at q7; omega)
                  rw [hno, List.append_nil]
                  exact hS
                · refine j_iload dX11_blameParallels_92 rfl ?_
                  refine j_aload_n 0 dX11_blameParallels_94 rfl rfl ?_
                  refine j_get fX11_68 dX11_blameParallels_95 hP.1 rfl ?_
                  refine j_iload_n 2 dX11_blameParallels_98 rfl rfl ?_
                  refine J_iald dX11_blameParallels_99 (hP.2.1 18 rfl) ?_ 
                  refine J_top (hiA P m j) ?_ (by exact hA j hj)
                  refine J_icmp_lt 104 dX11_blameParallels_100 (by decide) (fun c100 => ?_) (fun c100 => ?_) 
                  · have hc : ParC P m i j := ⟨⟨⟨c15, z46⟩, c31⟩, ⟨⟨c21, z54⟩, c41⟩, by unfold UpDn; omega⟩
                    have hy := par_yes hs hi hj hc
                    refine j_iload_n 3 dX11_blameParallels_104 rfl rfl ?_
                    refine j_iload dX11_blameParallels_105 rfl ?_
                    refine J_isub dX11_blameParallels_107 ?_
                    refine J_bipush dX11_blameParallels_108 (by decide) ?_
                    refine J_callS1 kX11_13 csJ9_floorMod_7cf53 (c_J9_floorMod_7cf53 (by omega) (by decide) (by decide)) rfl rfl rfl rfl rfl dX11_blameParallels_110 rfl rfl ?_
                    refine j_istore (L' := [(5, _), (4, _), (3, _), (0, _), (1, _), (2, _)]) dX11_blameParallels_113 rfl rfl ?_
                    refine j_iload dX11_blameParallels_115 rfl ?_
                    refine j_aload_n 0 dX11_blameParallels_117 rfl rfl ?_
                    refine j_get fX11_68 dX11_blameParallels_118 hP.1 rfl ?_
                    refine j_iload_n 1 dX11_blameParallels_121 rfl rfl ?_
                    refine J_iald dX11_blameParallels_122 (hP.2.1 18 rfl) ?_ 
                    refine J_top (hiA P m i) ?_ (by exact hA i hi)
                    refine j_aload_n 0 dX11_blameParallels_123 rfl rfl ?_
                    refine j_get fX11_68 dX11_blameParallels_124 hP.1 rfl ?_
                    refine j_iload_n 2 dX11_blameParallels_127 rfl rfl ?_
                    refine J_iald dX11_blameParallels_128 (hP.2.1 18 rfl) ?_ 
                    refine J_top (hiA P m j) ?_ (by exact hA j hj)
                    refine J_isub dX11_blameParallels_129 ?_
                    refine J_bipush dX11_blameParallels_130 (by decide) ?_
                    refine J_callS1 kX11_13 csJ9_floorMod_7cf53 (c_J9_floorMod_7cf53 (by omega) (by decide) (by decide)) rfl rfl rfl rfl rfl dX11_blameParallels_132 rfl rfl ?_
                    refine J_icmp_eq 139 dX11_blameParallels_135 (by decide) (fun c135 => ?_) (fun c135 => ?_) 
                    · refine j_iload dX11_blameParallels_139 rfl ?_
                      refine J_bipush dX11_blameParallels_141 (by decide) ?_
                      refine J_icmp_ne 156 dX11_blameParallels_143 (by decide) (fun c143 => ?_) (fun c143 => ?_) 
                      · refine j_iload dX11_blameParallels_156 rfl ?_
                        refine J_if_ne 171 dX11_blameParallels_158 (by decide) (fun c158 => ?_) (fun c158 => ?_) 
                        · refine j_vret rfl dX11_blameParallels_171 ?_
                          first | (refine ⟨rfl, p', hM, ?_, hU, hF⟩; rw [hy, if_pos ⟨by omega, by omega⟩]; rw [hW.1] at hS; exact hS) | (refine ⟨rfl, p', hM, ?_, hU, hF⟩; rw [hy, if_neg (fun z => by have := z.2; omega), if_pos ⟨by omega, by omega⟩]; rw [hW.1] at hS; exact hS) | (refine ⟨rfl, p, hM, ?_, FU.rf, hF⟩; rw [hy, if_neg (fun z => by have := z.2; omega), if_neg (fun z => by have := z.2; omega), List.append_nil]; exact hS) | (exfalso; omega)
                        · refine j_aload_n 0 dX11_blameParallels_161 rfl rfl ?_
                          refine J_iconst dX11_blameParallels_162 ?_
                          refine J_iconst dX11_blameParallels_163 ?_
                          refine j_iload_n 1 dX11_blameParallels_164 rfl rfl ?_
                          refine J_imul dX11_blameParallels_165 ?_
                          refine j_iload_n 2 dX11_blameParallels_166 rfl rfl ?_
                          refine J_iadd dX11_blameParallels_167 ?_
                          refine J_callVW0 kX11_294 cvX11_blame hP.1 (c_X11_blame hM hZ hI (kd := 1) (ps := 4 * i + j) hS hw (by omega)) rfl rfl rfl rfl rfl dX11_blameParallels_168 rfl rfl (fun h hp => ?_)
                          obtain ⟨p', hM, hS, hU, hF9⟩ := hp
                          have hF := hF.tr hF9
                          have hP := hM.1
                          have hI := hU.mi hI
                          refine j_vret rfl dX11_blameParallels_171 ?_
                          first | (refine ⟨rfl, p', hM, ?_, hU, hF⟩; rw [hy, if_pos ⟨by omega, by omega⟩]; rw [hW.1] at hS; exact hS) | (refine ⟨rfl, p', hM, ?_, hU, hF⟩; rw [hy, if_neg (fun z => by have := z.2; omega), if_pos ⟨by omega, by omega⟩]; rw [hW.1] at hS; exact hS) | (refine ⟨rfl, p, hM, ?_, FU.rf, hF⟩; rw [hy, if_neg (fun z => by have := z.2; omega), if_neg (fun z => by have := z.2; omega), List.append_nil]; exact hS) | (exfalso; omega)
                      · refine j_aload_n 0 dX11_blameParallels_146 rfl rfl ?_
                        refine J_iconst dX11_blameParallels_147 ?_
                        refine J_iconst dX11_blameParallels_148 ?_
                        refine j_iload_n 1 dX11_blameParallels_149 rfl rfl ?_
                        refine J_imul dX11_blameParallels_150 ?_
                        refine j_iload_n 2 dX11_blameParallels_151 rfl rfl ?_
                        refine J_iadd dX11_blameParallels_152 ?_
                        refine J_callVW0 kX11_294 cvX11_blame hP.1 (c_X11_blame hM hZ hI (kd := 0) (ps := 4 * i + j) hS hw (by omega)) rfl rfl rfl rfl rfl dX11_blameParallels_153 rfl rfl (fun h hp => ?_)
                        obtain ⟨p', hM, hS, hU, hF9⟩ := hp
                        have hF := hF.tr hF9
                        have hP := hM.1
                        have hI := hU.mi hI
                        refine j_iload dX11_blameParallels_156 rfl ?_
                        refine J_if_ne 171 dX11_blameParallels_158 (by decide) (fun c158 => ?_) (fun c158 => ?_) 
                        · refine j_vret rfl dX11_blameParallels_171 ?_
                          first | (refine ⟨rfl, p', hM, ?_, hU, hF⟩; rw [hy, if_pos ⟨by omega, by omega⟩]; rw [hW.1] at hS; exact hS) | (refine ⟨rfl, p', hM, ?_, hU, hF⟩; rw [hy, if_neg (fun z => by have := z.2; omega), if_pos ⟨by omega, by omega⟩]; rw [hW.1] at hS; exact hS) | (refine ⟨rfl, p, hM, ?_, FU.rf, hF⟩; rw [hy, if_neg (fun z => by have := z.2; omega), if_neg (fun z => by have := z.2; omega), List.append_nil]; exact hS) | (exfalso; omega)
                        · refine j_aload_n 0 dX11_blameParallels_161 rfl rfl ?_
                          refine J_iconst dX11_blameParallels_162 ?_
                          refine J_iconst dX11_blameParallels_163 ?_
                          refine j_iload_n 1 dX11_blameParallels_164 rfl rfl ?_
                          refine J_imul dX11_blameParallels_165 ?_
                          refine j_iload_n 2 dX11_blameParallels_166 rfl rfl ?_
                          refine J_iadd dX11_blameParallels_167 ?_
                          refine J_callVW0 kX11_294 cvX11_blame hP.1 (c_X11_blame hM hZ hI (kd := 1) (ps := 4 * i + j) hS hw (by omega)) rfl rfl rfl rfl rfl dX11_blameParallels_168 rfl rfl (fun h hp => ?_)
                          obtain ⟨p', hM, hS, hU, hF9⟩ := hp
                          have hF := hF.tr hF9
                          have hP := hM.1
                          have hI := hU.mi hI
                          refine j_vret rfl dX11_blameParallels_171 ?_
                          first | (refine ⟨rfl, p', hM, ?_, hU, hF⟩; rw [hy, if_pos ⟨by omega, by omega⟩]; rw [hW.1] at hS; exact hS) | (refine ⟨rfl, p', hM, ?_, hU, hF⟩; rw [hy, if_neg (fun z => by have := z.2; omega), if_pos ⟨by omega, by omega⟩]; rw [hW.1] at hS; exact hS) | (refine ⟨rfl, p, hM, ?_, FU.rf, hF⟩; rw [hy, if_neg (fun z => by have := z.2; omega), if_neg (fun z => by have := z.2; omega), List.append_nil]; exact hS) | (exfalso; omega)
                    · refine j_vret rfl dX11_blameParallels_138 ?_
                      refine ⟨rfl, p, hM, ?_, FU.rf, hF⟩
                      rw [hy, if_neg (fun z => by have := z.1; omega), if_neg (fun z => by have := z.1; omega), List.append_nil]
                      exact hS
                  · refine j_vret rfl dX11_blameParallels_103 ?_
                    refine ⟨rfl, p, hM, ?_, FU.rf, hF⟩
                    have hno := par_no hs hi hj (fun z : ParC P m i j => by have q7 := z.2.2; unfold UpDn at q7; omega)
                    rw [hno, List.append_nil]
                    exact hS
              · refine j_iload dX11_blameParallels_71 rfl ?_
                refine j_aload_n 0 dX11_blameParallels_73 rfl rfl ?_
                refine j_get fX11_68 dX11_blameParallels_74 hP.1 rfl ?_
                refine j_iload_n 2 dX11_blameParallels_77 rfl rfl ?_
                refine J_iald dX11_blameParallels_78 (hP.2.1 18 rfl) ?_ 
                refine J_top (hiA P m j) ?_ (by exact hA j hj)
                refine J_icmp_gt 104 dX11_blameParallels_79 (by decide) (fun c79 => ?_) (fun c79 => ?_) 
                · have hc : ParC P m i j := ⟨⟨⟨c15, z46⟩, c31⟩, ⟨⟨c21, z54⟩, c41⟩, by unfold UpDn; omega⟩
                  have hy := par_yes hs hi hj hc
                  refine j_iload_n 3 dX11_blameParallels_104 rfl rfl ?_
                  refine j_iload dX11_blameParallels_105 rfl ?_
                  refine J_isub dX11_blameParallels_107 ?_
                  refine J_bipush dX11_blameParallels_108 (by decide) ?_
                  refine J_callS1 kX11_13 csJ9_floorMod_7cf53 (c_J9_floorMod_7cf53 (by omega) (by decide) (by decide)) rfl rfl rfl rfl rfl dX11_blameParallels_110 rfl rfl ?_
                  refine j_istore (L' := [(5, _), (4, _), (3, _), (0, _), (1, _), (2, _)]) dX11_blameParallels_113 rfl rfl ?_
                  refine j_iload dX11_blameParallels_115 rfl ?_
                  refine j_aload_n 0 dX11_blameParallels_117 rfl rfl ?_
                  refine j_get fX11_68 dX11_blameParallels_118 hP.1 rfl ?_
                  refine j_iload_n 1 dX11_blameParallels_121 rfl rfl ?_
                  refine J_iald dX11_blameParallels_122 (hP.2.1 18 rfl) ?_ 
                  refine J_top (hiA P m i) ?_ (by exact hA i hi)
                  refine j_aload_n 0 dX11_blameParallels_123 rfl rfl ?_
                  refine j_get fX11_68 dX11_blameParallels_124 hP.1 rfl ?_
                  refine j_iload_n 2 dX11_blameParallels_127 rfl rfl ?_
                  refine J_iald dX11_blameParallels_128 (hP.2.1 18 rfl) ?_ 
                  refine J_top (hiA P m j) ?_ (by exact hA j hj)
                  refine J_isub dX11_blameParallels_129 ?_
                  refine J_bipush dX11_blameParallels_130 (by decide) ?_
                  refine J_callS1 kX11_13 csJ9_floorMod_7cf53 (c_J9_floorMod_7cf53 (by omega) (by decide) (by decide)) rfl rfl rfl rfl rfl dX11_blameParallels_132 rfl rfl ?_
                  refine J_icmp_eq 139 dX11_blameParallels_135 (by decide) (fun c135 => ?_) (fun c135 => ?_) 
                  · refine j_iload dX11_blameParallels_139 rfl ?_
                    refine J_bipush dX11_blameParallels_141 (by decide) ?_
                    refine J_icmp_ne 156 dX11_blameParallels_143 (by decide) (fun c143 => ?_) (fun c143 => ?_) 
                    · refine j_iload dX11_blameParallels_156 rfl ?_
                      refine J_if_ne 171 dX11_blameParallels_158 (by decide) (fun c158 => ?_) (fun c158 => ?_) 
                      · refine j_vret rfl dX11_blameParallels_171 ?_
                        first | (refine ⟨rfl, p', hM, ?_, hU, hF⟩; rw [hy, if_pos ⟨by omega, by omega⟩]; rw [hW.1] at hS; exact hS) | (refine ⟨rfl, p', hM, ?_, hU, hF⟩; rw [hy, if_neg (fun z => by have := z.2; omega), if_pos ⟨by omega, by omega⟩]; rw [hW.1] at hS; exact hS) | (refine ⟨rfl, p, hM, ?_, FU.rf, hF⟩; rw [hy, if_neg (fun z => by have := z.2; omega), if_neg (fun z => by have := z.2; omega), List.append_nil]; exact hS) | (exfalso; omega)
                      · refine j_aload_n 0 dX11_blameParallels_161 rfl rfl ?_
                        refine J_iconst dX11_blameParallels_162 ?_
                        refine J_iconst dX11_blameParallels_163 ?_
                        refine j_iload_n 1 dX11_blameParallels_164 rfl rfl ?_
                        refine J_imul dX11_blameParallels_165 ?_
                        refine j_iload_n 2 dX11_blameParallels_166 rfl rfl ?_
                        refine J_iadd dX11_blameParallels_167 ?_
                        refine J_callVW0 kX11_294 cvX11_blame hP.1 (c_X11_blame hM hZ hI (kd := 1) (ps := 4 * i + j) hS hw (by omega)) rfl rfl rfl rfl rfl dX11_blameParallels_168 rfl rfl (fun h hp => ?_)
                        obtain ⟨p', hM, hS, hU, hF9⟩ := hp
                        have hF := hF.tr hF9
                        have hP := hM.1
                        have hI := hU.mi hI
                        refine j_vret rfl dX11_blameParallels_171 ?_
                        first | (refine ⟨rfl, p', hM, ?_, hU, hF⟩; rw [hy, if_pos ⟨by omega, by omega⟩]; rw [hW.1] at hS; exact hS) | (refine ⟨rfl, p', hM, ?_, hU, hF⟩; rw [hy, if_neg (fun z => by have := z.2; omega), if_pos ⟨by omega, by omega⟩]; rw [hW.1] at hS; exact hS) | (refine ⟨rfl, p, hM, ?_, FU.rf, hF⟩; rw [hy, if_neg (fun z => by have := z.2; omega), if_neg (fun z => by have := z.2; omega), List.append_nil]; exact hS) | (exfalso; omega)
                    · refine j_aload_n 0 dX11_blameParallels_146 rfl rfl ?_
                      refine J_iconst dX11_blameParallels_147 ?_
                      refine J_iconst dX11_blameParallels_148 ?_
                      refine j_iload_n 1 dX11_blameParallels_149 rfl rfl ?_
                      refine J_imul dX11_blameParallels_150 ?_
                      refine j_iload_n 2 dX11_blameParallels_151 rfl rfl ?_
                      refine J_iadd dX11_blameParallels_152 ?_
                      refine J_callVW0 kX11_294 cvX11_blame hP.1 (c_X11_blame hM hZ hI (kd := 0) (ps := 4 * i + j) hS hw (by omega)) rfl rfl rfl rfl rfl dX11_blameParallels_153 rfl rfl (fun h hp => ?_)
                      obtain ⟨p', hM, hS, hU, hF9⟩ := hp
                      have hF := hF.tr hF9
                      have hP := hM.1
                      have hI := hU.mi hI
                      refine j_iload dX11_blameParallels_156 rfl ?_
                      refine J_if_ne 171 dX11_blameParallels_158 (by decide) (fun c158 => ?_) (fun c158 => ?_) 
                      · refine j_vret rfl dX11_blameParallels_171 ?_
                        first | (refine ⟨rfl, p', hM, ?_, hU, hF⟩; rw [hy, if_pos ⟨by omega, by omega⟩]; rw [hW.1] at hS; exact hS) | (refine ⟨rfl, p', hM, ?_, hU, hF⟩; rw [hy, if_neg (fun z => by have := z.2; omega), if_pos ⟨by omega, by omega⟩]; rw [hW.1] at hS; exact hS) | (refine ⟨rfl, p, hM, ?_, FU.rf, hF⟩; rw [hy, if_neg (fun z => by have := z.2; omega), if_neg (fun z => by have := z.2; omega), List.append_nil]; exact hS) | (exfalso; omega)
                      · refine j_aload_n 0 dX11_blameParallels_161 rfl rfl ?_
                        refine J_iconst dX11_blameParallels_162 ?_
                        refine J_iconst dX11_blameParallels_163 ?_
                        refine j_iload_n 1 dX11_blameParallels_164 rfl rfl ?_
                        refine J_imul dX11_blameParallels_165 ?_
                        refine j_iload_n 2 dX11_blameParallels_166 rfl rfl ?_
                        refine J_iadd dX11_blameParallels_167 ?_
                        refine J_callVW0 kX11_294 cvX11_blame hP.1 (c_X11_blame hM hZ hI (kd := 1) (ps := 4 * i + j) hS hw (by omega)) rfl rfl rfl rfl rfl dX11_blameParallels_168 rfl rfl (fun h hp => ?_)
                        obtain ⟨p', hM, hS, hU, hF9⟩ := hp
                        have hF := hF.tr hF9
                        have hP := hM.1
                        have hI := hU.mi hI
                        refine j_vret rfl dX11_blameParallels_171 ?_
                        first | (refine ⟨rfl, p', hM, ?_, hU, hF⟩; rw [hy, if_pos ⟨by omega, by omega⟩]; rw [hW.1] at hS; exact hS) | (refine ⟨rfl, p', hM, ?_, hU, hF⟩; rw [hy, if_neg (fun z => by have := z.2; omega), if_pos ⟨by omega, by omega⟩]; rw [hW.1] at hS; exact hS) | (refine ⟨rfl, p, hM, ?_, FU.rf, hF⟩; rw [hy, if_neg (fun z => by have := z.2; omega), if_neg (fun z => by have := z.2; omega), List.append_nil]; exact hS) | (exfalso; omega)
                  · refine j_vret rfl dX11_blameParallels_138 ?_
                    refine ⟨rfl, p, hM, ?_, FU.rf, hF⟩
                    rw [hy, if_neg (fun z => by have := z.1; omega), if_neg (fun z => by have := z.1; omega), List.append_nil]
                    exact hS
                · refine j_iload_n 3 dX11_blameParallels_82 rfl rfl ?_
                  refine j_aload_n 0 dX11_blameParallels_83 rfl rfl ?_
                  refine j_get fX11_68 dX11_blameParallels_84 hP.1 rfl ?_
                  refine j_iload_n 1 dX11_blameParallels_87 rfl rfl ?_
                  refine J_iald dX11_blameParallels_88 (hP.2.1 18 rfl) ?_ 
                  refine J_top (hiA P m i) ?_ (by exact hA i hi)
                  refine J_icmp_ge 103 dX11_blameParallels_89 (by decide) (fun c89 => ?_) (fun c89 => ?_) 
                  · refine j_vret rfl dX11_blameParallels_103 ?_
                    refine ⟨rfl, p, hM, ?_, FU.rf, hF⟩
                    have hno := par_no hs hi hj (fun z : ParC P m i j => by have q7 := z.2.2; unfold UpDn at q7; omega)
                    rw [hno, List.append_nil]
                    exact hS
                  · refine j_iload dX11_blameParallels_92 rfl ?_
                    refine j_aload_n 0 dX11_blameParallels_94 rfl rfl ?_
                    refine j_get fX11_68 dX11_blameParallels_95 hP.1 rfl ?_
                    refine j_iload_n 2 dX11_blameParallels_98 rfl rfl ?_
                    refine J_iald dX11_blameParallels_99 (hP.2.1 18 rfl) ?_ 
                    refine J_top (hiA P m j) ?_ (by exact hA j hj)
                    refine J_icmp_lt 104 dX11_blameParallels_100 (by decide) (fun c100 => ?_) (fun c100 => ?_) 
                    · have hc : ParC P m i j := ⟨⟨⟨c15, z46⟩, c31⟩, ⟨⟨c21, z54⟩, c41⟩, by unfold UpDn; omega⟩
                      have hy := par_yes hs hi hj hc
                      refine j_iload_n 3 dX11_blameParallels_104 rfl rfl ?_
                      refine j_iload dX11_blameParallels_105 rfl ?_
                      refine J_isub dX11_blameParallels_107 ?_
                      refine J_bipush dX11_blameParallels_108 (by decide) ?_
                      refine J_callS1 kX11_13 csJ9_floorMod_7cf53 (c_J9_floorMod_7cf53 (by omega) (by decide) (by decide)) rfl rfl rfl rfl rfl dX11_blameParallels_110 rfl rfl ?_
                      refine j_istore (L' := [(5, _), (4, _), (3, _), (0, _), (1, _), (2, _)]) dX11_blameParallels_113 rfl rfl ?_
                      refine j_iload dX11_blameParallels_115 rfl ?_
                      refine j_aload_n 0 dX11_blameParallels_117 rfl rfl ?_
                      refine j_get fX11_68 dX11_blameParallels_118 hP.1 rfl ?_
                      refine j_iload_n 1 dX11_blameParallels_121 rfl rfl ?_
                      refine J_iald dX11_blameParallels_122 (hP.2.1 18 rfl) ?_ 
                      refine J_top (hiA P m i) ?_ (by exact hA i hi)
                      refine j_aload_n 0 dX11_blameParallels_123 rfl rfl ?_
                      refine j_get fX11_68 dX11_blameParallels_124 hP.1 rfl ?_
                      refine j_iload_n 2 dX11_blameParallels_127 rfl rfl ?_
                      refine J_iald dX11_blameParallels_128 (hP.2.1 18 rfl) ?_ 
                      refine J_top (hiA P m j) ?_ (by exact hA j hj)
                      refine J_isub dX11_blameParallels_129 ?_
                      refine J_bipush dX11_blameParallels_130 (by decide) ?_
                      refine J_callS1 kX11_13 csJ9_floorMod_7cf53 (c_J9_floorMod_7cf53 (by omega) (by decide) (by decide)) rfl rfl rfl rfl rfl dX11_blameParallels_132 rfl rfl ?_
                      refine J_icmp_eq 139 dX11_blameParallels_135 (by decide) (fun c135 => ?_) (fun c135 => ?_) 
                      · refine j_iload dX11_blameParallels_139 rfl ?_
                        refine J_bipush dX11_blameParallels_141 (by decide) ?_
                        refine J_icmp_ne 156 dX11_blameParallels_143 (by decide) (fun c143 => ?_) (fun c143 => ?_) 
                        · refine j_iload dX11_blameParallels_156 rfl ?_
                          refine J_if_ne 171 dX11_blameParallels_158 (by decide) (fun c158 => ?_) (fun c158 => ?_) 
                          · refine j_vret rfl dX11_blameParallels_171 ?_
                            first | (refine ⟨rfl, p', hM, ?_, hU, hF⟩; rw [hy, if_pos ⟨by omega, by omega⟩]; rw [hW.1] at hS; exact hS) | (refine ⟨rfl, p', hM, ?_, hU, hF⟩; rw [hy, if_neg (fun z => by have := z.2; omega), if_pos ⟨by omega, by omega⟩]; rw [hW.1] at hS; exact hS) | (refine ⟨rfl, p, hM, ?_, FU.rf, hF⟩; rw [hy, if_neg (fun z => by have := z.2; omega), if_neg (fun z => by have := z.2; omega), List.append_nil]; exact hS) | (exfalso; omega)
                          · refine j_aload_n 0 dX11_blameParallels_161 rfl rfl ?_
                            refine J_iconst dX11_blameParallels_162 ?_
                            refine J_iconst dX11_blameParallels_163 ?_
                            refine j_iload_n 1 dX11_blameParallels_164 rfl rfl ?_
                            refine J_imul dX11_blameParallels_165 ?_
                            refine j_iload_n 2 dX11_blameParallels_166 rfl rfl ?_
                            refine J_iadd dX11_blameParallels_167 ?_
                            refine J_callVW0 kX11_294 cvX11_blame hP.1 (c_X11_blame hM hZ hI (kd := 1) (ps := 4 * i + j) hS hw (by omega)) rfl rfl rfl rfl rfl dX11_blameParallels_168 rfl rfl (fun h hp => ?_)
                            obtain ⟨p', hM, hS, hU, hF9⟩ := hp
                            have hF := hF.tr hF9
                            have hP := hM.1
                            have hI := hU.mi hI
                            refine j_vret rfl dX11_blameParallels_171 ?_
                            first | (refine ⟨rfl, p', hM, ?_, hU, hF⟩; rw [hy, if_pos ⟨by omega, by omega⟩]; rw [hW.1] at hS; exact hS) | (refine ⟨rfl, p', hM, ?_, hU, hF⟩; rw [hy, if_neg (fun z => by have := z.2; omega), if_pos ⟨by omega, by omega⟩]; rw [hW.1] at hS; exact hS) | (refine ⟨rfl, p, hM, ?_, FU.rf, hF⟩; rw [hy, if_neg (fun z => by have := z.2; omega), if_neg (fun z => by have := z.2; omega), List.append_nil]; exact hS) | (exfalso; omega)
                        · refine j_aload_n 0 dX11_blameParallels_146 rfl rfl ?_
                          refine J_iconst dX11_blameParallels_147 ?_
                          refine J_iconst dX11_blameParallels_148 ?_
                          refine j_iload_n 1 dX11_blameParallels_149 rfl rfl ?_
                          refine J_imul dX11_blameParallels_150 ?_
                          refine j_iload_n 2 dX11_blameParallels_151 rfl rfl ?_
                          refine J_iadd dX11_blameParallels_152 ?_
                          refine J_callVW0 kX11_294 cvX11_blame hP.1 (c_X11_blame hM hZ hI (kd := 0) (ps := 4 * i + j) hS hw (by omega)) rfl rfl rfl rfl rfl dX11_blameParallels_153 rfl rfl (fun h hp => ?_)
                          obtain ⟨p', hM, hS, hU, hF9⟩ := hp
                          have hF := hF.tr hF9
                          have hP := hM.1
                          have hI := hU.mi hI
                          refine j_iload dX11_blameParallels_156 rfl ?_
                          refine J_if_ne 171 dX11_blameParallels_158 (by decide) (fun c158 => ?_) (fun c158 => ?_) 
                          · refine j_vret rfl dX11_blameParallels_171 ?_
                            first | (refine ⟨rfl, p', hM, ?_, hU, hF⟩; rw [hy, if_pos ⟨by omega, by omega⟩]; rw [hW.1] at hS; exact hS) | (refine ⟨rfl, p', hM, ?_, hU, hF⟩; rw [hy, if_neg (fun z => by have := z.2; omega), if_pos ⟨by omega, by omega⟩]; rw [hW.1] at hS; exact hS) | (refine ⟨rfl, p, hM, ?_, FU.rf, hF⟩; rw [hy, if_neg (fun z => by have := z.2; omega), if_neg (fun z => by have := z.2; omega), List.append_nil]; exact hS) | (exfalso; omega)
                          · refine j_aload_n 0 dX11_blameParallels_161 rfl rfl ?_
                            refine J_iconst dX11_blameParallels_162 ?_
                            refine J_iconst dX11_blameParallels_163 ?_
                            refine j_iload_n 1 dX11_blameParallels_164 rfl rfl ?_
                            refine J_imul dX11_blameParallels_165 ?_
                            refine j_iload_n 2 dX11_blameParallels_166 rfl rfl ?_
                            refine J_iadd dX11_blameParallels_167 ?_
                            refine J_callVW0 kX11_294 cvX11_blame hP.1 (c_X11_blame hM hZ hI (kd := 1) (ps := 4 * i + j) hS hw (by omega)) rfl rfl rfl rfl rfl dX11_blameParallels_168 rfl rfl (fun h hp => ?_)
                            obtain ⟨p', hM, hS, hU, hF9⟩ := hp
                            have hF := hF.tr hF9
                            have hP := hM.1
                            have hI := hU.mi hI
                            refine j_vret rfl dX11_blameParallels_171 ?_
                            first | (refine ⟨rfl, p', hM, ?_, hU, hF⟩; rw [hy, if_pos ⟨by omega, by omega⟩]; rw [hW.1] at hS; exact hS) | (refine ⟨rfl, p', hM, ?_, hU, hF⟩; rw [hy, if_neg (fun z => by have := z.2; omega), if_pos ⟨by omega, by omega⟩]; rw [hW.1] at hS; exact hS) | (refine ⟨rfl, p, hM, ?_, FU.rf, hF⟩; rw [hy, if_neg (fun z => by have := z.2; omega), if_neg (fun z => by have := z.2; omega), List.append_nil]; exact hS) | (exfalso; omega)
                      · refine j_vret rfl dX11_blameParallels_138 ?_
                        refine ⟨rfl, p, hM, ?_, FU.rf, hF⟩
                        rw [hy, if_neg (fun z => by have := z.1; omega), if_neg (fun z => by have := z.1; omega), List.append_nil]
                        exact hS
                    · refine j_vret rfl dX11_blameParallels_103 ?_
                      refine ⟨rfl, p, hM, ?_, FU.rf, hF⟩
                      have hno := par_no hs hi hj (fun z : ParC P m i j => by have q7 := z.2.2; unfold UpDn at q7; omega)
                      rw [hno, List.append_nil]
                      exact hS
            · refine J_if_ne 61 dX11_blameParallels_57 (by decide) (fun c57 => absurd c57 (by decide)) (fun c57 => ?_) 
              refine j_vret rfl dX11_blameParallels_60 ?_
              refine ⟨rfl, p, hM, ?_, FU.rf, hF⟩
              have hno := par_no hs hi hj (fun z : ParC P m i j => by have q1 := z.1.1.1; have q2 := z.1.1.2; have q3 := z.1.2; have q4 := z.2.1.1.1; have q5 := z.2.1.1.2; have q6 := z.2.1.2; first | omega | exact z46 q2 | exact z54 q5)
              rw [hno, List.append_nil]
              exact hS
          · refine J_if_eq 60 dX11_blameParallels_49 (by decide) (fun c49 => ?_) (fun c49 => absurd c49 (by decide)) 
            refine j_vret rfl dX11_blameParallels_60 ?_
            refine ⟨rfl, p, hM, ?_, FU.rf, hF⟩
            have hno := par_no hs hi hj (fun z : ParC P m i j => by have q1 := z.1.1.1; have q2 := z.1.1.2; have q3 := z.1.2; have q4 := z.2.1.1.1; have q5 := z.2.1.1.2; have q6 := z.2.1.2; first | omega | exact z46 q2 | exact z54 q5)
            rw [hno, List.append_nil]
            exact hS
theorem nte_eq {P : Nat → OS} (hs : scoOK P) {m : Nat} {k : Nat} (hk : k < 4) : nteM P m k = if hiM P m k ≠ -1 ∧ begB P m k then (if (1 ≤ evM P m k ∧ (P k).2 0 (evM P m k - 1) ≠ 0) ∧ 12 < (((P k).2 2 (evM P m k) - (P k).2 2 (evM P m k - 1)).natAbs : Int) then [(3, momT P m, (k : Int))] else []) ++ (if (P k).2 0 (evM P m k) ≠ 0 ∧ ((P k).2 0 (evM P m k) < (P k).1 9 ∨ (P k).1 10 < (P k).2 0 (evM P m k)) then [(4, momT P m, (k : Int))] else []) else [] := by
  unfold nteM
  have hb := bgM_ne hs (m := m) (k := (k : Int)) ⟨by omega, by omega⟩
  by_cases c : bgM P m k ≠ 0
  · rw [if_pos c, if_pos (hb.mp c)]
    obtain ⟨c1, c2, c3⟩ := hb.mp c
    rw [Int.toNat_natCast] at c2 c3
    unfold nteL
    have e1 : bgE (P k) (evM P m k) = momT P m := by show (if _ then _ else _) = _; rw [if_pos c2]; exact c3
    have e2 : htE (P k) (evM P m k) = (P k).2 2 (evM P m k) := if_pos c2
    rw [e1, e2]
    congr 1
    · by_cases d : 1 ≤ evM P m k ∧ (P k).2 0 (evM P m k - 1) ≠ 0
      · have hi : inP (P k) (evM P m k - 1) := ⟨by omega, by have := c2.2; omega⟩
        have e3 : htE (P k) (evM P m k - 1) = (P k).2 2 (evM P m k - 1) := if_pos hi
        rw [e3]
        by_cases f : 12 < (((P k).2 2 (evM P m k) - (P k).2 2 (evM P m k - 1)).natAbs : Int)
        · rw [if_pos ⟨⟨hi, d.2⟩, f⟩, if_pos ⟨d, f⟩]
        · rw [if_neg (fun z => f z.2), if_neg (fun z => f z.2)]
      · rw [if_neg (fun z => d ⟨by have := z.1.1.1; omega, z.1.2⟩), if_neg (fun z => d z.1)]
    · by_cases d : (P k).2 0 (evM P m k) ≠ 0 ∧ ((P k).2 0 (evM P m k) < (P k).1 9 ∨ (P k).1 10 < (P k).2 0 (evM P m k))
      · rw [if_pos ⟨c2, d⟩, if_pos d]
      · rw [if_neg (fun z => d z.2), if_neg d]
  · rw [if_neg c, if_neg (fun z => c (hb.mpr z))]
set_option maxRecDepth 100000 in
theorem c_X11_blamePart {l : Launch} {G : jG} {h : jH} {a : Nat} {d : MD} {mp P : Nat → OS} {p p0 : OS} {Z : Nat → Nat} {w : Int} {L : FL} {m k : Nat} (hM : Mod G h a d mp p) (hZ : Mz a d Z) (hI : MI d P p0 mp p.2) (hW : WS P (m + 1) p) (hk : k < 4) (hS : FS w L p) (hw : rg w) (hL : L.length ≤ 2900) : jC l G yX11_blamePart mX11_blamePart [.ref a, vI (k : Int)] h (jW oN (fun h' => ∃ p', Mod G h' a d mp p' ∧ FS w (L ++ nteM P m k) p' ∧ FU p p' ∧ Fr (FtM a d) h h')) := by
  refine j_body (by decide +kernel) ⟨rfl, rfl⟩ rfl ?_
  have hP := hM.1
  have hF : Fr (FtM a d) h h := Fr.rf
  obtain ⟨Fa, hpa, hFa⟩ := hM.2.1
  have hs := hI.1.1
  have hWt : p.1 15 = momT P m := hW.1
  have hU : FU p p := FU.rf
  have hPk := hM.2.2 k hk
  have hmk := hI.2.1 k hk
  have hpk := hs k hk
  have hn7 : 0 ≤ (P k).1 7 ∧ (P k).1 7 ≤ 512 := hpk.1
  have hr := evM_rg hs (m := m) hk
  refine j_aload_n 0 dX11_blamePart_0 rfl rfl ?_
  refine j_get fX11_62 dX11_blamePart_1 hP.1 rfl ?_
  refine j_iload_n 1 dX11_blamePart_4 rfl rfl ?_
  refine J_iald dX11_blamePart_5 (hP.2.1 16 rfl) ?_ 
  refine J_top (evM P m k) ?_ (by (have g := hW.her (k := (k : Int)) ⟨by omega, by omega⟩; rw [Int.toNat_natCast] at g; exact g))
  refine j_istore_n 2 (L' := [(2, _), (0, _), (1, _)]) dX11_blamePart_6 rfl rfl rfl ?_
  refine j_aload_n 0 dX11_blamePart_7 rfl rfl ?_
  refine j_iload_n 1 dX11_blamePart_8 rfl rfl ?_
  refine J_callVZ kX11_291 cvX11_begins hP.1 (c_X11_begins hM hZ hI hW ⟨by omega, by omega⟩) rfl rfl rfl rfl rfl dX11_blamePart_9 rfl rfl (fun z9 => ?_) (fun z9 => ?_)
  · refine J_if_eq 28 dX11_blamePart_12 (by decide) (fun c12 => absurd c12 (by decide)) (fun c12 => ?_) 
    have hi : inP (P k) (evM P m k) := by have g := z9.1; rw [Int.toNat_natCast] at g; exact g
    have hi00 := hi.1
    have hi01 := hi.2
    refine j_aload_n 0 dX11_blamePart_15 rfl rfl ?_
    refine j_get fX11_24 dX11_blamePart_16 hP.1 rfl ?_
    refine j_iload_n 1 dX11_blamePart_19 rfl rfl ?_
    refine J_qaldM dX11_blamePart_20 hpa (by rw [Int.toNat_natCast]; exact hFa k hk) ?_ 
    refine j_iload_n 2 dX11_blamePart_21 rfl rfl ?_
    refine J_callVZ kX11_137 cvX10_isNote hPk.1 (c_X10_isNote hPk hmk hpk hi) rfl rfl rfl rfl rfl dX11_blamePart_22 rfl rfl (fun z22 => ?_) (fun z22 => ?_)
    · refine J_if_ne 29 dX11_blamePart_25 (by decide) (fun c25 => ?_) (fun c25 => absurd c25 (by decide)) 
      have hno := z22
      have hb9 : hiM P m k ≠ -1 ∧ begB P m k := ⟨(hiM_ne hs ⟨by omega, by omega⟩).mpr (by rw [Int.toNat_natCast]; exact ⟨hi, hno⟩), z9⟩
      have hnq := nte_eq hs (m := m) hk
      rw [if_pos hb9] at hnq
      have zh := (hpk.2.1 _ hi.1 hi.2).2.2.1
      refine j_iload_n 2 dX11_blamePart_29 rfl rfl ?_
      refine J_if_le 85 dX11_blamePart_30 (by decide) (fun c30 => ?_) (fun c30 => ?_) 
      · refine j_aload_n 0 dX11_blamePart_85 rfl rfl ?_
        refine j_get fX11_24 dX11_blamePart_86 hP.1 rfl ?_
        refine j_iload_n 1 dX11_blamePart_89 rfl rfl ?_
        refine J_qaldM dX11_blamePart_90 hpa (by rw [Int.toNat_natCast]; exact hFa k hk) ?_ 
        refine j_iload_n 2 dX11_blamePart_91 rfl rfl ?_
        refine J_callVZ kX11_158 cvX10_isOut hPk.1 (c_X10_isOut hPk hmk hpk hi) rfl rfl rfl rfl rfl dX11_blamePart_92 rfl rfl (fun z92 => ?_) (fun z92 => ?_)
        · refine J_if_eq 104 dX11_blamePart_95 (by decide) (fun c95 => absurd c95 (by decide)) (fun c95 => ?_) 
          refine j_aload_n 0 dX11_blamePart_98 rfl rfl ?_
          refine J_iconst dX11_blamePart_99 ?_
          refine j_iload_n 1 dX11_blamePart_100 rfl rfl ?_
          refine J_callVW0 kX11_294 cvX11_blame hP.1 (c_X11_blame hM hZ hI (kd := 4) (ps := (k : Int)) hS hw (by omega)) rfl rfl rfl rfl rfl dX11_blamePart_101 rfl rfl (fun h hp => ?_)
          obtain ⟨p1, hM, hS, hU1, hF9⟩ := hp
          have hF := hF.tr hF9
          have hP := hM.1
          have hW := hU1.ws hW
          have hI := hU1.mi hI
          have hU := hU.tr hU1
          have hPk := hM.2.2 k hk
          obtain ⟨Fa, hpa, hFa⟩ := hM.2.1
          rw [hWt] at hS
          refine j_vret rfl dX11_blamePart_104 ?_
          refine ⟨rfl, _, hM, ?_, hU, hF⟩
          rw [hnq]
          first
          | (rw [if_pos ⟨⟨by omega, z42⟩, by omega⟩, if_pos z92]; rw [List.append_assoc] at hS; exact hS)
          | (rw [if_pos ⟨⟨by omega, z42⟩, by omega⟩, if_neg z92, List.append_nil]; exact hS)
          | (rw [if_neg (fun z => by have := z.2; omega), if_pos z92, List.nil_append]; exact hS)
          | (rw [if_neg (fun z => by have := z.2; omega), if_neg z92, List.append_nil, List.append_nil]; exact hS)
          | (rw [if_neg (fun z => z42 z.1.2), if_pos z92, List.nil_append]; exact hS)
          | (rw [if_neg (fun z => z42 z.1.2), if_neg z92, List.append_nil, List.append_nil]; exact hS)
          | (rw [if_neg (fun z => by have := z.1.1; omega), if_pos z92, List.nil_append]; exact hS)
          | (rw [if_neg (fun z => by have := z.1.1; omega), if_neg z92, List.append_nil, List.append_nil]; exact hS)
        · refine J_if_eq 104 dX11_blamePart_95 (by decide) (fun c95 => ?_) (fun c95 => absurd c95 (by decide)) 
          refine j_vret rfl dX11_blamePart_104 ?_
          refine ⟨rfl, _, hM, ?_, hU, hF⟩
          rw [hnq]
          first
          | (rw [if_pos ⟨⟨by omega, z42⟩, by omega⟩, if_pos z92]; rw [List.append_assoc] at hS; exact hS)
          | (rw [if_pos ⟨⟨by omega, z42⟩, by omega⟩, if_neg z92, List.append_nil]; exact hS)
          | (rw [if_neg (fun z => by have := z.2; omega), if_pos z92, List.nil_append]; exact hS)
          | (rw [if_neg (fun z => by have := z.2; omega), if_neg z92, List.append_nil, List.append_nil]; exact hS)
          | (rw [if_neg (fun z => z42 z.1.2), if_pos z92, List.nil_append]; exact hS)
          | (rw [if_neg (fun z => z42 z.1.2), if_neg z92, List.append_nil, List.append_nil]; exact hS)
          | (rw [if_neg (fun z => by have := z.1.1; omega), if_pos z92, List.nil_append]; exact hS)
          | (rw [if_neg (fun z => by have := z.1.1; omega), if_neg z92, List.append_nil, List.append_nil]; exact hS)
      · have hi1 : inP (P k) (evM P m k - 1) := ⟨by omega, by omega⟩
        have zh1 := (hpk.2.1 _ hi1.1 hi1.2).2.2.1
        refine j_aload_n 0 dX11_blamePart_33 rfl rfl ?_
        refine j_get fX11_24 dX11_blamePart_34 hP.1 rfl ?_
        refine j_iload_n 1 dX11_blamePart_37 rfl rfl ?_
        refine J_qaldM dX11_blamePart_38 hpa (by rw [Int.toNat_natCast]; exact hFa k hk) ?_ 
        refine j_iload_n 2 dX11_blamePart_39 rfl rfl ?_
        refine J_iconst dX11_blamePart_40 ?_
        refine J_isub dX11_blamePart_41 ?_
        refine J_callVZ kX11_137 cvX10_isNote hPk.1 (c_X10_isNote hPk hmk hpk (e := evM P m k - 1) hi1) rfl rfl rfl rfl rfl dX11_blamePart_42 rfl rfl (fun z42 => ?_) (fun z42 => ?_)
        · refine J_if_eq 85 dX11_blamePart_45 (by decide) (fun c45 => absurd c45 (by decide)) (fun c45 => ?_) 
          refine j_aload_n 0 dX11_blamePart_48 rfl rfl ?_
          refine j_get fX11_24 dX11_blamePart_49 hP.1 rfl ?_
          refine j_iload_n 1 dX11_blamePart_52 rfl rfl ?_
          refine J_qaldM dX11_blamePart_53 hpa (by rw [Int.toNat_natCast]; exact hFa k hk) ?_ 
          refine j_iload_n 2 dX11_blamePart_54 rfl rfl ?_
          refine J_callV1 kX11_140 cvX10_height hPk.1 (c_X10_height hPk hmk hpk hi hno) rfl rfl rfl rfl rfl dX11_blamePart_55 rfl rfl ?_
          refine j_aload_n 0 dX11_blamePart_58 rfl rfl ?_
          refine j_get fX11_24 dX11_blamePart_59 hP.1 rfl ?_
          refine j_iload_n 1 dX11_blamePart_62 rfl rfl ?_
          refine J_qaldM dX11_blamePart_63 hpa (by rw [Int.toNat_natCast]; exact hFa k hk) ?_ 
          refine j_iload_n 2 dX11_blamePart_64 rfl rfl ?_
          refine J_iconst dX11_blamePart_65 ?_
          refine J_isub dX11_blamePart_66 ?_
          refine J_callV1 kX11_140 cvX10_height hPk.1 (c_X10_height hPk hmk hpk (e := evM P m k - 1) hi1 z42) rfl rfl rfl rfl rfl dX11_blamePart_67 rfl rfl ?_
          refine J_isub dX11_blamePart_70 ?_
          refine J_mabs kX11_190 rfl rfl dX11_blamePart_71 ?_ 
          refine J_bipush dX11_blamePart_74 (by decide) ?_
          refine J_icmp_le 85 dX11_blamePart_76 (by decide) (fun c76 => ?_) (fun c76 => ?_) 
          · refine j_aload_n 0 dX11_blamePart_85 rfl rfl ?_
            refine j_get fX11_24 dX11_blamePart_86 hP.1 rfl ?_
            refine j_iload_n 1 dX11_blamePart_89 rfl rfl ?_
            refine J_qaldM dX11_blamePart_90 hpa (by rw [Int.toNat_natCast]; exact hFa k hk) ?_ 
            refine j_iload_n 2 dX11_blamePart_91 rfl rfl ?_
            refine J_callVZ kX11_158 cvX10_isOut hPk.1 (c_X10_isOut hPk hmk hpk hi) rfl rfl rfl rfl rfl dX11_blamePart_92 rfl rfl (fun z92 => ?_) (fun z92 => ?_)
            · refine J_if_eq 104 dX11_blamePart_95 (by decide) (fun c95 => absurd c95 (by decide)) (fun c95 => ?_) 
              refine j_aload_n 0 dX11_blamePart_98 rfl rfl ?_
              refine J_iconst dX11_blamePart_99 ?_
              refine j_iload_n 1 dX11_blamePart_100 rfl rfl ?_
              refine J_callVW0 kX11_294 cvX11_blame hP.1 (c_X11_blame hM hZ hI (kd := 4) (ps := (k : Int)) hS hw (by omega)) rfl rfl rfl rfl rfl dX11_blamePart_101 rfl rfl (fun h hp => ?_)
              obtain ⟨p1, hM, hS, hU1, hF9⟩ := hp
              have hF := hF.tr hF9
              have hP := hM.1
              have hW := hU1.ws hW
              have hI := hU1.mi hI
              have hU := hU.tr hU1
              have hPk := hM.2.2 k hk
              obtain ⟨Fa, hpa, hFa⟩ := hM.2.1
              rw [hWt] at hS
              refine j_vret rfl dX11_blamePart_104 ?_
              refine ⟨rfl, _, hM, ?_, hU, hF⟩
              rw [hnq]
              first
              | (rw [if_pos ⟨⟨by omega, z42⟩, by omega⟩, if_pos z92]; rw [List.append_assoc] at hS; exact hS)
              | (rw [if_pos ⟨⟨by omega, z42⟩, by omega⟩, if_neg z92, List.append_nil]; exact hS)
              | (rw [if_neg (fun z => by have := z.2; omega), if_pos z92, List.nil_append]; exact hS)
              | (rw [if_neg (fun z => by have := z.2; omega), if_neg z92, List.append_nil, List.append_nil]; exact hS)
              | (rw [if_neg (fun z => z42 z.1.2), if_pos z92, List.nil_append]; exact hS)
              | (rw [if_neg (fun z => z42 z.1.2), if_neg z92, List.append_nil, List.append_nil]; exact hS)
              | (rw [if_neg (fun z => by have := z.1.1; omega), if_pos z92, List.nil_append]; exact hS)
              | (rw [if_neg (fun z => by have := z.1.1; omega), if_neg z92, List.append_nil, List.append_nil]; exact hS)
            · refine J_if_eq 104 dX11_blamePart_95 (by decide) (fun c95 => ?_) (fun c95 => absurd c95 (by decide)) 
              refine j_vret rfl dX11_blamePart_104 ?_
              refine ⟨rfl, _, hM, ?_, hU, hF⟩
              rw [hnq]
              first
              | (rw [if_pos ⟨⟨by omega, z42⟩, by omega⟩, if_pos z92]; rw [List.append_assoc] at hS; exact hS)
              | (rw [if_pos ⟨⟨by omega, z42⟩, by omega⟩, if_neg z92, List.append_nil]; exact hS)
              | (rw [if_neg (fun z => by have := z.2; omega), if_pos z92, List.nil_append]; exact hS)
              | (rw [if_neg (fun z => by have := z.2; omega), if_neg z92, List.append_nil, List.append_nil]; exact hS)
              | (rw [if_neg (fun z => z42 z.1.2), if_pos z92, List.nil_append]; exact hS)
              | (rw [if_neg (fun z => z42 z.1.2), if_neg z92, List.append_nil, List.append_nil]; exact hS)
              | (rw [if_neg (fun z => by have := z.1.1; omega), if_pos z92, List.nil_append]; exact hS)
              | (rw [if_neg (fun z => by have := z.1.1; omega), if_neg z92, List.append_nil, List.append_nil]; exact hS)
          · refine j_aload_n 0 dX11_blamePart_79 rfl rfl ?_
            refine J_iconst dX11_blamePart_80 ?_
            refine j_iload_n 1 dX11_blamePart_81 rfl rfl ?_
            refine J_callVW0 kX11_294 cvX11_blame hP.1 (c_X11_blame hM hZ hI (kd := 3) (ps := (k : Int)) hS hw (by omega)) rfl rfl rfl rfl rfl dX11_blamePart_82 rfl rfl (fun h hp => ?_)
            obtain ⟨p1, hM, hS, hU1, hF9⟩ := hp
            have hF := hF.tr hF9
            have hP := hM.1
            have hW := hU1.ws hW
            have hI := hU1.mi hI
            have hU := hU.tr hU1
            have hPk := hM.2.2 k hk
            obtain ⟨Fa, hpa, hFa⟩ := hM.2.1
            have hWt2 : p1.1 15 = momT P m := hW.1
            rw [hWt] at hS
            have hWt := hWt2
            have hL : (L ++ [((3 : Int), momT P m, (k : Int))]).length ≤ 2901 := by rw [List.length_append]; show L.length + 1 ≤ 2901; omega
            refine j_aload_n 0 dX11_blamePart_85 rfl rfl ?_
            refine j_get fX11_24 dX11_blamePart_86 hP.1 rfl ?_
            refine j_iload_n 1 dX11_blamePart_89 rfl rfl ?_
            refine J_qaldM dX11_blamePart_90 hpa (by rw [Int.toNat_natCast]; exact hFa k hk) ?_ 
            refine j_iload_n 2 dX11_blamePart_91 rfl rfl ?_
            refine J_callVZ kX11_158 cvX10_isOut hPk.1 (c_X10_isOut hPk hmk hpk hi) rfl rfl rfl rfl rfl dX11_blamePart_92 rfl rfl (fun z92 => ?_) (fun z92 => ?_)
            · refine J_if_eq 104 dX11_blamePart_95 (by decide) (fun c95 => absurd c95 (by decide)) (fun c95 => ?_) 
              refine j_aload_n 0 dX11_blamePart_98 rfl rfl ?_
              refine J_iconst dX11_blamePart_99 ?_
              refine j_iload_n 1 dX11_blamePart_100 rfl rfl ?_
              refine J_callVW0 kX11_294 cvX11_blame hP.1 (c_X11_blame hM hZ hI (kd := 4) (ps := (k : Int)) hS hw (by omega)) rfl rfl rfl rfl rfl dX11_blamePart_101 rfl rfl (fun h hp => ?_)
              obtain ⟨p1, hM, hS, hU1, hF9⟩ := hp
              have hF := hF.tr hF9
              have hP := hM.1
              have hW := hU1.ws hW
              have hI := hU1.mi hI
              have hU := hU.tr hU1
              have hPk := hM.2.2 k hk
              obtain ⟨Fa, hpa, hFa⟩ := hM.2.1
              rw [hWt] at hS
              refine j_vret rfl dX11_blamePart_104 ?_
              refine ⟨rfl, _, hM, ?_, hU, hF⟩
              rw [hnq]
              first
              | (rw [if_pos ⟨⟨by omega, z42⟩, by omega⟩, if_pos z92]; rw [List.append_assoc] at hS; exact hS)
              | (rw [if_pos ⟨⟨by omega, z42⟩, by omega⟩, if_neg z92, List.append_nil]; exact hS)
              | (rw [if_neg (fun z => by have := z.2; omega), if_pos z92, List.nil_append]; exact hS)
              | (rw [if_neg (fun z => by have := z.2; omega), if_neg z92, List.append_nil, List.append_nil]; exact hS)
              | (rw [if_neg (fun z => z42 z.1.2), if_pos z92, List.nil_append]; exact hS)
              | (rw [if_neg (fun z => z42 z.1.2), if_neg z92, List.append_nil, List.append_nil]; exact hS)
              | (rw [if_neg (fun z => by have := z.1.1; omega), if_pos z92, List.nil_append]; exact hS)
              | (rw [if_neg (fun z => by have := z.1.1; omega), if_neg z92, List.append_nil, List.append_nil]; exact hS)
            · refine J_if_eq 104 dX11_blamePart_95 (by decide) (fun c95 => ?_) (fun c95 => absurd c95 (by decide)) 
              refine j_vret rfl dX11_blamePart_104 ?_
              refine ⟨rfl, _, hM, ?_, hU, hF⟩
              rw [hnq]
              first
              | (rw [if_pos ⟨⟨by omega, z42⟩, by omega⟩, if_pos z92]; rw [List.append_assoc] at hS; exact hS)
              | (rw [if_pos ⟨⟨by omega, z42⟩, by omega⟩, if_neg z92, List.append_nil]; exact hS)
              | (rw [if_neg (fun z => by have := z.2; omega), if_pos z92, List.nil_append]; exact hS)
              | (rw [if_neg (fun z => by have := z.2; omega), if_neg z92, List.append_nil, List.append_nil]; exact hS)
              | (rw [if_neg (fun z => z42 z.1.2), if_pos z92, List.nil_append]; exact hS)
              | (rw [if_neg (fun z => z42 z.1.2), if_neg z92, List.append_nil, List.append_nil]; exact hS)
              | (rw [if_neg (fun z => by have := z.1.1; omega), if_pos z92, List.nil_append]; exact hS)
              | (rw [if_neg (fun z => by have := z.1.1; omega), if_neg z92, List.append_nil, List.append_nil]; exact hS)
        · refine J_if_eq 85 dX11_blamePart_45 (by decide) (fun c45 => ?_) (fun c45 => absurd c45 (by decide)) 
          refine j_aload_n 0 dX11_blamePart_85 rfl rfl ?_
          refine j_get fX11_24 dX11_blamePart_86 hP.1 rfl ?_
          refine j_iload_n 1 dX11_blamePart_89 rfl rfl ?_
          refine J_qaldM dX11_blamePart_90 hpa (by rw [Int.toNat_natCast]; exact hFa k hk) ?_ 
          refine j_iload_n 2 dX11_blamePart_91 rfl rfl ?_
          refine J_callVZ kX11_158 cvX10_isOut hPk.1 (c_X10_isOut hPk hmk hpk hi) rfl rfl rfl rfl rfl dX11_blamePart_92 rfl rfl (fun z92 => ?_) (fun z92 => ?_)
          · refine J_if_eq 104 dX11_blamePart_95 (by decide) (fun c95 => absurd c95 (by decide)) (fun c95 => ?_) 
            refine j_aload_n 0 dX11_blamePart_98 rfl rfl ?_
            refine J_iconst dX11_blamePart_99 ?_
            refine j_iload_n 1 dX11_blamePart_100 rfl rfl ?_
            refine J_callVW0 kX11_294 cvX11_blame hP.1 (c_X11_blame hM hZ hI (kd := 4) (ps := (k : Int)) hS hw (by omega)) rfl rfl rfl rfl rfl dX11_blamePart_101 rfl rfl (fun h hp => ?_)
            obtain ⟨p1, hM, hS, hU1, hF9⟩ := hp
            have hF := hF.tr hF9
            have hP := hM.1
            have hW := hU1.ws hW
            have hI := hU1.mi hI
            have hU := hU.tr hU1
            have hPk := hM.2.2 k hk
            obtain ⟨Fa, hpa, hFa⟩ := hM.2.1
            rw [hWt] at hS
            refine j_vret rfl dX11_blamePart_104 ?_
            refine ⟨rfl, _, hM, ?_, hU, hF⟩
            rw [hnq]
            first
            | (rw [if_pos ⟨⟨by omega, z42⟩, by omega⟩, if_pos z92]; rw [List.append_assoc] at hS; exact hS)
            | (rw [if_pos ⟨⟨by omega, z42⟩, by omega⟩, if_neg z92, List.append_nil]; exact hS)
            | (rw [if_neg (fun z => by have := z.2; omega), if_pos z92, List.nil_append]; exact hS)
            | (rw [if_neg (fun z => by have := z.2; omega), if_neg z92, List.append_nil, List.append_nil]; exact hS)
            | (rw [if_neg (fun z => z42 z.1.2), if_pos z92, List.nil_append]; exact hS)
            | (rw [if_neg (fun z => z42 z.1.2), if_neg z92, List.append_nil, List.append_nil]; exact hS)
            | (rw [if_neg (fun z => by have := z.1.1; omega), if_pos z92, List.nil_append]; exact hS)
            | (rw [if_neg (fun z => by have := z.1.1; omega), if_neg z92, List.append_nil, List.append_nil]; exact hS)
          · refine J_if_eq 104 dX11_blamePart_95 (by decide) (fun c95 => ?_) (fun c95 => absurd c95 (by decide)) 
            refine j_vret rfl dX11_blamePart_104 ?_
            refine ⟨rfl, _, hM, ?_, hU, hF⟩
            rw [hnq]
            first
            | (rw [if_pos ⟨⟨by omega, z42⟩, by omega⟩, if_pos z92]; rw [List.append_assoc] at hS; exact hS)
            | (rw [if_pos ⟨⟨by omega, z42⟩, by omega⟩, if_neg z92, List.append_nil]; exact hS)
            | (rw [if_neg (fun z => by have := z.2; omega), if_pos z92, List.nil_append]; exact hS)
            | (rw [if_neg (fun z => by have := z.2; omega), if_neg z92, List.append_nil, List.append_nil]; exact hS)
            | (rw [if_neg (fun z => z42 z.1.2), if_pos z92, List.nil_append]; exact hS)
            | (rw [if_neg (fun z => z42 z.1.2), if_neg z92, List.append_nil, List.append_nil]; exact hS)
            | (rw [if_neg (fun z => by have := z.1.1; omega), if_pos z92, List.nil_append]; exact hS)
            | (rw [if_neg (fun z => by have := z.1.1; omega), if_neg z92, List.append_nil, List.append_nil]; exact hS)
    · refine J_if_ne 29 dX11_blamePart_25 (by decide) (fun c25 => absurd c25 (by decide)) (fun c25 => ?_) 
      refine j_vret rfl dX11_blamePart_28 ?_
      refine ⟨rfl, p, hM, ?_, FU.rf, hF⟩
      have hnq := nte_eq hs (m := m) hk
      first | (rw [if_neg (fun z => z9 z.2)] at hnq; rw [hnq, List.append_nil]; exact hS) | (rw [if_neg (fun z => z22 (by have g := (hiM_ne hs (k := (k : Int)) ⟨by omega, by omega⟩).mp z.1; rw [Int.toNat_natCast] at g; exact g.2))] at hnq; rw [hnq, List.append_nil]; exact hS)
  · refine J_if_eq 28 dX11_blamePart_12 (by decide) (fun c12 => ?_) (fun c12 => absurd c12 (by decide)) 
    refine j_vret rfl dX11_blamePart_28 ?_
    refine ⟨rfl, p, hM, ?_, FU.rf, hF⟩
    have hnq := nte_eq hs (m := m) hk
    first | (rw [if_neg (fun z => z9 z.2)] at hnq; rw [hnq, List.append_nil]; exact hS) | (rw [if_neg (fun z => z22 (by have g := (hiM_ne hs (k := (k : Int)) ⟨by omega, by omega⟩).mp z.1; rw [Int.toNat_natCast] at g; exact g.2))] at hnq; rw [hnq, List.append_nil]; exact hS)
