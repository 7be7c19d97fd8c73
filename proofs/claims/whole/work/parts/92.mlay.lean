/-- what is laid: the desk's signs of the bar -/
abbrev wW (P : Nat → OS) (p0 : OS) (k b : Int) : OS := wrP (P k.toNat) p0 b zOS
def LD (W p : OS) : Prop := p.1 5 = W.1 9 ∧ p.1 6 = W.1 10 ∧ ∀ j : Int, 0 ≤ j → j < W.1 9 → p.2 7 j = W.2 0 j ∧ p.2 8 j = W.2 2 j ∧ p.2 10 j = W.2 4 j ∧ p.2 11 j = W.2 5 j ∧ p.2 12 j = W.2 6 j ∧ p.2 13 j = W.2 7 j
theorem wr_parts {p6 p0 : OS} (h6 : partOK p6) (hc : calOK p0) {b : Int} (hb : isBar b) : SE p6 (sumN (p0.2 2) b.toNat) (sumN (p0.2 2) b.toNat + p0.2 2 b) (wr1 p6 p0 b zOS) ∧ (wrP p6 p0 b zOS).1 9 = (wr1 p6 p0 b zOS).1 9 ∧
    (wrP p6 p0 b zOS).1 10 = (bmP (grpG p6 (wr1 p6 p0 b zOS) (sumN (p0.2 2) b.toNat) (glF p0 b)) (wr1 p6 p0 b zOS) ((wr1 p6 p0 b zOS).1 9).toNat).1 10 ∧
    ∀ j : Int, 0 ≤ j → j < (wr1 p6 p0 b zOS).1 9 → (wrP p6 p0 b zOS).2 0 j = (wr1 p6 p0 b zOS).2 0 j ∧ (wrP p6 p0 b zOS).2 2 j = (wr1 p6 p0 b zOS).2 2 j ∧ (wrP p6 p0 b zOS).2 4 j = tieG p6 (wr1 p6 p0 b zOS) (p0.1 4) j ∧
      (wrP p6 p0 b zOS).2 5 j = (shZ (fstG p6 (wr1 p6 p0 b zOS)) (fun j => p6.2 0 ((wr1 p6 p0 b zOS).2 0 j)) (fun j => p6.2 1 ((wr1 p6 p0 b zOS).2 0 j)) (p0.2 3 b) ((wr1 p6 p0 b zOS).1 9).toNat).2 j ∧
      (wrP p6 p0 b zOS).2 6 j = (shZ (fstG p6 (wr1 p6 p0 b zOS)) (fun j => p6.2 5 ((wr1 p6 p0 b zOS).2 0 j)) (fun j => p6.2 6 ((wr1 p6 p0 b zOS).2 0 j)) (kwF p6 (p0.2 3 b)) ((wr1 p6 p0 b zOS).1 9).toNat).2 j ∧
      (wrP p6 p0 b zOS).2 7 j = (bmP (grpG p6 (wr1 p6 p0 b zOS) (sumN (p0.2 2) b.toNat) (glF p0 b)) (wr1 p6 p0 b zOS) ((wr1 p6 p0 b zOS).1 9).toNat).2 7 j := by
  have hL := hc.1.1 b hb.1 hb.2
  have hS := lenZ_sum hc.1.1 b.toNat (by have := hb.1; have := hb.2; omega)
  have hn6 := h6.1
  unfold pN at hn6
  have hfe := febF_rg (endF p6) (sumN (p0.2 2) b.toNat) (p6.1 7).toNat
  have hq1 : sgQ p6 (sumN (p0.2 2) b.toNat) (sumN (p0.2 2) b.toNat + p0.2 2 b) (wr1 p6 p0 b zOS) := sgQ_ev _ _ _ (by omega) (by omega) ⟨⟨Int.le_refl _, by show (0 : Int) ≤ 128; omega⟩, fun j h0 h1 => absurd (show j < 0 from h1) (by omega)⟩
  refine ⟨⟨hq1, hS.1, by omega⟩, ?_⟩
  unfold wrP wr3
  obtain ⟨s, hs⟩ : ∃ s, s = wr1 p6 p0 b zOS := ⟨_, rfl⟩
  rw [← hs] at hq1 ⊢
  have e9 : (wr2 p6 p0 s).1 9 = s.1 9 := rfl
  have hm : mN s := hq1.1
  obtain ⟨n, hn⟩ : ∃ n : Nat, s.1 9 = n := ⟨(s.1 9).toNat, by have := hm.1; omega⟩
  rw [e9, hn, Int.toNat_natCast]
  have a0 : (wr2 p6 p0 s).2 0 = s.2 0 := rfl
  have a2 : (wr2 p6 p0 s).2 2 = s.2 2 := rfl
  have eg : grpG p6 (wr2 p6 p0 s) (sumN (p0.2 2) b.toNat) (glF p0 b) = grpG p6 s (sumN (p0.2 2) b.toNat) (glF p0 b) := rfl
  rw [eg]
  obtain ⟨g, hg⟩ : ∃ g, g = grpG p6 s (sumN (p0.2 2) b.toNat) (glF p0 b) := ⟨_, rfl⟩
  rw [← hg]
  have hb2 := bmP_ag (p := wr2 p6 p0 s) (p' := s) (g := g) (g' := g) (c := n) (fun _ _ _ => rfl) n (Int.le_refl _)
  have f := bmP_f g (wr2 p6 p0 s) n
  obtain ⟨u, hu⟩ : ∃ u, u = bmP g (wr2 p6 p0 s) n := ⟨_, rfl⟩
  rw [← hu] at hb2 f ⊢
  have u9 : u.1 9 = n := f.1.trans hn
  have m3 : ∀ j : Int, 0 ≤ j → j < n → u.2 3 j = fstG p6 s j := fun j x y => by
    rw [f.2 3 (by decide)]
    show mapI (s.2 3) (s.1 9) (fstG p6 s) j = _
    unfold mapI
    rw [if_pos ⟨x, by omega⟩]
  have m4 : ∀ j : Int, 0 ≤ j → j < n → u.2 4 j = tieG p6 s (p0.1 4) j := fun j x y => by
    rw [f.2 4 (by decide)]
    show mapI (s.2 4) (s.1 9) (tieG p6 s (p0.1 4)) j = _
    unfold mapI
    rw [if_pos ⟨x, by omega⟩]
  have m0 : u.2 0 = s.2 0 := (f.2 0 (by decide)).trans a0
  have m2 : u.2 2 = s.2 2 := (f.2 2 (by decide)).trans a2
  have s5 := shN_ag (key := p0.2 3 b) (S := u.2 5) (S' := fun _ => 0) (c := n) (f := u.2 3) (f' := fstG p6 s) (fun j x y => m3 j x y) (pl := fun j => p6.2 0 (u.2 0 j)) (pl' := fun j => p6.2 0 (s.2 0 j)) (fun j x y => by dsimp only; rw [m0]) (al := fun j => p6.2 1 (u.2 0 j)) (al' := fun j => p6.2 1 (s.2 0 j)) (fun j x y => by dsimp only; rw [m0]) (F0X_ag (u.2 8) (fun _ => 0)) n (Int.le_refl _)
  obtain ⟨x, hx⟩ : ∃ x, x = showP 5 0 1 p6 (p0.2 3 b) u := ⟨_, rfl⟩
  have x9 : x.1 9 = n := by rw [hx]; exact u9
  have x10 : x.1 10 = u.1 10 := by rw [hx]; rfl
  have xv : ∀ i : Nat, i ≠ 8 → i ≠ 5 → x.2 i = u.2 i := fun i a c => by rw [hx]; unfold showP; rw [oA_n c, oA_n a]
  have x5 : ∀ j : Int, 0 ≤ j → j < n → x.2 5 j = (shZ (fstG p6 s) (fun j => p6.2 0 (s.2 0 j)) (fun j => p6.2 1 (s.2 0 j)) (p0.2 3 b) n).2 j := fun j a c => by
    rw [hx]
    unfold showP
    rw [oA_s, u9, Int.toNat_natCast]
    exact s5.2 j a c
  rw [← hx]
  have s6 := shN_ag (key := kwF p6 (p0.2 3 b)) (S := x.2 6) (S' := fun _ => 0) (c := n) (f := x.2 3) (f' := fstG p6 s) (fun j y z => by rw [xv 3 (by decide) (by decide)]; exact m3 j y z) (pl := fun j => p6.2 5 (x.2 0 j)) (pl' := fun j => p6.2 5 (s.2 0 j)) (fun j y z => by dsimp only; rw [xv 0 (by decide) (by decide), m0]) (al := fun j => p6.2 6 (x.2 0 j)) (al' := fun j => p6.2 6 (s.2 0 j)) (fun j y z => by dsimp only; rw [xv 0 (by decide) (by decide), m0]) (F0X_ag (x.2 8) (fun _ => 0)) n (Int.le_refl _)
  have wv : ∀ i : Nat, i ≠ 8 → i ≠ 6 → (showP 6 5 6 p6 (kwF p6 (p0.2 3 b)) x).2 i = x.2 i := fun i a c => by unfold showP; rw [oA_n c, oA_n a]
  refine ⟨x9, (show x.1 10 = _ from x10.trans hb2.1), fun j a c => ?_⟩
  rw [wv 0 (by decide) (by decide), wv 2 (by decide) (by decide), wv 4 (by decide) (by decide), wv 5 (by decide) (by decide), wv 7 (by decide) (by decide), xv 0 (by decide) (by decide), xv 2 (by decide) (by decide), xv 4 (by decide) (by decide), xv 7 (by decide) (by decide), m0, m2]
  refine ⟨rfl, rfl, m4 j a c, x5 j a c, ?_, hb2.2 j a c⟩
  unfold showP
  rw [oA_s, x9, Int.toNat_natCast]
  exact s6.2 j a c
/-- all but what laying writes is as it was -/
def LU (p p' : OS) : Prop := (∀ j : Nat, j ≠ 5 → j ≠ 6 → p'.1 j = p.1 j) ∧ ∀ i : Nat, i < 7 ∨ 14 < i → p'.2 i = p.2 i
theorem LU.ku {p p' : OS} (h : LU p p') : KU p p' := ⟨h.1 0 (by decide) (by decide), h.1 30 (by decide) (by decide), h.2 2 (Or.inl (by decide)), h.2 3 (Or.inl (by decide)), h.2 4 (Or.inl (by decide))⟩
set_option maxRecDepth 100000 in
theorem c_X11_lay {l : Launch} {G : jG} {h : jH} {a : Nat} {d : MD} {mp P : Nat → OS} {p p0 : OS} {Z : Nat → Nat} {k b : Int} (hM : Mod G h a d mp p) (hZ : Mz a d Z) (hI : MI d P p0 mp p.2) (hk : 0 ≤ k ∧ k < 4) (hb : isBar b) : jC l G yX11_lay mX11_lay [.ref a, vI k, vI b] h (jW oN (fun h' => ∃ p', Mod G h' a d mp p' ∧ LD (wW P p0 k b) p' ∧ LU p p' ∧ Fr (FtM a d) h h')) := by
  have hpk := hI.1.1 k.toNat (by omega)
  have hmk := hI.2.1 k.toNat (by omega)
  have hc := hI.1.2.2
  obtain ⟨b0, b1⟩ := hb
  have hb : isBar b := ⟨b0, b1⟩
  obtain ⟨g1, g2, g3, g4, g5, g6, g7, g8⟩ := hI.len hb
  have hss := hI.sum (n := b.toNat) (by omega)
  have hn7 : 0 ≤ (P k.toNat).1 7 ∧ (P k.toNat).1 7 ≤ 512 := hpk.1
  have hen := hmk.2.2.1
  have hez := hmk.2.2.2
  obtain ⟨fr, hfr⟩ : ∃ fr, fr = (sumN (p0.2 2) b.toNat) := ⟨_, rfl⟩
  obtain ⟨to, hto⟩ : ∃ to, to = fr + p0.2 2 b := ⟨_, rfl⟩
  obtain ⟨hE, w9, w10, wj⟩ := wr_parts hpk hc hb
  have hU1 := wr1_U hpk hc hb zOS
  have htie := fun (en t v left : Int) => tie_eq hc hb (to := to) (en := en) (t := t) (v := v) (left := left) (by rw [hto, hfr])
  rw [← hfr, ← hto] at hU1
  rw [← hfr] at hE w10 wj
  rw [← hto] at hE
  obtain ⟨s1, hs1⟩ : ∃ s1, s1 = wr1 (P k.toNat) p0 b zOS := ⟨_, rfl⟩
  rw [← hs1] at hE w9 w10 wj hU1
  have hm1 : 0 ≤ s1.1 9 ∧ s1.1 9 ≤ 128 := hE.1.1
  have fin : ∀ (e : Int) (q : OS) (h2 : jH), Mod G h2 a d mp q → SR (P k.toNat) (p0.1 4) q s1 → LU p q → Fr (FtM a d) h h2 → J l G mX11_lay (jQ G mX11_lay (jW oN (fun h' => ∃ p', Mod G h' a d mp p' ∧ LD (wW P p0 k b) p' ∧ LU p p' ∧ Fr (FtM a d) h h'))) 0 0 247 [(6, vI e), (5, vI to), (4, vI fr), (3, .ref (d.pad k.toNat)), (2, vI b), (1, vI k), (0, .ref a)] [] h2 := by
    intro e q h2 hM hR hU hF
    have hP := hM.1
    refine j_aload_n 0 dX11_lay_247 rfl rfl ?_
    refine j_iload_n 1 dX11_lay_248 rfl rfl ?_
    refine j_iload_n 2 dX11_lay_249 rfl rfl ?_
    refine J_iconst dX11_lay_250 ?_
    refine j_aload_n 0 dX11_lay_251 rfl rfl ?_
    refine j_get fX11_50 dX11_lay_252 hP.1 rfl ?_
    refine J_callVW0 kX11_214 cvX11_show hP.1 (c0_X11_show hM hZ (hU.ku.mi hI) hk hb hR hE) rfl rfl rfl rfl rfl dX11_lay_255 rfl rfl (fun h hp => ?_)
    obtain ⟨q2, hM, n1, n2, n3, hF9⟩ := hp
    have hF := hF.tr hF9
    have hP := hM.1
    have hR2 : SR (P k.toNat) (p0.1 4) q2 s1 := hR.add5 (by rw [n1]) (n2 7 (by decide) (by decide)) (n2 8 (by decide) (by decide)) (n2 9 (by decide) (by decide)) (n2 10 (by decide) (by decide))
    have hU2 : LU p q2 := ⟨fun j x y => by rw [n1]; exact hU.1 j x y, fun i x => (n2 i (by omega) (by omega)).trans (hU.2 i x)⟩
    refine j_aload_n 0 dX11_lay_258 rfl rfl ?_
    refine j_iload_n 1 dX11_lay_259 rfl rfl ?_
    refine j_iload_n 2 dX11_lay_260 rfl rfl ?_
    refine J_iconst dX11_lay_261 ?_
    refine j_aload_n 0 dX11_lay_262 rfl rfl ?_
    refine j_get fX11_53 dX11_lay_263 hP.1 rfl ?_
    refine J_callVW0 kX11_214 cvX11_show hP.1 (c1_X11_show hM hZ (hU2.ku.mi hI) hk hb hR2 hE) rfl rfl rfl rfl rfl dX11_lay_266 rfl rfl (fun h hp => ?_)
    obtain ⟨q3, hM, k1, k2, k3, hF9⟩ := hp
    have hF := hF.tr hF9
    have hP := hM.1
    have hR3 : SR (P k.toNat) (p0.1 4) q3 s1 := hR2.add5 (by rw [k1]) (k2 7 (by decide) (by decide)) (k2 8 (by decide) (by decide)) (k2 9 (by decide) (by decide)) (k2 10 (by decide) (by decide))
    have hU3 : LU p q3 := ⟨fun j x y => by rw [k1]; exact hU2.1 j x y, fun i x => (k2 i (by omega) (by omega)).trans (hU2.2 i x)⟩
    refine j_aload_n 0 dX11_lay_269 rfl rfl ?_
    refine j_iload_n 1 dX11_lay_270 rfl rfl ?_
    refine j_iload_n 2 dX11_lay_271 rfl rfl ?_
    refine j_iload dX11_lay_272 rfl ?_
    refine J_callVW0 kX11_218 cvX11_beam hP.1 (c_X11_beam hM hZ (hU3.ku.mi hI) hk hR3 hE hb) rfl rfl rfl rfl rfl dX11_lay_274 rfl rfl (fun h hp => ?_)
    obtain ⟨q4, hM, o1, o2, o3, o4, hF9⟩ := hp
    have hF := hF.tr hF9
    refine j_vret rfl dX11_lay_277 ?_
    refine ⟨rfl, q4, hM, ⟨?_, o3.trans w10.symm, fun j x y => ?_⟩, ⟨fun j x y => (o1 j y).trans (hU3.1 j x y), fun i x => (o2 i (by omega)).trans (hU3.2 i x)⟩, hF⟩
    · rw [o1 5 (by decide), w9]; exact hR3.1
    · rw [w9] at y
      obtain ⟨v0, v2, v4, v5, v6, v7⟩ := wj j x y
      obtain ⟨r7, r8, r9, r10⟩ := hR3.2 j x y
      rw [v0, v2, v4, v5, v6, v7, o2 7 (by decide), o2 8 (by decide), o2 10 (by decide), o2 11 (by decide), o2 12 (by decide), k2 11 (by decide) (by decide)]
      exact ⟨r7, r8, r10, n3 j x y, k3 j x y, o4 j x y⟩
  have events : ∀ (n : Nat) (e : Int) (s q : OS) (h2 : jH), e + n = (P k.toNat).1 7 → 0 ≤ e → Mod G h2 a d mp q → SR (P k.toNat) (p0.1 4) q s → 0 ≤ s.1 9 → evU (P k.toNat) fr to n e s = s1 → LU p q → Fr (FtM a d) h h2 → J l G mX11_lay (jQ G mX11_lay (jW oN (fun h' => ∃ p', Mod G h' a d mp p' ∧ LD (wW P p0 k b) p' ∧ LU p p' ∧ Fr (FtM a d) h h'))) 0 0 32 [(6, vI e), (5, vI to), (4, vI fr), (3, .ref (d.pad k.toNat)), (2, vI b), (1, vI k), (0, .ref a)] [] h2 := by
    intro n
    induction n with
    | zero =>
      intro e s q h2 he h0 hM hR hs9 hev hU hF
      have hP := hM.1
      have hPk := hM.2.2 k.toNat (by omega)
      have hev2 : s = s1 := hev
      subst hev2
      refine j_iload dX11_lay_32 rfl ?_
      refine j_aload_n 3 dX11_lay_34 rfl rfl ?_
      refine j_getN fX11_99 dX11_lay_35 hPk.1 rfl ?_
      refine J_top ((P k.toNat).1 7) ?_ (by exact hmk.1.1)
      refine J_icmp_ge 247 dX11_lay_38 (by decide) (fun c38 => ?_) (fun c38 => absurd c38 (by omega)) 
      exact fin e q h2 hM hR hU hF
    | succ n ih =>
      intro e s q h2 he h0 hM hR hs9 hev hU hF
      have hP := hM.1
      have hPk := hM.2.2 k.toNat (by omega)
      have hi : inP (P k.toNat) e := ⟨h0, by omega⟩
      obtain ⟨z0, z1, z2, z3, z4, z5, z6⟩ := hpk.2.1 e h0 (by omega)
      have hle := hpk.len h0 (by omega)
      have hEe : endF (P k.toNat) e = (P k.toNat).2 3 e + (P k.toNat).2 4 e := rfl
      unfold evU at hev
      -- one event's signs
      have stretch : (P k.toNat).2 3 e < to → ∀ (n2 n3 : Nat) (t : Int) (s q : OS) (h2 : jH), min to (endF (P k.toNat) e) - t ≤ n2 → n2 ≤ n3 → max fr ((P k.toNat).2 3 e) ≤ t ∧ t ≤ 40000 → Mod G h2 a d mp q → SR (P k.toNat) (p0.1 4) q s → 0 ≤ s.1 9 → evU (P k.toNat) fr to n (e + 1) (strU e (min to (endF (P k.toNat) e)) n3 t s) = s1 → LU p q → Fr (FtM a d) h h2 → J l G mX11_lay (jQ G mX11_lay (jW oN (fun h' => ∃ p', Mod G h' a d mp p' ∧ LD (wW P p0 k b) p' ∧ LU p p' ∧ Fr (FtM a d) h h'))) 0 0 83 [(8, vI (min to (endF (P k.toNat) e) - t)), (7, vI t), (6, vI e), (5, vI to), (4, vI fr), (3, .ref (d.pad k.toNat)), (2, vI b), (1, vI k), (0, .ref a)] [] h2 := by
        intro hbt n2
        induction n2 with
        | zero =>
          intro n3 t s q h2 hn hn3 ht hM hR hs9 hev hU hF
          have hP := hM.1
          rw [strU_end (by omega)] at hev
          refine j_iload dX11_lay_83 rfl ?_
          refine J_if_le 241 dX11_lay_85 (by decide) (fun c85 => ?_) (fun c85 => absurd c85 (by omega)) 
          refine J_iinc (L' := [(6, _), (8, _), (7, _), (5, _), (4, _), (3, _), (2, _), (1, _), (0, _)]) dX11_lay_241 rfl rfl rfl ?_
          refine j_goto 32 dX11_lay_244 (by decide) ?_
          exact j_locR (ih (e + 1) s q h2 (by omega) (by omega) hM hR hs9 hev hU hF) (by repeat' (first | exact True.intro | refine And.intro rfl ?_))
        | succ n2 ih2 =>
          intro n3 t s q h2 hn hn3 ht hM hR hs9 hev hU hF
          have hP := hM.1
          have hPk := hM.2.2 k.toNat (by omega)
          by_cases htl : min to (endF (P k.toNat) e) ≤ t
          · rw [strU_end htl] at hev
            refine j_iload dX11_lay_83 rfl ?_
            refine J_if_le 241 dX11_lay_85 (by decide) (fun c85 => ?_) (fun c85 => absurd c85 (by omega)) 
            refine J_iinc (L' := [(6, _), (8, _), (7, _), (5, _), (4, _), (3, _), (2, _), (1, _), (0, _)]) dX11_lay_241 rfl rfl rfl ?_
            refine j_goto 32 dX11_lay_244 (by decide) ?_
            exact j_locR (ih (e + 1) s q h2 (by omega) (by omega) hM hR hs9 hev hU hF) (by repeat' (first | exact True.intro | refine And.intro rfl ?_))
          · obtain ⟨m3, hm3⟩ : ∃ m3, n3 = m3 + 1 := ⟨n3 - 1, by omega⟩
            subst hm3
            obtain ⟨left, hleft⟩ : ∃ left, left = min to (endF (P k.toNat) e) - t := ⟨_, rfl⟩
            have hl0 : 0 < left ∧ left ≤ 96 := by omega
            have gr := great_rg left hl0.1
            unfold strU at hev
            rw [if_pos (by omega), ← hleft] at hev
            have hmo := evU_mono (p6 := P k.toNat) (fr := fr) (to := to) n (e + 1) (strU e (min to (endF (P k.toNat) e)) m3 (t + great left) (sgnU s e t (great left)))
            have hmo2 := strU_mono (e := e) (to := min to (endF (P k.toNat) e)) m3 (t + great left) (sgnU s e t (great left))
            rw [hev] at hmo
            rw [sgnU_9] at hmo2
            have hq5 : q.1 5 = s.1 9 := hR.1
            rw [← hleft]
            -- the value is found
            have body : J l G mX11_lay (jQ G mX11_lay (jW oN (fun h' => ∃ p', Mod G h' a d mp p' ∧ LD (wW P p0 k b) p' ∧ LU p p' ∧ Fr (FtM a d) h h'))) 0 0 136 [(9, vI (great left)), (8, vI left), (7, vI t), (6, vI e), (5, vI to), (4, vI fr), (3, .ref (d.pad k.toNat)), (2, vI b), (1, vI k), (0, .ref a)] [] h2 := by
              refine j_iload dX11_lay_136 rfl ?_
              refine j_iload dX11_lay_138 rfl ?_
              refine J_isub dX11_lay_140 ?_
              refine j_istore (L' := [(8, _), (9, _), (7, _), (6, _), (5, _), (4, _), (3, _), (2, _), (1, _), (0, _)]) dX11_lay_141 rfl rfl ?_
              refine j_aload_n 0 dX11_lay_143 rfl rfl ?_
              refine j_get fX11_37 dX11_lay_144 hP.1 rfl ?_
              refine j_aload_n 0 dX11_lay_147 rfl rfl ?_
              refine j_get fX11_202 dX11_lay_148 hP.1 rfl ?_
              refine J_top (q.1 5) ?_ (by rfl)
              refine j_iload dX11_lay_151 rfl ?_
              refine J_iastA 7 hP rfl (fun _ => rfl) (fun _ => rfl) dX11_lay_153 (fun h hP hF153 => ?_) 
              have hM := hM.w hZ hP hF153
              have hF := hF.tr (hF153.mono (fun _ q => Or.inl q))
              obtain ⟨Fa, hpa, hFa⟩ := hM.2.1
              have hPk := hM.2.2 k.toNat (by omega)
              refine j_aload_n 0 dX11_lay_154 rfl rfl ?_
              refine j_get fX11_40 dX11_lay_155 hP.1 rfl ?_
              refine j_aload_n 0 dX11_lay_158 rfl rfl ?_
              refine j_get fX11_202 dX11_lay_159 hP.1 rfl ?_
              refine J_top (q.1 5) ?_ (by rfl)
              refine j_iload dX11_lay_162 rfl ?_
              refine J_iastA 8 hP rfl (fun _ => rfl) (fun _ => rfl) dX11_lay_164 (fun h hP hF164 => ?_) 
              have hM := hM.w hZ hP hF164
              have hF := hF.tr (hF164.mono (fun _ q => Or.inl q))
              obtain ⟨Fa, hpa, hFa⟩ := hM.2.1
              have hPk := hM.2.2 k.toNat (by omega)
              refine j_aload_n 0 dX11_lay_165 rfl rfl ?_
              refine j_get fX11_43 dX11_lay_166 hP.1 rfl ?_
              refine j_aload_n 0 dX11_lay_169 rfl rfl ?_
              refine j_get fX11_202 dX11_lay_170 hP.1 rfl ?_
              refine J_top (q.1 5) ?_ (by rfl)
              refine j_iload dX11_lay_173 rfl ?_
              refine J_iastA 9 hP rfl (fun _ => rfl) (fun _ => rfl) dX11_lay_175 (fun h hP hF175 => ?_) 
              have hM := hM.w hZ hP hF175
              have hF := hF.tr (hF175.mono (fun _ q => Or.inl q))
              obtain ⟨Fa, hpa, hFa⟩ := hM.2.1
              have hPk := hM.2.2 k.toNat (by omega)
              refine j_aload_n 0 dX11_lay_176 rfl rfl ?_
              refine j_get fX11_46 dX11_lay_177 hP.1 rfl ?_
              refine j_aload_n 0 dX11_lay_180 rfl rfl ?_
              refine j_get fX11_202 dX11_lay_181 hP.1 rfl ?_
              refine J_top (q.1 5) ?_ (by rfl)
              refine j_aload_n 3 dX11_lay_184 rfl rfl ?_
              refine j_iload dX11_lay_185 rfl ?_
              refine J_callVZ kX11_137 cvX10_isNote hPk.1 (c_X10_isNote hPk hmk hpk hi) rfl rfl rfl rfl rfl dX11_lay_187 rfl rfl (fun z187 => ?_) (fun z187 => ?_)
              · refine J_if_eq 219 dX11_lay_190 (by decide) (fun c190 => absurd c190 (by decide)) (fun c190 => ?_) 
                refine j_iload dX11_lay_193 rfl ?_
                refine J_if_gt 215 dX11_lay_195 (by decide) (fun c195 => ?_) (fun c195 => ?_) 
                · refine J_iconst dX11_lay_215 ?_
                  refine j_goto 220 dX11_lay_216 (by decide) ?_
                  have hx : (1 : Int) = bI ((P k.toNat).2 0 e ≠ 0 ∧ t + great left < min (endF (P k.toNat) e) (p0.1 4)) := by
                    refine (if_pos ⟨z187, (htie (endF (P k.toNat) e) t (great left) (left - great left) (by omega) (by omega)).mpr ?_⟩).symm
                    omega
                  refine J_zastA 10 hP rfl (fun _ => rfl) (fun _ => rfl) dX11_lay_220 (fun h hP hF220 => ?_)
                  have hM := hM.w hZ hP hF220
                  have hF := hF.tr (hF220.mono (fun _ q => Or.inl q))
                  refine j_iload dX11_lay_221 rfl ?_
                  refine j_iload dX11_lay_223 rfl ?_
                  refine J_iadd dX11_lay_225 ?_
                  refine j_istore (L' := [(7, _), (8, _), (9, _), (6, _), (5, _), (4, _), (3, _), (2, _), (1, _), (0, _)]) dX11_lay_226 rfl rfl ?_
                  refine j_aload_n 0 dX11_lay_228 rfl rfl ?_
                  refine j_dup dX11_lay_229 rfl ?_
                  refine j_get fX11_202 dX11_lay_230 hP.1 rfl ?_
                  refine J_top (q.1 5) ?_ (by rfl)
                  refine J_iconst dX11_lay_233 ?_
                  refine J_iadd dX11_lay_234 ?_
                  refine J_putA hP fX11_202 tyX11_laid dX11_lay_235 rfl rfl (fun h hP hF235 => ?_)
                  have hM := hM.w hZ hP hF235
                  have hF := hF.tr (hF235.mono (fun _ q => Or.inl q))
                  obtain ⟨Fa, hpa, hFa⟩ := hM.2.1
                  have hPk := hM.2.2 k.toNat (by omega)
                  refine j_goto 83 dX11_lay_238 (by decide) ?_
                  have e3 : min to (endF (P k.toNat) e) - (t + great left) = left - great left := by omega
                  have g9 := ih2 m3 (t + great left) (sgnU s e t (great left)) _ _ (by omega) (by omega) ⟨by omega, by omega⟩ hM (hR.add hx) (by rw [sgnU_9]; omega) hev ⟨fun j x y => by rw [oU_n x]; exact hU.1 j x y, fun i x => by show (oA (oA (oA (oA q 7 _) 8 _) 9 _) 10 _).2 i = _; rw [oA_n (by omega), oA_n (by omega), oA_n (by omega), oA_n (by omega)]; exact hU.2 i x⟩ hF
                  rw [e3] at g9
                  exact j_locR g9 (by repeat' (first | exact True.intro | refine And.intro rfl ?_))
                · refine j_aload_n 3 dX11_lay_198 rfl rfl ?_
                  refine j_iload dX11_lay_199 rfl ?_
                  refine J_callV1 kX11_208 cvX10_endOf hPk.1 (c_X10_endOf hPk hmk hpk hi) rfl rfl rfl rfl rfl dX11_lay_201 rfl rfl ?_
                  refine j_iload dX11_lay_204 rfl ?_
                  refine J_icmp_le 219 dX11_lay_206 (by decide) (fun c206 => ?_) (fun c206 => ?_) 
                  · refine J_iconst dX11_lay_219 ?_
                    have hx : (0 : Int) = bI ((P k.toNat).2 0 e ≠ 0 ∧ t + great left < min (endF (P k.toNat) e) (p0.1 4)) := by
                      refine (if_neg (fun z => ?_)).symm
                      have zz := (htie (endF (P k.toNat) e) t (great left) (left - great left) (by omega) (by omega)).mp z.2
                      first | exact z187 z.1 | omega
                    refine J_zastA 10 hP rfl (fun _ => rfl) (fun _ => rfl) dX11_lay_220 (fun h hP hF220 => ?_)
                    have hM := hM.w hZ hP hF220
                    have hF := hF.tr (hF220.mono (fun _ q => Or.inl q))
                    refine j_iload dX11_lay_221 rfl ?_
                    refine j_iload dX11_lay_223 rfl ?_
                    refine J_iadd dX11_lay_225 ?_
                    refine j_istore (L' := [(7, _), (8, _), (9, _), (6, _), (5, _), (4, _), (3, _), (2, _), (1, _), (0, _)]) dX11_lay_226 rfl rfl ?_
                    refine j_aload_n 0 dX11_lay_228 rfl rfl ?_
                    refine j_dup dX11_lay_229 rfl ?_
                    refine j_get fX11_202 dX11_lay_230 hP.1 rfl ?_
                    refine J_top (q.1 5) ?_ (by rfl)
                    refine J_iconst dX11_lay_233 ?_
                    refine J_iadd dX11_lay_234 ?_
                    refine J_putA hP fX11_202 tyX11_laid dX11_lay_235 rfl rfl (fun h hP hF235 => ?_)
                    have hM := hM.w hZ hP hF235
                    have hF := hF.tr (hF235.mono (fun _ q => Or.inl q))
                    obtain ⟨Fa, hpa, hFa⟩ := hM.2.1
                    have hPk := hM.2.2 k.toNat (by omega)
                    refine j_goto 83 dX11_lay_238 (by decide) ?_
                    have e3 : min to (endF (P k.toNat) e) - (t + great left) = left - great left := by omega
                    have g9 := ih2 m3 (t + great left) (sgnU s e t (great left)) _ _ (by omega) (by omega) ⟨by omega, by omega⟩ hM (hR.add hx) (by rw [sgnU_9]; omega) hev ⟨fun j x y => by rw [oU_n x]; exact hU.1 j x y, fun i x => by show (oA (oA (oA (oA q 7 _) 8 _) 9 _) 10 _).2 i = _; rw [oA_n (by omega), oA_n (by omega), oA_n (by omega), oA_n (by omega)]; exact hU.2 i x⟩ hF
                    rw [e3] at g9
                    exact j_locR g9 (by repeat' (first | exact True.intro | refine And.intro rfl ?_))
                  · refine j_iload_n 2 dX11_lay_209 rfl rfl ?_
                    refine J_bipush dX11_lay_210 (by decide) ?_
                    refine J_icmp_ge 219 dX11_lay_212 (by decide) (fun c212 => ?_) (fun c212 => ?_) 
                    · refine J_iconst dX11_lay_219 ?_
                      have hx : (0 : Int) = bI ((P k.toNat).2 0 e ≠ 0 ∧ t + great left < min (endF (P k.toNat) e) (p0.1 4)) := by
                        refine (if_neg (fun z => ?_)).symm
                        have zz := (htie (endF (P k.toNat) e) t (great left) (left - great left) (by omega) (by omega)).mp z.2
                        first | exact z187 z.1 | omega
                      refine J_zastA 10 hP rfl (fun _ => rfl) (fun _ => rfl) dX11_lay_220 (fun h hP hF220 => ?_)
                      have hM := hM.w hZ hP hF220
                      have hF := hF.tr (hF220.mono (fun _ q => Or.inl q))
                      refine j_iload dX11_lay_221 rfl ?_
                      refine j_iload dX11_lay_223 rfl ?_
                      refine J_iadd dX11_lay_225 ?_
                      refine j_istore (L' := [(7, _), (8, _), (9, _), (6, _), (5, _), (4, _), (3, _), (2, _), (1, _), (0, _)]) dX11_lay_226 rfl rfl ?_
                      refine j_aload_n 0 dX11_lay_228 rfl rfl ?_
                      refine j_dup dX11_lay_229 rfl ?_
                      refine j_get fX11_202 dX11_lay_230 hP.1 rfl ?_
                      refine J_top (q.1 5) ?_ (by rfl)
                      refine J_iconst dX11_lay_233 ?_
                      refine J_iadd dX11_lay_234 ?_
                      refine J_putA hP fX11_202 tyX11_laid dX11_lay_235 rfl rfl (fun h hP hF235 => ?_)
                      have hM := hM.w hZ hP hF235
                      have hF := hF.tr (hF235.mono (fun _ q => Or.inl q))
                      obtain ⟨Fa, hpa, hFa⟩ := hM.2.1
                      have hPk := hM.2.2 k.toNat (by omega)
                      refine j_goto 83 dX11_lay_238 (by decide) ?_
                      have e3 : min to (endF (P k.toNat) e) - (t + great left) = left - great left := by omega
                      have g9 := ih2 m3 (t + great left) (sgnU s e t (great left)) _ _ (by omega) (by omega) ⟨by omega, by omega⟩ hM (hR.add hx) (by rw [sgnU_9]; omega) hev ⟨fun j x y => by rw [oU_n x]; exact hU.1 j x y, fun i x => by show (oA (oA (oA (oA q 7 _) 8 _) 9 _) 10 _).2 i = _; rw [oA_n (by omega), oA_n (by omega), oA_n (by omega), oA_n (by omega)]; exact hU.2 i x⟩ hF
                      rw [e3] at g9
                      exact j_locR g9 (by repeat' (first | exact True.intro | refine And.intro rfl ?_))
                    · refine J_iconst dX11_lay_215 ?_
                      refine j_goto 220 dX11_lay_216 (by decide) ?_
                      have hx : (1 : Int) = bI ((P k.toNat).2 0 e ≠ 0 ∧ t + great left < min (endF (P k.toNat) e) (p0.1 4)) := by
                        refine (if_pos ⟨z187, (htie (endF (P k.toNat) e) t (great left) (left - great left) (by omega) (by omega)).mpr ?_⟩).symm
                        omega
                      refine J_zastA 10 hP rfl (fun _ => rfl) (fun _ => rfl) dX11_lay_220 (fun h hP hF220 => ?_)
                      have hM := hM.w hZ hP hF220
                      have hF := hF.tr (hF220.mono (fun _ q => Or.inl q))
                      refine j_iload dX11_lay_221 rfl ?_
                      refine j_iload dX11_lay_223 rfl ?_
                      refine J_iadd dX11_lay_225 ?_
                      refine j_istore (L' := [(7, _), (8, _), (9, _), (6, _), (5, _), (4, _), (3, _), (2, _), (1, _), (0, _)]) dX11_lay_226 rfl rfl ?_
                      refine j_aload_n 0 dX11_lay_228 rfl rfl ?_
                      refine j_dup dX11_lay_229 rfl ?_
                      refine j_get fX11_202 dX11_lay_230 hP.1 rfl ?_
                      refine J_top (q.1 5) ?_ (by rfl)
                      refine J_iconst dX11_lay_233 ?_
                      refine J_iadd dX11_lay_234 ?_
                      refine J_putA hP fX11_202 tyX11_laid dX11_lay_235 rfl rfl (fun h hP hF235 => ?_)
                      have hM := hM.w hZ hP hF235
                      have hF := hF.tr (hF235.mono (fun _ q => Or.inl q))
                      obtain ⟨Fa, hpa, hFa⟩ := hM.2.1
                      have hPk := hM.2.2 k.toNat (by omega)
                      refine j_goto 83 dX11_lay_238 (by decide) ?_
                      have e3 : min to (endF (P k.toNat) e) - (t + great left) = left - great left := by omega
                      have g9 := ih2 m3 (t + great left) (sgnU s e t (great left)) _ _ (by omega) (by omega) ⟨by omega, by omega⟩ hM (hR.add hx) (by rw [sgnU_9]; omega) hev ⟨fun j x y => by rw [oU_n x]; exact hU.1 j x y, fun i x => by show (oA (oA (oA (oA q 7 _) 8 _) 9 _) 10 _).2 i = _; rw [oA_n (by omega), oA_n (by omega), oA_n (by omega), oA_n (by omega)]; exact hU.2 i x⟩ hF
                      rw [e3] at g9
                      exact j_locR g9 (by repeat' (first | exact True.intro | refine And.intro rfl ?_))
              · refine J_if_eq 219 dX11_lay_190 (by decide) (fun c190 => ?_) (fun c190 => absurd c190 (by decide)) 
                refine J_iconst dX11_lay_219 ?_
                have hx : (0 : Int) = bI ((P k.toNat).2 0 e ≠ 0 ∧ t + great left < min (endF (P k.toNat) e) (p0.1 4)) := by
                  refine (if_neg (fun z => ?_)).symm
                  have zz := (htie (endF (P k.toNat) e) t (great left) (left - great left) (by omega) (by omega)).mp z.2
                  first | exact z187 z.1 | omega
                refine J_zastA 10 hP rfl (fun _ => rfl) (fun _ => rfl) dX11_lay_220 (fun h hP hF220 => ?_)
                have hM := hM.w hZ hP hF220
                have hF := hF.tr (hF220.mono (fun _ q => Or.inl q))
                refine j_iload dX11_lay_221 rfl ?_
                refine j_iload dX11_lay_223 rfl ?_
                refine J_iadd dX11_lay_225 ?_
                refine j_istore (L' := [(7, _), (8, _), (9, _), (6, _), (5, _), (4, _), (3, _), (2, _), (1, _), (0, _)]) dX11_lay_226 rfl rfl ?_
                refine j_aload_n 0 dX11_lay_228 rfl rfl ?_
                refine j_dup dX11_lay_229 rfl ?_
                refine j_get fX11_202 dX11_lay_230 hP.1 rfl ?_
                refine J_top (q.1 5) ?_ (by rfl)
                refine J_iconst dX11_lay_233 ?_
                refine J_iadd dX11_lay_234 ?_
                refine J_putA hP fX11_202 tyX11_laid dX11_lay_235 rfl rfl (fun h hP hF235 => ?_)
                have hM := hM.w hZ hP hF235
                have hF := hF.tr (hF235.mono (fun _ q => Or.inl q))
                obtain ⟨Fa, hpa, hFa⟩ := hM.2.1
                have hPk := hM.2.2 k.toNat (by omega)
                refine j_goto 83 dX11_lay_238 (by decide) ?_
                have e3 : min to (endF (P k.toNat) e) - (t + great left) = left - great left := by omega
                have g9 := ih2 m3 (t + great left) (sgnU s e t (great left)) _ _ (by omega) (by omega) ⟨by omega, by omega⟩ hM (hR.add hx) (by rw [sgnU_9]; omega) hev ⟨fun j x y => by rw [oU_n x]; exact hU.1 j x y, fun i x => by show (oA (oA (oA (oA q 7 _) 8 _) 9 _) 10 _).2 i = _; rw [oA_n (by omega), oA_n (by omega), oA_n (by omega), oA_n (by omega)]; exact hU.2 i x⟩ hF
                rw [e3] at g9
                exact j_locR g9 (by repeat' (first | exact True.intro | refine And.intro rfl ?_))
            have look : 4 ≤ left → ∀ (n4 : Nat) (j v : Int), j + 1 = n4 → j < 10 → gvI left j v → rg v → J l G mX11_lay (jQ G mX11_lay (jW oN (fun h' => ∃ p', Mod G h' a d mp p' ∧ LD (wW P p0 k b) p' ∧ LU p p' ∧ Fr (FtM a d) h h'))) 0 0 100 [(10, vI j), (9, vI v), (8, vI left), (7, vI t), (6, vI e), (5, vI to), (4, vI fr), (3, .ref (d.pad k.toNat)), (2, vI b), (1, vI k), (0, .ref a)] [] h2 := by
              intro hl4 n4
              induction n4 with
              | zero =>
                intro j v hj hj10 hv hrv
                obtain rfl : j = -1 := by omega
                have hgv := gvI_end hv
                subst hgv
                refine j_iload dX11_lay_100 rfl ?_
                refine J_if_lt 136 dX11_lay_102 (by decide) (fun c102 => ?_) (fun c102 => absurd c102 (by omega)) 
                exact j_locR body (by repeat' (first | exact True.intro | refine And.intro rfl ?_))
              | succ n4 ih4 =>
                intro j v hj hj10 hv hrv
                have hlv := lkV j ⟨by omega, hj10⟩
                refine j_iload dX11_lay_100 rfl ?_
                refine J_if_lt 136 dX11_lay_102 (by decide) (fun c102 => absurd c102 (by omega)) (fun c102 => ?_) 
                refine j_iload dX11_lay_105 rfl ?_
                refine J_iconst dX11_lay_107 ?_
                refine J_icmp_lt 136 dX11_lay_108 (by decide) (fun c108 => absurd c108 (by omega)) (fun c108 => ?_) 
                refine j_gets 5 rfl fX11_102 dX11_lay_111 ?_
                refine j_iload dX11_lay_114 rfl ?_
                refine J_siald 5 vals rfl rfl dX11_lay_116 ?_ 
                refine j_iload dX11_lay_117 rfl ?_
                refine J_icmp_gt 130 dX11_lay_119 (by decide) (fun c119 => ?_) (fun c119 => ?_) 
                · refine J_iinc (L' := [(10, _), (9, _), (8, _), (7, _), (6, _), (5, _), (4, _), (3, _), (2, _), (1, _), (0, _)]) dX11_lay_130 rfl rfl rfl ?_
                  refine j_goto 100 dX11_lay_133 (by decide) ?_
                  first
                  | exact j_locR (ih4 (j - 1) v (by omega) (by omega) (gvI_n hv hl4 (by omega) c119) hrv) (by repeat' (first | exact True.intro | refine And.intro rfl ?_))
                  | exact j_locR (ih4 (j - 1) (lk vals j) (by omega) (by omega) (gvI_y (v := v) (by omega) hj10 c119) (by omega)) (by repeat' (first | exact True.intro | refine And.intro rfl ?_))
                · refine j_gets 5 rfl fX11_102 dX11_lay_122 ?_
                  refine j_iload dX11_lay_125 rfl ?_
                  refine J_siald 5 vals rfl rfl dX11_lay_127 ?_ 
                  refine j_istore (L' := [(9, _), (10, _), (8, _), (7, _), (6, _), (5, _), (4, _), (3, _), (2, _), (1, _), (0, _)]) dX11_lay_128 rfl rfl ?_
                  refine J_iinc (L' := [(10, _), (9, _), (8, _), (7, _), (6, _), (5, _), (4, _), (3, _), (2, _), (1, _), (0, _)]) dX11_lay_130 rfl rfl rfl ?_
                  refine j_goto 100 dX11_lay_133 (by decide) ?_
                  first
                  | exact j_locR (ih4 (j - 1) v (by omega) (by omega) (gvI_n hv hl4 (by omega) c119) hrv) (by repeat' (first | exact True.intro | refine And.intro rfl ?_))
                  | exact j_locR (ih4 (j - 1) (lk vals j) (by omega) (by omega) (gvI_y (v := v) (by omega) hj10 c119) (by omega)) (by repeat' (first | exact True.intro | refine And.intro rfl ?_))
            refine j_iload dX11_lay_83 rfl ?_
            refine J_if_le 241 dX11_lay_85 (by decide) (fun c85 => absurd c85 (by omega)) (fun c85 => ?_) 
            refine j_iload dX11_lay_88 rfl ?_
            refine j_istore (L' := [(9, _), (8, _), (7, _), (6, _), (5, _), (4, _), (3, _), (2, _), (1, _), (0, _)]) dX11_lay_90 rfl rfl ?_
            refine j_gets 5 rfl fX11_102 dX11_lay_92 ?_
            refine J_salen 5 rfl dX11_lay_95 ?_
            refine J_iconst dX11_lay_96 ?_
            refine J_isub dX11_lay_97 ?_
            refine j_istore (L' := [(10, _), (9, _), (8, _), (7, _), (6, _), (5, _), (4, _), (3, _), (2, _), (1, _), (0, _)]) dX11_lay_98 rfl rfl ?_
            by_cases hl4 : 4 ≤ left
            · exact j_locR (look hl4 10 9 left (by omega) (by omega) (Or.inl ⟨rfl, rfl⟩) (by omega)) (by repeat' (first | exact True.intro | refine And.intro rfl ?_))
            · have hgs := great_small left (by omega)
              refine j_iload dX11_lay_100 rfl ?_
              refine J_if_lt 136 dX11_lay_102 (by decide) (fun c102 => absurd c102 (by decide)) (fun c102 => ?_) 
              refine j_iload dX11_lay_105 rfl ?_
              refine J_iconst dX11_lay_107 ?_
              refine J_icmp_lt 136 dX11_lay_108 (by decide) (fun c108 => ?_) (fun c108 => absurd c108 (by omega)) 
              rw [hgs] at body
              exact j_locR body (by repeat' (first | exact True.intro | refine And.intro rfl ?_))
      refine j_iload dX11_lay_32 rfl ?_
      refine j_aload_n 3 dX11_lay_34 rfl rfl ?_
      refine j_getN fX11_99 dX11_lay_35 hPk.1 rfl ?_
      refine J_top ((P k.toNat).1 7) ?_ (by exact hmk.1.1)
      refine J_icmp_ge 247 dX11_lay_38 (by decide) (fun c38 => absurd c38 (by omega)) (fun c38 => ?_) 
      refine j_aload_n 3 dX11_lay_41 rfl rfl ?_
      refine j_getN fX11_170 dX11_lay_42 hPk.1 rfl ?_
      refine j_iload dX11_lay_45 rfl ?_
      refine J_iald dX11_lay_47 (hPk.2.1 1 rfl) ?_ 
      refine J_top ((P k.toNat).2 3 e) ?_ (by exact (hmk.2.1 e h0 (by omega)).1)
      refine j_iload dX11_lay_48 rfl ?_
      refine J_icmp_ge 247 dX11_lay_50 (by decide) (fun c50 => ?_) (fun c50 => ?_) 
      · rw [if_neg (by omega)] at hev
        subst hev
        exact fin e q h2 hM hR hU hF
      · rw [if_pos c50] at hev
        refine j_iload dX11_lay_53 rfl ?_
        refine j_aload_n 3 dX11_lay_55 rfl rfl ?_
        refine j_getN fX11_170 dX11_lay_56 hPk.1 rfl ?_
        refine j_iload dX11_lay_59 rfl ?_
        refine J_iald dX11_lay_61 (hPk.2.1 1 rfl) ?_ 
        refine J_top ((P k.toNat).2 3 e) ?_ (by exact (hmk.2.1 e h0 (by omega)).1)
        refine J_mmax kX11_205 rfl rfl dX11_lay_62 ?_ 
        refine j_istore (L' := [(7, _), (6, _), (5, _), (4, _), (3, _), (2, _), (1, _), (0, _)]) dX11_lay_65 rfl rfl ?_
        refine j_iload dX11_lay_67 rfl ?_
        refine j_aload_n 3 dX11_lay_69 rfl rfl ?_
        refine j_iload dX11_lay_70 rfl ?_
        refine J_callV1 kX11_208 cvX10_endOf hPk.1 (c_X10_endOf hPk hmk hpk hi) rfl rfl rfl rfl rfl dX11_lay_72 rfl rfl ?_
        refine J_mmin kX11_211 rfl rfl dX11_lay_75 ?_ 
        refine j_iload dX11_lay_78 rfl ?_
        refine J_isub dX11_lay_80 ?_
        refine j_istore (L' := [(8, _), (7, _), (6, _), (5, _), (4, _), (3, _), (2, _), (1, _), (0, _)]) dX11_lay_81 rfl rfl ?_
        exact j_locR (stretch c50 96 128 (max fr ((P k.toNat).2 3 e)) s q h2 (by omega) (by omega) ⟨by omega, by omega⟩ hM hR hs9 hev hU hF) (by repeat' (first | exact True.intro | refine And.intro rfl ?_))
  refine j_body (by decide +kernel) ⟨rfl, rfl⟩ rfl ?_
  have hP := hM.1
  have hF : Fr (FtM a d) h h := Fr.rf
  obtain ⟨Fa, hpa, hFa⟩ := hM.2.1
  refine j_aload_n 0 dX11_lay_0 rfl rfl ?_
  refine j_get fX11_24 dX11_lay_1 hP.1 rfl ?_
  refine j_iload_n 1 dX11_lay_4 rfl rfl ?_
  refine J_qaldM dX11_lay_5 hpa (hFa _ (by omega)) ?_ 
  refine j_astore_n 3 (L' := [(3, _), (0, _), (1, _), (2, _)]) dX11_lay_6 rfl rfl rfl ?_
  refine j_aload_n 0 dX11_lay_7 rfl rfl ?_
  refine j_iload_n 2 dX11_lay_8 rfl rfl ?_
  refine J_callV1 kX11_112 cvX11_begin hP.1 (c_X11_begin hM hZ hI ⟨by omega, by omega⟩) rfl rfl rfl rfl rfl dX11_lay_9 rfl rfl ?_
  refine J_top (fr) ?_ (by exact hfr.symm)
  refine j_istore (L' := [(4, _), (3, _), (0, _), (1, _), (2, _)]) dX11_lay_12 rfl rfl ?_
  refine j_iload dX11_lay_14 rfl ?_
  refine j_aload_n 0 dX11_lay_16 rfl rfl ?_
  refine j_iload_n 2 dX11_lay_17 rfl rfl ?_
  refine J_callV1 kX11_105 cvX11_length hP.1 (c_X11_length hM hZ hI hb) rfl rfl rfl rfl rfl dX11_lay_18 rfl rfl ?_
  refine J_iadd dX11_lay_21 ?_
  refine J_top (to) ?_ (by exact hto.symm)
  refine j_istore (L' := [(5, _), (4, _), (3, _), (0, _), (1, _), (2, _)]) dX11_lay_22 rfl rfl ?_
  refine j_aload_n 0 dX11_lay_24 rfl rfl ?_
  refine J_iconst dX11_lay_25 ?_
  refine J_putA hP fX11_202 tyX11_laid dX11_lay_26 rfl rfl (fun h hP hF26 => ?_)
  have hM := hM.w hZ hP hF26
  have hF := hF.tr (hF26.mono (fun _ q => Or.inl q))
  obtain ⟨Fa, hpa, hFa⟩ := hM.2.1
  refine J_iconst dX11_lay_29 ?_
  refine j_istore (L' := [(6, _), (5, _), (4, _), (3, _), (0, _), (1, _), (2, _)]) dX11_lay_30 rfl rfl ?_
  exact j_locR (events ((P k.toNat).1 7).toNat 0 (oU zOS 9 0) _ _ (by omega) (by omega) hM ⟨rfl, fun j x y => absurd (show j < 0 from y) (by omega)⟩ (Int.le_refl _) hU1.symm ⟨fun j x y => oU_n x, fun _ _ => rfl⟩ hF) (by repeat' (first | exact True.intro | refine And.intro rfl ?_))
