theorem bI_n1 {a b : Prop} [Decidable a] [Decidable b] (h : ¬ a) : (0 : Int) = bI (a ∧ b) := (if_neg (fun z => h z.1)).symm
theorem bI_n2 {a b : Prop} [Decidable a] [Decidable b] (h : ¬ b) : (0 : Int) = bI (a ∧ b) := (if_neg (fun z => h z.2)).symm
section BMR
variable {g : Int → Int} {p : OS}
theorem bmP_s (g : Int → Int) (p : OS) (k : Nat) : bmP g p (k + 1) = bmS g (bmP g p k) k := rfl
theorem bm_first {k : Nat} (hb : ¬ (0 < (k : Int) ∧ g k ≠ -1 ∧ g k = g ((k : Int) - 1))) : (bmP g p (k + 1)).1 10 = (bmP g p k).1 10 ∧ (bmP g p (k + 1)).2 7 = upI ((bmP g p k).2 7) k (-1) := by
  rw [bmP_s]
  unfold bmS
  rw [if_neg hb]
  exact ⟨rfl, rfl⟩
theorem bm_join {k : Nat} (hb : 0 < (k : Int) ∧ g k ≠ -1 ∧ g k = g ((k : Int) - 1)) : ((bmP g p k).2 7 ((k : Int) - 1) = -1 → (bmP g p (k + 1)).1 10 = (bmP g p k).1 10 + 1 ∧ (bmP g p (k + 1)).2 7 k = (bmP g p k).1 10 ∧ (bmP g p (k + 1)).2 7 ((k : Int) - 1) = (bmP g p k).1 10 ∧ ∀ j : Int, j ≠ k → j ≠ (k : Int) - 1 → (bmP g p (k + 1)).2 7 j = (bmP g p k).2 7 j) ∧
    ((bmP g p k).2 7 ((k : Int) - 1) ≠ -1 → (bmP g p (k + 1)).1 10 = (bmP g p k).1 10 ∧ (bmP g p (k + 1)).2 7 k = (bmP g p k).2 7 ((k : Int) - 1) ∧ ∀ j : Int, j ≠ k → (bmP g p (k + 1)).2 7 j = (bmP g p k).2 7 j) := by
  rw [bmP_s]
  unfold bmS
  rw [if_pos hb]
  generalize bmP g p k = r
  unfold joinP joiP
  have e1 : (oA r 7 (upI (r.2 7) k (-1))).2 7 = upI (r.2 7) k (-1) := rfl
  rw [e1, upI_n (show (k : Int) - 1 ≠ k by omega)]
  constructor
  · intro h
    rw [if_pos h]
    refine ⟨rfl, ?_, ?_, fun j a b => ?_⟩
    · show upI (upI (upI (r.2 7) k (-1)) ((k : Int) - 1) (r.1 10)) k (upI (upI (r.2 7) k (-1)) ((k : Int) - 1) (r.1 10) ((k : Int) - 1)) k = r.1 10
      rw [upI_s, upI_s]
    · show upI (upI (upI (r.2 7) k (-1)) ((k : Int) - 1) (r.1 10)) k (upI (upI (r.2 7) k (-1)) ((k : Int) - 1) (r.1 10) ((k : Int) - 1)) ((k : Int) - 1) = r.1 10
      rw [upI_n (by omega), upI_s]
    · show upI (upI (upI (r.2 7) k (-1)) ((k : Int) - 1) (r.1 10)) k _ j = r.2 7 j
      rw [upI_n a, upI_n b, upI_n a]
  · intro h
    rw [if_neg h]
    refine ⟨rfl, ?_, fun j a => ?_⟩
    · show upI (upI (r.2 7) k (-1)) k (upI (r.2 7) k (-1) ((k : Int) - 1)) k = _
      rw [upI_s, upI_n (by omega)]
    · show upI (upI (r.2 7) k (-1)) k _ j = r.2 7 j
      rw [upI_n a, upI_n a]
/-- a run of n + 1 signs of one group, from k on -/
theorem bm_run {k : Nat} (hb : ¬ (0 < (k : Int) ∧ g k ≠ -1 ∧ g k = g ((k : Int) - 1))) (h0 : 0 ≤ (bmP g p k).1 10) : ∀ n : Nat, (∀ j : Int, (k : Int) < j → j ≤ k + n → g j ≠ -1 ∧ g j = g (j - 1)) →
    (bmP g p (k + n + 1)).1 10 = (bmP g p k).1 10 + (if n = 0 then 0 else 1) ∧ (∀ j : Int, j < k → (bmP g p (k + n + 1)).2 7 j = (bmP g p k).2 7 j) ∧ ∀ j : Int, (k : Int) ≤ j → j ≤ k + n → (bmP g p (k + n + 1)).2 7 j = if n = 0 then -1 else (bmP g p k).1 10
  | 0, _ => by
    have f := bm_first (p := p) hb
    rw [Nat.add_zero, if_pos rfl, f.1, f.2]
    refine ⟨by omega, fun j a => upI_n (by omega), fun j a b => ?_⟩
    have : j = k := by omega
    subst this
    rw [if_pos rfl, upI_s]
  | n + 1, hr => by
    obtain ⟨i1, i2, i3⟩ := bm_run hb h0 n (fun j a b => hr j a (by omega))
    have hj := hr (k + n + 1) (by omega) (by omega)
    have e8 : (((k + n + 1 : Nat)) : Int) = (k : Int) + n + 1 := by omega
    have J := bm_join (g := g) (p := p) (k := k + n + 1) ⟨by omega, by rw [e8]; exact hj⟩
    have e9 : (((k + n + 1 : Nat)) : Int) - 1 = (k : Int) + n := by omega
    rw [e9] at J
    have i4 := i3 (k + n) (by omega) (by omega)
    rw [show k + (n + 1) + 1 = k + n + 1 + 1 by omega, if_neg (by omega)]
    by_cases c : n = 0
    · rw [if_pos c] at i1 i4
      obtain ⟨a1, a2, a3, a4⟩ := J.1 i4
      refine ⟨by omega, fun j x => ?_, fun j x y => ?_⟩
      · rw [a4 j (by omega) (by omega)]; exact i2 j x
      · rw [if_neg (by omega)]
        by_cases d : j = ((k + n + 1 : Nat) : Int)
        · rw [d, a2, i1]; omega
        · rw [show j = (k : Int) + n by omega, a3, i1]; omega
    · rw [if_neg c] at i1 i4
      obtain ⟨a1, a2, a3⟩ := J.2 (by rw [i4]; omega)
      refine ⟨by omega, fun j x => ?_, fun j x y => ?_⟩
      · rw [a3 j (by omega)]; exact i2 j x
      · rw [if_neg (by omega)]
        by_cases d : j = ((k + n + 1 : Nat) : Int)
        · rw [d, a2]; exact i4
        · rw [a3 j d, i3 j x (by omega), if_neg c]
theorem bm_ge (g : Int → Int) (p : OS) : ∀ k : Nat, k ≤ 128 → 0 ≤ (bmP g p k).1 10 ∧ (bmP g p k).1 10 ≤ k := by
  have h : ∀ k : Nat, k ≤ 128 → bmZ (bmP g p k) k := fun k => by
    induction k with
    | zero => intro _; exact ⟨⟨Int.le_refl _, Int.le_refl _⟩, fun j a b => absurd b (by simp; omega)⟩
    | succ k ih => intro hk; rw [bmP_s]; exact bmZ_s (by omega) (by omega) (ih (by omega))
  exact fun k hk => (h k hk).1
end BMR
set_option maxRecDepth 100000 in
theorem c_X11_isShort {l : Launch} {G : jG} {h : jH} {a : Nat} {d : MD} {mp P : Nat → OS} {p p0 : OS} {Z : Nat → Nat} {k fr to se j : Int} {s : OS} (hM : Mod G h a d mp p) (hZ : Mz a d Z) (hI : MI d P p0 mp p.2) (hk : 0 ≤ k ∧ k < 4) (hR : SR (P k.toNat) se p s) (hE : SE (P k.toNat) fr to s) (hj : 0 ≤ j ∧ j < s.1 9) : jC l G yX11_isShort mX11_isShort [.ref a, vI k, vI j] h (jE (oI (bI ((P k.toNat).2 0 (s.2 0 j) ≠ 0 ∧ s.2 2 j ≤ 12))) h) := by
  refine j_body (by decide +kernel) ⟨rfl, rfl⟩ rfl ?_
  have hP := hM.1
  have hF : Fr (FtM a d) h h := Fr.rf
  obtain ⟨Fa, hpa, hFa⟩ := hM.2.1
  have hpk := hI.1.1 k.toNat (by omega)
  have hmk := hI.2.1 k.toNat (by omega)
  have hPk := hM.2.2 k.toNat (by omega)
  have hn7 : 0 ≤ (P k.toNat).1 7 ∧ (P k.toNat).1 7 ≤ 512 := hpk.1
  have hq := hE.1
  have hc := hq.1
  unfold mN at hc
  have hto := hE.2
  obtain ⟨hin, htk, hln⟩ := hq.2 j hj.1 hj.2
  refine j_aload_n 0 dX11_isShort_0 rfl rfl ?_
  refine j_get fX11_24 dX11_isShort_1 hP.1 rfl ?_
  refine j_iload_n 1 dX11_isShort_4 rfl rfl ?_
  refine J_qaldM dX11_isShort_5 hpa (hFa _ (by omega)) ?_ 
  refine j_aload_n 0 dX11_isShort_6 rfl rfl ?_
  refine j_get fX11_37 dX11_isShort_7 hP.1 rfl ?_
  refine j_iload_n 2 dX11_isShort_10 rfl rfl ?_
  refine J_iald dX11_isShort_11 (hP.2.1 7 rfl) ?_ 
  refine J_top (s.2 0 j) ?_ (by exact (hR.2 j hj.1 hj.2).1)
  refine J_callVZ kX11_137 cvX10_isNote hPk.1 (c_X10_isNote hPk hmk hpk (e := s.2 0 j) hin) rfl rfl rfl rfl rfl dX11_isShort_12 rfl rfl (fun z12 => ?_) (fun z12 => ?_)
  · refine J_if_eq 33 dX11_isShort_15 (by decide) (fun c15 => absurd c15 (by decide)) (fun c15 => ?_) 
    refine j_aload_n 0 dX11_isShort_18 rfl rfl ?_
    refine j_get fX11_40 dX11_isShort_19 hP.1 rfl ?_
    refine j_iload_n 2 dX11_isShort_22 rfl rfl ?_
    refine J_iald dX11_isShort_23 (hP.2.1 8 rfl) ?_ 
    refine J_top (s.2 2 j) ?_ (by exact (hR.2 j hj.1 hj.2).2.1)
    refine J_bipush dX11_isShort_24 (by decide) ?_
    refine J_icmp_gt 33 dX11_isShort_26 (by decide) (fun c26 => ?_) (fun c26 => ?_) 
    · refine J_iconst dX11_isShort_33 ?_
      refine j_zret rfl rfl dX11_isShort_34 ⟨oIe ?_, rfl⟩
      (first | exact (if_pos ⟨z12, c26⟩).symm | exact bI_n1 z12 | exact bI_n2 (Int.not_le.mpr c26))
    · refine J_iconst dX11_isShort_29 ?_
      refine j_goto 34 dX11_isShort_30 (by decide) ?_
      refine j_zret rfl rfl dX11_isShort_34 ⟨oIe ?_, rfl⟩
      (first | exact (if_pos ⟨z12, c26⟩).symm | exact bI_n1 z12 | exact bI_n2 (Int.not_le.mpr c26))
  · refine J_if_eq 33 dX11_isShort_15 (by decide) (fun c15 => ?_) (fun c15 => absurd c15 (by decide)) 
    refine J_iconst dX11_isShort_33 ?_
    refine j_zret rfl rfl dX11_isShort_34 ⟨oIe ?_, rfl⟩
    (first | exact (if_pos ⟨z12, c26⟩).symm | exact bI_n1 z12 | exact bI_n2 (Int.not_le.mpr c26))
/-- the beams of the first k signs are told -/
def BMQ (g : Int → Int) (s p : OS) (k : Nat) (q : OS) : Prop := (∀ j : Nat, j ≠ 6 → q.1 j = p.1 j) ∧ (∀ i : Nat, i ≠ 13 → q.2 i = p.2 i) ∧ q.1 6 = (bmP g s k).1 10 ∧ ∀ j : Int, 0 ≤ j → j < k → q.2 13 j = (bmP g s k).2 7 j
theorem glF_rg (p0 : OS) (b : Int) : glF p0 b = 24 ∨ glF p0 b = 32 ∨ glF p0 b = 16 := by
  unfold glF
  (repeat' split) <;> omega
theorem grp_short {p6 s : OS} {fr gl j : Int} (c : p6.2 0 (s.2 0 j) ≠ 0 ∧ s.2 2 j ≤ 12) : grpG p6 s fr gl j = (s.2 1 j - fr) / gl := by
  unfold grpG
  rw [if_pos ⟨c.2, c.1⟩]
theorem grp_long {p6 s : OS} {fr gl j : Int} (c : ¬ (p6.2 0 (s.2 0 j) ≠ 0 ∧ s.2 2 j ≤ 12)) : grpG p6 s fr gl j = -1 := by
  unfold grpG
  rw [if_neg (fun z => c ⟨z.2, z.1⟩)]
set_option maxRecDepth 100000 in
theorem c_X11_beam {l : Launch} {G : jG} {h : jH} {a : Nat} {d : MD} {mp P : Nat → OS} {p p0 : OS} {Z : Nat → Nat} {k b fr to se : Int} {s : OS} (hM : Mod G h a d mp p) (hZ : Mz a d Z) (hI : MI d P p0 mp p.2) (hk : 0 ≤ k ∧ k < 4) (hR : SR (P k.toNat) se p s) (hE : SE (P k.toNat) fr to s) (hb : isBar b) : jC l G yX11_beam mX11_beam [.ref a, vI k, vI b, vI fr] h (jW oN (fun h' => ∃ q, Mod G h' a d mp q ∧ (∀ j : Nat, j ≠ 6 → q.1 j = p.1 j) ∧ (∀ i : Nat, i ≠ 13 → q.2 i = p.2 i) ∧ q.1 6 = (bmP (grpG (P k.toNat) s fr (glF p0 b)) s (s.1 9).toNat).1 10 ∧ (∀ j : Int, 0 ≤ j → j < s.1 9 → q.2 13 j = (bmP (grpG (P k.toNat) s fr (glF p0 b)) s (s.1 9).toNat).2 7 j) ∧ Fr (FtM a d) h h')) := by
  have hpk := hI.1.1 k.toNat (by omega)
  have hmk := hI.2.1 k.toNat (by omega)
  have hn7 : 0 ≤ (P k.toNat).1 7 ∧ (P k.toNat).1 7 ≤ 512 := hpk.1
  have hq := hE.1
  have hc := hq.1
  unfold mN at hc
  have hto := hE.2
  obtain ⟨b0, b1⟩ := hb
  obtain ⟨u1, u2, u3, u4, u5, u6, u7, u8⟩ := hI.len (b := b) ⟨b0, b1⟩
  have hgl := glF_rg p0 b
  obtain ⟨g, hg⟩ : ∃ g, g = (grpG (P k.toNat) s fr (glF p0 b)) := ⟨_, rfl⟩
  have hgs : ∀ j : Int, ((P k.toNat).2 0 (s.2 0 j) ≠ 0 ∧ s.2 2 j ≤ 12) → g j = (s.2 1 j - fr) / glF p0 b := fun j c => by rw [hg]; exact grp_short c
  have hgn : ∀ j : Int, ¬ ((P k.toNat).2 0 (s.2 0 j) ≠ 0 ∧ s.2 2 j ≤ 12) → g j = -1 := fun j c => by rw [hg]; exact grp_long c
  have hgp : ∀ j : Int, 0 ≤ j → j < s.1 9 → ((P k.toNat).2 0 (s.2 0 j) ≠ 0 ∧ s.2 2 j ≤ 12) → 0 ≤ g j ∧ (s.2 1 j - fr).tdiv (glF p0 b) = g j ∧ 0 ≤ s.2 1 j - fr ∧ s.2 1 j - fr ≤ 20000 := fun j x y c => by
    have hz := (hq.2 j x y).2.1
    have e := hgs j c
    refine ⟨by rw [e]; exact Int.ediv_nonneg (by omega) (by omega), by rw [e]; exact Int.tdiv_eq_ediv_of_nonneg (by omega), by omega, by omega⟩
  rw [← hg]
  have outer : ∀ (n c : Nat) (q : OS) (h2 : jH), (c : Int) + n ≥ s.1 9 → (c : Int) ≤ s.1 9 → Mod G h2 a d mp q → BMQ g s p c q → ((c : Int) < s.1 9 → ¬ (0 < (c : Int) ∧ g c ≠ -1 ∧ g c = g ((c : Int) - 1))) → Fr (FtM a d) h h2 → J l G mX11_beam (jQ G mX11_beam (jW oN (fun h' => ∃ q, Mod G h' a d mp q ∧ (∀ j : Nat, j ≠ 6 → q.1 j = p.1 j) ∧ (∀ i : Nat, i ≠ 13 → q.2 i = p.2 i) ∧ q.1 6 = (bmP g s (s.1 9).toNat).1 10 ∧ (∀ j : Int, 0 ≤ j → j < s.1 9 → q.2 13 j = (bmP g s (s.1 9).toNat).2 7 j) ∧ Fr (FtM a d) h h'))) 0 0 54 [(5, vI (c : Int)), (4, vI (glF p0 b)), (3, vI fr), (2, vI b), (1, vI k), (0, .ref a)] [] h2 := by
    intro n
    induction n with
    | zero =>
      intro c q h2 hn hle hM hB hbd hF
      have hP := hM.1
      have e5 : q.1 5 = s.1 9 := by rw [hB.1 5 (by decide)]; exact hR.1
      have ec : (s.1 9).toNat = c := by omega
      rw [ec]
      refine j_iload dX11_beam_54 rfl ?_
      refine j_aload_n 0 dX11_beam_56 rfl rfl ?_
      refine j_get fX11_202 dX11_beam_57 hP.1 rfl ?_
      refine J_top (s.1 9) ?_ (by exact e5)
      refine J_icmp_ge 200 dX11_beam_60 (by decide) (fun c60 => ?_) (fun c60 => absurd c60 (by omega)) 
      refine j_vret rfl dX11_beam_200 ?_
      exact ⟨rfl, q, hM, hB.1, hB.2.1, hB.2.2.1, fun j x y => hB.2.2.2 j x (by omega), hF⟩
    | succ n ih =>
      intro c q h2 hn hle hM hB hbd hF
      have hP := hM.1
      have e5 : q.1 5 = s.1 9 := by rw [hB.1 5 (by decide)]; exact hR.1
      have hRq : SR (P k.toNat) se q s := hR.add5 (hB.1 5 (by decide)) (hB.2.1 7 (by decide)) (hB.2.1 8 (by decide)) (hB.2.1 9 (by decide)) (hB.2.1 10 (by decide))
      have hIq : MI d P p0 mp q.2 := hI.arr (hB.2.1 2 (by decide)) (hB.2.1 3 (by decide)) (hB.2.1 4 (by decide))
      have hbg := bm_ge g s c (by omega)
      -- the end of the run
      have tail : ∀ (e : Nat), (c : Int) < s.1 9 → (c : Int) ≤ e → (e : Int) ≤ s.1 9 → (∀ j : Int, (c : Int) ≤ j → j < e → g j ≠ -1 ∧ g j = g c) → ((e : Int) < s.1 9 → g e = -1 ∨ ((c : Int) < e ∧ g e ≠ g c)) → J l G mX11_beam (jQ G mX11_beam (jW oN (fun h' => ∃ q, Mod G h' a d mp q ∧ (∀ j : Nat, j ≠ 6 → q.1 j = p.1 j) ∧ (∀ i : Nat, i ≠ 13 → q.2 i = p.2 i) ∧ q.1 6 = (bmP g s (s.1 9).toNat).1 10 ∧ (∀ j : Int, 0 ≤ j → j < s.1 9 → q.2 13 j = (bmP g s (s.1 9).toNat).2 7 j) ∧ Fr (FtM a d) h h'))) 0 0 119 [(6, vI (e : Int)), (5, vI (c : Int)), (4, vI (glF p0 b)), (3, vI fr), (2, vI b), (1, vI k), (0, .ref a)] [] h2 := by
        intro e hcl hce hes hrun hend
        obtain ⟨r, hr⟩ : ∃ r : Nat, max (e : Int) (c + 1) = c + r + 1 := ⟨(max (e : Int) (c + 1) - c - 1).toNat, by omega⟩
        have hcr : c + r + 1 ≤ 128 := by omega
        have bad := bm_run (p := s) (hbd hcl) hbg.1 r (fun j x y => by
          have g1 := hrun j (by omega) (by omega)
          have g2 := hrun (j - 1) (by omega) (by omega)
          exact ⟨g1.1, g1.2.trans g2.2.symm⟩)
        have hr0 : (r = 0 ↔ (e : Int) - c < 2) := by omega
        have fill : ∀ (n2 j : Nat) (q2 : OS) (h3 : jH), (j : Int) + n2 = c + r + 1 → (c : Int) ≤ j → Mod G h3 a d mp q2 → (q2.1 = q.1 ∧ (∀ i : Nat, i ≠ 13 → q2.2 i = q.2 i) ∧ (∀ i : Int, i < c → q2.2 13 i = q.2 13 i) ∧ ∀ i : Int, (c : Int) ≤ i → i < j → q2.2 13 i = if r = 0 then -1 else q.1 6) → Fr (FtM a d) h h3 → J l G mX11_beam (jQ G mX11_beam (jW oN (fun h' => ∃ q, Mod G h' a d mp q ∧ (∀ j : Nat, j ≠ 6 → q.1 j = p.1 j) ∧ (∀ i : Nat, i ≠ 13 → q.2 i = p.2 i) ∧ q.1 6 = (bmP g s (s.1 9).toNat).1 10 ∧ (∀ j : Int, 0 ≤ j → j < s.1 9 → q.2 13 j = (bmP g s (s.1 9).toNat).2 7 j) ∧ Fr (FtM a d) h h'))) 0 0 123 [(7, vI (j : Int)), (6, vI (e : Int)), (5, vI (c : Int)), (4, vI (glF p0 b)), (3, vI fr), (2, vI b), (1, vI k), (0, .ref a)] [] h3 := by
          intro n2
          induction n2 with
          | zero =>
            intro j q2 h3 hj hcj hM hQ hF
            have hP := hM.1
            have e6 : q2.1 6 = (bmP g s c).1 10 := by rw [hQ.1]; exact hB.2.2.1
            have ej : j = c + r + 1 := by omega
            have nbd : ((c + r + 1 : Nat) : Int) < s.1 9 → ¬ (0 < ((c + r + 1 : Nat) : Int) ∧ g ((c + r + 1 : Nat) : Int) ≠ -1 ∧ g ((c + r + 1 : Nat) : Int) = g (((c + r + 1 : Nat) : Int) - 1)) := by
              intro hl z
              by_cases d1 : (e : Int) ≤ c
              · have hec : e = c := by omega
                have hg1 := hend (by omega)
                rw [hec] at hg1
                rcases hg1 with hg1 | hg1
                · rw [show ((c + r + 1 : Nat) : Int) - 1 = c by omega, hg1] at z
                  exact z.2.1 z.2.2
                · omega
              · have hee : ((c + r + 1 : Nat) : Int) = e := by omega
                rw [hee] at z hl
                have g2 := hrun ((e : Int) - 1) (by omega) (by omega)
                rcases hend hl with hg1 | hg1
                · exact z.2.1 hg1
                · exact hg1.2 (z.2.2.trans g2.2)
            refine j_iload dX11_beam_123 rfl ?_
            refine j_iload dX11_beam_125 rfl ?_
            refine j_iload dX11_beam_127 rfl ?_
            refine J_iconst dX11_beam_129 ?_
            refine J_iadd dX11_beam_130 ?_
            refine J_mmax kX11_205 rfl rfl dX11_beam_131 ?_ 
            refine J_top (((c + r + 1 : Nat) : Int)) ?_ (by omega)
            refine J_icmp_ge 167 dX11_beam_134 (by decide) (fun c134 => ?_) (fun c134 => absurd c134 (by omega)) 
            refine j_iload dX11_beam_167 rfl ?_
            refine j_iload dX11_beam_169 rfl ?_
            refine J_isub dX11_beam_171 ?_
            refine J_iconst dX11_beam_172 ?_
            refine J_icmp_lt 186 dX11_beam_173 (by decide) (fun c173 => ?_) (fun c173 => ?_) 
            · refine j_iload dX11_beam_186 rfl ?_
              refine j_iload dX11_beam_188 rfl ?_
              refine J_iconst dX11_beam_190 ?_
              refine J_iadd dX11_beam_191 ?_
              refine J_mmax kX11_205 rfl rfl dX11_beam_192 ?_ 
              refine J_top (((c + r + 1 : Nat) : Int)) ?_ (by omega)
              refine j_istore (L' := [(5, _), (7, _), (6, _), (4, _), (3, _), (2, _), (1, _), (0, _)]) dX11_beam_195 rfl rfl ?_
              refine j_goto 54 dX11_beam_197 (by decide) ?_
              first
              | exact j_locR (ih (c + r + 1) _ _ (by omega) (by omega) hM ⟨fun j hj => by rw [hQ.1]; exact hB.1 j hj, fun i hi => (hQ.2.1 i hi).trans (hB.2.1 i hi), by rw [bad.1, if_pos (by omega)]; omega, fun j x y => by
                  by_cases d1 : j < c
                  · rw [bad.2.1 j d1, hQ.2.2.1 j d1]; exact hB.2.2.2 j x d1
                  · rw [bad.2.2 j (by omega) (by omega), hQ.2.2.2 j (by omega) (by omega), hB.2.2.1]⟩ nbd hF) (by repeat' (first | exact True.intro | refine And.intro rfl ?_))
              | exact j_locR (ih (c + r + 1) _ _ (by omega) (by omega) hM ⟨fun j hj => by rw [oU_n hj, hQ.1]; exact hB.1 j hj, fun i hi => (hQ.2.1 i hi).trans (hB.2.1 i hi), by rw [bad.1, if_neg (by omega), oU_s]; omega, fun j x y => by
                  by_cases d1 : j < c
                  · rw [bad.2.1 j d1]; exact (hQ.2.2.1 j d1).trans (hB.2.2.2 j x d1)
                  · rw [bad.2.2 j (by omega) (by omega), ← hB.2.2.1]; exact hQ.2.2.2 j (by omega) (by omega)⟩ nbd hF) (by repeat' (first | exact True.intro | refine And.intro rfl ?_))
            · refine j_aload_n 0 dX11_beam_176 rfl rfl ?_
              refine j_dup dX11_beam_177 rfl ?_
              refine j_get fX11_221 dX11_beam_178 hP.1 rfl ?_
              refine J_top ((bmP g s c).1 10) ?_ (by exact e6)
              refine J_iconst dX11_beam_181 ?_
              refine J_iadd dX11_beam_182 ?_
              refine J_top (q2.1 6 + 1) ?_ (by omega)
              refine J_putA hP fX11_221 tyX11_laidBeams dX11_beam_183 rfl rfl (fun h hP hF183 => ?_)
              have hM := hM.w hZ hP hF183
              have hF := hF.tr (hF183.mono (fun _ q => Or.inl q))
              obtain ⟨Fa, hpa, hFa⟩ := hM.2.1
              refine j_iload dX11_beam_186 rfl ?_
              refine j_iload dX11_beam_188 rfl ?_
              refine J_iconst dX11_beam_190 ?_
              refine J_iadd dX11_beam_191 ?_
              refine J_mmax kX11_205 rfl rfl dX11_beam_192 ?_ 
              refine J_top (((c + r + 1 : Nat) : Int)) ?_ (by omega)
              refine j_istore (L' := [(5, _), (7, _), (6, _), (4, _), (3, _), (2, _), (1, _), (0, _)]) dX11_beam_195 rfl rfl ?_
              refine j_goto 54 dX11_beam_197 (by decide) ?_
              first
              | exact j_locR (ih (c + r + 1) _ _ (by omega) (by omega) hM ⟨fun j hj => by rw [hQ.1]; exact hB.1 j hj, fun i hi => (hQ.2.1 i hi).trans (hB.2.1 i hi), by rw [bad.1, if_pos (by omega)]; omega, fun j x y => by
                  by_cases d1 : j < c
                  · rw [bad.2.1 j d1, hQ.2.2.1 j d1]; exact hB.2.2.2 j x d1
                  · rw [bad.2.2 j (by omega) (by omega), hQ.2.2.2 j (by omega) (by omega), hB.2.2.1]⟩ nbd hF) (by repeat' (first | exact True.intro | refine And.intro rfl ?_))
              | exact j_locR (ih (c + r + 1) _ _ (by omega) (by omega) hM ⟨fun j hj => by rw [oU_n hj, hQ.1]; exact hB.1 j hj, fun i hi => (hQ.2.1 i hi).trans (hB.2.1 i hi), by rw [bad.1, if_neg (by omega), oU_s]; omega, fun j x y => by
                  by_cases d1 : j < c
                  · rw [bad.2.1 j d1]; exact (hQ.2.2.1 j d1).trans (hB.2.2.2 j x d1)
                  · rw [bad.2.2 j (by omega) (by omega), ← hB.2.2.1]; exact hQ.2.2.2 j (by omega) (by omega)⟩ nbd hF) (by repeat' (first | exact True.intro | refine And.intro rfl ?_))
          | succ n2 ih2 =>
            intro j q2 h3 hj hcj hM hQ hF
            have hP := hM.1
            refine j_iload dX11_beam_123 rfl ?_
            refine j_iload dX11_beam_125 rfl ?_
            refine j_iload dX11_beam_127 rfl ?_
            refine J_iconst dX11_beam_129 ?_
            refine J_iadd dX11_beam_130 ?_
            refine J_mmax kX11_205 rfl rfl dX11_beam_131 ?_ 
            refine J_top (((c + r + 1 : Nat) : Int)) ?_ (by omega)
            refine J_icmp_ge 167 dX11_beam_134 (by decide) (fun c134 => absurd c134 (by omega)) (fun c134 => ?_) 
            refine j_aload_n 0 dX11_beam_137 rfl rfl ?_
            refine j_get fX11_56 dX11_beam_138 hP.1 rfl ?_
            refine j_iload dX11_beam_141 rfl ?_
            refine j_iload dX11_beam_143 rfl ?_
            refine j_iload dX11_beam_145 rfl ?_
            refine J_isub dX11_beam_147 ?_
            refine J_iconst dX11_beam_148 ?_
            refine J_icmp_ge 156 dX11_beam_149 (by decide) (fun c149 => ?_) (fun c149 => ?_) 
            · refine j_aload_n 0 dX11_beam_156 rfl rfl ?_
              refine j_get fX11_221 dX11_beam_157 hP.1 rfl ?_
              refine J_top (if r = 0 then -1 else q.1 6) ?_ (by first | (rw [if_pos (by omega)]) | (rw [if_neg (by omega), hQ.1]))
              refine J_iastA 13 hP rfl (fun _ => rfl) (fun _ => rfl) dX11_beam_160 (fun h hP hF160 => ?_) 
              have hM := hM.w hZ hP hF160
              have hF := hF.tr (hF160.mono (fun _ q => Or.inl q))
              obtain ⟨Fa, hpa, hFa⟩ := hM.2.1
              refine J_iinc (L' := [(7, _), (6, _), (5, _), (4, _), (3, _), (2, _), (1, _), (0, _)]) dX11_beam_161 rfl rfl rfl ?_
              refine j_goto 123 dX11_beam_164 (by decide) ?_
              exact j_locR (ih2 (j + 1) _ _ (by omega) (by omega) hM ⟨hQ.1, fun i hi => (oA_n hi).trans (hQ.2.1 i hi), fun i x => by rw [oA_s, upI_n (by omega)]; exact hQ.2.2.1 i x, fun i x y => by
                rw [oA_s]
                by_cases d1 : i = j
                · subst d1; rw [upI_s]
                · rw [upI_n d1]; exact hQ.2.2.2 i x (by omega)⟩ hF) (by repeat' (first | exact True.intro | refine And.intro rfl ?_))
            · refine J_iconst dX11_beam_152 ?_
              refine j_goto 160 dX11_beam_153 (by decide) ?_
              refine J_top (if r = 0 then -1 else q.1 6) ?_ (by first | (rw [if_pos (by omega)]) | (rw [if_neg (by omega), hQ.1]))
              refine J_iastA 13 hP rfl (fun _ => rfl) (fun _ => rfl) dX11_beam_160 (fun h hP hF160 => ?_) 
              have hM := hM.w hZ hP hF160
              have hF := hF.tr (hF160.mono (fun _ q => Or.inl q))
              obtain ⟨Fa, hpa, hFa⟩ := hM.2.1
              refine J_iinc (L' := [(7, _), (6, _), (5, _), (4, _), (3, _), (2, _), (1, _), (0, _)]) dX11_beam_161 rfl rfl rfl ?_
              refine j_goto 123 dX11_beam_164 (by decide) ?_
              exact j_locR (ih2 (j + 1) _ _ (by omega) (by omega) hM ⟨hQ.1, fun i hi => (oA_n hi).trans (hQ.2.1 i hi), fun i x => by rw [oA_s, upI_n (by omega)]; exact hQ.2.2.1 i x, fun i x y => by
                rw [oA_s]
                by_cases d1 : i = j
                · subst d1; rw [upI_s]
                · rw [upI_n d1]; exact hQ.2.2.2 i x (by omega)⟩ hF) (by repeat' (first | exact True.intro | refine And.intro rfl ?_))
        refine j_iload dX11_beam_119 rfl ?_
        refine j_istore (L' := [(7, _), (6, _), (5, _), (4, _), (3, _), (2, _), (1, _), (0, _)]) dX11_beam_121 rfl rfl ?_
        exact j_locR (fill (r + 1) c q h2 (by omega) (by omega) hM ⟨rfl, fun _ _ => rfl, fun _ _ => rfl, fun i x y => absurd y (by omega)⟩ hF) (by repeat' (first | exact True.intro | refine And.intro rfl ?_))
      have run : ∀ (n2 e : Nat), (e : Int) + n2 = s.1 9 → (c : Int) < s.1 9 → (c : Int) ≤ e → (∀ j : Int, (c : Int) ≤ j → j < e → g j ≠ -1 ∧ g j = g c) → J l G mX11_beam (jQ G mX11_beam (jW oN (fun h' => ∃ q, Mod G h' a d mp q ∧ (∀ j : Nat, j ≠ 6 → q.1 j = p.1 j) ∧ (∀ i : Nat, i ≠ 13 → q.2 i = p.2 i) ∧ q.1 6 = (bmP g s (s.1 9).toNat).1 10 ∧ (∀ j : Int, 0 ≤ j → j < s.1 9 → q.2 13 j = (bmP g s (s.1 9).toNat).2 7 j) ∧ Fr (FtM a d) h h'))) 0 0 67 [(6, vI (e : Int)), (5, vI (c : Int)), (4, vI (glF p0 b)), (3, vI fr), (2, vI b), (1, vI k), (0, .ref a)] [] h2 := by
        intro n2
        induction n2 with
        | zero =>
          intro e he hcl hce hrun
          refine j_iload dX11_beam_67 rfl ?_
          refine j_aload_n 0 dX11_beam_69 rfl rfl ?_
          refine j_get fX11_202 dX11_beam_70 hP.1 rfl ?_
          refine J_top (s.1 9) ?_ (by exact e5)
          refine J_icmp_ge 119 dX11_beam_73 (by decide) (fun c73 => ?_) (fun c73 => absurd c73 (by omega)) 
          exact tail e hcl hce (by omega) hrun (fun z => absurd z (by omega))
        | succ n2 ih2 =>
          intro e he hcl hce hrun
          have hce2 : (c : Int) < e → ((P k.toNat).2 0 (s.2 0 c) ≠ 0 ∧ s.2 2 c ≤ 12) := fun x => Classical.byContradiction (fun y => (hrun c (Int.le_refl _) x).1 (hgn c y))
          have htc := (hq.2 c (by omega) hcl).2.1
          have hte := (hq.2 e (by omega) (by omega)).2.1
          refine j_iload dX11_beam_67 rfl ?_
          refine j_aload_n 0 dX11_beam_69 rfl rfl ?_
          refine j_get fX11_202 dX11_beam_70 hP.1 rfl ?_
          refine J_top (s.1 9) ?_ (by exact e5)
          refine J_icmp_ge 119 dX11_beam_73 (by decide) (fun c73 => absurd c73 (by omega)) (fun c73 => ?_) 
          refine j_aload_n 0 dX11_beam_76 rfl rfl ?_
          refine j_iload_n 1 dX11_beam_77 rfl rfl ?_
          refine j_iload dX11_beam_78 rfl ?_
          refine J_callVZ kX11_224 cvX11_isShort hP.1 (c_X11_isShort hM hZ hIq hk hRq hE (j := (e : Int)) ⟨by omega, by omega⟩) rfl rfl rfl rfl rfl dX11_beam_80 rfl rfl (fun z80 => ?_) (fun z80 => ?_)
          · refine J_if_eq 119 dX11_beam_83 (by decide) (fun c83 => absurd c83 (by decide)) (fun c83 => ?_) 
            have hge := hgp e (by omega) (by omega) z80
            have hgr : g e ≤ 20000 := by rw [← hge.2.1, Int.tdiv_eq_ediv_of_nonneg hge.2.2.1]; exact Int.le_trans (Int.ediv_le_self _ hge.2.2.1) hge.2.2.2
            refine j_aload_n 0 dX11_beam_86 rfl rfl ?_
            refine j_get fX11_43 dX11_beam_87 hP.1 rfl ?_
            refine j_iload dX11_beam_90 rfl ?_
            refine J_iald dX11_beam_92 (hP.2.1 9 rfl) ?_ 
            refine J_top (s.2 1 e) ?_ (by exact (hRq.2 e (by omega) (by omega)).2.2.1)
            refine j_iload_n 3 dX11_beam_93 rfl rfl ?_
            refine J_isub dX11_beam_94 ?_
            refine j_iload dX11_beam_95 rfl ?_
            refine J_idiv dX11_beam_97 ?_ 
            refine J_top (g e) ?_ (by exact (hgp e (by omega) (by omega) z80).2.1)
            refine j_aload_n 0 dX11_beam_98 rfl rfl ?_
            refine j_get fX11_43 dX11_beam_99 hP.1 rfl ?_
            refine j_iload dX11_beam_102 rfl ?_
            refine J_iald dX11_beam_104 (hP.2.1 9 rfl) ?_ 
            refine J_top (s.2 1 c) ?_ (by exact (hRq.2 c (by omega) hcl).2.2.1)
            refine j_iload_n 3 dX11_beam_105 rfl rfl ?_
            refine J_isub dX11_beam_106 ?_
            refine j_iload dX11_beam_107 rfl ?_
            refine J_idiv dX11_beam_109 ?_ 
            have hcr2 := tdiv_pos_rg (x := s.2 1 c - fr) (y := glF p0 b) ⟨by omega, by omega⟩ (by omega)
            refine J_icmp_ne 119 dX11_beam_110 (by decide) (fun c110 => ?_) (fun c110 => ?_) 
            · first
              | exact tail e hcl hce (by omega) hrun (fun _ => Or.inl (hgn e z80))
              | exact tail e hcl hce (by omega) hrun (fun _ => by
                by_cases x : (c : Int) < e
                · refine Or.inr ⟨x, fun y => c110 ?_⟩
                  rw [(hgp c (by omega) hcl (hce2 x)).2.1]
                  exact y
                · have exc : e = c := by omega
                  subst exc
                  exact absurd (hgp e (by omega) hcl z80).2.1.symm c110)
            · refine J_iinc (L' := [(6, _), (5, _), (4, _), (3, _), (2, _), (1, _), (0, _)]) dX11_beam_113 rfl rfl rfl ?_
              refine j_goto 67 dX11_beam_116 (by decide) ?_
              refine j_locR (ih2 (e + 1) (by omega) hcl (by omega) (fun j x y => ?_)) (by repeat' (first | exact True.intro | refine And.intro rfl ?_))
              by_cases d1 : j = e
              · subst d1
                have hgz := (hgp e (by omega) (by omega) z80).1
                refine ⟨by omega, ?_⟩
                by_cases x2 : (c : Int) < e
                · rw [c110, (hgp c (by omega) hcl (hce2 x2)).2.1]
                · rw [show (c : Int) = e by omega]
              · exact hrun j x (by omega)
          · refine J_if_eq 119 dX11_beam_83 (by decide) (fun c83 => ?_) (fun c83 => absurd c83 (by decide)) 
            first
            | exact tail e hcl hce (by omega) hrun (fun _ => Or.inl (hgn e z80))
            | exact tail e hcl hce (by omega) hrun (fun _ => by
                by_cases x : (c : Int) < e
                · refine Or.inr ⟨x, fun y => c110 ?_⟩
                  rw [(hgp c (by omega) hcl (hce2 x)).2.1]
                  exact y
                · have exc : e = c := by omega
                  subst exc
                  exact absurd (hgp e (by omega) hcl z80).2.1.symm c110)
      refine j_iload dX11_beam_54 rfl ?_
      refine j_aload_n 0 dX11_beam_56 rfl rfl ?_
      refine j_get fX11_202 dX11_beam_57 hP.1 rfl ?_
      refine J_top (s.1 9) ?_ (by exact e5)
      refine J_icmp_ge 200 dX11_beam_60 (by decide) (fun c60 => ?_) (fun c60 => ?_) 
      · refine j_vret rfl dX11_beam_200 ?_
        have ec : (s.1 9).toNat = c := by omega
        rw [ec]
        exact ⟨rfl, q, hM, hB.1, hB.2.1, hB.2.2.1, fun j x y => hB.2.2.2 j x (by omega), hF⟩
      · refine j_iload dX11_beam_63 rfl ?_
        refine j_istore (L' := [(6, _), (5, _), (4, _), (3, _), (2, _), (1, _), (0, _)]) dX11_beam_65 rfl rfl ?_
        exact j_locR (run (s.1 9 - c).toNat c (by omega) c60 (by omega) (fun j x y => absurd y (by omega))) (by repeat' (first | exact True.intro | refine And.intro rfl ?_))
  refine j_body (by decide +kernel) ⟨rfl, rfl⟩ rfl ?_
  have hP := hM.1
  have hF : Fr (FtM a d) h h := Fr.rf
  obtain ⟨Fa, hpa, hFa⟩ := hM.2.1
  refine j_aload_n 0 dX11_beam_0 rfl rfl ?_
  refine j_get fX11_31 dX11_beam_1 hP.1 rfl ?_
  refine j_iload_n 2 dX11_beam_4 rfl rfl ?_
  refine J_iald dX11_beam_5 (hP.2.1 3 rfl) ?_ 
  refine J_top (p0.2 1 b) ?_ (by exact u2)
  refine J_iconst dX11_beam_6 ?_
  refine J_icmp_ne 15 dX11_beam_7 (by decide) (fun c7 => ?_) (fun c7 => ?_) 
  · refine j_aload_n 0 dX11_beam_15 rfl rfl ?_
    refine j_get fX11_31 dX11_beam_16 hP.1 rfl ?_
    refine j_iload_n 2 dX11_beam_19 rfl rfl ?_
    refine J_iald dX11_beam_20 (hP.2.1 3 rfl) ?_ 
    refine J_top (p0.2 1 b) ?_ (by exact u2)
    refine J_bipush dX11_beam_21 (by decide) ?_
    refine J_icmp_ne 42 dX11_beam_23 (by decide) (fun c23 => ?_) (fun c23 => ?_) 
    · refine J_bipush dX11_beam_42 (by decide) ?_
      refine J_top (glF p0 b) ?_ (by unfold glF; first | (rw [if_pos ⟨by assumption, by assumption⟩]) | (rw [if_neg (fun z => by omega), if_pos (by omega)]) | (rw [if_neg (fun z => by omega), if_neg (by omega)]))
      refine j_istore (L' := [(4, _), (0, _), (1, _), (2, _), (3, _)]) dX11_beam_44 rfl rfl ?_
      refine j_aload_n 0 dX11_beam_46 rfl rfl ?_
      refine J_iconst dX11_beam_47 ?_
      refine J_putA hP fX11_221 tyX11_laidBeams dX11_beam_48 rfl rfl (fun h hP hF48 => ?_)
      have hM := hM.w hZ hP hF48
      have hF := hF.tr (hF48.mono (fun _ q => Or.inl q))
      obtain ⟨Fa, hpa, hFa⟩ := hM.2.1
      refine J_iconst dX11_beam_51 ?_
      refine j_istore (L' := [(5, _), (4, _), (0, _), (1, _), (2, _), (3, _)]) dX11_beam_52 rfl rfl ?_
      exact j_locR (outer (s.1 9).toNat 0 _ _ (by omega) (by omega) hM ⟨fun j hj => oU_n hj, fun _ _ => rfl, rfl, fun j x y => absurd y (by omega)⟩ (fun _ z => absurd z.1 (by decide)) hF) (by repeat' (first | exact True.intro | refine And.intro rfl ?_))
    · refine j_aload_n 0 dX11_beam_26 rfl rfl ?_
      refine j_get fX11_28 dX11_beam_27 hP.1 rfl ?_
      refine j_iload_n 2 dX11_beam_30 rfl rfl ?_
      refine J_iald dX11_beam_31 (hP.2.1 2 rfl) ?_ 
      refine J_top (p0.2 0 b) ?_ (by exact u1)
      refine J_iconst dX11_beam_32 ?_
      refine J_irem dX11_beam_33 ?_ (by omega)
      have htm := tmod_pos_rg (x := p0.2 0 b) (y := 3) (by decide) (by decide)
      refine J_if_ne 42 dX11_beam_34 (by decide) (fun c34 => ?_) (fun c34 => ?_) 
      · refine J_bipush dX11_beam_42 (by decide) ?_
        refine J_top (glF p0 b) ?_ (by unfold glF; first | (rw [if_pos ⟨by assumption, by assumption⟩]) | (rw [if_neg (fun z => by omega), if_pos (by omega)]) | (rw [if_neg (fun z => by omega), if_neg (by omega)]))
        refine j_istore (L' := [(4, _), (0, _), (1, _), (2, _), (3, _)]) dX11_beam_44 rfl rfl ?_
        refine j_aload_n 0 dX11_beam_46 rfl rfl ?_
        refine J_iconst dX11_beam_47 ?_
        refine J_putA hP fX11_221 tyX11_laidBeams dX11_beam_48 rfl rfl (fun h hP hF48 => ?_)
        have hM := hM.w hZ hP hF48
        have hF := hF.tr (hF48.mono (fun _ q => Or.inl q))
        obtain ⟨Fa, hpa, hFa⟩ := hM.2.1
        refine J_iconst dX11_beam_51 ?_
        refine j_istore (L' := [(5, _), (4, _), (0, _), (1, _), (2, _), (3, _)]) dX11_beam_52 rfl rfl ?_
        exact j_locR (outer (s.1 9).toNat 0 _ _ (by omega) (by omega) hM ⟨fun j hj => oU_n hj, fun _ _ => rfl, rfl, fun j x y => absurd y (by omega)⟩ (fun _ z => absurd z.1 (by decide)) hF) (by repeat' (first | exact True.intro | refine And.intro rfl ?_))
      · refine J_bipush dX11_beam_37 (by decide) ?_
        refine j_goto 44 dX11_beam_39 (by decide) ?_
        refine J_top (glF p0 b) ?_ (by unfold glF; first | (rw [if_pos ⟨by assumption, by assumption⟩]) | (rw [if_neg (fun z => by omega), if_pos (by omega)]) | (rw [if_neg (fun z => by omega), if_neg (by omega)]))
        refine j_istore (L' := [(4, _), (0, _), (1, _), (2, _), (3, _)]) dX11_beam_44 rfl rfl ?_
        refine j_aload_n 0 dX11_beam_46 rfl rfl ?_
        refine J_iconst dX11_beam_47 ?_
        refine J_putA hP fX11_221 tyX11_laidBeams dX11_beam_48 rfl rfl (fun h hP hF48 => ?_)
        have hM := hM.w hZ hP hF48
        have hF := hF.tr (hF48.mono (fun _ q => Or.inl q))
        obtain ⟨Fa, hpa, hFa⟩ := hM.2.1
        refine J_iconst dX11_beam_51 ?_
        refine j_istore (L' := [(5, _), (4, _), (0, _), (1, _), (2, _), (3, _)]) dX11_beam_52 rfl rfl ?_
        exact j_locR (outer (s.1 9).toNat 0 _ _ (by omega) (by omega) hM ⟨fun j hj => oU_n hj, fun _ _ => rfl, rfl, fun j x y => absurd y (by omega)⟩ (fun _ z => absurd z.1 (by decide)) hF) (by repeat' (first | exact True.intro | refine And.intro rfl ?_))
  · refine J_bipush dX11_beam_10 (by decide) ?_
    refine j_goto 44 dX11_beam_12 (by decide) ?_
    refine J_top (glF p0 b) ?_ (by unfold glF; first | (rw [if_pos ⟨by assumption, by assumption⟩]) | (rw [if_neg (fun z => by omega), if_pos (by omega)]) | (rw [if_neg (fun z => by omega), if_neg (by omega)]))
    refine j_istore (L' := [(4, _), (0, _), (1, _), (2, _), (3, _)]) dX11_beam_44 rfl rfl ?_
    refine j_aload_n 0 dX11_beam_46 rfl rfl ?_
    refine J_iconst dX11_beam_47 ?_
    refine J_putA hP fX11_221 tyX11_laidBeams dX11_beam_48 rfl rfl (fun h hP hF48 => ?_)
    have hM := hM.w hZ hP hF48
    have hF := hF.tr (hF48.mono (fun _ q => Or.inl q))
    obtain ⟨Fa, hpa, hFa⟩ := hM.2.1
    refine J_iconst dX11_beam_51 ?_
    refine j_istore (L' := [(5, _), (4, _), (0, _), (1, _), (2, _), (3, _)]) dX11_beam_52 rfl rfl ?_
    exact j_locR (outer (s.1 9).toNat 0 _ _ (by omega) (by omega) hM ⟨fun j hj => oU_n hj, fun _ _ => rfl, rfl, fun j x y => absurd y (by omega)⟩ (fun _ z => absurd z.1 (by decide)) hF) (by repeat' (first | exact True.intro | refine And.intro rfl ?_))
