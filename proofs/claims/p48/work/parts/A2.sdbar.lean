/-! a bar: as the law asks -/
theorem wr_CH {p6 p0 : OS} (h6 : partOK p6) (hc : calOK p0) {b : Int} (hb : isBar b) (p : OS) : CH p6 (sumN (p0.2 2) b.toNat) (sumN (p0.2 2) b.toNat + p0.2 2 b) (wrP p6 p0 b p) ∧ sumN (p0.2 2) b.toNat + sgS (wrP p6 p0 b p) = max (sumN (p0.2 2) b.toNat) (min (sumN (p0.2 2) b.toNat + p0.2 2 b) (p6.1 8)) := by
  obtain ⟨f9, f3, -⟩ := wrP_f p6 p0 b p
  have h := wr1_CH h6 hc hb p
  unfold CH sgS at h ⊢
  rw [f9, f3 0 (by decide), f3 1 (by decide), f3 2 (by decide)]
  exact h
theorem wr_tie {p6 p0 : OS} {b : Int} (p : OS) {j : Int} (ja : 0 ≤ j) (jb : j < (wrP p6 p0 b p).1 9) : (wrP p6 p0 b p).2 4 j ≠ 0 ↔ (p6.2 0 ((wrP p6 p0 b p).2 0 j) ≠ 0 ∧ (wrP p6 p0 b p).2 1 j + (wrP p6 p0 b p).2 2 j < min (endF p6 ((wrP p6 p0 b p).2 0 j)) (p0.1 4)) := by
  obtain ⟨f9, f3, f4⟩ := wrP_f p6 p0 b p
  rw [f9] at jb
  rw [f4, f3 0 (by decide), f3 1 (by decide), f3 2 (by decide)]
  unfold mapI
  rw [if_pos ⟨ja, jb⟩]
  unfold tieG
  by_cases c : p6.2 0 ((wr1 p6 p0 b p).2 0 j) ≠ 0 ∧ (wr1 p6 p0 b p).2 1 j + (wr1 p6 p0 b p).2 2 j < min (endF p6 ((wr1 p6 p0 b p).2 0 j)) (p0.1 4)
  · rw [show bI _ = 1 from if_pos c]
    exact ⟨fun _ => c, fun _ => by decide⟩
  · rw [show bI _ = 0 from if_neg c]
    exact ⟨fun z => absurd rfl z, fun z => absurd z c⟩
theorem bar_end {p0 : OS} (hc : calOK p0) {b : Int} (hb : isBar b) : (b < 23 → sumN (p0.2 2) b.toNat + p0.2 2 b < p0.1 4 ∧ sumN (p0.2 2) (b + 1).toNat = sumN (p0.2 2) b.toNat + p0.2 2 b) ∧ (b = 23 → sumN (p0.2 2) b.toNat + p0.2 2 b = p0.1 4) ∧ sumN (p0.2 2) b.toNat + p0.2 2 b ≤ p0.1 4 := by
  have hs := sumN_succ (f := p0.2 2) hb.1
  have hm : ∀ i j : Nat, i ≤ j → j ≤ 24 → sumN (p0.2 2) i ≤ sumN (p0.2 2) j := fun i j a c => sumN_mono (n := 24) (fun k x y => by have := hc.1.1 k x y; omega) j i a (by omega)
  have h24 := hc.2.1
  have h1 := hm (b + 1).toNat 24 (by have := hb.2; omega) (by omega)
  refine ⟨fun h => ⟨?_, hs⟩, fun h => ?_, by omega⟩
  · have g := hm (b + 2).toNat 24 (by omega) (by omega)
    have s := sumN_succ (f := p0.2 2) (i := b + 1) (by have := hb.1; omega)
    rw [show b + 1 + 1 = b + 2 by omega] at s
    have := hc.1.1 (b + 1) (by have := hb.1; omega) (by omega)
    omega
  · rw [show (b + 1).toNat = 24 by omega] at hs
    omega
theorem sumN_2 {f : Int → Int} : ∀ n : Nat, (∀ i : Int, 0 ≤ i → i < n → 2 ≤ f i) → 2 * (n : Int) ≤ sumN f n
  | 0, _ => by show 2 * ((0 : Nat) : Int) ≤ 0; omega
  | n + 1, h => by
    have ih := sumN_2 n (fun i a b => h i a (by omega))
    have g := h n (by omega) (by omega)
    show 2 * ((n + 1 : Nat) : Int) ≤ sumN f n + f n
    omega
theorem sd_bar0 {p6 p0 : OS} (h6 : partOK p6) (hc : calOK p0) {b : Int} (hb : isBar b) : BarOK (fun c => (wrP p6 p0 c zOS).1 9) (fun c => (wrP p6 p0 c zOS).2 0) b (p6.1 7) ((wrP p6 p0 b zOS).2 2) ((wrP p6 p0 b zOS).2 7) ((wrP p6 p0 b zOS).2 5) ((wrP p6 p0 b zOS).2 6) ((wrP p6 p0 b zOS).2 4) (p6.2 2) (p6.2 5) (p6.2 6) ((wrP p6 p0 b zOS).1 10) (max 0 (min (p0.2 2 b) (sumN (p0.2 2) b.toNat + p0.2 2 b - p6.1 8))) (p0.2 2 b) (sumN (p0.2 2) b.toNat) := by
  have hM : ∀ c : Int, isBar c → 0 ≤ (wrP p6 p0 c zOS).1 9 ∧ (wrP p6 p0 c zOS).1 9 ≤ 128 := fun c h => (wrP_rg h6 hc h zOS).1.1
  have hC := fun c (h : isBar c) => wr_CH h6 hc h zOS
  have hE : ∀ c i : Int, isBar c → 0 ≤ i → i < (wrP p6 p0 c zOS).1 9 → inP p6 ((wrP p6 p0 c zOS).2 0 i) := fun c i h a z => ((hC c h).1.2 i a z).2.2.1
  have hLb := hc.1.1 b hb.1 hb.2
  have hSb := lenZ_sum hc.1.1 b.toNat (by have := hb.1; have := hb.2; omega)
  have hn := h6.1
  unfold pN at hn
  obtain ⟨m1, m2⟩ := wr_mk h6 hc hb zOS
  have hq := hM b hb
  obtain ⟨⟨-, c2⟩, c3⟩ := hC b hb
  have he := bar_end hc hb
  have hT : ∀ j : Int, 0 ≤ j → j < (wrP p6 p0 b zOS).1 9 → _ := fun j a z => wr_tie (p6 := p6) (p0 := p0) (b := b) zOS a z
  have hX : ∀ j : Int, 0 ≤ j → j < (wrP p6 p0 b zOS).1 9 → _ := fun j a z => hgt_0 h6 (hE b j hb a z)
  have hmx : ∀ j : Int, 0 ≤ j → j + 1 < (wrP p6 p0 b zOS).1 9 → (wrP p6 p0 b zOS).2 1 (j + 1) = (wrP p6 p0 b zOS).2 1 j + (wrP p6 p0 b zOS).2 2 j := fun j a z => by
    have g1 := (c2 j a (by omega)).1
    have g2 := (c2 (j + 1) (by omega) z).1
    rw [sumN_succ a] at g2
    omega
  refine ⟨hM, fun c i h a z => hE c i h a z, hn.2, fun i a z => ?_, fun e a z => ?_, fun i a z => ?_, fun i a z => ?_, fun i a z => ?_, fun i a z q => ?_, fun i a z => ?_, ?_, ?_, ?_, ?_, ?_, ?_⟩
  · have g := c2 i a z
    have l := h6.len g.2.2.1.1 g.2.2.1.2
    have ee : endF p6 ((wrP p6 p0 b zOS).2 0 i) = p6.2 3 ((wrP p6 p0 b zOS).2 0 i) + p6.2 4 ((wrP p6 p0 b zOS).2 0 i) := rfl
    have m := m2 i a z
    exact ⟨⟨g.2.1, by omega⟩, m.1, m.2.1, m.2.2.1⟩
  · have g := h6.2.1 e a z
    have w := (h6.ev e a z).2.2.2.1
    refine ⟨g.2.2.1, g.2.2.2.2.2.1, g.2.2.2.2.2.2, fun _ => ?_⟩
    by_cases c : isWr p6 e
    · rw [if_pos c, if_pos c] at w
      have c2 := c.2
      unfold isPit at c2
      omega
    · rw [if_neg c, if_neg c] at w
      omega
  · have z2 : i < (wrP p6 p0 b zOS).1 9 := by have z : i + 1 < (wrP p6 p0 b zOS).1 9 := z; omega
    have z3 : i + 1 < (wrP p6 p0 b zOS).1 9 := z
    have t := hT i a z2
    have x := hX i a z2
    have g := c2 i a z2
    have g' := c2 (i + 1) (by omega) z3
    have mx := hmx i a z3
    show (wrP p6 p0 b zOS).2 4 i ≠ 0 ↔ 0 ≤ p6.2 2 ((wrP p6 p0 b zOS).2 0 i) ∧ (wrP p6 p0 b zOS).2 0 (i + 1) = (wrP p6 p0 b zOS).2 0 i
    rw [t, x]
    constructor
    · rintro ⟨u1, u2⟩
      exact ⟨u1, ev_uniq h6 (t := (wrP p6 p0 b zOS).2 1 (i + 1)) g'.2.2.1 g.2.2.1 g'.2.2.2.1 (by omega) (by omega) (by omega)⟩
    · rintro ⟨u1, u2⟩
      rw [u2] at g'
      exact ⟨u1, by omega⟩
  · have z3 : i + 1 = (wrP p6 p0 b zOS).1 9 := z
    have z2 : i < (wrP p6 p0 b zOS).1 9 := by omega
    have t := hT i a z2
    have x := hX i a z2
    have g := c2 i a z2
    have eS : sgS (wrP p6 p0 b zOS) = sumN ((wrP p6 p0 b zOS).2 2) i.toNat + (wrP p6 p0 b zOS).2 2 i := by
      unfold sgS
      rw [← z3, sumN_succ a]
    have el : endF p6 ((wrP p6 p0 b zOS).2 0 i) ≤ p6.1 8 := by
      rw [h6.endE _ g.2.2.1.1 g.2.2.1.2, h6.2.2.2.2.1]
      exact sumN_mono (f := p6.2 4) (n := p6.1 7) (fun i a b => by have := h6.len a b; omega) (p6.1 7).toNat _ (by have := g.2.2.1.1; have := g.2.2.1.2; omega) (by omega)
    have g0 : 0 ≤ sumN ((wrP p6 p0 b zOS).2 2) i.toNat := by
      have := sumN_mono (f := (wrP p6 p0 b zOS).2 2) (n := (wrP p6 p0 b zOS).1 9) (fun i a b => by have := (c2 i a b).2.1; omega) i.toNat 0 (by omega) (by omega)
      exact this
    show (wrP p6 p0 b zOS).2 4 i ≠ 0 ↔ 0 ≤ p6.2 2 ((wrP p6 p0 b zOS).2 0 i) ∧ b < 23 ∧ 0 < (wrP p6 p0 (b + 1) zOS).1 9 ∧ (wrP p6 p0 (b + 1) zOS).2 0 0 = (wrP p6 p0 b zOS).2 0 i
    rw [t, x]
    by_cases hb23 : b < 23
    · have hb1 : isBar (b + 1) := ⟨by have := hb.1; omega, by omega⟩
      obtain ⟨⟨d1, d2⟩, d3⟩ := hC (b + 1) hb1
      have hL1 := hc.1.1 (b + 1) hb1.1 hb1.2
      obtain ⟨he1, he2⟩ := he.1 hb23
      have he3 := (bar_end hc hb1).2.2
      rw [he2] at d2 d3 he3
      constructor
      · rintro ⟨u1, u2⟩
        have hpos : 0 < (wrP p6 p0 (b + 1) zOS).1 9 := by
          by_cases c : 0 < (wrP p6 p0 (b + 1) zOS).1 9
          · exact c
          · have e0 : sgS (wrP p6 p0 (b + 1) zOS) = 0 := by
              unfold sgS
              rw [show ((wrP p6 p0 (b + 1) zOS).1 9).toNat = 0 by omega]
              rfl
            omega
        have k := d2 0 (Int.le_refl _) hpos
        have e0 : sumN ((wrP p6 p0 (b + 1) zOS).2 2) (0 : Int).toNat = 0 := rfl
        rw [e0] at k
        exact ⟨u1, hb23, hpos, ev_uniq h6 (t := (wrP p6 p0 (b + 1) zOS).2 1 0) k.2.2.1 g.2.2.1 k.2.2.2.1 (by omega) (by omega) (by omega)⟩
      · rintro ⟨u1, -, hpos, u2⟩
        have k := d2 0 (Int.le_refl _) hpos
        have e0 : sumN ((wrP p6 p0 (b + 1) zOS).2 2) (0 : Int).toNat = 0 := rfl
        rw [e0, u2] at k
        exact ⟨u1, by omega⟩
    · have he4 := he.2.1 (by have := hb.2; omega)
      constructor
      · rintro ⟨u1, u2⟩
        omega
      · rintro ⟨u1, u2, -⟩
        exact absurd u2 hb23
  · have g := m1.2.2 i a (by have z : i < (wrP p6 p0 b zOS).1 9 := z; omega)
    refine ⟨g.2.1, fun v => ⟨(g.2.2 v).1, ?_⟩⟩
    have v2 := (g.2.2 v).2
    have v3 : (wrP p6 p0 b zOS).2 2 i ≤ 12 ∧ p6.2 0 ((wrP p6 p0 b zOS).2 0 i) ≠ 0 := by
      by_cases c : (wrP p6 p0 b zOS).2 2 i ≤ 12 ∧ p6.2 0 ((wrP p6 p0 b zOS).2 0 i) ≠ 0
      · exact c
      · exact absurd (if_neg c) v2
    exact ⟨(hX i a z).mpr v3.2, v3.1⟩
  · refine (m2 i a z).2.2.2 ?_
    have x := hX i a z
    have q : p6.2 2 ((wrP p6 p0 b zOS).2 0 i) < 0 := q
    by_cases c : p6.2 0 ((wrP p6 p0 b zOS).2 0 i) = 0
    · exact c
    · have := x.mpr c; omega
  · have z2 : i < (wrP p6 p0 b zOS).1 9 := z
    have g := c2 (i - 1) (by omega) (by omega)
    have g' := c2 i (by omega) z2
    have mx := hmx (i - 1) (by omega) (by omega)
    rw [show i - 1 + 1 = i by omega] at mx
    show (wrP p6 p0 b zOS).2 0 (i - 1) ≤ (wrP p6 p0 b zOS).2 0 i
    exact ev_mono h6 (t := (wrP p6 p0 b zOS).2 1 (i - 1)) (u := (wrP p6 p0 b zOS).2 1 i) g.2.2.1 g'.2.2.1 g.2.2.2.1 (by omega) (by omega)
  · show max 0 (min (p0.2 2 b) (sumN (p0.2 2) b.toNat + p0.2 2 b - p6.1 8)) + sgS (wrP p6 p0 b zOS) = p0.2 2 b
    omega
  · show (wrP p6 p0 b zOS).1 10 = bmx ((wrP p6 p0 b zOS).2 7) ((wrP p6 p0 b zOS).1 9).toNat + 1
    have := m1.2.1
    omega
  · have g := sumN_2 (f := p0.2 2) b.toNat (fun i a z => by have := hc.1.1 i a (by have := hb.2; omega); omega)
    have := hb.1
    omega
  · omega
  · omega
  · omega
theorem sd_bar {P : Nat → OS} {p0 : OS} {k b : Int} (hs : scoOK P) (hc : calOK p0) (hk : 0 ≤ k ∧ k < 4) (hb : isBar b) : BarOK (fun c => (wrP (P k.toNat) p0 c zOS).1 9) (fun c => (wrP (P k.toNat) p0 c zOS).2 0) b ((P k.toNat).1 7) ((wrP (P k.toNat) p0 b zOS).2 2) ((wrP (P k.toNat) p0 b zOS).2 7) ((wrP (P k.toNat) p0 b zOS).2 5) ((wrP (P k.toNat) p0 b zOS).2 6) ((wrP (P k.toNat) p0 b zOS).2 4) ((P k.toNat).2 2) ((P k.toNat).2 5) ((P k.toNat).2 6) ((wrP (P k.toNat) p0 b zOS).1 10) (max 0 (min (p0.2 2 b) (sumN (p0.2 2) b.toNat + p0.2 2 b - (P k.toNat).1 8))) (p0.2 2 b) (sumN (p0.2 2) b.toNat) := sd_bar0 (hs k.toNat (by omega)) hc hb
