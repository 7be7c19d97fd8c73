/-! the order of the moments -/
theorem nbF_spec {P : Nat → OS} {bg : Int → Int} : ∀ n : Nat, (∀ k : Nat, k < n → inP (P k) (bg k) → 0 ≤ (P k).2 3 (bg k)) →
    (nbF P bg n = -1 ∧ ∀ k : Nat, k < n → ¬ inP (P k) (bg k)) ∨ (nbF P bg n ≠ -1 ∧ 0 ≤ nbF P bg n ∧ (∃ k : Nat, k < n ∧ inP (P k) (bg k) ∧ (P k).2 3 (bg k) = nbF P bg n) ∧ ∀ k : Nat, k < n → inP (P k) (bg k) → nbF P bg n ≤ (P k).2 3 (bg k))
  | 0, _ => Or.inl ⟨rfl, fun k hk => absurd hk (Nat.not_lt_zero _)⟩
  | n + 1, h => by
    have ih := nbF_spec (bg := bg) n (fun k hk => h k (by omega))
    rw [nbF_s]
    by_cases c : inP (P n) (bg n)
    · rw [if_pos c]
      have hb := h n (by omega) c
      rcases ih with ⟨e, i1⟩ | ⟨e, i0, ⟨k, hk, i2, i3⟩, i4⟩
      · rw [if_pos e]
        refine Or.inr ⟨by omega, hb, ⟨n, by omega, c, rfl⟩, fun k hk hc => ?_⟩
        by_cases d : k = n
        · subst d; exact Int.le_refl _
        · exact absurd hc (i1 k (by omega))
      · rw [if_neg e]
        refine Or.inr ⟨by omega, by omega, ?_, fun k2 hk2 hc => ?_⟩
        · by_cases d : nbF P bg n ≤ (P n).2 3 (bg n)
          · exact ⟨k, by omega, i2, by omega⟩
          · exact ⟨n, by omega, c, by omega⟩
        · by_cases d : k2 = n
          · subst d; omega
          · have := i4 k2 (by omega) hc
            omega
    · rw [if_neg c]
      rcases ih with ⟨e, i1⟩ | ⟨e, i0, ⟨k, hk, i2, i3⟩, i4⟩
      · refine Or.inl ⟨e, fun k hk => ?_⟩
        by_cases d : k = n
        · subst d; exact c
        · exact i1 k (by omega)
      · refine Or.inr ⟨e, i0, ⟨k, by omega, i2, i3⟩, fun k2 hk2 hc => ?_⟩
        by_cases d : k2 = n
        · subst d; exact absurd hc c
        · exact i4 k2 (by omega) hc
theorem nxM_rg {P : Nat → OS} (hs : scoOK P) {k : Nat} (hk : k < 4) : ∀ m : Nat, 0 ≤ nxM P m k ∧ nxM P m k ≤ (P k).1 7
  | 0 => ⟨Int.le_refl _, (hs k hk).1.1⟩
  | m + 1 => by
    have ih := nxM_rg hs hk m
    rw [nxM_s]
    unfold egN
    split
    · rename_i c; have := c.1; omega
    · exact ih
theorem momT_spec {P : Nat → OS} (hs : scoOK P) (m : Nat) : (momT P m = -1 ∧ ∀ k : Nat, k < 4 → nxM P m k = (P k).1 7) ∨ (momT P m ≠ -1 ∧ 0 ≤ momT P m ∧ (∃ k : Nat, k < 4 ∧ nxM P m k < (P k).1 7 ∧ (P k).2 3 (nxM P m k) = momT P m) ∧ ∀ k : Nat, k < 4 → nxM P m k < (P k).1 7 → momT P m ≤ (P k).2 3 (nxM P m k)) := by
  have g := nbF_spec (P := P) (bg := fun j => nxM P m j.toNat) 4 (fun k hk hc => ((hs k hk).2.1 _ hc.1 hc.2).2.2.2.1.1)
  rcases g with ⟨e, g1⟩ | ⟨e, g0, ⟨k, hk, g2, g3⟩, g4⟩
  · refine Or.inl ⟨e, fun k hk => ?_⟩
    have r := nxM_rg hs hk m
    have := g1 k hk
    simp only [Int.toNat_natCast] at this
    omega
  · refine Or.inr ⟨e, g0, ⟨k, hk, by simpa using g2.2, by simp only [Int.toNat_natCast] at g3; exact g3⟩, fun k2 hk2 hc => ?_⟩
    have := g4 k2 hk2 (by simp only [Int.toNat_natCast]; exact ⟨(nxM_rg hs hk2 m).1, hc⟩)
    simp only [Int.toNat_natCast] at this
    exact this
theorem partOK.nextB {p : OS} (h : partOK p) {i : Int} (h0 : 0 ≤ i) (h1 : i + 1 < p.1 7) : p.2 3 (i + 1) = p.2 3 i + p.2 4 i := by
  rw [h.beg (i + 1) (by omega) h1, h.beg i h0 (by omega), sumN_succ h0]
theorem partOK.len {p : OS} (h : partOK p) {i : Int} (h0 : 0 ≤ i) (h1 : i < p.1 7) : 4 ≤ p.2 4 i ∧ p.2 4 i ≤ 96 := isVal_rg (h.2.2.2.2.2.1 i h0 h1)
/-- what comes next begins later -/
theorem nx_later {P : Nat → OS} (hs : scoOK P) {m : Nat} {k : Nat} (hk : k < 4) (hm : momT P m ≠ -1) (hn : nxM P (m + 1) k < (P k).1 7) : momT P m < (P k).2 3 (nxM P (m + 1) k) := by
  rcases momT_spec hs m with ⟨e, -⟩ | ⟨-, -, -, g⟩
  · exact absurd e hm
  · have r := nxM_rg hs hk m
    rw [nxM_s] at hn ⊢
    unfold egN at hn ⊢
    by_cases c : inP (P k) (nxM P m k) ∧ (P k).2 3 (nxM P m k) = momT P m
    · rw [if_pos c] at hn ⊢
      have l := (hs k hk).len r.1 c.1.2
      rw [(hs k hk).nextB r.1 hn]
      have := c.2
      omega
    · rw [if_neg c] at hn ⊢
      have := g k hk hn
      have : (P k).2 3 (nxM P m k) ≠ momT P m := fun z => c ⟨⟨r.1, hn⟩, z⟩
      omega
theorem momT_lt {P : Nat → OS} (hs : scoOK P) {m : Nat} (h : momT P (m + 1) ≠ -1) : momT P m ≠ -1 ∧ momT P m < momT P (m + 1) := by
  have hm : momT P m ≠ -1 := by
    intro z
    rcases momT_spec hs m with ⟨e, g⟩ | ⟨e, -⟩
    · rcases momT_spec hs (m + 1) with ⟨e2, g2⟩ | ⟨e2, -, ⟨k, hk, g3, -⟩, -⟩
      · exact h e2
      · rw [nxM_s] at g3
        unfold egN at g3
        have := g k hk
        split at g3
        · rename_i c; have := c.1.2; omega
        · omega
    · exact e z
  refine ⟨hm, ?_⟩
  rcases momT_spec hs (m + 1) with ⟨e2, -⟩ | ⟨e2, -, ⟨k, hk, g3, g4⟩, -⟩
  · exact absurd e2 h
  · rw [← g4]
    exact nx_later hs hk hm g3
theorem nx_ahead {P : Nat → OS} (hs : scoOK P) {k : Nat} (hk : k < 4) : ∀ m : Nat, 1 ≤ nxM P m k → momT P m ≠ -1 → (P k).2 3 (nxM P m k - 1) < momT P m
  | 0, h, _ => absurd h (by show ¬ (1 : Int) ≤ 0; decide)
  | m + 1, h, hm => by
    obtain ⟨h1, h2⟩ := momT_lt hs hm
    have r := nxM_rg hs hk m
    rw [nxM_s] at h ⊢
    unfold egN at h ⊢
    by_cases c : inP (P k) (nxM P m k) ∧ (P k).2 3 (nxM P m k) = momT P m
    · rw [if_pos c] at h ⊢
      rw [show nxM P m k + 1 - 1 = nxM P m k by omega, c.2]
      exact h2
    · rw [if_neg c] at h ⊢
      have := nx_ahead hs hk m h h1
      omega
/-- an event that begins at a moment has just been taken up -/
theorem nx_begun {P : Nat → OS} (hs : scoOK P) {k m : Nat} (hk : k < 4) (hm : momT P m ≠ -1) (h1 : 1 ≤ nxM P (m + 1) k) (hb : (P k).2 3 (nxM P (m + 1) k - 1) = momT P m) : nxM P (m + 1) k = nxM P m k + 1 := by
  rw [nxM_s] at h1 hb ⊢
  unfold egN at h1 hb ⊢
  by_cases c : inP (P k) (nxM P m k) ∧ (P k).2 3 (nxM P m k) = momT P m
  · rw [if_pos c]
  · rw [if_neg c] at h1 hb
    have := nx_ahead hs hk m h1 hm
    omega
theorem evM_rg {P : Nat → OS} (hs : scoOK P) {k m : Nat} (hk : k < 4) : -1 ≤ evM P m k ∧ evM P m k < (P k).1 7 := by
  have r := nxM_rg hs hk (m + 1)
  have hn := (hs k hk).1
  unfold evM egE
  split
  · omega
  · have := hn.1
    omega
theorem momT_rg {P : Nat → OS} (hs : scoOK P) (m : Nat) : -1 ≤ momT P m ∧ momT P m ≤ 20000 := nbF_rg hs.Z 4 (by omega)
/-- how many events there are -/
def evs (P : Nat → OS) : Int := (P 0).1 7 + (P 1).1 7 + (P 2).1 7 + (P 3).1 7
def nxS (P : Nat → OS) (m : Nat) : Int := nxM P m 0 + nxM P m 1 + nxM P m 2 + nxM P m 3
theorem nxM_step {P : Nat → OS} (m k : Nat) : nxM P (m + 1) k = nxM P m k ∨ nxM P (m + 1) k = nxM P m k + 1 := by
  rw [nxM_s]
  unfold egN
  split
  · exact Or.inr rfl
  · exact Or.inl rfl
theorem nxS_le {P : Nat → OS} (hs : scoOK P) (m : Nat) : nxS P m ≤ evs P := by
  have := nxM_rg hs (k := 0) (by omega) m
  have := nxM_rg hs (k := 1) (by omega) m
  have := nxM_rg hs (k := 2) (by omega) m
  have := nxM_rg hs (k := 3) (by omega) m
  unfold nxS evs
  omega
theorem nxS_step {P : Nat → OS} (hs : scoOK P) {m : Nat} (h : momT P m ≠ -1) : nxS P m < nxS P (m + 1) := by
  have s0 := nxM_step (P := P) m 0
  have s1 := nxM_step (P := P) m 1
  have s2 := nxM_step (P := P) m 2
  have s3 := nxM_step (P := P) m 3
  rcases momT_spec hs m with ⟨e, -⟩ | ⟨-, -, ⟨k, hk, g3, g4⟩, -⟩
  · exact absurd e h
  · have r := nxM_rg hs hk m
    have e : nxM P (m + 1) k = nxM P m k + 1 := by
      rw [nxM_s]
      unfold egN
      rw [if_pos ⟨⟨r.1, g3⟩, g4⟩]
    unfold nxS
    rcases (by omega : k = 0 ∨ k = 1 ∨ k = 2 ∨ k = 3) with c | c | c | c <;> subst c <;> omega
theorem nxS_ge {P : Nat → OS} (hs : scoOK P) : ∀ m : Nat, (∀ j : Nat, j < m → momT P j ≠ -1) → (m : Int) ≤ nxS P m
  | 0, _ => by show (0 : Int) ≤ 0 + 0 + 0 + 0; omega
  | m + 1, h => by
    have ih := nxS_ge hs m (fun j hj => h j (by omega))
    have := nxS_step hs (h m (by omega))
    omega
/-- the moments come to their end -/
theorem cntM_end {P : Nat → OS} (hs : scoOK P) (he : evs P ≤ 512) : momT P (cntM P) = -1 := by
  have hl := cM_le P 512 0
  by_cases c : cntM P < 512
  · exact cM_end P 512 0 (by unfold cntM at c; omega)
  · have e : cntM P = 512 := by unfold cntM at c ⊢; omega
    rcases momT_spec hs (cntM P) with ⟨e2, -⟩ | ⟨e2, -⟩
    · exact e2
    · have g := nxS_step hs e2
      have g2 := nxS_ge hs (cntM P) (fun j hj => cM_pos P 512 0 j (Nat.zero_le _) hj)
      have := nxS_le hs (cntM P + 1)
      omega
theorem cntM_pos {P : Nat → OS} {j : Nat} (h : j < cntM P) : momT P j ≠ -1 := cM_pos P 512 0 j (Nat.zero_le _) h
theorem cntM_le (P : Nat → OS) : cntM P ≤ 512 := by have := cM_le P 512 0; unfold cntM; omega
