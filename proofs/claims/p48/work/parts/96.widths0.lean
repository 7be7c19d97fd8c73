/-! widths: from moment to moment as the desk goes, from begin to begin as the reference goes -/
theorem mom_of {P : Nat → OS} (hs : scoOK P) {k : Nat} (hk : k < 4) : ∀ (m : Nat) (i : Int), 0 ≤ i → i < nxM P m k → ∃ j : Nat, j < m ∧ momT P j = (P k).2 3 i
  | 0, i, h0, h1 => absurd h1 (by show ¬ i < (0 : Int); omega)
  | m + 1, i, h0, h1 => by
    rw [nxM_s] at h1
    unfold egN at h1
    by_cases c : inP (P k) (nxM P m k) ∧ (P k).2 3 (nxM P m k) = momT P m
    · rw [if_pos c] at h1
      by_cases d : i < nxM P m k
      · obtain ⟨j, a, b⟩ := mom_of hs hk m i h0 d
        exact ⟨j, by omega, b⟩
      · refine ⟨m, by omega, ?_⟩
        rw [show i = nxM P m k by omega]
        exact c.2.symm
    · rw [if_neg c] at h1
      obtain ⟨j, a, b⟩ := mom_of hs hk m i h0 h1
      exact ⟨j, by omega, b⟩
theorem mom_all {P : Nat → OS} (hs : scoOK P) (he : evs P ≤ 512) {k : Nat} (hk : k < 4) {i : Int} (hi : inP (P k) i) : ∃ j : Nat, j < cntM P ∧ momT P j = (P k).2 3 i := by
  have e := cntM_end hs he
  rcases momT_spec hs (cntM P) with ⟨-, g⟩ | ⟨g, -⟩
  · exact mom_of hs hk (cntM P) i hi.1 (by rw [g k hk]; exact hi.2)
  · exact absurd e g
theorem mom_mono {P : Nat → OS} (hs : scoOK P) : ∀ j i : Nat, i < j → j < cntM P → momT P i < momT P j
  | 0, i, h, _ => absurd h (Nat.not_lt_zero _)
  | j + 1, i, h, hj => by
    have g := (momT_lt hs (cntM_pos hj)).2
    by_cases c : i = j
    · subst c; exact g
    · exact Int.lt_trans (mom_mono hs j i (by omega) (by omega)) g
