/-! moments and chords: as the law asks -/
theorem nxM_le (P : Nat → OS) (k : Nat) : ∀ m : Nat, nxM P m k ≤ m
  | 0 => Int.le_refl _
  | m + 1 => by
    have ih := nxM_le P k m
    rw [nxM_s]
    unfold egN
    split <;> omega
theorem chd_fk {cl : Nat} {r lc k : Int} {p : OS} (hr : 0 ≤ r ∧ r ≤ 11) (hk : 0 ≤ k ∧ k ≤ 3) (h : ChdOK p) : ChdOK (fkS cl r lc p k) := by
  unfold fkS
  split
  · rename_i c
    obtain ⟨v, hv⟩ : ∃ v : Int, v = (if lc = r then 0 else if lc = sec r k then 1 else 2) := ⟨_, rfl⟩
    have hv2 : 0 ≤ v ∧ v ≤ 2 := by
      rw [hv]
      split
      · omega
      · split <;> omega
    have hv3 : k = 3 → v = 0 := fun e => by
      have c1 := c.1
      rw [hv, if_pos (by omega)]
    rw [← hv]
    exact ⟨Or.inr ⟨hr.1, hk.1, hv2.1⟩, hv3, ⟨by show -1 ≤ r; omega, hr.2⟩, ⟨by show -1 ≤ k; omega, hk.2⟩, ⟨by show -1 ≤ v; omega, hv2.2⟩⟩
  · exact h
theorem chd_fkK {cl : Nat} {r lc : Int} {p : OS} (hr : 0 ≤ r ∧ r ≤ 11) (h : ChdOK p) : ∀ k : Nat, k ≤ 4 → ChdOK (fkK cl r lc p k)
  | 0, _ => h
  | k + 1, hk => chd_fk hr (by omega) (chd_fkK hr h k (by omega))
theorem chd_fr {cl : Nat} {lc : Int} : ∀ (n : Nat) (p : OS), n ≤ 12 → ChdOK p → ChdOK (frM cl lc n p)
  | 0, _, _, h => h
  | n + 1, p, hn, h => by
    unfold frM
    split
    · split
      · exact chd_fr n _ (by omega) (chd_fkK (by omega) h 4 (Nat.le_refl _))
      · exact chd_fr n _ (by omega) h
    · exact h
theorem chd_ok (P : Nat → OS) (m : Nat) : ChdOK (chdF P m) := by
  have h0 : ChdOK (fgP zOS) := ⟨Or.inl ⟨by decide, by decide, by decide⟩, fun e => absurd e (by decide), ⟨by decide, by decide⟩, ⟨by decide, by decide⟩, ⟨by decide, by decide⟩⟩
  unfold chdF
  split
  · exact chd_fr 12 _ (Nat.le_refl _) h0
  · exact h0
theorem sd_mom {P : Nat → OS} (hs : scoOK P) (he : evs P ≤ 512) : MomOK P := by
  have hend := cntM_end hs he
  have hall : ∀ k : Nat, k < 4 → nxM P (cntM P) k = (P k).1 7 := by
    rcases momT_spec hs (cntM P) with ⟨-, g⟩ | ⟨g, -⟩
    · exact g
    · exact absurd hend g
  refine ⟨fun k hk => ⟨(hs k hk).1.1, ?_⟩, cntM_le P, fun m hm => ?_, fun i j hij hj => mom_mono hs j i hij hj, fun m _ => chd_ok P m⟩
  · rw [← hall k hk]
    exact nxM_le P k _
  · have a := momT_rg hs m
    have b := cntM_pos hm
    omega
