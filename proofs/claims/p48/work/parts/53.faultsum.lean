theorem par_len (A H W : Int → Int) (t i j : Int) : (parL A H W t i j).length ≤ 1 ∧ (W i = 0 ∨ W j = 0 → (parL A H W t i j).length = 0) := by
  unfold parL
  by_cases c : W i ≠ 0 ∧ W i = W j
  · rw [if_pos c]
    refine ⟨?_, fun h => absurd c (by omega)⟩
    (repeat' split) <;> simp
  · rw [if_neg c]
    simp
theorem crs_len (H B : Int → Int) (t i j : Int) : (crsL H B t i j).length ≤ 1 ∧ (B i = 0 ∧ B j = 0 → (crsL H B t i j).length = 0) := by
  unfold crsL
  by_cases c : (H i ≠ -1 ∧ H j ≠ -1) ∧ (B i ≠ 0 ∨ B j ≠ 0) ∧ H i < H j
  · rw [if_pos c]
    exact ⟨by simp, fun h => absurd c (by omega)⟩
  · rw [if_neg c]
    simp
theorem nte_len (P : Nat → OS) (m k : Nat) : (nteM P m k).length ≤ 2 ∧ (bgM P m k = 0 → (nteM P m k).length = 0) := by
  unfold nteM
  by_cases c : bgM P m k ≠ 0
  · rw [if_pos c]
    refine ⟨?_, fun h => absurd h c⟩
    unfold nteL
    rw [List.length_append]
    (repeat' split) <;> simp
  · rw [if_neg c]
    simp
theorem bg_begun {P : Nat → OS} (hs : scoOK P) {m k : Nat} (hk : k < 4) (hm : momT P m ≠ -1) (hb : bgM P m k ≠ 0) : nxM P (m + 1) k = nxM P m k + 1 := by
  unfold bgM at hb
  simp only [Int.toNat_natCast] at hb
  by_cases c : (inP (P k) (evM P m k) ∧ (P k).2 0 (evM P m k) ≠ 0) ∧ (P k).2 3 (evM P m k) = momT P m
  · have h0 := c.1.1.1
    have e : evM P m k = nxM P (m + 1) k - 1 := by
      unfold evM egE at h0 ⊢
      split at h0
      · rename_i d; rw [if_pos d]
      · omega
    rw [e] at h0
    have c2 := c.2
    rw [e] at c2
    exact nx_begun hs hk hm (by omega) c2
  · rw [if_neg c] at hb
    exact absurd rfl hb
theorem fau_pair {A H W B : Int → Int} {t i j x y : Int} (hi : (B i = 0 ∧ W i = 0 ∧ x = 0) ∨ x = 1) (hj : (B j = 0 ∧ W j = 0 ∧ y = 0) ∨ y = 1) : ((parL A H W t i j).length : Int) + ((crsL H B t i j).length : Int) ≤ x + y := by
  have p := par_len A H W t i j
  have c := crs_len H B t i j
  rcases hi with hi | hi <;> rcases hj with hj | hj
  · have p0 := p.2 (Or.inl hi.2.1)
    have c0 := c.2 ⟨hi.1, hj.1⟩
    omega
  · have p0 := p.2 (Or.inl hi.2.1)
    omega
  · have p0 := p.2 (Or.inr hj.2.1)
    omega
  · omega
theorem fau_len {P : Nat → OS} (hs : scoOK P) {m : Nat} (hm : momT P m ≠ -1) : ((fauAt P m).length : Int) ≤ 5 * (nxS P (m + 1) - nxS P m) := by
  have s : ∀ k : Nat, k < 4 → (bgM P m k = 0 ∧ wyM P m k = 0 ∧ nxM P (m + 1) k - nxM P m k = 0) ∨ nxM P (m + 1) k - nxM P m k = 1 := fun k hk => by
    rcases nxM_step (P := P) m k with e | e
    · by_cases c : bgM P m k = 0
      · exact Or.inl ⟨c, by unfold wyM; rw [if_neg (fun z => z.1 c)], by omega⟩
      · have := bg_begun hs hk hm c
        omega
    · exact Or.inr (by omega)
  have nt : ∀ k : Nat, k < 4 → ((nteM P m k).length : Int) ≤ 2 * (nxM P (m + 1) k - nxM P m k) := fun k hk => by
    have n := nte_len P m k
    rcases s k hk with e | e
    · have := n.2 e.1
      omega
    · omega
  have s0 := s 0 (by omega)
  have s1 := s 1 (by omega)
  have s2 := s 2 (by omega)
  have s3 := s 3 (by omega)
  have n0 := nt 0 (by omega)
  have n1 := nt 1 (by omega)
  have n2 := nt 2 (by omega)
  have n3 := nt 3 (by omega)
  have q01 := fau_pair (A := hiA P m) (H := hiM P m) (t := momT P m) (i := 0) (j := 1) s0 s1
  have q02 := fau_pair (A := hiA P m) (H := hiM P m) (t := momT P m) (i := 0) (j := 2) s0 s2
  have q03 := fau_pair (A := hiA P m) (H := hiM P m) (t := momT P m) (i := 0) (j := 3) s0 s3
  have q12 := fau_pair (A := hiA P m) (H := hiM P m) (t := momT P m) (i := 1) (j := 2) s1 s2
  have q13 := fau_pair (A := hiA P m) (H := hiM P m) (t := momT P m) (i := 1) (j := 3) s1 s3
  have q23 := fau_pair (A := hiA P m) (H := hiM P m) (t := momT P m) (i := 2) (j := 3) s2 s3
  clear s0 s1 s2 s3 s nt
  unfold fauAt prsL nxS
  simp only [List.length_append, Int.natCast_add]
  omega
theorem fauL_len {P : Nat → OS} (hs : scoOK P) : ∀ m : Nat, (∀ j : Nat, j < m → momT P j ≠ -1) → ((fauL P m).length : Int) ≤ 5 * nxS P m
  | 0, _ => by show ((0 : Nat) : Int) ≤ 5 * (0 + 0 + 0 + 0); omega
  | m + 1, h => by
    have ih := fauL_len hs m (fun j hj => h j (by omega))
    have g := fau_len hs (h m (by omega))
    unfold fauL
    rw [List.length_append]
    omega
theorem fauL_mono (P : Nat → OS) : ∀ n m : Nat, m ≤ n → (fauL P m).length ≤ (fauL P n).length
  | 0, m, h => by obtain rfl : m = 0 := by omega
                  exact Nat.le_refl _
  | n + 1, m, h => by
    by_cases c : m = n + 1
    · subst c; exact Nat.le_refl _
    · have ih := fauL_mono P n m (by omega)
      show _ ≤ (fauL P n ++ fauAt P n).length
      rw [List.length_append]
      omega
/-- all faults of the score -/
def fauA (P : Nat → OS) : FL := fauL P (cntM P)
theorem fauA_len {P : Nat → OS} (hs : scoOK P) (he : evs P ≤ 512) : (fauA P).length ≤ 2560 := by
  have g := fauL_len hs (cntM P) (fun j hj => cntM_pos hj)
  have := nxS_le hs (cntM P)
  unfold fauA
  omega
theorem srM_ok {P : Nat → OS} (hs : scoOK P) (he : evs P ≤ 512) {p3 p : OS} (h : HarOK P p3) (h0 : LstAt p []) (hA : ∀ k : Nat, k < 4 → p.2 4 k = -1) : ∀ m : Nat, m ≤ cntM P → LstAt (srM P p3 p m) (fauL P m) ∧ ∀ k : Nat, k < 4 → (srM P p3 p m).2 4 k = hiA P m k
  | 0, _ => ⟨h0, hA⟩
  | m + 1, hm => by
    have ih := srM_ok hs he h h0 hA m (by omega)
    have hl := fauA_len hs he
    have hl2 := fauL_mono P (cntM P) (m + 1) hm
    have e : fauL P (m + 1) = fauL P m ++ fauAt P m := rfl
    rw [e, List.length_append] at hl2
    exact mom_ok h (by omega) ih.1 ih.2 (by unfold fauA at hl; omega)
theorem sea_ok {P : Nat → OS} (hs : scoOK P) (he : evs P ≤ 512) {p3 : OS} (p : OS) (h : HarOK P p3) : LstAt (seaP P p3 p) (fauA P) := by
  unfold seaP
  rw [h.1, Int.toNat_natCast]
  refine (srM_ok hs he h ⟨rfl, fun i x hx => ?_⟩ (fun k hk => ?_) (cntM P) (Nat.le_refl _)).1
  · cases hx
  · show rng (p.2 4) 0 4 (-1) k = -1
    unfold rng
    rw [if_pos (by omega)]
theorem har_n {P : Nat → OS} {p3 : OS} (h : HarOK P p3) : hN p3 := by
  have := cntM_le P
  unfold hN
  rw [h.1]
  omega
theorem har_E {P : Nat → OS} (hs : scoOK P) {p3 : OS} (h : HarOK P p3) (m : Int) (k : Nat) (hk : k < 4) : -1 ≤ evH p3 m k ∧ evH p3 m k ≤ 1000 := by
  by_cases c : 0 ≤ m ∧ m < p3.1 3
  · have hc := c.2
    rw [h.1] at hc
    have e := har_ev h (m := m.toNat) (by omega) hk
    rw [Int.toNat_of_nonneg c.1] at e
    rw [e]
    have r := evM_rg hs (m := m.toNat) hk
    have := (hs k hk).1.2
    omega
  · unfold evH
    rw [if_neg (fun z => c z.1)]
    omega
theorem har_T {P : Nat → OS} (hs : scoOK P) {p3 : OS} (h : HarOK P p3) (m : Int) : rg (tkH p3 m) := by
  unfold tkH
  split
  · rename_i c
    have hc := c.2
    rw [h.1] at hc
    have e := (h.2 m.toNat (by omega)).1
    rw [Int.toNat_of_nonneg c.1] at e
    rw [e]
    have := momT_rg hs m.toNat
    omega
  · omega
theorem har_T2 {P : Nat → OS} (hs : scoOK P) {p3 : OS} (h : HarOK P p3) (i : Int) (h0 : 0 ≤ i) (h1 : i < p3.1 3) : 0 ≤ p3.2 0 i ∧ p3.2 0 i ≤ 20000 := by
  rw [h.1] at h1
  have e := (h.2 i.toNat (by omega)).1
  rw [Int.toNat_of_nonneg h0] at e
  rw [e]
  have r := momT_rg hs i.toNat
  have := cntM_pos (P := P) (j := i.toNat) (by omega)
  omega
