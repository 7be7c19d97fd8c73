/-! widths: from moment to moment as the desk goes, from begin to begin as the reference goes -/
theorem mom_of {P : Nat → OS} (hs : scoOK P) {k : Nat} (hk : k < 4) : ∀ (m : Nat) (i : Int), 0 ≤ i → i < nxM P m k → ∃ j : Nat, j < m ∧ momT P j = (P k).2 3 i
  | 0, i, h0, h1 => absurd h1 (by show ¬ i < (0 : Int); omega)
  | m + 1, i, h0, h1 => by
    rw [nxM_s] at h1
    unfold egN at h1
    by_cases c : inP (P k) (nxM P m k) ∧ (P k).2 3 (nxM P m k) = momT P m
    · rw [if_pos c] at h1
      by_cases d : i < nxM P m k
      · obtain ⟨j, a, b⟩ := mom_of hs hk m i h0 d
        exact ⟨j, by omega, b⟩
      · refine ⟨m, by omega, ?_⟩
        rw [show i = nxM P m k by omega]
        exact c.2.symm
    · rw [if_neg c] at h1
      obtain ⟨j, a, b⟩ := mom_of hs hk m i h0 h1
      exact ⟨j, by omega, b⟩
theorem mom_all {P : Nat → OS} (hs : scoOK P) (he : evs P ≤ 512) {k : Nat} (hk : k < 4) {i : Int} (hi : inP (P k) i) : ∃ j : Nat, j < cntM P ∧ momT P j = (P k).2 3 i := by
  have e := cntM_end hs he
  rcases momT_spec hs (cntM P) with ⟨-, g⟩ | ⟨g, -⟩
  · exact mom_of hs hk (cntM P) i hi.1 (by rw [g k hk]; exact hi.2)
  · exact absurd e g
theorem mom_mono {P : Nat → OS} (hs : scoOK P) : ∀ j i : Nat, i < j → j < cntM P → momT P i < momT P j
  | 0, i, h, _ => absurd h (Nat.not_lt_zero _)
  | j + 1, i, h, hj => by
    have g := (momT_lt hs (cntM_pos hj)).2
    by_cases c : i = j
    · subst c; exact g
    · exact Int.lt_trans (mom_mono hs j i (by omega) (by omega)) g
def MR (P : Nat → OS) (m : Nat) (l : Int) : Prop := m ≤ cntM P ∧ (∀ j : Nat, j < m → momT P j ≤ l) ∧ ∀ j : Nat, m ≤ j → j < cntM P → l < momT P j
abbrev mT (P : Nat → OS) : Int → Int := fun m => momT P m.toNat
def wdR (P : Nat → OS) (e : Int) (m : Nat) (w l : Int) : Int := (msrM (mT P) e (cntM P - m) m w l).2.1 + gapW (e - (msrM (mT P) e (cntM P - m) m w l).2.2)
/-- where the reference goes next -/
def thC (P : Nat → OS) (l e x : Int) : Prop := (l < x ∧ x ≤ e) ∧ (x = e ∨ ∃ k : Nat, k < 4 ∧ ∃ i : Int, inP (P k) i ∧ (P k).2 3 i = x) ∧ ∀ k : Nat, k < 4 → ∀ i : Int, inP (P k) i → l < (P k).2 3 i → x ≤ (P k).2 3 i
theorem wdR_stop {P : Nat → OS} {e : Int} {m : Nat} {w l : Int} (h : ¬ (m < cntM P ∧ momT P m < e)) : wdR P e m w l = w + gapW (e - l) := by
  unfold wdR
  by_cases c : m < cntM P
  · obtain ⟨n, hn⟩ : ∃ n, cntM P - m = n + 1 := ⟨cntM P - m - 1, by omega⟩
    rw [hn]
    unfold msrM
    rw [if_neg (show ¬ mT P (m : Int) < e from fun z => h ⟨c, z⟩)]
  · rw [show cntM P - m = 0 by omega]
    rfl
theorem wdR_go {P : Nat → OS} {e : Int} {m : Nat} {w l : Int} (h : m < cntM P) (he : momT P m < e) (hl : l < momT P m) : wdR P e m w l = wdR P e (m + 1) (w + gapW (momT P m - l)) (momT P m) := by
  unfold wdR
  obtain ⟨n, hn⟩ : ∃ n, cntM P - m = n + 1 := ⟨cntM P - m - 1, by omega⟩
  rw [show cntM P - (m + 1) = n by omega, hn]
  have e1 : msrM (mT P) e (n + 1) m w l = msrM (mT P) e n ((m : Int) + 1) (w + gapW (momT P m - l)) (momT P m) := by
    rw [msrM]
    rw [if_pos (show mT P (m : Int) < e from he), if_pos (show l < mT P (m : Int) from hl)]
    rfl
  rw [e1]
  rfl
theorem wdR_skip {P : Nat → OS} {e : Int} {m : Nat} {w l : Int} (h : m < cntM P) (he : momT P m < e) (hl : momT P m = l) : wdR P e m w l = wdR P e (m + 1) w l := by
  unfold wdR
  obtain ⟨n, hn⟩ : ∃ n, cntM P - m = n + 1 := ⟨cntM P - m - 1, by omega⟩
  rw [show cntM P - (m + 1) = n by omega, hn]
  have e1 : msrM (mT P) e (n + 1) m w l = msrM (mT P) e n ((m : Int) + 1) w l := by
    rw [msrM]
    rw [if_pos (show mT P (m : Int) < e from he), if_neg (show ¬ l < mT P (m : Int) by show ¬ l < momT P m; omega)]
  rw [e1]
  rfl
theorem wd_next {P : Nat → OS} (hs : scoOK P) (h5 : evs P ≤ 512) {m : Nat} {w l e x : Int} (hR : MR P m l) (hx : thC P l e x) : (x = e ∧ wdR P e m w l = w + gapW (e - l)) ∨ (x < e ∧ ∃ m' : Nat, MR P m' x ∧ wdR P e m w l = wdR P e m' (w + gapW (x - l)) x) := by
  obtain ⟨hm, h1, h2⟩ := hR
  obtain ⟨⟨hlx, hxe⟩, hx2, hx3⟩ := hx
  by_cases c : m < cntM P ∧ momT P m < e
  · obtain ⟨c1, c2⟩ := c
    have hl := h2 m (Nat.le_refl _) c1
    have hle : x ≤ momT P m := by
      rcases momT_spec hs m with ⟨q, -⟩ | ⟨-, -, ⟨k, hk, q1, q2⟩, -⟩
      · exact absurd q (cntM_pos c1)
      · have r := nxM_rg hs hk m
        have g := hx3 k hk _ ⟨r.1, q1⟩ (by rw [q2]; exact hl)
        rw [q2] at g
        exact g
    have hge : momT P m ≤ x := by
      rcases hx2 with q | ⟨k, hk, i, hi, q⟩
      · omega
      · obtain ⟨j, hj, e2⟩ := mom_all hs h5 hk hi
        rw [← q, ← e2]
        by_cases d : j < m
        · have := h1 j d; omega
        · by_cases d2 : j = m
          · subst d2; exact Int.le_refl _
          · exact Int.le_of_lt (mom_mono hs j m (by omega) hj)
    have hxm : x = momT P m := by omega
    refine Or.inr ⟨by omega, m + 1, ⟨c1, fun j hj => ?_, fun j a b => ?_⟩, ?_⟩
    · rw [hxm]
      by_cases d : j = m
      · subst d; exact Int.le_refl _
      · exact Int.le_of_lt (mom_mono hs m j (by omega) c1)
    · rw [hxm]
      exact mom_mono hs j m (by omega) b
    · rw [hxm]
      exact wdR_go c1 c2 hl
  · refine Or.inl ⟨?_, wdR_stop c⟩
    rcases hx2 with q | ⟨k, hk, i, hi, q⟩
    · exact q
    · obtain ⟨j, hj, e2⟩ := mom_all hs h5 hk hi
      by_cases d : x = e
      · exact d
      · exfalso
        have hjm : m ≤ j := by
          by_cases d2 : j < m
          · have := h1 j d2; omega
          · omega
        refine c ⟨by omega, ?_⟩
        by_cases d3 : j = m
        · subst d3; omega
        · have := mom_mono hs j m (by omega) hj
          omega
/-- the moments ahead of t -/
def MB (P : Nat → OS) (m : Int) (t : Int) : Prop := (0 ≤ m ∧ m ≤ (cntM P : Int)) ∧ (∀ j : Nat, (j : Int) < m → momT P j < t) ∧ ∀ j : Nat, m ≤ (j : Int) → j < cntM P → t ≤ momT P j
theorem msrM_mb {P : Nat → OS} (hs : scoOK P) {e : Int} : ∀ (n : Nat) (m w l : Int), m + n = (cntM P : Int) → 0 ≤ m → (∀ j : Nat, (j : Int) < m → momT P j < e) → MB P (msrM (mT P) e n m w l).1 e
  | 0, m, w, l, hn, h0, h => ⟨⟨h0, by show m ≤ _; omega⟩, h, fun j a b => by have : m ≤ (j : Int) := a; omega⟩
  | n + 1, m, w, l, hn, h0, h => by
    obtain ⟨mm, rfl⟩ : ∃ mm : Nat, m = mm := ⟨m.toNat, by omega⟩
    have hstep : mT P (mm : Int) < e → ∀ j : Nat, (j : Int) < (mm : Int) + 1 → momT P j < e := fun c j hj => by
      by_cases d : j = mm
      · subst d; exact c
      · exact h j (by omega)
    unfold msrM
    by_cases c : mT P (mm : Int) < e
    · rw [if_pos c]
      split
      · exact msrM_mb hs n _ _ _ (by omega) (by omega) (hstep c)
      · exact msrM_mb hs n _ _ _ (by omega) (by omega) (hstep c)
    · rw [if_neg c]
      refine ⟨⟨h0, by show (mm : Int) ≤ _; omega⟩, h, fun j a b => ?_⟩
      have a2 : (mm : Int) ≤ j := a
      have c2 : ¬ momT P mm < e := c
      by_cases d : j = mm
      · subst d; omega
      · have := mom_mono hs j mm (by omega) b
        omega
theorem msr_mb {P : Nat → OS} (hs : scoOK P) {L K F : Int → Int} (hL : lenZ L) : ∀ k : Nat, k ≤ 24 → MB P (msr L K (mT P) (cntM P) F k).1 (sumN L k)
  | 0, _ => ⟨⟨Int.le_refl _, by show (0 : Int) ≤ _; omega⟩, fun j a => by have : (j : Int) < 0 := a; omega, fun j a b => by
      have := momT_rg hs j
      have := cntM_pos b
      show (0 : Int) ≤ _
      omega⟩
  | k + 1, hk => by
    have ih := msr_mb hs (K := K) (F := F) hL k (by omega)
    have hl := hL k (by omega) (by omega)
    exact msrM_mb hs (e := sumN L k + L k) ((cntM P : Int) - (msr L K (mT P) (cntM P) F k).1).toNat (msr L K (mT P) (cntM P) F k).1 (msrB K k) (sumN L k) (by have := ih.1; omega) ih.1.1 (fun j hj => by have := ih.2.1 j hj; omega)
theorem msr_at {L K T F : Int → Int} {cnt : Int} {b : Nat} : ∀ k : Nat, b < k → (msr L K T cnt F k).2 b = (msr L K T cnt F (b + 1)).2 b
  | 0, h => absurd h (Nat.not_lt_zero _)
  | k + 1, h => by
    by_cases c : b = k
    · subst c; rfl
    · have ih := msr_at (L := L) (K := K) (T := T) (F := F) (cnt := cnt) (b := b) k (by omega)
      show upI (msr L K T cnt F k).2 k _ b = _
      rw [upI_n (by omega)]
      exact ih
theorem wd_init {P : Nat → OS} (hs : scoOK P) {p0 : OS} (hc : calZ p0) {b : Int} (hb : isBar b) : ∃ m : Nat, MR P m (sumN (p0.2 2) b.toNat) ∧ widF P p0 b = wdR P (sumN (p0.2 2) b.toNat + p0.2 2 b) m (msrB (p0.2 3) b) (sumN (p0.2 2) b.toNat) := by
  obtain ⟨bn, rfl⟩ : ∃ bn : Nat, b = bn := ⟨b.toNat, by have := hb.1; omega⟩
  have hb24 : bn < 24 := by have := hb.2; omega
  have hL := hc.1 bn hb.1 hb.2
  rw [Int.toNat_natCast]
  have hmb := msr_mb hs (K := p0.2 3) (F := fun _ => 0) hc.1 bn (by omega)
  have hw : widF P p0 bn = (msr (p0.2 2) (p0.2 3) (mT P) (cntM P) (fun _ => 0) (bn + 1)).2 bn := msr_at 24 hb24
  obtain ⟨m, hm⟩ : ∃ m : Nat, (msr (p0.2 2) (p0.2 3) (mT P) (cntM P) (fun _ => 0) bn).1 = m := ⟨_, (Int.toNat_of_nonneg hmb.1.1).symm⟩
  rw [hm] at hmb
  have hw2 : widF P p0 bn = wdR P (sumN (p0.2 2) bn + p0.2 2 bn) m (msrB (p0.2 3) bn) (sumN (p0.2 2) bn) := by
    rw [hw]
    show upI _ bn _ bn = _
    rw [upI_s, hm, show ((cntM P : Int) - (m : Int)).toNat = cntM P - m by omega]
    rfl
  rw [hw2]
  obtain ⟨⟨-, h1⟩, h2, h3⟩ := hmb
  by_cases c : m < cntM P ∧ momT P m = sumN (p0.2 2) bn
  · refine ⟨m + 1, ⟨c.1, fun j hj => ?_, fun j a d => ?_⟩, wdR_skip c.1 (by omega) c.2⟩
    · by_cases e : j = m
      · subst e; omega
      · have := h2 j (by omega); omega
    · rw [← c.2]
      exact mom_mono hs j m (by omega) d
  · refine ⟨m, ⟨by omega, fun j hj => by have := h2 j (by omega); omega, fun j a d => ?_⟩, rfl⟩
    have g := h3 j (by omega) d
    by_cases e : j = m
    · subst e
      have : momT P j ≠ sumN (p0.2 2) bn := fun z => c ⟨d, z⟩
      omega
    · have g2 := h3 m (by omega) (by omega)
      have := mom_mono hs j m (by omega) d
      omega
/-- bars without a tick in them -/
theorem barF_no {L : Int → Int} {t : Int} (hm : ∀ j : Nat, j ≤ 24 → sumN L j ≤ t) : ∀ n : Nat, barF L t n = -1
  | 0 => rfl
  | n + 1 => by
    have := hm (24 - n) (by omega)
    unfold barF
    rw [if_neg (by omega)]
    exact barF_no hm n
theorem barF_yes {L : Int → Int} {t : Int} (ht : t < sumN L 24) : ∀ n : Nat, n < 24 → barF L t (n + 1) ≠ -1
  | 0, _ => by
    have h1 : (if t < sumN L 24 then (24 : Int) - (((0 : Nat) : Int) + 1) else -1) ≠ -1 := by rw [if_pos ht]; decide
    exact h1
  | n + 1, h => by
    have ih := barF_yes ht n (by omega)
    unfold barF
    split
    · omega
    · exact ih
theorem bars_eq {P : Nat → OS} {p0 : OS} (hc : calOK p0) : (if lastE P = 0 then 0 else if barF (p0.2 2) (lastE P - 1) 24 = -1 then 24 else barF (p0.2 2) (lastE P - 1) 24 + 1) = barsA P p0 := by
  have h24 : p0.1 4 = sumN (p0.2 2) 24 := hc.2.1
  have hl0 : 0 ≤ lastE P := by unfold lastE; omega
  unfold barsA
  by_cases c : lastE P = 0
  · rw [if_pos c, if_pos (by omega)]
  · rw [if_neg c, if_neg (show ¬ lastE P ≤ 0 by omega)]
    by_cases d : lastE P ≤ p0.1 4
    · have hy : barF (p0.2 2) (lastE P - 1) 24 ≠ -1 := barF_yes (by omega) 23 (by omega)
      rw [if_pos d, if_neg hy]
    · have hz : barF (p0.2 2) (lastE P - 1) 24 = -1 := barF_no (fun j hj => by
        have := sumN_mono (f := p0.2 2) (n := 24) (fun i a b => by have := hc.1.1 i a b; omega) 24 j hj (by omega)
        omega) 24
      rw [if_neg d, if_pos hz]
