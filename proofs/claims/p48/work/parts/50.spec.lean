/-! what the desk keeps: the score, and what follows from it -/
/-- the events taken up by the first m moments -/
def nxM (P : Nat → OS) : Nat → Nat → Int
  | 0, _ => 0
  | m + 1, k => egN (P k) (nxM P m k) (nbF P (fun j => nxM P m j.toNat) 4)
def momT (P : Nat → OS) (m : Nat) : Int := nbF P (fun j => nxM P m j.toNat) 4
def evM (P : Nat → OS) (m : Nat) (k : Nat) : Int := egE (P k) (nxM P (m + 1) k) (momT P m)
def cM (P : Nat → OS) : Nat → Nat → Nat
  | 0, m => m
  | n + 1, m => if momT P m = -1 then m else cM P n (m + 1)
def cntM (P : Nat → OS) : Nat := cM P 512 0
def HarOK (P : Nat → OS) (p : OS) : Prop := p.1 3 = cntM P ∧ ∀ m : Nat, m < cntM P → p.2 0 m = momT P m ∧ ∀ k : Nat, k < 4 → p.2 1 ((m : Int) * 4 + k) = evM P m k
theorem nxM_s (P : Nat → OS) (m k : Nat) : nxM P (m + 1) k = egN (P k) (nxM P m k) (momT P m) := rfl
theorem nbF_cg {P : Nat → OS} {f g : Int → Int} : ∀ n : Nat, (∀ k : Nat, k < n → f k = g k) → nbF P f n = nbF P g n
  | 0, _ => rfl
  | n + 1, h => by
    rw [nbF_s, nbF_s, nbF_cg n (fun k hk => h k (by omega)), h n (by omega)]
theorem lisK_f (P : Nat → OS) (t m : Int) (p : OS) : ∀ k : Nat, k ≤ 4 → (lisK P t m p k).1 = p.1 ∧ (lisK P t m p k).2 0 = p.2 0 ∧ (∀ j : Nat, (lisK P t m p k).2 2 j = if j < k then egN (P j) (p.2 2 j) t else p.2 2 j) ∧ (∀ j : Nat, j < 4 → (lisK P t m p k).2 1 (m * 4 + j) = if j < k then egE (P j) (egN (P j) (p.2 2 j) t) t else p.2 1 (m * 4 + j)) ∧ ∀ i : Int, (i < m * 4 ∨ m * 4 + 4 ≤ i) → (lisK P t m p k).2 1 i = p.2 1 i
  | 0, _ => ⟨rfl, rfl, fun j => by rw [if_neg (by omega)]; rfl, fun j _ => by rw [if_neg (by omega)]; rfl, fun i _ => rfl⟩
  | k + 1, hk => by
    obtain ⟨e1, e2, e3, e4, e5⟩ := lisK_f P t m p k (by omega)
    have ek : (lisK P t m p k).2 2 k = p.2 2 k := by rw [e3 k, if_neg (by omega)]
    unfold lisK
    refine ⟨e1, e2, fun j => ?_, fun j hj => ?_, fun i hi => ?_⟩
    · show upI ((lisK P t m p k).2 2) k (egN (P k) ((lisK P t m p k).2 2 k) t) j = _
      rw [ek]
      by_cases c : j = k
      · subst c
        rw [upI_s, if_pos (by omega)]
      · rw [upI_n (by omega), e3 j]
        by_cases d : j < k
        · rw [if_pos d, if_pos (by omega)]
        · rw [if_neg d, if_neg (by omega)]
    · show upI ((lisK P t m p k).2 1) (m * 4 + k) (egE (P k) (egN (P k) ((lisK P t m p k).2 2 k) t) t) (m * 4 + j) = _
      rw [ek]
      by_cases c : j = k
      · subst c
        rw [upI_s, if_pos (by omega)]
      · rw [upI_n (by omega), e4 j hj]
        by_cases d : j < k
        · rw [if_pos d, if_pos (by omega)]
        · rw [if_neg d, if_neg (by omega)]
    · show upI ((lisK P t m p k).2 1) (m * 4 + k) _ i = _
      rw [upI_n (by omega)]
      exact e5 i hi
theorem lisM_ok (P : Nat → OS) : ∀ (n m : Nat) (p : OS), p.1 3 = m → (∀ k : Nat, k < 4 → p.2 2 k = nxM P m k) → (∀ m2 : Nat, m2 < m → p.2 0 m2 = momT P m2 ∧ ∀ k : Nat, k < 4 → p.2 1 ((m2 : Int) * 4 + k) = evM P m2 k) →
    (lisM P n m p).1 3 = cM P n m ∧ ∀ m2 : Nat, m2 < cM P n m → (lisM P n m p).2 0 m2 = momT P m2 ∧ ∀ k : Nat, k < 4 → (lisM P n m p).2 1 ((m2 : Int) * 4 + k) = evM P m2 k
  | 0, m, p, h1, _, h3 => ⟨h1, h3⟩
  | n + 1, m, p, h1, h2, h3 => by
    have et : nbF P (p.2 2) 4 = momT P m := nbF_cg 4 (fun k hk => by rw [h2 k hk]; rfl)
    unfold lisM cM
    rw [et]
    by_cases c : momT P m = -1
    · rw [if_pos c, if_pos c]
      exact ⟨h1, h3⟩
    · rw [if_neg c, if_neg c]
      obtain ⟨e1, e2, e3, e4, e5⟩ := lisK_f P (momT P m) m (oU (oA p 0 (upI (p.2 0) m (momT P m))) 3 (m + 1)) 4 (Nat.le_refl 4)
      have g := lisM_ok P n (m + 1) (lisK P (momT P m) m (oU (oA p 0 (upI (p.2 0) m (momT P m))) 3 (m + 1)) 4) (by rw [e1]; rfl) (fun k hk => by
        rw [e3 k, if_pos hk]
        show egN (P k) (p.2 2 k) (momT P m) = _
        rw [h2 k hk]
        rfl) (fun m2 hm2 => by
        rw [e2]
        by_cases d : m2 = m
        · subst d
          refine ⟨by show upI (p.2 0) m2 (momT P m2) m2 = _; rw [upI_s], fun k hk => ?_⟩
          rw [e4 k hk, if_pos hk]
          show egE (P k) (egN (P k) (p.2 2 k) (momT P m2)) (momT P m2) = _
          rw [h2 k hk]
          rfl
        · have g3 := h3 m2 (by omega)
          refine ⟨by show upI (p.2 0) m (momT P m) m2 = _; rw [upI_n (by omega)]; exact g3.1, fun k hk => ?_⟩
          rw [e5 _ (by omega)]
          exact g3.2 k hk)
      exact g
theorem listen_ok (P : Nat → OS) (p : OS) : HarOK P (listenP P p) := by
  have g := lisM_ok P 512 0 (oU (oA p 2 (rng (p.2 2) 0 4 0)) 3 0) rfl (fun k hk => by
    show rng (p.2 2) 0 4 0 k = 0
    unfold rng
    rw [if_pos (by omega)]) (fun m2 h => absurd h (Nat.not_lt_zero _))
  exact g
theorem cM_le (P : Nat → OS) : ∀ n m : Nat, m ≤ cM P n m ∧ cM P n m ≤ m + n
  | 0, m => ⟨Nat.le_refl _, Nat.le_refl _⟩
  | n + 1, m => by
    have ih := cM_le P n (m + 1)
    unfold cM
    split <;> omega
theorem cM_pos (P : Nat → OS) : ∀ n m j : Nat, m ≤ j → j < cM P n m → momT P j ≠ -1
  | 0, m, j => fun h1 h2 => by unfold cM at h2; omega
  | n + 1, m, j => fun h1 h2 => by
    unfold cM at h2
    by_cases c : momT P m = -1
    · rw [if_pos c] at h2; omega
    · rw [if_neg c] at h2
      by_cases d : j = m
      · subst d; exact c
      · exact cM_pos P n (m + 1) j (by omega) h2
theorem cM_end (P : Nat → OS) : ∀ n m : Nat, cM P n m < m + n → momT P (cM P n m) = -1
  | 0, m => fun h => by unfold cM at h; omega
  | n + 1, m => fun h => by
    unfold cM at h ⊢
    by_cases c : momT P m = -1
    · rw [if_pos c]; exact c
    · rw [if_neg c] at h ⊢
      exact cM_end P n (m + 1) (by omega)
/-! the score's shape -/
/-- one part: begins, heights, written pitches are what they must be -/
def partOK (p : OS) : Prop := pN p ∧ eA p ∧ pZ p ∧ (∀ i : Nat, (i : Int) < p.1 7 → p.2 3 i = sumN (p.2 4) i) ∧ p.1 8 = sumN (p.2 4) (p.1 7).toNat ∧ (∀ i : Int, 0 ≤ i → i < p.1 7 → isVal (p.2 4 i)) ∧ (∀ i : Int, 0 ≤ i → i < p.1 7 → p.2 2 i = hgt (p.2 0 i) (p.2 1 i)) ∧
  (∀ i : Int, 0 ≤ i → i < p.1 7 → p.2 5 i = (if isWr p i then wPc p i else -1) ∧ p.2 6 i = (if isWr p i then wAc p i else -3)) ∧ (1 ≤ p.1 9 ∧ p.1 9 ≤ p.1 10 ∧ p.1 10 ≤ 62) ∧ (∀ i : Int, 0 ≤ i → i < p.1 7 → p.2 0 i = 0 → p.2 1 i = 0)
def scoOK (P : Nat → OS) : Prop := ∀ k : Nat, k < 4 → partOK (P k)
def calOK (p0 : OS) : Prop := calZ p0 ∧ p0.1 4 = sumN (p0.2 2) 24 ∧ ∀ b : Int, isBar b → p0.2 2 b = (p0.2 0 b * 64).tdiv (p0.2 1 b)
theorem scoOK.Z {P : Nat → OS} (h : scoOK P) : PsZ P := fun k hk => ⟨(h k hk).1, (h k hk).2.1, (h k hk).2.2.1⟩
theorem isVal_rg {v : Int} (h : isVal v) : 4 ≤ v ∧ v ≤ 96 := by unfold isVal at h; omega
theorem partOK.beg {p : OS} (h : partOK p) (i : Int) (h0 : 0 ≤ i) (h1 : i < p.1 7) : p.2 3 i = sumN (p.2 4) i.toNat := by
  have := h.2.2.2.1 i.toNat (by omega)
  rw [Int.toNat_of_nonneg h0] at this
  exact this
theorem partOK.endE {p : OS} (h : partOK p) (i : Int) (h0 : 0 ≤ i) (h1 : i < p.1 7) : endF p i = sumN (p.2 4) (i + 1).toNat := by
  unfold endF
  rw [h.beg i h0 h1, sumN_succ h0]
theorem sumN_mono {f : Int → Int} {n : Int} (h : ∀ i : Int, 0 ≤ i → i < n → 0 ≤ f i) : ∀ (j i : Nat), i ≤ j → (j : Int) ≤ n → sumN f i ≤ sumN f j
  | 0, i, hi, _ => by obtain rfl : i = 0 := by omega
                      exact Int.le_refl _
  | j + 1, i, hi, hj => by
    by_cases c : i = j + 1
    · subst c; exact Int.le_refl _
    · have ih := sumN_mono h j i (by omega) (by omega)
      have := h j (by omega) (by omega)
      show sumN f i ≤ sumN f j + f j
      omega
theorem partOK.mon {p : OS} (h : partOK p) : monE (endF p) (p.1 7) := fun i j h0 h1 h2 => by
  rw [h.endE i h0 (by omega), h.endE j (by omega) h2]
  exact sumN_mono (n := p.1 7) (fun k a b => by have := isVal_rg (h.2.2.2.2.2.1 k a b); omega) _ _ (by omega) (by omega)
