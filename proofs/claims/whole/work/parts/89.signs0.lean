/-! the laying of signs without a bound; it is the desk's -/
theorem great_ge (t : Int) (h : 4 ≤ t) : 4 ≤ great t := by
  unfold great
  (repeat' split) <;> omega
theorem great_small (t : Int) (h : t < 4) : great t = t := by
  unfold great
  (repeat' split) <;> omega
theorem great_val {v : Int} (h : isVal v) : great v = v := by
  unfold isVal at h
  unfold great
  (repeat' split) <;> omega
def sgnU (p : OS) (e t le : Int) : OS := oU (oA (oA (oA p 0 (upI (p.2 0) (p.1 9) e)) 1 (upI (p.2 1) (p.1 9) t)) 2 (upI (p.2 2) (p.1 9) le)) 9 (p.1 9 + 1)
theorem sgnU_9 (p : OS) (e t le : Int) : (sgnU p e t le).1 9 = p.1 9 + 1 := rfl
def strU (e to : Int) : Nat → Int → OS → OS
  | 0, _, p => p
  | n + 1, t, p => if t < to then strU e to n (t + great (to - t)) (sgnU p e t (great (to - t))) else p
def evU (p6 : OS) (fr to : Int) : Nat → Int → OS → OS
  | 0, _, p => p
  | n + 1, e, p => if p6.2 3 e < to then evU p6 fr to n (e + 1) (strU e (min to (endF p6 e)) 128 (max fr (p6.2 3 e)) p) else p
theorem strU_end {e to t : Int} (h : to ≤ t) : ∀ (n : Nat) (p : OS), strU e to n t p = p
  | 0, _ => rfl
  | n + 1, p => by unfold strU; rw [if_neg (by omega)]
theorem strP_end {e to t : Int} (h : to ≤ t) : ∀ (n : Nat) (p : OS), strP e to n t p = p
  | 0, _ => rfl
  | n + 1, p => by unfold strP; rw [if_neg (by omega)]
theorem strU_mono {e to : Int} : ∀ (n : Nat) (t : Int) (p : OS), p.1 9 ≤ (strU e to n t p).1 9
  | 0, _, _ => Int.le_refl _
  | n + 1, t, p => by
    unfold strU
    split
    · have := strU_mono (e := e) (to := to) n (t + great (to - t)) (sgnU p e t (great (to - t)))
      rw [sgnU_9] at this
      omega
    · exact Int.le_refl _
theorem evU_mono {p6 : OS} {fr to : Int} : ∀ (n : Nat) (e : Int) (p : OS), p.1 9 ≤ (evU p6 fr to n e p).1 9
  | 0, _, _ => Int.le_refl _
  | n + 1, e, p => by
    unfold evU
    split
    · exact Int.le_trans (strU_mono 128 _ p) (evU_mono n _ _)
    · exact Int.le_refl _
theorem str_eq {e to fr c : Int} (hc : 0 ≤ c ∧ c ≤ 3) (hto : to - fr ≤ 384) : ∀ (n : Nat) (t : Int) (p : OS), to - t ≤ n → fr ≤ t → (t < to → 4 * p.1 9 ≤ t - fr + c) → strP e to n t p = strU e to n t p ∧ (t < to → 4 * (strU e to n t p).1 9 ≤ to - fr + c + 3)
  | 0, t, p, hn, _, _ => ⟨rfl, fun h => absurd h (by simp at hn; omega)⟩
  | n + 1, t, p, hn, hf, hb => by
    by_cases ht : t < to
    · have g := great_rg (to - t) (by omega)
      have hp := hb ht
      have es : sgnP p e t (great (to - t)) = sgnU p e t (great (to - t)) := by unfold sgnP; rw [if_pos (by omega)]; rfl
      unfold strP strU
      rw [if_pos ht, if_pos ht, es]
      have g4 := great_ge (to - t)
      have gs := great_small (to - t)
      have ih := str_eq (e := e) hc hto n (t + great (to - t)) (sgnU p e t (great (to - t))) (by omega) (by omega) (fun h => by rw [sgnU_9]; have := g4 (by omega); omega)
      refine ⟨ih.1, fun _ => ?_⟩
      by_cases h1 : t + great (to - t) < to
      · exact ih.2 h1
      · rw [strU_end (by omega), sgnU_9]
        by_cases h4 : 4 ≤ to - t
        · have := g4 h4; omega
        · have := gs (by omega); omega
    · unfold strP strU
      rw [if_neg ht, if_neg ht]
      exact ⟨rfl, fun h => absurd h ht⟩
theorem str_val {e to t : Int} (h : isVal (to - t)) (p : OS) (n : Nat) : strU e to (n + 1) t p = sgnU p e t (to - t) := by
  have hv := isVal_rg h
  unfold strU
  rw [if_pos (by omega), great_val h, strU_end (by omega)]
theorem ev_eq {p6 : OS} (h6 : partOK p6) {fr to : Int} (h0 : 0 ≤ fr) (hto : to - fr ≤ 384) : ∀ (n : Nat) (e : Int) (p : OS), 0 ≤ e → e + n ≤ p6.1 7 → (n ≠ 0 → p6.2 3 e < to → 4 * p.1 9 ≤ max fr (p6.2 3 e) - fr + (if fr < p6.2 3 e then 3 else 0)) → evW p6 fr to n e p = evU p6 fr to n e p
  | 0, _, _, _, _, _ => rfl
  | n + 1, e, p, he, hn, hb => by
    unfold evW evU
    by_cases c : p6.2 3 e < to
    · rw [if_pos c, if_pos c]
      have hl := h6.len he (by omega)
      have hv := h6.2.2.2.2.2.1 e he (by omega)
      have hbe := hb (by omega) c
      have hE : endF p6 e = p6.2 3 e + p6.2 4 e := rfl
      have s := str_eq (e := e) (fr := fr) (c := if fr < p6.2 3 e then 3 else 0) (by split <;> omega) (to := min to (endF p6 e)) (by omega) 128 (max fr (p6.2 3 e)) p (by omega) (by omega) (fun _ => hbe)
      rw [s.1]
      refine ev_eq h6 h0 hto n (e + 1) _ (by omega) (by omega) (fun hn0 c2 => ?_)
      have hnb := h6.nextB he (by omega)
      rw [hnb] at c2 ⊢
      by_cases d : fr < p6.2 3 e
      · have e1 : isVal (min to (endF p6 e) - max fr (p6.2 3 e)) := by
          rw [show min to (endF p6 e) - max fr (p6.2 3 e) = p6.2 4 e by omega]; exact hv
        rw [str_val e1, sgnU_9]
        rw [if_pos d] at hbe
        rw [if_pos (by omega)]
        omega
      · rw [if_neg d] at hbe s
        by_cases f : fr < p6.2 3 e + p6.2 4 e
        · rw [if_pos f]
          have := s.2 (by omega)
          omega
        · rw [strU_end (by omega), if_neg f]
          omega
    · rw [if_neg c, if_neg c]
/-- events that end ahead of the bar give nothing -/
theorem ev_skip {p6 : OS} (h6 : partOK p6) {fr to : Int} (hto : fr < to) (p : OS) : ∀ (k n : Nat), (k : Int) + n ≤ p6.1 7 → (∀ i : Int, 0 ≤ i → i < k → endF p6 i ≤ fr) → evU p6 fr to (k + n) 0 p = evU p6 fr to n k p
  | 0, n, _, _ => by rw [Nat.zero_add]; rfl
  | k + 1, n, hn, hi => by
    have ih := ev_skip h6 hto p k (n + 1) (by omega) (fun i a b => hi i a (by omega))
    rw [show k + 1 + n = k + (n + 1) by omega, ih]
    have hE := hi k (by omega) (by omega)
    have hl := h6.len (i := (k : Int)) (by omega) (by omega)
    have hEe : endF p6 k = p6.2 3 k + p6.2 4 k := rfl
    rw [evU, if_pos (by omega), strU_end (by omega)]
    rfl
/-- the desk's signs of a bar, from the first event on -/
theorem wr1_U {p6 p0 : OS} (h6 : partOK p6) (hc : calOK p0) {b : Int} (hb : isBar b) (p : OS) : wr1 p6 p0 b p = evU p6 (sumN (p0.2 2) b.toNat) (sumN (p0.2 2) b.toNat + p0.2 2 b) (p6.1 7).toNat 0 (oU p 9 0) := by
  have hL := hc.1.1 b hb.1 hb.2
  have hS := lenZ_sum hc.1.1 b.toNat (by have := hb.1; have := hb.2; omega)
  have hn := h6.1
  unfold pN at hn
  have hf := febF_rg (endF p6) (sumN (p0.2 2) b.toNat) (p6.1 7).toNat
  have hm : monE (endF p6) ((p6.1 7).toNat : Int) := by rw [Int.toNat_of_nonneg hn.1]; exact h6.mon
  unfold wr1
  rw [ev_eq h6 hS.1 (by omega) _ _ _ hf.1 (by omega) (fun _ _ => by show 4 * (0 : Int) ≤ _; split <;> omega)]
  obtain ⟨f, hfe⟩ : ∃ f : Nat, febF (endF p6) (sumN (p0.2 2) b.toNat) (p6.1 7).toNat = f := ⟨_, (Int.toNat_of_nonneg hf.1).symm⟩
  have g := ev_skip h6 (fr := sumN (p0.2 2) b.toNat) (to := sumN (p0.2 2) b.toNat + p0.2 2 b) (by omega) (oU p 9 0) f (p6.1 7 - f).toNat (by omega) (fun i a c => (febF_iff (p6.1 7).toNat hm i a (by omega)).mp (by omega))
  rw [hfe, ← g]
  congr 1
  omega
/-- the reference's signs so far are the desk's -/
def SR (p6 : OS) (se : Int) (q s : OS) : Prop := q.1 5 = s.1 9 ∧ ∀ j : Int, 0 ≤ j → j < s.1 9 → q.2 7 j = s.2 0 j ∧ q.2 8 j = s.2 2 j ∧ q.2 9 j = s.2 1 j ∧ q.2 10 j = tieG p6 s se j
theorem SR.add {p6 : OS} {se : Int} {q s : OS} (h : SR p6 se q s) {e t le x : Int} (hx : x = bI (p6.2 0 e ≠ 0 ∧ t + le < min (endF p6 e) se)) : SR p6 se (oU (oA (oA (oA (oA q 7 (upI (q.2 7) (q.1 5) e)) 8 (upI (q.2 8) (q.1 5) le)) 9 (upI (q.2 9) (q.1 5) t)) 10 (upI (q.2 10) (q.1 5) x)) 5 (q.1 5 + 1)) (sgnU s e t le) := by
  obtain ⟨h1, h2⟩ := h
  refine ⟨by show q.1 5 + 1 = s.1 9 + 1; rw [h1], fun j h0 hj => ?_⟩
  rw [sgnU_9] at hj
  show upI (q.2 7) (q.1 5) e j = upI (s.2 0) (s.1 9) e j ∧ upI (q.2 8) (q.1 5) le j = upI (s.2 2) (s.1 9) le j ∧ upI (q.2 9) (q.1 5) t j = upI (s.2 1) (s.1 9) t j ∧ upI (q.2 10) (q.1 5) x j = bI (p6.2 0 (upI (s.2 0) (s.1 9) e j) ≠ 0 ∧ upI (s.2 1) (s.1 9) t j + upI (s.2 2) (s.1 9) le j < min (endF p6 (upI (s.2 0) (s.1 9) e j)) se)
  rw [h1]
  by_cases c : j = s.1 9
  · subst c
    rw [upI_s, upI_s, upI_s, upI_s, upI_s, upI_s, upI_s]
    exact ⟨rfl, rfl, rfl, hx⟩
  · simp only [upI_n c]
    exact h2 j h0 (by omega)
theorem SR.add5 {p6 : OS} {se : Int} {q q' s : OS} (h : SR p6 se q s) (e5 : q'.1 5 = q.1 5) (e7 : q'.2 7 = q.2 7) (e8 : q'.2 8 = q.2 8) (e9 : q'.2 9 = q.2 9) (e10 : q'.2 10 = q.2 10) : SR p6 se q' s := by
  unfold SR
  rw [e5, e7, e8, e9, e10]
  exact h
/-- the greatest value, looked for from the smallest on -/
def gvI (left j v : Int) : Prop := (j = 9 ∧ v = left) ∨ ∃ i : Int, j < i ∧ i < 10 ∧ v = lk vals i ∧ lk vals i ≤ left ∧ ∀ i' : Int, j < i' → i' < i → left < lk vals i'
theorem gvI_y {left j v : Int} (h0 : 0 ≤ j) (hj : j < 10) (h : lk vals j ≤ left) : gvI left (j - 1) (lk vals j) := Or.inr ⟨j, by omega, hj, rfl, h, fun i' a b => absurd a (by omega)⟩
theorem gvI_n {left j v : Int} (hv : gvI left j v) (h4 : 4 ≤ left) (h0 : 0 ≤ j) (h : left < lk vals j) : gvI left (j - 1) v := by
  rcases hv with ⟨e, -⟩ | ⟨i, a, b, c, d, f⟩
  · subst e
    have : lk vals 9 = 4 := rfl
    omega
  · refine Or.inr ⟨i, by omega, b, c, d, fun i' x y => ?_⟩
    by_cases z : i' = j
    · subst z; exact h
    · exact f i' (by omega) y
theorem gvI_end {left v : Int} (hv : gvI left (-1) v) : v = great left := by
  rcases hv with ⟨e, -⟩ | ⟨i, a, b, c, d, f⟩
  · omega
  · rw [c]
    exact great_at ⟨by omega, b⟩ (fun j x y => f j (by omega) y) d
/-- whether a sign is tied, as the reference asks -/
theorem tie_eq {p0 : OS} (hc : calOK p0) {b : Int} (hb : isBar b) {to en t v left : Int} (hto : to = sumN (p0.2 2) b.toNat + p0.2 2 b) (hl : left = min to en - (t + v)) (h0 : 0 ≤ left) : (t + v < min en (p0.1 4)) ↔ (0 < left ∨ (to < en ∧ b < 23)) := by
  have hL := hc.1.1 b hb.1 hb.2
  have hs : sumN (p0.2 2) (b + 1).toNat = to := by rw [hto]; exact sumN_succ hb.1
  have hm : ∀ i j : Nat, i ≤ j → j ≤ 24 → sumN (p0.2 2) i ≤ sumN (p0.2 2) j := fun i j a c => sumN_mono (n := 24) (fun k x y => by have := hc.1.1 k x y; omega) j i a (by omega)
  have h24 : p0.1 4 = sumN (p0.2 2) 24 := hc.2.1
  have h1 := hm (b + 1).toNat 24 (by have := hb.2; omega) (by omega)
  have h2 : b < 23 → to < sumN (p0.2 2) 24 := fun hlt => by
    have g := hm (b + 2).toNat 24 (by omega) (by omega)
    have s := sumN_succ (f := p0.2 2) (i := b + 1) (by have := hb.1; omega)
    rw [show b + 1 + 1 = b + 2 by omega] at s
    have := hc.1.1 (b + 1) (by have := hb.1; omega) (by omega)
    omega
  have h3 : ¬ b < 23 → to = sumN (p0.2 2) 24 := fun hlt => by
    have : (b + 1).toNat = 24 := by have := hb.2; omega
    rw [this] at hs
    exact hs.symm
  rw [hs] at h1
  constructor
  · intro q
    by_cases c : 0 < left
    · exact Or.inl c
    · refine Or.inr ⟨by omega, ?_⟩
      by_cases d : b < 23
      · exact d
      · have := h3 d; omega
  · intro q
    rcases q with q | ⟨q1, q2⟩
    · omega
    · have := h2 q2; omega
