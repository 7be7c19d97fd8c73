/-! the laying of signs without a bound; it is the desk's -/
theorem great_ge (t : Int) (h : 4 ≤ t) : 4 ≤ great t := by
  unfold great
  (repeat' split) <;> omega
theorem great_small (t : Int) (h : t < 4) : great t = t := by
  unfold great
  (repeat' split) <;> omega
theorem great_val {v : Int} (h : isVal v) : great v = v := by
  unfold isVal at h
  unfold great
  (repeat' split) <;> omega
def sgnU (p : OS) (e t le : Int) : OS := oU (oA (oA (oA p 0 (upI (p.2 0) (p.1 9) e)) 1 (upI (p.2 1) (p.1 9) t)) 2 (upI (p.2 2) (p.1 9) le)) 9 (p.1 9 + 1)
theorem sgnU_9 (p : OS) (e t le : Int) : (sgnU p e t le).1 9 = p.1 9 + 1 := rfl
def strU (e to : Int) : Nat → Int → OS → OS
  | 0, _, p => p
  | n + 1, t, p => if t < to then strU e to n (t + great (to - t)) (sgnU p e t (great (to - t))) else p
def evU (p6 : OS) (fr to : Int) : Nat → Int → OS → OS
  | 0, _, p => p
  | n + 1, e, p => if p6.2 3 e < to then evU p6 fr to n (e + 1) (strU e (min to (endF p6 e)) 128 (max fr (p6.2 3 e)) p) else p
theorem strU_end {e to t : Int} (h : to ≤ t) : ∀ (n : Nat) (p : OS), strU e to n t p = p
  | 0, _ => rfl
  | n + 1, p => by unfold strU; rw [if_neg (by omega)]
theorem strP_end {e to t : Int} (h : to ≤ t) : ∀ (n : Nat) (p : OS), strP e to n t p = p
  | 0, _ => rfl
  | n + 1, p => by unfold strP; rw [if_neg (by omega)]
theorem strU_mono {e to : Int} : ∀ (n : Nat) (t : Int) (p : OS), p.1 9 ≤ (strU e to n t p).1 9
  | 0, _, _ => Int.le_refl _
  | n + 1, t, p => by
    unfold strU
    split
    · have := strU_mono (e := e) (to := to) n (t + great (to - t)) (sgnU p e t (great (to - t)))
      rw [sgnU_9] at this
      omega
    · exact Int.le_refl _
theorem evU_mono {p6 : OS} {fr to : Int} : ∀ (n : Nat) (e : Int) (p : OS), p.1 9 ≤ (evU p6 fr to n e p).1 9
  | 0, _, _ => Int.le_refl _
  | n + 1, e, p => by
    unfold evU
    split
    · exact Int.le_trans (strU_mono 128 _ p) (evU_mono n _ _)
    · exact Int.le_refl _
theorem str_eq {e to fr c : Int} (hc : 0 ≤ c ∧ c ≤ 3) (hto : to - fr ≤ 384) : ∀ (n : Nat) (t : Int) (p : OS), to - t ≤ n → fr ≤ t → (t < to → 4 * p.1 9 ≤ t - fr + c) → strP e to n t p = strU e to n t p ∧ (t < to → 4 * (strU e to n t p).1 9 ≤ to - fr + c + 3)
  | 0, t, p, hn, _, _ => ⟨rfl, fun h => absurd h (by simp at hn; omega)⟩
  | n + 1, t, p, hn, hf, hb => by
    by_cases ht : t < to
    · have g := great_rg (to - t) (by omega)
      have hp := hb ht
      have es : sgnP p e t (great (to - t)) = sgnU p e t (great (to - t)) := by unfold sgnP; rw [if_pos (by omega)]; rfl
      unfold strP strU
      rw [if_pos ht, if_pos ht, es]
      have g4 := great_ge (to - t)
      have gs := great_small (to - t)
      have ih := str_eq (e := e) hc hto n (t + great (to - t)) (sgnU p e t (great (to - t))) (by omega) (by omega) (fun h => by rw [sgnU_9]; have := g4 (by omega); omega)
      refine ⟨ih.1, fun _ => ?_⟩
      by_cases h1 : t + great (to - t) < to
      · exact ih.2 h1
      · rw [strU_end (by omega), sgnU_9]
        by_cases h4 : 4 ≤ to - t
        · have := g4 h4; omega
        · have := gs (by omega); omega
    · unfold strP strU
      rw [if_neg ht, if_neg ht]
      exact ⟨rfl, fun h => absurd h ht⟩
theorem str_val {e to t : Int} (h : isVal (to - t)) (p : OS) (n : Nat) : strU e to (n + 1) t p = sgnU p e t (to - t) := by
  have hv := isVal_rg h
  unfold strU
  rw [if_pos (by omega), great_val h, strU_end (by omega)]
theorem ev_eq {p6 : OS} (h6 : partOK p6) {fr to : Int} (h0 : 0 ≤ fr) (hto : to - fr ≤ 384) : ∀ (n : Nat) (e : Int) (p : OS), 0 ≤ e → e + n ≤ p6.1 7 → (n ≠ 0 → p6.2 3 e < to → 4 * p.1 9 ≤ max fr (p6.2 3 e) - fr + (if fr < p6.2 3 e then 3 else 0)) → evW p6 fr to n e p = evU p6 fr to n e p
  | 0, _, _, _, _, _ => rfl
  | n + 1, e, p, he, hn, hb => by
    unfold evW evU
    by_cases c : p6.2 3 e < to
    · rw [if_pos c, if_pos c]
      have hl := h6.len he (by omega)
      have hv := h6.2.2.2.2.2.1 e he (by omega)
      have hbe := hb (by omega) c
      have hE : endF p6 e = p6.2 3 e + p6.2 4 e := rfl
      have s := str_eq (e := e) (fr := fr) (c := if fr < p6.2 3 e then 3 else 0) (by split <;> omega) (to := min to (endF p6 e)) (by omega) 128 (max fr (p6.2 3 e)) p (by omega) (by omega) (fun _ => hbe)
      rw [s.1]
      refine ev_eq h6 h0 hto n (e + 1) _ (by omega) (by omega) (fun hn0 c2 => ?_)
      have hnb := h6.nextB he (by omega)
      rw [hnb] at c2 ⊢
      by_cases d : fr < p6.2 3 e
      · have e1 : isVal (min to (endF p6 e) - max fr (p6.2 3 e)) := by
          rw [show min to (endF p6 e) - max fr (p6.2 3 e) = p6.2 4 e by omega]; exact hv
        rw [str_val e1, sgnU_9]
        rw [if_pos d] at hbe
        rw [if_pos (by omega)]
        omega
      · rw [if_neg d] at hbe s
        by_cases f : fr < p6.2 3 e + p6.2 4 e
        · rw [if_pos f]
          have := s.2 (by omega)
          omega
        · rw [strU_end (by omega), if_neg f]
          omega
    · rw [if_neg c, if_neg c]
/-- events that end ahead of the bar give nothing -/
theorem ev_skip {p6 : OS} (h6 : partOK p6) {fr to : Int} (hto : fr < to) (p : OS) : ∀ (k n : Nat), (k : Int) + n ≤ p6.1 7 → (∀ i : Int, 0 ≤ i → i < k → endF p6 i ≤ fr) → evU p6 fr to (k + n) 0 p = evU p6 fr to n k p
  | 0, n, _, _ => by rw [Nat.zero_add]; rfl
  | k + 1, n, hn, hi => by
    have ih := ev_skip h6 hto p k (n + 1) (by omega) (fun i a b => hi i a (by omega))
    rw [show k + 1 + n = k + (n + 1) by omega, ih]
    have hE := hi k (by omega) (by omega)
    have hl := h6.len (i := (k : Int)) (by omega) (by omega)
    have hEe : endF p6 k = p6.2 3 k + p6.2 4 k := rfl
    rw [evU, if_pos (by omega), strU_end (by omega)]
    rfl
/-- the desk's signs of a bar, from the first event on -/
theorem wr1_U {p6 p0 : OS} (h6 : partOK p6) (hc : calOK p0) {b : Int} (hb : isBar b) (p : OS) : wr1 p6 p0 b p = evU p6 (sumN (p0.2 2) b.toNat) (sumN (p0.2 2) b.toNat + p0.2 2 b) (p6.1 7).toNat 0 (oU p 9 0) := by
  have hL := hc.1.1 b hb.1 hb.2
  have hS := lenZ_sum hc.1.1 b.toNat (by have := hb.1; have := hb.2; omega)
  have hn := h6.1
  unfold pN at hn
  have hf := febF_rg (endF p6) (sumN (p0.2 2) b.toNat) (p6.1 7).toNat
  have hm : monE (endF p6) ((p6.1 7).toNat : Int) := by rw [Int.toNat_of_nonneg hn.1]; exact h6.mon
  unfold wr1
  rw [ev_eq h6 hS.1 (by omega) _ _ _ hf.1 (by omega) (fun _ _ => by show 4 * (0 : Int) ≤ _; split <;> omega)]
  obtain ⟨f, hfe⟩ : ∃ f : Nat, febF (endF p6) (sumN (p0.2 2) b.toNat) (p6.1 7).toNat = f := ⟨_, (Int.toNat_of_nonneg hf.1).symm⟩
  have g := ev_skip h6 (fr := sumN (p0.2 2) b.toNat) (to := sumN (p0.2 2) b.toNat + p0.2 2 b) (by omega) (oU p 9 0) f (p6.1 7 - f).toNat (by omega) (fun i a c => (febF_iff (p6.1 7).toNat hm i a (by omega)).mp (by omega))
  rw [hfe, ← g]
  congr 1
  omega
