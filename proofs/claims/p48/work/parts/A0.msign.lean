/-! the signs of a bar, one behind the other -/
/-- signs from tick fr on, each within its event and the bar -/
def CH (p6 : OS) (fr to : Int) (q : OS) : Prop := 0 ≤ q.1 9 ∧ ∀ j : Int, 0 ≤ j → j < q.1 9 → q.2 1 j = fr + sumN (q.2 2) j.toNat ∧ 1 ≤ q.2 2 j ∧ inP p6 (q.2 0 j) ∧ p6.2 3 (q.2 0 j) ≤ q.2 1 j ∧ q.2 1 j + q.2 2 j ≤ to ∧ q.2 1 j + q.2 2 j ≤ endF p6 (q.2 0 j)
abbrev sgS (q : OS) : Int := sumN (q.2 2) (q.1 9).toNat
theorem CH.add {p6 : OS} {fr to : Int} {q : OS} (h : CH p6 fr to q) {e t le : Int} (ht : t = fr + sgS q) (hl : 1 ≤ le) (he : inP p6 e) (hb : p6.2 3 e ≤ t) (hE : t + le ≤ to ∧ t + le ≤ endF p6 e) : CH p6 fr to (sgnU q e t le) ∧ fr + sgS (sgnU q e t le) = t + le := by
  obtain ⟨h1, h2⟩ := h
  have eS : sgS (sgnU q e t le) = sgS q + le := by
    show sumN (upI (q.2 2) (q.1 9) le) (q.1 9 + 1).toNat = _
    rw [sumN_succ h1, sumN_up _ (by omega), upI_s]
  refine ⟨⟨by rw [sgnU_9]; omega, fun j h0 hj => ?_⟩, by omega⟩
  rw [sgnU_9] at hj
  show upI (q.2 1) (q.1 9) t j = fr + sumN (upI (q.2 2) (q.1 9) le) j.toNat ∧ 1 ≤ upI (q.2 2) (q.1 9) le j ∧ inP p6 (upI (q.2 0) (q.1 9) e j) ∧ p6.2 3 (upI (q.2 0) (q.1 9) e j) ≤ upI (q.2 1) (q.1 9) t j ∧ upI (q.2 1) (q.1 9) t j + upI (q.2 2) (q.1 9) le j ≤ to ∧ upI (q.2 1) (q.1 9) t j + upI (q.2 2) (q.1 9) le j ≤ endF p6 (upI (q.2 0) (q.1 9) e j)
  rw [sumN_up j.toNat (by omega)]
  by_cases c : j = q.1 9
  · subst c
    rw [upI_s, upI_s, upI_s]
    exact ⟨ht, hl, he, hb, hE.1, hE.2⟩
  · rw [upI_n c, upI_n c, upI_n c]
    exact h2 j h0 (by omega)
theorem CH.str {p6 : OS} {fr to e to2 : Int} (he : inP p6 e) (h2 : to2 ≤ to ∧ to2 ≤ endF p6 e) : ∀ (n : Nat) (t : Int) (q : OS), to2 - t ≤ n → CH p6 fr to q → t = fr + sgS q → p6.2 3 e ≤ t → CH p6 fr to (strU e to2 n t q) ∧ fr + sgS (strU e to2 n t q) = max t to2
  | 0, t, q, hn, h, ht, _ => ⟨h, by show fr + sgS q = max t to2; simp at hn; omega⟩
  | n + 1, t, q, hn, h, ht, hb => by
    unfold strU
    by_cases c : t < to2
    · rw [if_pos c]
      have g := great_rg (to2 - t) (by omega)
      have a := h.add (e := e) (t := t) (le := great (to2 - t)) ht (by omega) he hb ⟨by omega, by omega⟩
      have ih := CH.str he h2 n (t + great (to2 - t)) _ (by omega) a.1 a.2.symm (by omega)
      exact ⟨ih.1, by rw [ih.2]; omega⟩
    · rw [if_neg c]
      exact ⟨h, by omega⟩
theorem CH.ev {p6 : OS} (h6 : partOK p6) {fr to : Int} (hft : fr ≤ to) : ∀ (n : Nat) (e : Int) (q : OS), 0 ≤ e → e + n = p6.1 7 → CH p6 fr to q → fr + sgS q = max fr (min to (sumN (p6.2 4) e.toNat)) → CH p6 fr to (evU p6 fr to n e q) ∧ fr + sgS (evU p6 fr to n e q) = max fr (min to (p6.1 8))
  | 0, e, q, h0, hn, h, hS => ⟨h, by
    show fr + sgS q = _
    rw [hS, h6.2.2.2.2.1, show e = p6.1 7 by omega]⟩
  | n + 1, e, q, h0, hn, h, hS => by
    have hin : inP p6 e := ⟨h0, by omega⟩
    have hb := h6.beg e h0 (by omega)
    have hE := h6.endE e h0 (by omega)
    have hl := h6.len h0 hin.2
    have hEe : endF p6 e = p6.2 3 e + p6.2 4 e := rfl
    unfold evU
    by_cases c : p6.2 3 e < to
    · rw [if_pos c]
      have s := CH.str (fr := fr) (to := to) (e := e) (to2 := min to (endF p6 e)) hin ⟨by omega, by omega⟩ 128 (max fr (p6.2 3 e)) q (by omega) h (by omega) (by omega)
      exact CH.ev h6 hft n (e + 1) _ (by omega) (by omega) s.1 (by rw [s.2, ← hE]; omega)
    · rw [if_neg c]
      refine ⟨h, ?_⟩
      have m := sumN_mono (f := p6.2 4) (n := p6.1 7) (fun i a b => by have := h6.len a b; omega) (p6.1 7).toNat e.toNat (by omega) (by omega)
      rw [← h6.2.2.2.2.1] at m
      omega
theorem wr1_CH {p6 p0 : OS} (h6 : partOK p6) (hc : calOK p0) {b : Int} (hb : isBar b) (p : OS) : CH p6 (sumN (p0.2 2) b.toNat) (sumN (p0.2 2) b.toNat + p0.2 2 b) (wr1 p6 p0 b p) ∧ sumN (p0.2 2) b.toNat + sgS (wr1 p6 p0 b p) = max (sumN (p0.2 2) b.toNat) (min (sumN (p0.2 2) b.toNat + p0.2 2 b) (p6.1 8)) := by
  have hL := hc.1.1 b hb.1 hb.2
  have hS := lenZ_sum hc.1.1 b.toNat (by have := hb.1; have := hb.2; omega)
  have hn := h6.1
  unfold pN at hn
  rw [wr1_U h6 hc hb p]
  refine CH.ev h6 (by omega) (p6.1 7).toNat 0 _ (by omega) (by omega) ⟨Int.le_refl _, fun j h0 hj => absurd (show j < 0 from hj) (by omega)⟩ ?_
  have e0 : sgS (oU p 9 0) = 0 := rfl
  have e1 : sumN (p6.2 4) (0 : Int).toNat = 0 := rfl
  rw [e0, e1]
  omega
/-- what of the signs is of the laying, what of the marks -/
theorem wrP_f (p6 p0 : OS) (b : Int) (p : OS) : (wrP p6 p0 b p).1 9 = (wr1 p6 p0 b p).1 9 ∧ (∀ i : Nat, i < 3 → (wrP p6 p0 b p).2 i = (wr1 p6 p0 b p).2 i) ∧ (wrP p6 p0 b p).2 4 = mapI ((wr1 p6 p0 b p).2 4) ((wr1 p6 p0 b p).1 9) (tieG p6 (wr1 p6 p0 b p) (p0.1 4)) := by
  have hbf := bmP_f (grpG p6 (wr2 p6 p0 (wr1 p6 p0 b p)) (sumN (p0.2 2) b.toNat) (glF p0 b)) (wr2 p6 p0 (wr1 p6 p0 b p)) ((wr2 p6 p0 (wr1 p6 p0 b p)).1 9).toNat
  have e3 : wr3 p6 p0 b (wr2 p6 p0 (wr1 p6 p0 b p)) = bmP (grpG p6 (wr2 p6 p0 (wr1 p6 p0 b p)) (sumN (p0.2 2) b.toNat) (glF p0 b)) (wr2 p6 p0 (wr1 p6 p0 b p)) ((wr2 p6 p0 (wr1 p6 p0 b p)).1 9).toNat := rfl
  rw [← e3] at hbf
  have e9 : (wrP p6 p0 b p).1 9 = (wr3 p6 p0 b (wr2 p6 p0 (wr1 p6 p0 b p))).1 9 := rfl
  have eo : ∀ i : Nat, i ≠ 8 → i ≠ 5 → i ≠ 6 → (wrP p6 p0 b p).2 i = (wr3 p6 p0 b (wr2 p6 p0 (wr1 p6 p0 b p))).2 i := fun i a c d => by
    unfold wrP showP
    rw [oA_n d, oA_n a, oA_n c, oA_n a]
  refine ⟨e9.trans hbf.1, fun i hi => ?_, ?_⟩
  · rw [eo i (by omega) (by omega) (by omega), hbf.2 i (by omega)]
    show (oA (oA _ 4 _) 3 _).2 i = _
    rw [oA_n (by omega), oA_n (by omega)]
  · rw [eo 4 (by decide) (by decide) (by decide), hbf.2 4 (by decide)]
    rfl
/-- the event at a tick is one -/
theorem ev_uniq {p : OS} (h : partOK p) {t e f : Int} (he : inP p e) (hf : inP p f) (h1 : p.2 3 e ≤ t) (h2 : t < endF p e) (h3 : p.2 3 f ≤ t) (h4 : t < endF p f) : e = f := by
  have key : ∀ x y : Int, inP p x → inP p y → x < y → endF p x ≤ p.2 3 y := fun x y hx hy hxy => by
    rw [h.endE x hx.1 hx.2, h.beg y hy.1 hy.2]
    exact sumN_mono (f := p.2 4) (n := p.1 7) (fun i a b => by have := h.len a b; omega) y.toNat (x + 1).toNat (by have := hx.1; omega) (by have := hy.1; have := hy.2; omega)
  by_cases c : e < f
  · have := key e f he hf c; omega
  · by_cases d : f < e
    · have := key f e hf he d; omega
    · omega
theorem ev_mono {p : OS} (h : partOK p) {t u e f : Int} (he : inP p e) (hf : inP p f) (h1 : p.2 3 e ≤ t) (htu : t ≤ u) (h4 : u < endF p f) : e ≤ f := by
  by_cases d : f < e
  · have g : endF p f ≤ p.2 3 e := by
      rw [h.endE f hf.1 hf.2, h.beg e he.1 he.2]
      exact sumN_mono (f := p.2 4) (n := p.1 7) (fun i a b => by have := h.len a b; omega) e.toNat (f + 1).toNat (by have := hf.1; omega) (by have := he.1; have := he.2; omega)
    omega
  · omega
