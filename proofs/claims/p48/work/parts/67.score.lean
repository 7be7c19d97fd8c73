/-! the score stays a score -/
theorem wr_ok {p : OS} {e : Int} : (-1 ≤ (if isWr p e then wPc p e else -1) ∧ (if isWr p e then wPc p e else -1) ≤ 62) ∧ (-3 ≤ (if isWr p e then wAc p e else -3) ∧ (if isWr p e then wAc p e else -3) ≤ 2) := by
  by_cases c : isWr p e
  · rw [if_pos c, if_pos c]
    have := c.2
    unfold isPit at this
    omega
  · rw [if_neg c, if_neg c]
    omega
theorem isWr_cg {p p' : OS} {e : Int} (h0 : p'.2 0 e = p.2 0 e) (h2 : p'.2 2 e = p.2 2 e) (h11 : p'.1 11 = p.1 11) (h12 : p'.1 12 = p.1 12) : (if isWr p' e then wPc p' e else -1) = (if isWr p e then wPc p e else -1) ∧ (if isWr p' e then wAc p' e else -3) = (if isWr p e then wAc p e else -3) := by
  have e1 : wPc p' e = wPc p e := by unfold wPc; rw [h0, h11, h12]
  have e2 : wAc p' e = wAc p e := by unfold wAc; rw [e1, h2, h11, h12]
  have e3 : isWr p' e ↔ isWr p e := by unfold isWr; rw [h0, e1, e2]
  by_cases c : isWr p e
  · rw [if_pos c, if_pos (e3.mpr c), if_pos c, if_pos (e3.mpr c)]
    exact ⟨e1, e2⟩
  · rw [if_neg c, if_neg (fun z => c (e3.mp z)), if_neg c, if_neg (fun z => c (e3.mp z))]
    exact ⟨rfl, rfl⟩
/-- one event is right, but for its time -/
def evOK (p : OS) (i : Int) : Prop := (0 ≤ p.2 0 i ∧ p.2 0 i ≤ 62) ∧ (-2 ≤ p.2 1 i ∧ p.2 1 i ≤ 2) ∧ p.2 2 i = hgt (p.2 0 i) (p.2 1 i) ∧ (p.2 5 i = (if isWr p i then wPc p i else -1) ∧ p.2 6 i = (if isWr p i then wAc p i else -3)) ∧ (p.2 0 i = 0 → p.2 1 i = 0)
/-- the part's times are right -/
def timOK (p : OS) : Prop := pN p ∧ pZ p ∧ (∀ i : Nat, (i : Int) < p.1 7 → p.2 3 i = sumN (p.2 4) i) ∧ p.1 8 = sumN (p.2 4) (p.1 7).toNat ∧ (∀ i : Int, 0 ≤ i → i < p.1 7 → isVal (p.2 4 i)) ∧ (1 ≤ p.1 9 ∧ p.1 9 ≤ p.1 10 ∧ p.1 10 ≤ 62)
theorem hgt_ok {pl al : Int} (h : 0 ≤ pl ∧ pl ≤ 62) (h2 : -2 ≤ al ∧ al ≤ 2) (h3 : pl = 0 → al = 0) : -1 ≤ hgt pl al ∧ hgt pl al ≤ 200 := by
  unfold hgt
  split
  · omega
  · rename_i c
    have e := Int.emod_add_mul_ediv pl 7
    have hm := Int.emod_nonneg pl (show (7 : Int) ≠ 0 by decide)
    have hm2 := Int.emod_lt_of_pos pl (show (0 : Int) < 7 by decide)
    have hl : 0 ≤ lk [0, 2, 4, 5, 7, 9, 11] (pl % 7) ∧ lk [0, 2, 4, 5, 7, 9, 11] (pl % 7) ≤ 11 ∧ (1 ≤ pl % 7 → 2 ≤ lk [0, 2, 4, 5, 7, 9, 11] (pl % 7)) := by
      rcases (by omega : pl % 7 = 0 ∨ pl % 7 = 1 ∨ pl % 7 = 2 ∨ pl % 7 = 3 ∨ pl % 7 = 4 ∨ pl % 7 = 5 ∨ pl % 7 = 6) with d | d | d | d | d | d | d <;> rw [d] <;> decide
    unfold plain
    omega
theorem timOK.part {p : OS} (h : timOK p) (he : ∀ i : Int, 0 ≤ i → i < p.1 7 → evOK p i) : partOK p := by
  obtain ⟨h1, h2, h3, h4, h5, h6⟩ := h
  refine ⟨h1, fun i a b => ?_, h2, h3, h4, h5, fun i a b => (he i a b).2.2.1, fun i a b => (he i a b).2.2.2.1, h6, fun i a b => (he i a b).2.2.2.2⟩
  obtain ⟨e1, e2, e3, e4, e5⟩ := he i a b
  have hv := isVal_rg (h5 i a b)
  have hb : p.2 3 i = sumN (p.2 4) i.toNat := by
    have := h3 i.toNat (by omega)
    rw [Int.toNat_of_nonneg a] at this
    exact this
  have m1 := sumN_mono (f := p.2 4) (n := p.1 7) (fun k a b => by have := isVal_rg (h5 k a b); omega) i.toNat 0 (by omega) (by omega)
  have m2 := sumN_mono (f := p.2 4) (n := p.1 7) (fun k a b => by have := isVal_rg (h5 k a b); omega) (p.1 7).toNat i.toNat (by omega) (by omega)
  have m3 : sumN (p.2 4) 0 = 0 := rfl
  have hz := h2.1
  have w := wr_ok (p := p) (e := i)
  refine ⟨e1, e2, by rw [e3]; exact hgt_ok e1 e2 e5, by omega, by omega, by rw [e4.1]; exact w.1, by rw [e4.2]; exact w.2⟩
theorem partOK.tim {p : OS} (h : partOK p) : timOK p := ⟨h.1, h.2.2.1, h.2.2.2.1, h.2.2.2.2.1, h.2.2.2.2.2.1, h.2.2.2.2.2.2.2.2.1⟩
theorem partOK.ev {p : OS} (h : partOK p) (i : Int) (a : 0 ≤ i) (b : i < p.1 7) : evOK p i := ⟨(h.2.1 i a b).1, (h.2.1 i a b).2.1, h.2.2.2.2.2.2.1 i a b, h.2.2.2.2.2.2.2.1 i a b, h.2.2.2.2.2.2.2.2.2 i a b⟩
/-- an event whose numbers stand stays right -/
theorem evOK.cg {p p' : OS} {i : Int} (h : evOK p i) (h0 : p'.2 0 i = p.2 0 i) (h1 : p'.2 1 i = p.2 1 i) (h2 : p'.2 2 i = p.2 2 i) (h5 : p'.2 5 i = p.2 5 i) (h6 : p'.2 6 i = p.2 6 i) (h11 : p'.1 11 = p.1 11) (h12 : p'.1 12 = p.1 12) : evOK p' i := by
  obtain ⟨e1, e2, e3, e4, e5⟩ := h
  have c := isWr_cg h0 h2 h11 h12
  exact ⟨by rw [h0]; exact e1, by rw [h1]; exact e2, by rw [h0, h1, h2]; exact e3, ⟨by rw [h5, c.1]; exact e4.1, by rw [h6, c.2]; exact e4.2⟩, by rw [h0, h1]; exact e5⟩
theorem wfi_fc (p : OS) (e : Int) : (wfi p e).1 = p.1 ∧ (∀ j : Nat, j ≠ 5 → j ≠ 6 → (wfi p e).2 j = p.2 j) ∧ (wfi p e).2 5 = upI (p.2 5) e (if isWr p e then wPc p e else -1) ∧ (wfi p e).2 6 = upI (p.2 6) e (if isWr p e then wAc p e else -3) := by
  unfold wfi
  exact ⟨rfl, fun j a b => by rw [oA_n b, oA_n a], by rw [oA_n (by decide), oA_s], by rw [oA_s]⟩
theorem giv_f (p : OS) (e pl al : Int) : (givP p e pl al).1 = p.1 ∧ (givP p e pl al).2 0 = upI (p.2 0) e pl ∧ (givP p e pl al).2 1 = upI (p.2 1) e al ∧ (givP p e pl al).2 2 = upI (p.2 2) e (hgt pl al) ∧ (givP p e pl al).2 3 = p.2 3 ∧ (givP p e pl al).2 4 = p.2 4 ∧ ∀ i : Int, i ≠ e → (givP p e pl al).2 5 i = p.2 5 i ∧ (givP p e pl al).2 6 i = p.2 6 i := by
  have w := wfi_fc (oA (oA (oA p 0 (upI (p.2 0) e pl)) 1 (upI (p.2 1) e al)) 2 (upI (p.2 2) e (hgt pl al))) e
  unfold givP
  refine ⟨w.1, (w.2.1 0 (by decide) (by decide)), (w.2.1 1 (by decide) (by decide)), (w.2.1 2 (by decide) (by decide)), (w.2.1 3 (by decide) (by decide)), (w.2.1 4 (by decide) (by decide)), fun i hi => ?_⟩
  rw [w.2.2.1, w.2.2.2, upI_n hi, upI_n hi]
  exact ⟨rfl, rfl⟩
theorem giv_ev {p : OS} {e pl al : Int} (hpl : 0 ≤ pl ∧ pl ≤ 62) (hal : -2 ≤ al ∧ al ≤ 2) (h3 : pl = 0 → al = 0) : evOK (givP p e pl al) e := by
  have g := giv_f p e pl al
  obtain ⟨q, hq⟩ : ∃ q, q = oA (oA (oA p 0 (upI (p.2 0) e pl)) 1 (upI (p.2 1) e al)) 2 (upI (p.2 2) e (hgt pl al)) := ⟨_, rfl⟩
  have w := wfi_fc q e
  have eg : givP p e pl al = wfi q e := by rw [hq]; rfl
  rw [eg] at g ⊢
  have c := isWr_cg (p := q) (p' := wfi q e) (e := e) (by rw [w.2.1 0 (by decide) (by decide)]) (by rw [w.2.1 2 (by decide) (by decide)]) (by rw [w.1]) (by rw [w.1])
  refine ⟨by rw [g.2.1, upI_s]; exact hpl, by rw [g.2.2.1, upI_s]; exact hal, by rw [g.2.1, g.2.2.1, g.2.2.2.1, upI_s, upI_s, upI_s], ⟨?_, ?_⟩, by rw [g.2.1, g.2.2.1, upI_s, upI_s]; exact h3⟩
  · rw [c.1, w.2.2.1, upI_s]
  · rw [c.2, w.2.2.2, upI_s]
theorem timOK.cg {p p' : OS} (h : timOK p) (e1 : p'.1 = p.1) (e3 : p'.2 3 = p.2 3) (e4 : p'.2 4 = p.2 4) : timOK p' := by
  obtain ⟨h1, h2, h3, h4, h5, h6⟩ := h
  unfold timOK pN pZ at *
  rw [e1, e3, e4]
  exact ⟨h1, h2, h3, h4, h5, h6⟩
/-- a pitch is given -/
theorem partOK.giv {p : OS} (h : partOK p) {e pl al : Int} (hpl : 0 ≤ pl ∧ pl ≤ 62) (hal : -2 ≤ al ∧ al ≤ 2) (h3 : pl = 0 → al = 0) : partOK (givP p e pl al) := by
  have g := giv_f p e pl al
  refine (h.tim.cg g.1 g.2.2.2.2.1 g.2.2.2.2.2.1).part (fun i a b => ?_)
  by_cases c : i = e
  · subst c; exact giv_ev hpl hal h3
  · rw [g.1] at b
    have gi := g.2.2.2.2.2.2 i c
    exact (h.ev i a b).cg (by rw [g.2.1, upI_n c]) (by rw [g.2.2.1, upI_n c]) (by rw [g.2.2.2.1, upI_n c]) gi.1 gi.2 (by rw [g.1]) (by rw [g.1])
theorem sumN_up {f : Int → Int} {c x : Int} : ∀ n : Nat, (n : Int) ≤ c → sumN (upI f c x) n = sumN f n
  | 0, _ => rfl
  | n + 1, h => by
    show sumN (upI f c x) n + upI f c x n = sumN f n + f n
    rw [sumN_up n (by omega), upI_n (by omega)]
/-- an event is added -/
theorem partOK.app {p : OS} (h : partOK p) {pl al le : Int} (hc : p.1 7 < 512) (he : p.1 8 + le ≤ 20000) (hpl : 0 ≤ pl ∧ pl ≤ 62) (hal : -2 ≤ al ∧ al ≤ 2) (h3 : pl = 0 → al = 0) (hle : isVal le) : partOK (appP p pl al le) := by
  have hv := isVal_rg hle
  have hn : 0 ≤ p.1 7 ∧ p.1 7 ≤ 512 := h.1
  obtain ⟨t1, t2, t3, t4, t5, t6⟩ := h.tim
  have hz := t2.1
  obtain ⟨q, hq⟩ : ∃ q, q = oU (oU (oA (oA p 3 (upI (p.2 3) (p.1 7) (p.1 8))) 4 (upI (p.2 4) (p.1 7) le)) 7 (p.1 7 + 1)) 8 (p.1 8 + le) := ⟨_, rfl⟩
  have q7 : q.1 7 = p.1 7 + 1 := by rw [hq]; rfl
  have q8 : q.1 8 = p.1 8 + le := by rw [hq]; rfl
  have qn : ∀ j : Nat, j ≠ 7 → j ≠ 8 → q.1 j = p.1 j := fun j a b => by rw [hq, oU_n b, oU_n a]; rfl
  have q3 : q.2 3 = upI (p.2 3) (p.1 7) (p.1 8) := by rw [hq]; rfl
  have q4 : q.2 4 = upI (p.2 4) (p.1 7) le := by rw [hq]; rfl
  have qa : ∀ j : Nat, j ≠ 3 → j ≠ 4 → q.2 j = p.2 j := fun j a b => by rw [hq]; show (oA (oA p 3 _) 4 _).2 j = _; rw [oA_n b, oA_n a]
  have tq : timOK q := by
    refine ⟨?_, ?_, fun i hi => ?_, ?_, fun i a b => ?_, ?_⟩
    · unfold pN; rw [q7]; omega
    · unfold pZ; rw [q8, qn 9 (by decide) (by decide), qn 10 (by decide) (by decide), qn 11 (by decide) (by decide), qn 12 (by decide) (by decide)]; exact ⟨by omega, t2.2⟩
    · rw [q7] at hi
      rw [q3, q4, sumN_up i (by omega)]
      by_cases c : (i : Int) = p.1 7
      · rw [c, upI_s, t4, ← c, Int.toNat_natCast]
      · rw [upI_n c]; exact t3 i (by omega)
    · rw [q8, q7, q4, sumN_succ hn.1, sumN_up _ (by omega), upI_s, t4]
    · rw [q7] at b
      rw [q4]
      by_cases c : i = p.1 7
      · rw [c, upI_s]; exact hle
      · rw [upI_n c]; exact t5 i a (by omega)
    · rw [qn 9 (by decide) (by decide), qn 10 (by decide) (by decide)]; exact t6
  have eg : appP p pl al le = givP q (p.1 7) pl al := by rw [hq]; rfl
  have g := giv_f q (p.1 7) pl al
  rw [eg]
  refine (tq.cg g.1 g.2.2.2.2.1 g.2.2.2.2.2.1).part (fun i a b => ?_)
  by_cases c : i = p.1 7
  · rw [c]; exact giv_ev hpl hal h3
  · rw [g.1, q7] at b
    have gi := g.2.2.2.2.2.2 i c
    exact (h.ev i a (by omega)).cg (by rw [g.2.1, upI_n c, qa 0 (by decide) (by decide)]) (by rw [g.2.2.1, upI_n c, qa 1 (by decide) (by decide)]) (by rw [g.2.2.2.1, upI_n c, qa 2 (by decide) (by decide)]) (gi.1.trans (by rw [qa 5 (by decide) (by decide)])) (gi.2.trans (by rw [qa 6 (by decide) (by decide)])) (by rw [g.1, qn 11 (by decide) (by decide)]) (by rw [g.1, qn 12 (by decide) (by decide)])
/-- the last event is taken away -/
theorem partOK.rem {p : OS} (h : partOK p) : partOK (remP p) := by
  unfold remP
  split
  · rename_i c
    have hn : 0 ≤ p.1 7 ∧ p.1 7 ≤ 512 := h.1
    obtain ⟨t1, t2, t3, t4, t5, t6⟩ := h.tim
    have hb := h.beg (p.1 7 - 1) (by omega) (by omega)
    have hr := (h.2.1 (p.1 7 - 1) (by omega) (by omega)).2.2.2.1
    obtain ⟨q, hq⟩ : ∃ q, q = oU (oU p 7 (p.1 7 - 1)) 8 (p.2 3 (p.1 7 - 1)) := ⟨_, rfl⟩
    have q7 : q.1 7 = p.1 7 - 1 := by rw [hq]; rfl
    have q8 : q.1 8 = p.2 3 (p.1 7 - 1) := by rw [hq]; rfl
    have qn : ∀ j : Nat, j ≠ 7 → j ≠ 8 → q.1 j = p.1 j := fun j a b => by rw [hq, oU_n b, oU_n a]
    have qa : q.2 = p.2 := by rw [hq]; rfl
    rw [← hq]
    refine timOK.part ⟨?_, ?_, fun i hi => ?_, ?_, fun i a b => ?_, ?_⟩ (fun i a b => ?_)
    · unfold pN; rw [q7]; omega
    · unfold pZ; rw [q8, qn 9 (by decide) (by decide), qn 10 (by decide) (by decide), qn 11 (by decide) (by decide), qn 12 (by decide) (by decide)]; exact ⟨by omega, t2.2⟩
    · rw [q7] at hi; rw [qa]; exact t3 i (by omega)
    · rw [q8, q7, qa]; exact hb
    · rw [q7] at b; rw [qa]; exact t5 i a (by omega)
    · rw [qn 9 (by decide) (by decide), qn 10 (by decide) (by decide)]; exact t6
    · rw [q7] at b
      exact (h.ev i a (by omega)).cg (by rw [qa]) (by rw [qa]) (by rw [qa]) (by rw [qa]) (by rw [qa]) (qn 11 (by decide) (by decide)) (qn 12 (by decide) (by decide))
  · exact h
/-- another range -/
theorem partOK.range {p : OS} (h : partOK p) {lo hi : Int} (hr : 1 ≤ lo ∧ lo ≤ hi ∧ hi ≤ 62) : partOK (oU (oU p 9 lo) 10 hi) := by
  obtain ⟨t1, t2, t3, t4, t5, t6⟩ := h.tim
  refine timOK.part ⟨t1, ⟨t2.1, t2.2.1, t2.2.2.1, by show 0 ≤ lo ∧ lo ≤ 62; omega, by show 0 ≤ hi ∧ hi ≤ 62; omega⟩, t3, t4, t5, hr⟩ (fun i a b => (h.ev i a b).cg rfl rfl rfl rfl rfl rfl rfl)
theorem wfiN_f (p : OS) : ∀ n : Nat, (wfiN p n).1 = p.1 ∧ (∀ j : Nat, j ≠ 5 → j ≠ 6 → (wfiN p n).2 j = p.2 j) ∧ (∀ i : Int, 0 ≤ i → i < n → (wfiN p n).2 5 i = (if isWr p i then wPc p i else -1) ∧ (wfiN p n).2 6 i = (if isWr p i then wAc p i else -3))
  | 0 => ⟨rfl, fun _ _ _ => rfl, fun i a b => absurd b (by simp; omega)⟩
  | n + 1 => by
    have ih := wfiN_f p n
    have w := wfi_fc (wfiN p n) n
    have e : wfiN p (n + 1) = wfi (wfiN p n) n := rfl
    rw [e]
    have c := isWr_cg (p := p) (p' := wfiN p n) (e := (n : Int)) (by rw [ih.2.1 0 (by decide) (by decide)]) (by rw [ih.2.1 2 (by decide) (by decide)]) (by rw [ih.1]) (by rw [ih.1])
    refine ⟨w.1.trans ih.1, fun j a b => (w.2.1 j a b).trans (ih.2.1 j a b), fun i a b => ?_⟩
    rw [w.2.2.1, w.2.2.2]
    by_cases d : i = n
    · subst d
      rw [upI_s, upI_s]
      exact c
    · rw [upI_n d, upI_n d]
      exact ih.2.2 i a (by omega)
/-- another shift -/
theorem partOK.shift {p : OS} (h : partOK p) {fi oc : Int} (h1 : -6 ≤ fi ∧ fi ≤ 6) (h2 : -2 ≤ oc ∧ oc ≤ 2) : partOK (wfiN (oU (oU p 11 fi) 12 oc) (p.1 7).toNat) := by
  have hn : 0 ≤ p.1 7 ∧ p.1 7 ≤ 512 := h.1
  obtain ⟨t1, t2, t3, t4, t5, t6⟩ := h.tim
  obtain ⟨q, hq⟩ : ∃ q, q = oU (oU p 11 fi) 12 oc := ⟨_, rfl⟩
  have tq : timOK q := by
    rw [hq]
    exact ⟨t1, ⟨t2.1, h1, h2, t2.2.2.2⟩, t3, t4, t5, t6⟩
  have qa : q.2 = p.2 := by rw [hq]; rfl
  have q7 : q.1 7 = p.1 7 := by rw [hq]; rfl
  have w := wfiN_f q (p.1 7).toNat
  rw [← hq]
  refine (tq.cg w.1 (w.2.1 3 (by decide) (by decide)) (w.2.1 4 (by decide) (by decide))).part (fun i a b => ?_)
  rw [w.1, q7] at b
  have ei := h.ev i a b
  have wi := w.2.2 i a (by omega)
  have c := isWr_cg (p := q) (p' := wfiN q (p.1 7).toNat) (e := i) (by rw [w.2.1 0 (by decide) (by decide)]) (by rw [w.2.1 2 (by decide) (by decide)]) (by rw [w.1]) (by rw [w.1])
  refine ⟨by rw [w.2.1 0 (by decide) (by decide), qa]; exact ei.1, by rw [w.2.1 1 (by decide) (by decide), qa]; exact ei.2.1, by rw [w.2.1 0 (by decide) (by decide), w.2.1 1 (by decide) (by decide), w.2.1 2 (by decide) (by decide), qa]; exact ei.2.2.1, ⟨by rw [wi.1, c.1], by rw [wi.2, c.2]⟩, by rw [w.2.1 0 (by decide) (by decide), w.2.1 1 (by decide) (by decide), qa]; exact ei.2.2.2.2⟩
/-- another metre -/
theorem calOK.met {p0 : OS} (h : calOK p0) {b nb nu : Int} (h1 : 1 ≤ nb ∧ nb ≤ 12) (h2 : nu = 2 ∨ nu = 4 ∨ nu = 8) : calOK (metP p0 b nb nu) := by
  have hl : 8 ≤ (nb * 64).tdiv nu ∧ (nb * 64).tdiv nu ≤ 384 := by
    rw [Int.tdiv_eq_ediv_of_nonneg (by omega)]
    rcases h2 with e | e | e <;> subst e <;> omega
  have hL : lenZ (rng (p0.2 2) b 24 ((nb * 64).tdiv nu)) := fun i a c => by
    unfold rng
    split
    · exact hl
    · exact h.1.1 i a c
  have hs := lenZ_sum hL 24 (by omega)
  refine ⟨⟨hL, ?_, fun i hi => ?_⟩, rfl, fun i hi => ?_⟩
  · show 0 ≤ sumN (rng (p0.2 2) b 24 ((nb * 64).tdiv nu)) 24 ∧ sumN (rng (p0.2 2) b 24 ((nb * 64).tdiv nu)) 24 ≤ 20000
    omega
  · refine ⟨?_, (h.1.2.2 i hi).2⟩
    show (1 ≤ rng (p0.2 0) b 24 nb i ∧ rng (p0.2 0) b 24 nb i ≤ 12) ∧ (rng (p0.2 1) b 24 nu i = 2 ∨ rng (p0.2 1) b 24 nu i = 4 ∨ rng (p0.2 1) b 24 nu i = 8)
    unfold rng
    split
    · exact ⟨h1, h2⟩
    · exact (h.1.2.2 i hi).1
  · show rng (p0.2 2) b 24 ((nb * 64).tdiv nu) i = (rng (p0.2 0) b 24 nb i * 64).tdiv (rng (p0.2 1) b 24 nu i)
    unfold rng
    split
    · rfl
    · exact h.2.2 i hi
theorem calOK.key {p0 : OS} (h : calOK p0) {b k : Int} (hk : -7 ≤ k ∧ k ≤ 7) : calOK (keyP p0 b k) := by
  refine ⟨⟨h.1.1, h.1.2.1, fun i hi => ⟨(h.1.2.2 i hi).1, ?_⟩⟩, h.2.1, h.2.2⟩
  show -7 ≤ rng (p0.2 3) b 24 k i ∧ rng (p0.2 3) b 24 k i ≤ 7
  unfold rng
  split
  · exact hk
  · exact (h.1.2.2 i hi).2
