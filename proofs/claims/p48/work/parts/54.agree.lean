/-! what lies beyond the counts does not matter -/
def agI (c : Int) (F F' : Int → Int) : Prop := ∀ j : Int, 0 ≤ j → j < c → F j = F' j
theorem agI.up {c : Int} {F F' : Int → Int} (h : agI c F F') (x : Int) : agI (c + 1) (upI F c x) (upI F' c x) := fun j h0 h1 => by
  by_cases e : j = c
  · subst e; rw [upI_s, upI_s]
  · rw [upI_n e, upI_n e]; exact h j h0 (by omega)
theorem agI.upk {c k : Int} {F F' : Int → Int} (h : agI c F F') (x : Int) : agI c (upI F k x) (upI F' k x) := fun j h0 h1 => by
  by_cases e : j = k
  · subst e; rw [upI_s, upI_s]
  · rw [upI_n e, upI_n e]; exact h j h0 h1
theorem agI.le {c d : Int} {F F' : Int → Int} (h : agI c F F') (hd : d ≤ c) : agI d F F' := fun j h0 h1 => h j h0 (by omega)
def Ag3 (p p' : OS) : Prop := p.1 9 = p'.1 9 ∧ ∀ i : Nat, i < 3 → agI (p.1 9) (p.2 i) (p'.2 i)
theorem Ag3.sgn {p p' : OS} (h : Ag3 p p') (e t le : Int) : Ag3 (sgnP p e t le) (sgnP p' e t le) := by
  unfold sgnP
  rw [← h.1]
  split
  · refine ⟨rfl, fun i hi => ?_⟩
    rcases (by omega : i = 0 ∨ i = 1 ∨ i = 2) with c | c | c <;> subst c
    · exact (h.2 0 hi).up e
    · exact (h.2 1 hi).up t
    · exact (h.2 2 hi).up le
  · exact h
theorem Ag3.str {e to : Int} : ∀ (n : Nat) (t : Int) (p p' : OS), Ag3 p p' → Ag3 (strP e to n t p) (strP e to n t p')
  | 0, _, _, _, h => h
  | n + 1, t, p, p', h => by
    unfold strP
    split
    · exact Ag3.str n _ _ _ (h.sgn _ _ _)
    · exact h
theorem Ag3.ev {p6 : OS} {fr to : Int} : ∀ (n : Nat) (e : Int) (p p' : OS), Ag3 p p' → Ag3 (evW p6 fr to n e p) (evW p6 fr to n e p')
  | 0, _, _, _, h => h
  | n + 1, e, p, p', h => by
    unfold evW
    split
    · exact Ag3.ev n _ _ _ (Ag3.str 128 _ _ _ h)
    · exact h
def Ag5 (p p' : OS) : Prop := p.1 9 = p'.1 9 ∧ ∀ i : Nat, i < 5 → agI (p.1 9) (p.2 i) (p'.2 i)
theorem Ag3.mk {p6 : OS} {se : Int} {p p' : OS} (h : Ag3 p p') : Ag5 (mkP p6 se p (p.1 9)) (mkP p6 se p' (p'.1 9)) := by
  refine ⟨h.1, fun i hi => ?_⟩
  rw [← h.1]
  have h0 := h.2 0 (by omega)
  have h1 := h.2 1 (by omega)
  have h2 := h.2 2 (by omega)
  rcases (by omega : i = 0 ∨ i = 1 ∨ i = 2 ∨ i = 3 ∨ i = 4) with c | c | c | c | c <;> subst c
  · exact h0
  · exact h1
  · exact h2
  · intro j a b
    show mapI (p.2 3) (p.1 9) (fstG p6 p) j = mapI (p'.2 3) (p.1 9) (fstG p6 p') j
    unfold mapI
    rw [if_pos ⟨a, b⟩, if_pos ⟨a, b⟩]
    unfold fstG
    rw [h0 j a b, h1 j a b]
  · intro j a b
    show mapI (p.2 4) (p.1 9) (tieG p6 p se) j = mapI (p'.2 4) (p.1 9) (tieG p6 p' se) j
    unfold mapI
    rw [if_pos ⟨a, b⟩, if_pos ⟨a, b⟩]
    unfold tieG
    rw [h0 j a b, h1 j a b, h2 j a b]
theorem bmP_ag {g g' : Int → Int} {p p' : OS} {c : Int} (hg : agI c g g') : ∀ k : Nat, (k : Int) ≤ c → (bmP g p k).1 10 = (bmP g' p' k).1 10 ∧ agI k ((bmP g p k).2 7) ((bmP g' p' k).2 7)
  | 0, _ => ⟨rfl, fun j h0 h1 => absurd h1 (by simp; omega)⟩
  | k + 1, hk => by
    have ih := bmP_ag (p := p) (p' := p') hg k (by omega)
    have e : bmP g p (k + 1) = bmS g (bmP g p k) k := rfl
    have e' : bmP g' p' (k + 1) = bmS g' (bmP g' p' k) k := rfl
    have gk := hg k (by omega) (by omega)
    rw [e, e']
    generalize bmP g p k = r at *
    generalize bmP g' p' k = r' at *
    have hq := ih.2.up (-1)
    unfold bmS
    by_cases c0 : 0 < (k : Int) ∧ g k ≠ -1 ∧ g k = g (k - 1)
    · have gk1 := hg (k - 1) (by omega) (by omega)
      rw [if_pos c0, if_pos (by rw [← gk, ← gk1]; exact c0)]
      have ek : upI (r.2 7) k (-1) (k - 1) = upI (r'.2 7) k (-1) (k - 1) := hq _ (by omega) (by omega)
      unfold joinP joiP
      show (if upI (r.2 7) k (-1) (k - 1) = -1 then _ else _ : OS).1 10 = (if upI (r'.2 7) k (-1) (k - 1) = -1 then _ else _ : OS).1 10 ∧ agI _ (upI ((if upI (r.2 7) k (-1) (k - 1) = -1 then _ else _ : OS).2 7) k ((if upI (r.2 7) k (-1) (k - 1) = -1 then _ else _ : OS).2 7 (k - 1))) (upI ((if upI (r'.2 7) k (-1) (k - 1) = -1 then _ else _ : OS).2 7) k ((if upI (r'.2 7) k (-1) (k - 1) = -1 then _ else _ : OS).2 7 (k - 1)))
      rw [← ek]
      split
      · refine ⟨by show r.1 10 + 1 = r'.1 10 + 1; rw [ih.1], ?_⟩
        show agI _ (upI (upI (upI (r.2 7) k (-1)) (k - 1) (r.1 10)) k (upI (upI (r.2 7) k (-1)) (k - 1) (r.1 10) (k - 1))) (upI (upI (upI (r'.2 7) k (-1)) (k - 1) (r'.1 10)) k (upI (upI (r'.2 7) k (-1)) (k - 1) (r'.1 10) (k - 1)))
        rw [upI_s, upI_s, ih.1]
        exact (hq.upk _).upk _
      · refine ⟨ih.1, ?_⟩
        show agI _ (upI (upI (r.2 7) k (-1)) k (upI (r.2 7) k (-1) (k - 1))) (upI (upI (r'.2 7) k (-1)) k (upI (r'.2 7) k (-1) (k - 1)))
        rw [ek]
        exact hq.upk _
    · rw [if_neg c0, if_neg (fun z => c0 (by
        have gk1 := hg (k - 1) (by omega) (by omega)
        rw [← gk, ← gk1] at z; exact z))]
      exact ⟨ih.1, hq⟩
theorem shN_ag {f f' pl pl' al al' : Int → Int} {key : Int} {F F' S S' : Int → Int} {c : Int} (hf : agI c f f') (hp : agI c pl pl') (ha : agI c al al') (hF : agI 63 F F') : ∀ k : Nat, (k : Int) ≤ c → agI 63 (shN f pl al key F S k).1 (shN f' pl' al' key F' S' k).1 ∧ agI k (shN f pl al key F S k).2 (shN f' pl' al' key F' S' k).2
  | 0, _ => ⟨hF, fun j h0 h1 => absurd h1 (by simp; omega)⟩
  | k + 1, hk => by
    have ih := shN_ag (key := key) (S := S) (S' := S') hf hp ha hF k (by omega)
    have hk1 : ((k + 1 : Nat) : Int) = k + 1 := rfl
    unfold shN
    rw [← hf k (by omega) (by omega), ← hp k (by omega) (by omega), ← ha k (by omega) (by omega), hk1]
    generalize shN f pl al key F S k = r at *
    generalize shN f' pl' al' key F' S' k = r' at *
    split
    · show agI 63 (atsF r.1 (pl k) (al k) key) (atsF r'.1 (pl k) (al k) key) ∧ agI _ (upI r.2 k (atsV r.1 (pl k) (al k) key)) (upI r'.2 k (atsV r'.1 (pl k) (al k) key))
      unfold atsF atsV
      by_cases d : pl k < 1 ∨ 63 ≤ pl k
      · rw [if_pos d, if_pos d, if_pos d, if_pos d]
        exact ⟨ih.1, ih.2.up _⟩
      · have e : atsI r.1 (pl k) key = atsI r'.1 (pl k) key := by
          unfold atsI
          rw [ih.1 (pl k) (by omega) (by omega)]
        rw [if_neg d, if_neg d, if_neg d, if_neg d, ← e]
        split
        · exact ⟨ih.1, ih.2.up _⟩
        · exact ⟨ih.1.upk _, ih.2.up _⟩
    · exact ⟨ih.1, ih.2.up _⟩
theorem F0X_ag (F F' : Int → Int) : agI 63 (F0X F) (F0X F') := fun j h0 h1 => by
  show rng F 0 63 (-3) j = rng F' 0 63 (-3) j
  unfold rng
  rw [if_pos ⟨h0, h1⟩, if_pos ⟨h0, h1⟩]
def MeaEq (p p' : OS) : Prop := p.1 9 = p'.1 9 ∧ p.1 10 = p'.1 10 ∧ agI (p.1 9) (p.2 0) (p'.2 0) ∧ agI (p.1 9) (p.2 2) (p'.2 2) ∧ agI (p.1 9) (p.2 4) (p'.2 4) ∧ agI (p.1 9) (p.2 5) (p'.2 5) ∧ agI (p.1 9) (p.2 6) (p'.2 6) ∧ agI (p.1 9) (p.2 7) (p'.2 7)
theorem wrP_ag (p6 p0 : OS) (b : Int) (p p' : OS) (hn : mN (wr1 p6 p0 b p)) : MeaEq (wrP p6 p0 b p) (wrP p6 p0 b p') := by
  have h1 : Ag3 (wr1 p6 p0 b p) (wr1 p6 p0 b p') := Ag3.ev _ _ _ _ ⟨rfl, fun i hi j h0 h2 => absurd (show j < 0 from h2) (by omega)⟩
  unfold wrP
  generalize wr1 p6 p0 b p = s at *
  generalize wr1 p6 p0 b p' = s' at *
  have h2 : Ag5 (wr2 p6 p0 s) (wr2 p6 p0 s') := h1.mk
  have e9 : (wr2 p6 p0 s).1 9 = s.1 9 := rfl
  unfold wr3
  generalize wr2 p6 p0 s = t at *
  generalize wr2 p6 p0 s' = t' at *
  obtain ⟨n, hn2⟩ : ∃ n : Nat, t.1 9 = n := ⟨(t.1 9).toNat, by rw [e9]; have := hn.1; omega⟩
  have hn3 : t'.1 9 = n := by rw [← h2.1]; exact hn2
  have hg : agI n (grpG p6 t (sumN (p0.2 2) b.toNat) (glF p0 b)) (grpG p6 t' (sumN (p0.2 2) b.toNat) (glF p0 b)) := fun j a c => by
    unfold grpG
    rw [h2.2 0 (by omega) j a (by omega), h2.2 1 (by omega) j a (by omega), h2.2 2 (by omega) j a (by omega)]
  have hb := bmP_ag (p := t) (p' := t') hg n (Int.le_refl _)
  have f := bmP_f (grpG p6 t (sumN (p0.2 2) b.toNat) (glF p0 b)) t n
  have f' := bmP_f (grpG p6 t' (sumN (p0.2 2) b.toNat) (glF p0 b)) t' n
  rw [hn2, hn3, Int.toNat_natCast]
  generalize bmP (grpG p6 t (sumN (p0.2 2) b.toNat) (glF p0 b)) t n = u at *
  generalize bmP (grpG p6 t' (sumN (p0.2 2) b.toNat) (glF p0 b)) t' n = u' at *
  have u9 : u.1 9 = n := f.1.trans hn2
  have u9' : u'.1 9 = n := f'.1.trans hn3
  have ha : ∀ i : Nat, i < 5 → agI n (u.2 i) (u'.2 i) := fun i hi => by
    rw [f.2 i (by omega), f'.2 i (by omega)]
    have := h2.2 i hi
    rw [hn2] at this
    exact this
  have hs5 := shN_ag (key := p0.2 3 b) (S := u.2 5) (S' := u'.2 5) (ha 3 (by omega)) (pl := fun j => p6.2 0 (u.2 0 j)) (pl' := fun j => p6.2 0 (u'.2 0 j)) (fun j a c => by dsimp only; rw [ha 0 (by omega) j a c]) (al := fun j => p6.2 1 (u.2 0 j)) (al' := fun j => p6.2 1 (u'.2 0 j)) (fun j a c => by dsimp only; rw [ha 0 (by omega) j a c]) (F0X_ag (u.2 8) (u'.2 8)) n (Int.le_refl _)
  have k5 : (showP 5 0 1 p6 (p0.2 3 b) u).1 9 = n := u9
  have k5' : (showP 5 0 1 p6 (p0.2 3 b) u').1 9 = n := u9'
  have v5 : ∀ i : Nat, i ≠ 8 → i ≠ 5 → (showP 5 0 1 p6 (p0.2 3 b) u).2 i = u.2 i := fun i a c => by unfold showP; rw [oA_n c, oA_n a]
  have v5' : ∀ i : Nat, i ≠ 8 → i ≠ 5 → (showP 5 0 1 p6 (p0.2 3 b) u').2 i = u'.2 i := fun i a c => by unfold showP; rw [oA_n c, oA_n a]
  have w5 : agI n ((showP 5 0 1 p6 (p0.2 3 b) u).2 5) ((showP 5 0 1 p6 (p0.2 3 b) u').2 5) := by
    unfold showP
    rw [oA_s, oA_s, u9, u9', Int.toNat_natCast]
    exact hs5.2
  have k10 : (showP 5 0 1 p6 (p0.2 3 b) u).1 10 = u.1 10 := rfl
  have k10' : (showP 5 0 1 p6 (p0.2 3 b) u').1 10 = u'.1 10 := rfl
  generalize showP 5 0 1 p6 (p0.2 3 b) u = x at *
  generalize showP 5 0 1 p6 (p0.2 3 b) u' = x' at *
  have y : ∀ i : Nat, i < 5 → agI n (x.2 i) (x'.2 i) := fun i hi => by rw [v5 i (by omega) (by omega), v5' i (by omega) (by omega)]; exact ha i hi
  have hs6 := shN_ag (key := kwF p6 (p0.2 3 b)) (S := x.2 6) (S' := x'.2 6) (y 3 (by omega)) (pl := fun j => p6.2 5 (x.2 0 j)) (pl' := fun j => p6.2 5 (x'.2 0 j)) (fun j a c => by dsimp only; rw [y 0 (by omega) j a c]) (al := fun j => p6.2 6 (x.2 0 j)) (al' := fun j => p6.2 6 (x'.2 0 j)) (fun j a c => by dsimp only; rw [y 0 (by omega) j a c]) (F0X_ag (x.2 8) (x'.2 8)) n (Int.le_refl _)
  have v6 : ∀ i : Nat, i ≠ 8 → i ≠ 6 → (showP 6 5 6 p6 (kwF p6 (p0.2 3 b)) x).2 i = x.2 i := fun i a c => by unfold showP; rw [oA_n c, oA_n a]
  have v6' : ∀ i : Nat, i ≠ 8 → i ≠ 6 → (showP 6 5 6 p6 (kwF p6 (p0.2 3 b)) x').2 i = x'.2 i := fun i a c => by unfold showP; rw [oA_n c, oA_n a]
  refine ⟨k5.trans k5'.symm, by show x.1 10 = x'.1 10; rw [k10, k10']; exact hb.1, ?_⟩
  show agI (x.1 9) _ _ ∧ agI (x.1 9) _ _ ∧ agI (x.1 9) _ _ ∧ agI (x.1 9) _ _ ∧ agI (x.1 9) _ _ ∧ agI (x.1 9) _ _
  rw [k5, v6 0 (by omega) (by omega), v6' 0 (by omega) (by omega), v6 2 (by omega) (by omega), v6' 2 (by omega) (by omega), v6 4 (by omega) (by omega), v6' 4 (by omega) (by omega), v6 5 (by omega) (by omega), v6' 5 (by omega) (by omega), v6 7 (by omega) (by omega), v6' 7 (by omega) (by omega), v5 7 (by omega) (by omega), v5' 7 (by omega) (by omega)]
  refine ⟨y 0 (by omega), y 2 (by omega), y 4 (by omega), w5, ?_, hb.2⟩
  unfold showP
  rw [oA_s, oA_s, k5, k5', Int.toNat_natCast]
  exact hs6.2
