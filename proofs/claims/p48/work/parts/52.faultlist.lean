/-! the faults as a list -/
abbrev FL : Type := List (Int × Int × Int)
def LstAt (p : OS) (L : FL) : Prop := p.1 7 = L.length ∧ ∀ (i : Nat) (x : Int × Int × Int), L[i]? = some x → p.2 0 i = x.1 ∧ p.2 1 i = x.2.1 ∧ p.2 2 i = x.2.2
def Ap (p p' : OS) (N : FL) : Prop := (∀ j : Nat, 3 ≤ j → p'.2 j = p.2 j) ∧ ∀ L : FL, LstAt p L → L.length + N.length ≤ 2560 → LstAt p' (L ++ N)
theorem Ap.rf {p : OS} : Ap p p [] := ⟨fun _ _ => rfl, fun L h _ => by rw [List.append_nil]; exact h⟩
theorem Ap.tr {p p' p'' : OS} {N N' : FL} (a : Ap p p' N) (b : Ap p' p'' N') : Ap p p'' (N ++ N') :=
  ⟨fun j hj => (b.1 j hj).trans (a.1 j hj), fun L h hl => by
    rw [List.length_append] at hl
    rw [← List.append_assoc]
    exact b.2 _ (a.2 L h (by omega)) (by rw [List.length_append]; omega)⟩
theorem Ap.add {p : OS} {a t c : Int} : Ap p (addP p a t c) [(a, t, c)] := by
  refine ⟨fun j hj => addP_2 p a t c j (by omega) (by omega) (by omega), fun L h hl => ?_⟩
  have hl2 : L.length + 1 ≤ 2560 := hl
  obtain ⟨h1, h2⟩ := h
  unfold addP
  rw [if_pos (by omega)]
  refine ⟨?_, fun i x hx => ?_⟩
  · show p.1 7 + 1 = _
    rw [List.length_append, h1]
    rfl
  · show upI (p.2 0) (p.1 7) a i = _ ∧ upI (p.2 1) (p.1 7) t i = _ ∧ upI (p.2 2) (p.1 7) c i = _
    rw [h1]
    by_cases e : i = L.length
    · subst e
      rw [List.getElem?_append_right (Nat.le_refl _), Nat.sub_self] at hx
      cases hx
      rw [upI_s, upI_s, upI_s]
      exact ⟨rfl, rfl, rfl⟩
    · have hi : i < L.length := by
        by_cases d : i < L.length
        · exact d
        · rw [List.getElem?_eq_none (by rw [List.length_append]; show L.length + 1 ≤ i; omega)] at hx
          cases hx
      rw [List.getElem?_append_left hi] at hx
      rw [upI_n (by omega), upI_n (by omega), upI_n (by omega)]
      exact h2 i x hx
def parL (A H W : Int → Int) (t i j : Int) : FL := if W i ≠ 0 ∧ W i = W j then (if (A i - A j) % 12 = (H i - H j) % 12 ∧ (H i - H j) % 12 = 7 then [(0, t, 4 * i + j)] else if (A i - A j) % 12 = (H i - H j) % 12 ∧ (H i - H j) % 12 = 0 then [(1, t, 4 * i + j)] else []) else []
def crsL (H B : Int → Int) (t i j : Int) : FL := if (H i ≠ -1 ∧ H j ≠ -1) ∧ (B i ≠ 0 ∨ B j ≠ 0) ∧ H i < H j then [(2, t, 4 * i + j)] else []
def nteL (pk : OS) (k e : Int) : FL := (if ntE pk (e - 1) ∧ 12 < ((htE pk e - htE pk (e - 1)).natAbs : Int) then [(3, bgE pk e, k)] else []) ++ (if inP pk e ∧ pk.2 0 e ≠ 0 ∧ (pk.2 0 e < pk.1 9 ∨ pk.1 10 < pk.2 0 e) then [(4, bgE pk e, k)] else [])
def prsL (g : Int → Int → FL) : FL := g 0 1 ++ (g 0 2 ++ (g 0 3 ++ (g 1 2 ++ (g 1 3 ++ g 2 3))))
theorem Ap.par {p : OS} {t i j : Int} : Ap p (parS t p i j) (parL (p.2 3) (p.2 4) (p.2 6) t i j) := by
  unfold parS parL
  (repeat' split) <;> first | exact Ap.add | exact Ap.rf
theorem Ap.crs {p : OS} {t i j : Int} : Ap p (crsS t p i j) (crsL (p.2 4) (p.2 5) t i j) := by
  unfold crsS crsL
  split
  · exact Ap.add
  · exact Ap.rf
theorem Ap.nte {p pk : OS} {k e : Int} : Ap p (nteS pk k e p) (nteL pk k e) := by
  unfold nteS nteL
  by_cases c : ntE pk (e - 1) ∧ 12 < ((htE pk e - htE pk (e - 1)).natAbs : Int)
  · rw [if_pos c, if_pos c]
    split
    · exact Ap.tr Ap.add Ap.add
    · exact Ap.tr Ap.add Ap.rf
  · rw [if_neg c, if_neg c]
    split
    · exact Ap.tr Ap.rf Ap.add
    · exact Ap.tr Ap.rf Ap.rf
theorem Ap.prs {f : OS → Int → Int → OS} {g : OS → Int → Int → FL} (hf : ∀ p i j, Ap p (f p i j) (g p i j)) (hg : ∀ p p' : OS, (∀ j : Nat, 3 ≤ j → p'.2 j = p.2 j) → g p' = g p) (p : OS) : Ap p (prI f 4 p) (prsL (g p)) := by
  have s1 := hf p 0 1
  have s2 := hf (f p 0 1) 0 2
  rw [hg p _ s1.1] at s2
  have t2 := s1.tr s2
  have s3 := hf (f (f p 0 1) 0 2) 0 3
  rw [hg p _ t2.1] at s3
  have t3 := t2.tr s3
  have s4 := hf (f (f (f p 0 1) 0 2) 0 3) 1 2
  rw [hg p _ t3.1] at s4
  have t4 := t3.tr s4
  have s5 := hf (f (f (f (f p 0 1) 0 2) 0 3) 1 2) 1 3
  rw [hg p _ t4.1] at s5
  have t5 := t4.tr s5
  have s6 := hf (f (f (f (f (f p 0 1) 0 2) 0 3) 1 2) 1 3) 2 3
  rw [hg p _ t5.1] at s6
  have t6 := t5.tr s6
  have e : prI f 4 p = f (f (f (f (f (f p 0 1) 0 2) 0 3) 1 2) 1 3) 2 3 := rfl
  have e2 : prsL (g p) = ((((g p 0 1 ++ g p 0 2) ++ g p 0 3) ++ g p 1 2) ++ g p 1 3) ++ g p 2 3 := by unfold prsL; simp only [List.append_assoc]
  rw [e, e2]
  exact t6
/-- the heights at a moment; ahead of it; who begins; the ways -/
def hiM (P : Nat → OS) (m : Nat) : Int → Int := fun k => if inP (P k.toNat) (evM P m k.toNat) then (P k.toNat).2 2 (evM P m k.toNat) else -1
def hiA (P : Nat → OS) : Nat → Int → Int
  | 0 => fun _ => -1
  | m + 1 => hiM P m
def bgM (P : Nat → OS) (m : Nat) : Int → Int := fun k => if (inP (P k.toNat) (evM P m k.toNat) ∧ (P k.toNat).2 0 (evM P m k.toNat) ≠ 0) ∧ (P k.toNat).2 3 (evM P m k.toNat) = momT P m then 1 else 0
def wyM (P : Nat → OS) (m : Nat) : Int → Int := fun k => if bgM P m k ≠ 0 ∧ hiA P m k ≠ -1 then (if hiM P m k < hiA P m k then -1 else if hiM P m k = hiA P m k then 0 else 1) else 0
def nteM (P : Nat → OS) (m : Nat) (k : Nat) : FL := if bgM P m k ≠ 0 then nteL (P k) k (evM P m k) else []
def fauAt (P : Nat → OS) (m : Nat) : FL := prsL (parL (hiA P m) (hiM P m) (wyM P m) (momT P m)) ++ (prsL (crsL (hiM P m) (bgM P m) (momT P m)) ++ (nteM P m 0 ++ (nteM P m 1 ++ (nteM P m 2 ++ nteM P m 3))))
def fauL (P : Nat → OS) : Nat → FL
  | 0 => []
  | m + 1 => fauL P m ++ fauAt P m
theorem parL_cg {A A' H H' W W' : Int → Int} (h : ∀ k : Int, 0 ≤ k → k < 4 → A k = A' k ∧ H k = H' k ∧ W k = W' k) (t : Int) : prsL (parL A H W t) = prsL (parL A' H' W' t) := by
  have h0 := h 0 (by omega) (by omega)
  have h1 := h 1 (by omega) (by omega)
  have h2 := h 2 (by omega) (by omega)
  have h3 := h 3 (by omega) (by omega)
  unfold prsL parL
  rw [h0.1, h0.2.1, h0.2.2, h1.1, h1.2.1, h1.2.2, h2.1, h2.2.1, h2.2.2, h3.1, h3.2.1, h3.2.2]
theorem crsL_cg {H H' B B' : Int → Int} (h : ∀ k : Int, 0 ≤ k → k < 4 → H k = H' k ∧ B k = B' k) (t : Int) : prsL (crsL H B t) = prsL (crsL H' B' t) := by
  have h0 := h 0 (by omega) (by omega)
  have h1 := h 1 (by omega) (by omega)
  have h2 := h 2 (by omega) (by omega)
  have h3 := h 3 (by omega) (by omega)
  unfold prsL crsL
  rw [h0.1, h0.2, h1.1, h1.2, h2.1, h2.2, h3.1, h3.2]
theorem goK_f (P : Nat → OS) (p3 : OS) (m : Int) (p : OS) : ∀ k : Nat, k ≤ 4 → (goK P p3 m p k).1 = p.1 ∧ (∀ j : Nat, j < 3 → (goK P p3 m p k).2 j = p.2 j) ∧ (∀ j : Nat, k ≤ j → (goK P p3 m p k).2 4 j = p.2 4 j) ∧ ∀ j : Nat, j < k → (goK P p3 m p k).2 3 j = p.2 4 j ∧ (goK P p3 m p k).2 4 j = htH P p3 m j ∧ (goK P p3 m p k).2 5 j = (if (inP (P j) (evH p3 m j) ∧ (P j).2 0 (evH p3 m j) ≠ 0) ∧ (P j).2 3 (evH p3 m j) = tkH p3 m then 1 else 0) ∧
    (goK P p3 m p k).2 6 j = (if ((inP (P j) (evH p3 m j) ∧ (P j).2 0 (evH p3 m j) ≠ 0) ∧ (P j).2 3 (evH p3 m j) = tkH p3 m) ∧ p.2 4 j ≠ -1 then (if htH P p3 m j < p.2 4 j then -1 else if htH P p3 m j = p.2 4 j then 0 else 1) else 0)
  | 0, _ => ⟨rfl, fun _ _ => rfl, fun _ _ => rfl, fun j hj => absurd hj (Nat.not_lt_zero _)⟩
  | k + 1, hk => by
    obtain ⟨e1, e2, e3, e4⟩ := goK_f P p3 m p k (by omega)
    rw [goK_s]
    obtain ⟨r, hr⟩ : ∃ r, r = goK P p3 m p k := ⟨_, rfl⟩
    rw [← hr] at e1 e2 e3 e4 ⊢
    have e4k := e3 k (Nat.le_refl k)
    unfold goS
    refine ⟨e1, fun j hj => ?_, fun j hj => ?_, fun j hj => ?_⟩
    · rw [oA_n (by omega), oA_n (by omega), oA_n (by omega), oA_n (by omega)]
      exact e2 j hj
    · show upI (r.2 4) k _ j = _
      rw [upI_n (by omega)]
      exact e3 j (by omega)
    · show upI (r.2 3) k (r.2 4 k) j = _ ∧ upI (r.2 4) k (htH P p3 m k) j = _ ∧ upI (r.2 5) k _ j = _ ∧ upI (r.2 6) k _ j = _
      by_cases c : j = k
      · subst c
        rw [upI_s, upI_s, upI_s, upI_s, e4k]
        exact ⟨rfl, rfl, rfl, rfl⟩
      · rw [upI_n (by omega), upI_n (by omega), upI_n (by omega), upI_n (by omega)]
        exact e4 j (by omega)
theorem ite_bit {c d : Prop} [Decidable c] [Decidable d] {x : Int} : (if c ∧ d then x else 0) = if (if c then (1 : Int) else 0) ≠ 0 ∧ d then x else 0 := by
  by_cases h : c
  · simp [h]
  · simp [h]
theorem har_ev {P : Nat → OS} {p3 : OS} (h : HarOK P p3) {m : Nat} (hm : m < cntM P) {k : Nat} (hk : k < 4) : evH p3 m k = evM P m k := by
  unfold evH
  rw [if_pos ⟨⟨by omega, by rw [h.1]; omega⟩, by omega, by omega⟩]
  exact (h.2 m hm).2 k hk
theorem har_tk {P : Nat → OS} {p3 : OS} (h : HarOK P p3) {m : Nat} (hm : m < cntM P) : tkH p3 m = momT P m := by
  unfold tkH
  rw [if_pos ⟨by omega, by rw [h.1]; omega⟩]
  exact (h.2 m hm).1
theorem har_ht {P : Nat → OS} {p3 : OS} (h : HarOK P p3) {m : Nat} (hm : m < cntM P) {k : Nat} (hk : k < 4) : htH P p3 m k = hiM P m k := by
  unfold htH
  rw [har_ev h hm hk]
  rfl
theorem Ap.nteKs {P : Nat → OS} {p3 p : OS} {m : Nat} (h : HarOK P p3) (hm : m < cntM P) (hB : ∀ k : Nat, k < 4 → p.2 5 k = bgM P m k) : Ap p (nteK P p3 m p 4) (nteM P m 0 ++ (nteM P m 1 ++ (nteM P m 2 ++ nteM P m 3))) := by
  have st : ∀ (k : Nat) (L : FL), k < 4 → Ap p (nteK P p3 m p k) L → Ap p (nteK P p3 m p (k + 1)) (L ++ nteM P m k) := by
    intro k L hk a
    rw [nteK_s, a.1 5 (by omega), hB k hk, har_ev h hm hk]
    unfold nteM
    split
    · exact a.tr Ap.nte
    · rw [List.append_nil]; exact a
  have g := st 3 _ (by omega) (st 2 _ (by omega) (st 1 _ (by omega) (st 0 [] (by omega) Ap.rf)))
  simp only [List.nil_append, List.append_assoc] at g
  exact g
theorem mom_ok {P : Nat → OS} {p3 p : OS} {m : Nat} (h : HarOK P p3) (hm : m < cntM P) {L : FL} (hL : LstAt p L) (hA : ∀ k : Nat, k < 4 → p.2 4 k = hiA P m k) (hl : L.length + (fauAt P m).length ≤ 2560) : LstAt (momS P p3 m p) (L ++ fauAt P m) ∧ ∀ k : Nat, k < 4 → (momS P p3 m p).2 4 k = hiM P m k := by
  obtain ⟨e1, e2, -, e4⟩ := goK_f P p3 m p 4 (Nat.le_refl 4)
  obtain ⟨r, hr⟩ : ∃ r, r = goK P p3 m p 4 := ⟨_, rfl⟩
  have hg : ∀ k : Nat, k < 4 → r.2 3 k = hiA P m k ∧ r.2 4 k = hiM P m k ∧ r.2 5 k = bgM P m k ∧ r.2 6 k = wyM P m k := by
    intro k hk
    obtain ⟨g1, g2, g3, g4⟩ := e4 k hk
    rw [har_ht h hm hk] at g2 g4
    rw [har_ev h hm hk, har_tk h hm] at g3 g4
    rw [hA k hk] at g1 g4
    rw [hr]
    refine ⟨g1, g2, g3, g4.trans ?_⟩
    unfold wyM bgM
    simp only [Int.toNat_natCast]
    exact ite_bit
  have hgi : ∀ k : Int, 0 ≤ k → k < 4 → r.2 3 k = hiA P m k ∧ r.2 4 k = hiM P m k ∧ r.2 5 k = bgM P m k ∧ r.2 6 k = wyM P m k := fun k h0 h4 => by
    have := hg k.toNat (by omega)
    rw [Int.toNat_of_nonneg h0] at this
    exact this
  have hLr : LstAt r L := by
    refine ⟨by rw [hr, e1]; exact hL.1, fun i x hx => ?_⟩
    rw [hr, e2 0 (by omega), e2 1 (by omega), e2 2 (by omega)]
    exact hL.2 i x hx
  have a1 : Ap r (prI (parS (tkH p3 m)) 4 r) (prsL (parL (r.2 3) (r.2 4) (r.2 6) (tkH p3 m))) := Ap.prs (g := fun p => parL (p.2 3) (p.2 4) (p.2 6) (tkH p3 m)) (fun p i j => Ap.par) (fun p p' hp => by rw [hp 3 (by omega), hp 4 (by omega), hp 6 (by omega)]) r
  obtain ⟨r2, hr2⟩ : ∃ r2, r2 = prI (parS (tkH p3 m)) 4 r := ⟨_, rfl⟩
  rw [← hr2] at a1
  have a2 : Ap r2 (prI (crsS (tkH p3 m)) 4 r2) (prsL (crsL (r2.2 4) (r2.2 5) (tkH p3 m))) := Ap.prs (g := fun p => crsL (p.2 4) (p.2 5) (tkH p3 m)) (fun p i j => Ap.crs) (fun p p' hp => by rw [hp 4 (by omega), hp 5 (by omega)]) r2
  obtain ⟨r3, hr3⟩ : ∃ r3, r3 = prI (crsS (tkH p3 m)) 4 r2 := ⟨_, rfl⟩
  rw [← hr3, a1.1 4 (by omega), a1.1 5 (by omega)] at a2
  have a3 : Ap r3 (nteK P p3 m r3 4) _ := Ap.nteKs h hm (fun k hk => by rw [a2.1 5 (by omega), a1.1 5 (by omega)]; exact (hg k hk).2.2.1)
  have em : momS P p3 m p = nteK P p3 m r3 4 := by unfold momS; rw [← hr, ← hr2, ← hr3]
  rw [har_tk h hm, parL_cg (fun k h0 h4 => ⟨(hgi k h0 h4).1, (hgi k h0 h4).2.1, (hgi k h0 h4).2.2.2⟩)] at a1
  rw [har_tk h hm, crsL_cg (fun k h0 h4 => ⟨(hgi k h0 h4).2.1, (hgi k h0 h4).2.2.1⟩)] at a2
  have a := a1.tr (a2.tr a3)
  rw [em]
  refine ⟨a.2 L hLr hl, fun k hk => ?_⟩
  rw [a.1 4 (by omega)]
  exact (hg k hk).2.1
