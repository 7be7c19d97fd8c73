theorem evs_up (P : Nat → OS) {k : Nat} (hk : k < 4) (p : OS) : evs (upN P k p) = evs P - (P k).1 7 + p.1 7 := by
  unfold evs
  rcases (by omega : k = 0 ∨ k = 1 ∨ k = 2 ∨ k = 3) with c | c | c | c <;> subst c
  · rw [upN_s, upN_n (by decide), upN_n (by decide), upN_n (by decide)]; omega
  · rw [upN_s, upN_n (by decide), upN_n (by decide), upN_n (by decide)]; omega
  · rw [upN_s, upN_n (by decide), upN_n (by decide), upN_n (by decide)]; omega
  · rw [upN_s, upN_n (by decide), upN_n (by decide), upN_n (by decide)]; omega
theorem scoOK.up {P : Nat → OS} (h : scoOK P) {k : Nat} {p : OS} (hp : partOK p) : scoOK (upN P k p) := fun j hj => by
  by_cases c : j = k
  · subst c; rw [upN_s]; exact hp
  · rw [upN_n c]; exact h j hj
/-- nothing that follows is known any more -/
abbrev f0 (f : Nat → Int) : Nat → Int := upN (upN (upN (upN (upN f 7 0) 8 0) 9 0) 10 (-1)) 11 (-1)
theorem DI.new {s : DS} (h : DI s) {P : Nat → OS} (hP : scoOK P) (he : evs P ≤ 512) : DI (P, s.2.1, f0 s.2.2) :=
  ⟨hP, he, h.2.2.1, h.2.2.2.1, h.2.2.2.2.1, Or.inl rfl, Or.inl rfl, Or.inl rfl, Or.inl ⟨rfl, rfl⟩⟩
theorem DI.cal {s : DS} (h : DI s) {p : OS} (hp : calOK p) : DI (s.1, upN s.2.1 0 p, f0 s.2.2) :=
  ⟨h.1, h.2.1, hp, h.2.2.2.1, h.2.2.2.2.1, Or.inl rfl, Or.inl rfl, Or.inl rfl, Or.inl ⟨rfl, rfl⟩⟩
theorem DI.uns {s : DS} (h : DI s) {p : OS} (hz : fZ p) : DI (s.1, upN s.2.1 2 p, upN s.2.2 8 0) :=
  ⟨h.1, h.2.1, h.2.2.1, h.2.2.2.1, hz, h.2.2.2.2.2.1, Or.inl rfl, h.2.2.2.2.2.2.2.1, h.2.2.2.2.2.2.2.2⟩
/-- the moments hang on the times alone -/
def TimEq (P P' : Nat → OS) : Prop := ∀ k : Nat, k < 4 → (P k).1 7 = (P' k).1 7 ∧ (P k).2 3 = (P' k).2 3 ∧ (P k).2 4 = (P' k).2 4
theorem nbF_tm {P P' : Nat → OS} (h : TimEq P P') (bg : Int → Int) : ∀ n : Nat, n ≤ 4 → nbF P bg n = nbF P' bg n
  | 0, _ => rfl
  | n + 1, hn => by
    have g := h n (by omega)
    rw [nbF_s, nbF_s, nbF_tm h bg n (by omega)]
    unfold inP
    rw [g.1, g.2.1]
theorem egN_tm {p p' : OS} (h1 : p.1 7 = p'.1 7) (h2 : p.2 3 = p'.2 3) (b t : Int) : egN p b t = egN p' b t := by
  unfold egN inP
  rw [h1, h2]
theorem egE_tm {p p' : OS} (h1 : p.1 7 = p'.1 7) (h2 : p.2 3 = p'.2 3) (h3 : p.2 4 = p'.2 4) (b t : Int) : egE p b t = egE p' b t := by
  unfold egE inP
  rw [h1, h2, h3]
theorem nxM_tm {P P' : Nat → OS} (h : TimEq P P') : ∀ m k : Nat, k < 4 → nxM P m k = nxM P' m k
  | 0, _, _ => rfl
  | m + 1, k, hk => by
    have e : nbF P (fun j => nxM P m j.toNat) 4 = nbF P' (fun j => nxM P' m j.toNat) 4 := by
      rw [nbF_tm h _ 4 (by omega)]
      exact nbF_cg 4 (fun j hj => by rw [Int.toNat_natCast]; exact nxM_tm h m j hj)
    show egN (P k) (nxM P m k) (nbF P (fun j => nxM P m j.toNat) 4) = egN (P' k) (nxM P' m k) (nbF P' (fun j => nxM P' m j.toNat) 4)
    rw [e, nxM_tm h m k hk]
    exact egN_tm (h k hk).1 (h k hk).2.1 _ _
theorem momT_tm {P P' : Nat → OS} (h : TimEq P P') (m : Nat) : momT P m = momT P' m := by
  unfold momT
  rw [nbF_tm h _ 4 (by omega)]
  exact nbF_cg 4 (fun j hj => by rw [Int.toNat_natCast]; exact nxM_tm h m j hj)
theorem evM_tm {P P' : Nat → OS} (h : TimEq P P') (m k : Nat) (hk : k < 4) : evM P m k = evM P' m k := by
  unfold evM
  rw [nxM_tm h (m + 1) k hk, momT_tm h m]
  exact egE_tm (h k hk).1 (h k hk).2.1 (h k hk).2.2 _ _
theorem cM_tm {P P' : Nat → OS} (h : TimEq P P') : ∀ n m : Nat, cM P n m = cM P' n m
  | 0, _ => rfl
  | n + 1, m => by
    unfold cM
    rw [momT_tm h m, cM_tm h n (m + 1)]
theorem HarOK.tm {P P' : Nat → OS} (h : TimEq P P') {p : OS} (hp : HarOK P p) : HarOK P' p := by
  have e : cntM P = cntM P' := cM_tm h 512 0
  refine ⟨by rw [← e]; exact hp.1, fun m hm => ?_⟩
  rw [← e] at hm
  have g := hp.2 m hm
  exact ⟨by rw [← momT_tm h m]; exact g.1, fun k hk => by rw [← evM_tm h m k hk]; exact g.2 k hk⟩
/-- a pitch raised, and put back -/
theorem giv_back {p : OS} (h : partOK p) {e : Int} (hi : inP p e) {pl al : Int} : givP (givP p e pl al) e (p.2 0 e) (p.2 1 e) = p := by
  have g := giv_f p e pl al
  have g2 := giv_f (givP p e pl al) e (p.2 0 e) (p.2 1 e)
  have w := giv_ev (p := givP p e pl al) (e := e) (h.ev e hi.1 hi.2).1 (h.ev e hi.1 hi.2).2.1 (h.ev e hi.1 hi.2).2.2.2.2
  have eo : ∀ j : Nat, j ≠ 0 → j ≠ 1 → j ≠ 2 → j ≠ 5 → j ≠ 6 → ∀ (q : OS) (x y : Int), (givP q e x y).2 j = q.2 j := fun j a b c d f q x y => by
    unfold givP wfi
    rw [oA_n f, oA_n d, oA_n c, oA_n b, oA_n a]
  have e0 : (givP (givP p e pl al) e (p.2 0 e) (p.2 1 e)).2 0 = p.2 0 := by rw [g2.2.1, g.2.1, upI_upI, upI_id]
  have e1 : (givP (givP p e pl al) e (p.2 0 e) (p.2 1 e)).2 1 = p.2 1 := by rw [g2.2.2.1, g.2.2.1, upI_upI, upI_id]
  have e2 : (givP (givP p e pl al) e (p.2 0 e) (p.2 1 e)).2 2 = p.2 2 := by rw [g2.2.2.2.1, g.2.2.2.1, upI_upI, ← (h.ev e hi.1 hi.2).2.2.1, upI_id]
  obtain ⟨q, hq⟩ : ∃ q, q = givP (givP p e pl al) e (p.2 0 e) (p.2 1 e) := ⟨_, rfl⟩
  rw [← hq] at g2 w e0 e1 e2 ⊢
  have c := isWr_cg (p := p) (p' := q) (e := e) (by rw [e0]) (by rw [e2]) (by rw [g2.1, g.1]) (by rw [g2.1, g.1])
  have he := (h.ev e hi.1 hi.2).2.2.2.1
  have e56 : ∀ i : Int, q.2 5 i = p.2 5 i ∧ q.2 6 i = p.2 6 i := fun i => by
    by_cases d : i = e
    · subst d
      exact ⟨by rw [w.2.2.2.1.1, c.1, he.1], by rw [w.2.2.2.1.2, c.2, he.2]⟩
    · have a := g2.2.2.2.2.2.2 i d
      have b := g.2.2.2.2.2.2 i d
      exact ⟨a.1.trans b.1, a.2.trans b.2⟩
  refine Prod.ext (g2.1.trans g.1) (funext fun j => ?_)
  by_cases j0 : j = 0
  · subst j0; exact e0
  by_cases j1 : j = 1
  · subst j1; exact e1
  by_cases j2 : j = 2
  · subst j2; exact e2
  by_cases j5 : j = 5
  · subst j5; exact funext fun i => (e56 i).1
  by_cases j6 : j = 6
  · subst j6; exact funext fun i => (e56 i).2
  · rw [hq, eo j j0 j1 j2 j5 j6, eo j j0 j1 j2 j5 j6]
theorem upN_upN {α : Type} (F : Nat → α) (k : Nat) (x y : α) : upN (upN F k x) k y = upN F k y := by
  funext j
  unfold upN
  split <;> rfl
theorem upN_id {α : Type} (F : Nat → α) (k : Nat) : upN F k (F k) = F := by
  funext j
  unfold upN
  split
  · rename_i c; subst c; rfl
  · rfl
theorem giv_tim (P : Nat → OS) (k : Nat) (e pl al : Int) : TimEq P (upN P k (givP (P k) e pl al)) := fun j _ => by
  by_cases c : j = k
  · subst c
    rw [upN_s]
    have g := giv_f (P j) e pl al
    exact ⟨by rw [g.1], g.2.2.2.2.1.symm, g.2.2.2.2.2.1.symm⟩
  · rw [upN_n c]
    exact ⟨rfl, rfl, rfl⟩
/-- the score with one note seven places higher -/
def raiseP (P : Nat → OS) (k : Nat) (e : Int) : Nat → OS := upN P k (givP (P k) e ((P k).2 0 e + 7) ((P k).2 1 e))
def DN (G : jG) (a : Nat) (d : DA) (h : jH) (P : Nat → OS) (p0 : OS) : jH → Prop := fun h' => ∃ s', Desk G h' a d s' ∧ DI s' ∧ s'.1 = P ∧ s'.2.1 0 = p0 ∧ Fr (FtD a d) h h'
theorem DP.dn {G : jG} {h h' : jH} {a : Nat} {d : DA} {s : DS} {R : DS → Prop} (x : DP G a d s h R h') : DN G a d h s.1 (s.2.1 0) h' := by
  obtain ⟨s', h1, h2, h3, h4, -, h6⟩ := x
  exact ⟨s', h1, h2, h3, h4, h6⟩
theorem DN.same {G : jG} {h : jH} {a : Nat} {d : DA} {s : DS} (hD : Desk G h a d s) (hI : DI s) : DN G a d h s.1 (s.2.1 0) h := ⟨s, hD, hI, rfl, rfl, Fr.rf⟩
theorem DN.eq {G : jG} {h h9 : jH} {a : Nat} {d : DA} {s : DS} (e : h9 = h) (hD : Desk G h a d s) (hI : DI s) : DN G a d h s.1 (s.2.1 0) h9 := by
  subst e
  exact DN.same hD hI
