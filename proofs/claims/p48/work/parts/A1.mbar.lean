/-! beams, shown alters, and all of a bar: as the law asks -/
theorem bmx_cg {F F' : Int → Int} : ∀ n : Nat, (∀ j : Int, 0 ≤ j → j < n → F j = F' j) → bmx F n = bmx F' n
  | 0, _ => rfl
  | n + 1, h => by
    show max (bmx F n) (F n) = max (bmx F' n) (F' n)
    rw [bmx_cg n (fun j a b => h j a (by omega)), h n (by omega) (by omega)]
theorem bmx_ge (F : Int → Int) : ∀ n : Nat, -1 ≤ bmx F n
  | 0 => Int.le_refl _
  | n + 1 => by
    have := bmx_ge F n
    show -1 ≤ max (bmx F n) (F n)
    omega
/-- beams: numbered one behind the other -/
def bmI (g : Int → Int) (F : Int → Int) (c : Int) (k : Nat) : Prop := 0 ≤ c ∧ bmx F k = c - 1 ∧ ∀ j : Int, 0 ≤ j → j < k → -1 ≤ F j ∧ F j ≤ bmx F j.toNat + 1 ∧ (0 ≤ F j → bmx F j.toNat ≤ F j ∧ g j ≠ -1)
theorem bmI.cg {g F F' : Int → Int} {c : Int} {k : Nat} (h : bmI g F c k) (e : ∀ j : Int, 0 ≤ j → j < k → F j = F' j) : bmI g F' c k := by
  obtain ⟨h1, h2, h3⟩ := h
  refine ⟨h1, by rw [← bmx_cg k e]; exact h2, fun j a b => ?_⟩
  rw [← e j a b, ← bmx_cg j.toNat (fun i x y => e i x (by omega))]
  exact h3 j a b
theorem bmI.push {g F : Int → Int} {c x : Int} {k : Nat} (h : bmI g F c k) (hx : F k = x) (hx2 : x = -1 ∨ (x = c - 1 ∧ 0 ≤ x ∧ g k ≠ -1)) : bmI g F c (k + 1) := by
  obtain ⟨h1, h2, h3⟩ := h
  refine ⟨h1, ?_, fun j a b => ?_⟩
  · show max (bmx F k) (F k) = c - 1
    rw [h2, hx]
    omega
  · by_cases e : j = k
    · subst e
      rw [hx, Int.toNat_natCast, h2]
      rcases hx2 with z | ⟨z1, z2, z3⟩
      · omega
      · exact ⟨by omega, by omega, fun _ => ⟨by omega, z3⟩⟩
    · exact h3 j a (by omega)
theorem bmI.lift {g F : Int → Int} {c : Int} {k : Nat} (h : bmI g F c (k + 1)) (hF : F k = -1) (hg : g k ≠ -1) : bmI g (upI F k c) (c + 1) (k + 1) := by
  obtain ⟨h1, h2, h3⟩ := h
  have b0 := bmx_ge F k
  have h2 : max (bmx F k) (F k) = c - 1 := h2
  rw [hF] at h2
  have e : ∀ n : Nat, n ≤ k → bmx (upI F k c) n = bmx F n := fun n hn => (bmx_cg n (fun j a b => (upI_n (by omega)).symm)).symm
  refine ⟨by omega, ?_, fun j a b => ?_⟩
  · show max (bmx (upI F k c) k) (upI F k c k) = c + 1 - 1
    rw [e k (Nat.le_refl _), upI_s]
    omega
  · by_cases d : j = k
    · subst d
      rw [upI_s, Int.toNat_natCast, e k (Nat.le_refl _)]
      exact ⟨by omega, by omega, fun _ => ⟨by omega, hg⟩⟩
    · rw [upI_n d, e j.toNat (by omega)]
      exact h3 j a (by omega)
theorem bmI.step {g : Int → Int} {p : OS} {k : Nat} (h : bmI g (p.2 7) (p.1 10) k) : bmI g ((bmS g p k).2 7) ((bmS g p k).1 10) (k + 1) := by
  have h1 : bmI g (upI (p.2 7) k (-1)) (p.1 10) k := h.cg (fun j a b => (upI_n (by omega)).symm)
  unfold bmS
  split
  · rename_i c
    obtain ⟨c1, c2, c3⟩ := c
    obtain ⟨m, rfl⟩ : ∃ m : Nat, k = m + 1 := ⟨k - 1, by omega⟩
    have em : ((m + 1 : Nat) : Int) - 1 = m := by omega
    rw [em] at c3
    have e7 : upI (p.2 7) ((m + 1 : Nat) : Int) (-1) m = p.2 7 m := upI_n (by omega)
    obtain ⟨q, hq⟩ : ∃ q, q = oA p 7 (upI (p.2 7) ((m + 1 : Nat) : Int) (-1)) := ⟨_, rfl⟩
    have q7 : q.2 7 = upI (p.2 7) ((m + 1 : Nat) : Int) (-1) := by rw [hq, oA_s]
    have q10 : q.1 10 = p.1 10 := by rw [hq]; rfl
    rw [← hq]
    unfold joinP joiP
    rw [em]
    by_cases d : q.2 7 m = -1
    · rw [if_pos d]
      show bmI g (upI (upI (q.2 7) m (q.1 10)) ((m + 1 : Nat) : Int) (upI (q.2 7) m (q.1 10) m)) (q.1 10 + 1) (m + 1 + 1)
      rw [upI_s, q10]
      rw [q7, e7] at d
      have h2 := h.lift d (by rw [← c3]; exact c2)
      refine bmI.push (x := p.1 10) (h2.cg (fun j a b => ?_)) (upI_s _ _ _) (Or.inr ⟨by omega, h.1, c2⟩)
      rw [upI_n (show j ≠ ((m + 1 : Nat) : Int) by omega)]
      by_cases z : j = m
      · subst z; rw [upI_s, upI_s]
      · rw [upI_n z, upI_n z, q7, upI_n (by omega)]
    · rw [if_neg d]
      show bmI g (upI (q.2 7) ((m + 1 : Nat) : Int) (q.2 7 m)) (q.1 10) (m + 1 + 1)
      rw [q7, e7] at d
      rw [q10, q7, e7]
      obtain ⟨g1, g2, g3⟩ := h
      have gm := g3 m (by omega) (by omega)
      have g2 : max (bmx (p.2 7) m) (p.2 7 m) = p.1 10 - 1 := g2
      rw [Int.toNat_natCast] at gm
      have gv : 0 ≤ p.2 7 m := by have := gm.1; omega
      have gb := (gm.2.2 gv).1
      refine bmI.push (x := p.2 7 m) (bmI.cg ⟨g1, g2, g3⟩ (fun j a b => ?_)) (upI_s _ _ _) (Or.inr ⟨by omega, gv, c2⟩)
      rw [upI_n (show j ≠ ((m + 1 : Nat) : Int) by omega), upI_n (by omega)]
  · show bmI g (upI (p.2 7) k (-1)) (p.1 10) (k + 1)
    exact h1.push (upI_s _ _ _) (Or.inl rfl)
theorem bmI_P (g : Int → Int) (p : OS) : ∀ k : Nat, bmI g ((bmP g p k).2 7) ((bmP g p k).1 10) k
  | 0 => ⟨Int.le_refl _, rfl, fun j a b => absurd b (by simp; omega)⟩
  | k + 1 => (bmI_P g p k).step
theorem shN_0 {first pl al : Int → Int} {key : Int} {F0 S0 : Int → Int} : ∀ k : Nat, ∀ j : Int, 0 ≤ j → j < k → first j = 0 → (shN first pl al key F0 S0 k).2 j = -3
  | 0, j, a, b, _ => absurd b (by simp; omega)
  | k + 1, j, a, b, h => by
    have ih := shN_0 (first := first) (pl := pl) (al := al) (key := key) (F0 := F0) (S0 := S0) k j a
    unfold shN
    by_cases c : j = k
    · subst c
      rw [if_neg (fun z => z h)]
      exact upI_s _ _ _
    · split
      · show upI _ k _ j = -3
        rw [upI_n c]; exact ih (by omega) h
      · show upI _ k (-3) j = -3
        rw [upI_n c]; exact ih (by omega) h
theorem hgt_0 {p : OS} (h : partOK p) {e : Int} (he : inP p e) : 0 ≤ p.2 2 e ↔ p.2 0 e ≠ 0 := by
  have g := h.ev e he.1 he.2
  have g1 := g.1
  have g2 := g.2.1
  rw [g.2.2.1]
  unfold hgt
  split
  · rename_i c
    constructor
    · intro z; omega
    · intro z; exact absurd c z
  · rename_i c
    refine ⟨fun _ => c, fun _ => ?_⟩
    have hl : 0 ≤ lk [0, 2, 4, 5, 7, 9, 11] (p.2 0 e % 7) ∧ (1 ≤ p.2 0 e % 7 → 2 ≤ lk [0, 2, 4, 5, 7, 9, 11] (p.2 0 e % 7)) := by
      rcases (by omega : p.2 0 e % 7 = 0 ∨ p.2 0 e % 7 = 1 ∨ p.2 0 e % 7 = 2 ∨ p.2 0 e % 7 = 3 ∨ p.2 0 e % 7 = 4 ∨ p.2 0 e % 7 = 5 ∨ p.2 0 e % 7 = 6) with d | d | d | d | d | d | d <;> rw [d] <;> decide
    unfold plain
    omega
/-- the marks of the signs -/
theorem wr_mk {p6 p0 : OS} (h6 : partOK p6) (hc : calOK p0) {b : Int} (hb : isBar b) (p : OS) :
    bmI (fun j => if (wrP p6 p0 b p).2 2 j ≤ 12 ∧ p6.2 0 ((wrP p6 p0 b p).2 0 j) ≠ 0 then 0 else -1) ((wrP p6 p0 b p).2 7) ((wrP p6 p0 b p).1 10) ((wrP p6 p0 b p).1 9).toNat ∧
    ∀ j : Int, 0 ≤ j → j < (wrP p6 p0 b p).1 9 → (-1 ≤ (wrP p6 p0 b p).2 7 j ∧ (wrP p6 p0 b p).2 7 j ≤ 128) ∧ (-3 ≤ (wrP p6 p0 b p).2 5 j ∧ (wrP p6 p0 b p).2 5 j ≤ 2) ∧ (-3 ≤ (wrP p6 p0 b p).2 6 j ∧ (wrP p6 p0 b p).2 6 j ≤ 2) ∧ (p6.2 0 ((wrP p6 p0 b p).2 0 j) = 0 → (wrP p6 p0 b p).2 5 j = -3 ∧ (wrP p6 p0 b p).2 6 j = -3) := by
  have hrg := (wrP_rg h6 hc hb p).1.1
  obtain ⟨hch, -⟩ := wr1_CH h6 hc hb p
  obtain ⟨f9, f3, -⟩ := wrP_f p6 p0 b p
  rw [f9, f3 2 (by decide), f3 0 (by decide)]
  rw [f9] at hrg
  have hbf := bmP_f (grpG p6 (wr2 p6 p0 (wr1 p6 p0 b p)) (sumN (p0.2 2) b.toNat) (glF p0 b)) (wr2 p6 p0 (wr1 p6 p0 b p)) ((wr2 p6 p0 (wr1 p6 p0 b p)).1 9).toNat
  have hbz := bmZ_P (grpG p6 (wr2 p6 p0 (wr1 p6 p0 b p)) (sumN (p0.2 2) b.toNat) (glF p0 b)) (wr2 p6 p0 (wr1 p6 p0 b p)) ((wr2 p6 p0 (wr1 p6 p0 b p)).1 9).toNat (show ((wr1 p6 p0 b p).1 9).toNat ≤ 128 by omega)
  have hbi := bmI_P (grpG p6 (wr2 p6 p0 (wr1 p6 p0 b p)) (sumN (p0.2 2) b.toNat) (glF p0 b)) (wr2 p6 p0 (wr1 p6 p0 b p)) ((wr2 p6 p0 (wr1 p6 p0 b p)).1 9).toNat
  have e3 : wr3 p6 p0 b (wr2 p6 p0 (wr1 p6 p0 b p)) = bmP (grpG p6 (wr2 p6 p0 (wr1 p6 p0 b p)) (sumN (p0.2 2) b.toNat) (glF p0 b)) (wr2 p6 p0 (wr1 p6 p0 b p)) ((wr2 p6 p0 (wr1 p6 p0 b p)).1 9).toNat := rfl
  rw [← e3] at hbf hbz hbi
  have e29 : (wr2 p6 p0 (wr1 p6 p0 b p)).1 9 = (wr1 p6 p0 b p).1 9 := rfl
  rw [e29] at hbf hbz hbi
  have w02 : ∀ i : Nat, i < 3 → (wr2 p6 p0 (wr1 p6 p0 b p)).2 i = (wr1 p6 p0 b p).2 i := fun i hi => by
    show (oA (oA _ 4 _) 3 _).2 i = _
    rw [oA_n (by omega), oA_n (by omega)]
  have w3 : (wr2 p6 p0 (wr1 p6 p0 b p)).2 3 = mapI ((wr1 p6 p0 b p).2 3) ((wr1 p6 p0 b p).1 9) (fstG p6 (wr1 p6 p0 b p)) := rfl
  have e7 : (wrP p6 p0 b p).2 7 = (wr3 p6 p0 b (wr2 p6 p0 (wr1 p6 p0 b p))).2 7 := by
    unfold wrP showP
    rw [oA_n (by decide), oA_n (by decide), oA_n (by decide), oA_n (by decide)]
  have e10 : (wrP p6 p0 b p).1 10 = (wr3 p6 p0 b (wr2 p6 p0 (wr1 p6 p0 b p))).1 10 := rfl
  rw [e7, e10]
  have gI : ∀ j : Int, grpG p6 (wr2 p6 p0 (wr1 p6 p0 b p)) (sumN (p0.2 2) b.toNat) (glF p0 b) j ≠ -1 → (wr1 p6 p0 b p).2 2 j ≤ 12 ∧ p6.2 0 ((wr1 p6 p0 b p).2 0 j) ≠ 0 := fun j hj => by
    unfold grpG at hj
    rw [w02 2 (by decide), w02 0 (by decide)] at hj
    split at hj
    · rename_i c; exact c
    · exact absurd rfl hj
  refine ⟨⟨hbi.1, hbi.2.1, fun j ja jb => ?_⟩, fun j ja jb => ⟨hbz.2 j ja (by omega), ?_⟩⟩
  · have q := hbi.2.2 j ja jb
    refine ⟨q.1, q.2.1, fun z => ⟨(q.2.2 z).1, ?_⟩⟩
    have g := gI j (q.2.2 z).2
    show (if (wr1 p6 p0 b p).2 2 j ≤ 12 ∧ p6.2 0 ((wr1 p6 p0 b p).2 0 j) ≠ 0 then (0 : Int) else -1) ≠ -1
    rw [if_pos g]
    decide
  · obtain ⟨u, hu⟩ : ∃ u, u = wr3 p6 p0 b (wr2 p6 p0 (wr1 p6 p0 b p)) := ⟨_, rfl⟩
    rw [← hu] at hbf
    have u9 : u.1 9 = (wr1 p6 p0 b p).1 9 := hbf.1
    have u0 : u.2 0 = (wr1 p6 p0 b p).2 0 := (hbf.2 0 (by decide)).trans (w02 0 (by decide))
    have u3 : u.2 3 = mapI ((wr1 p6 p0 b p).2 3) ((wr1 p6 p0 b p).1 9) (fstG p6 (wr1 p6 p0 b p)) := (hbf.2 3 (by decide)).trans w3
    have hev : ∀ i : Int, 0 ≤ i → i < u.1 9 → inP p6 (u.2 0 i) := fun i ia ib => by
      rw [u0]
      exact (hch.2 i ia (by omega)).2.2.1
    have s5 : (wrP p6 p0 b p).2 5 = (shN (u.2 3) (fun j => p6.2 0 (u.2 0 j)) (fun j => p6.2 1 (u.2 0 j)) (p0.2 3 b) (F0X (u.2 8)) (u.2 5) (u.1 9).toNat).2 := by
      rw [hu]; rfl
    have s6 : (wrP p6 p0 b p).2 6 = (shN (u.2 3) (fun j => p6.2 5 (u.2 0 j)) (fun j => p6.2 6 (u.2 0 j)) (kwF p6 (p0.2 3 b)) (F0X ((showP 5 0 1 p6 (p0.2 3 b) u).2 8)) (u.2 6) (u.1 9).toNat).2 := by
      rw [hu]; rfl
    rw [s5, s6]
    refine ⟨shN_S (u.1 9).toNat (fun i ia ib => ?_) j ja (by omega), shN_S (u.1 9).toNat (fun i ia ib => ?_) j ja (by omega), fun z => ?_⟩
    · have h := hev i ia (by omega)
      have := (h6.2.1 _ h.1 h.2).2.1
      show -3 ≤ p6.2 1 (u.2 0 i) ∧ p6.2 1 (u.2 0 i) ≤ 2
      omega
    · have h := hev i ia (by omega)
      exact (h6.2.1 _ h.1 h.2).2.2.2.2.2.2
    · have f0 : u.2 3 j = 0 := by
        rw [u3]
        unfold mapI
        rw [if_pos ⟨ja, jb⟩]
        exact if_neg (fun q => q.1 z)
      exact ⟨shN_0 (u.1 9).toNat j ja (by omega) f0, shN_0 (u.1 9).toNat j ja (by omega) f0⟩
