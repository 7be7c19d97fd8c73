/-! lines: as the law asks -/
abbrev ev2 (x : Int) : Prop := x % 2 = 0
theorem sumN_ev {f : Int → Int} : ∀ n : Nat, (∀ i : Int, 0 ≤ i → i < n → ev2 (f i)) → ev2 (sumN f n)
  | 0, _ => by show (0 : Int) % 2 = 0; decide
  | n + 1, h => by
    have ih := sumN_ev n (fun i a b => h i a (by omega))
    have g := h n (by omega) (by omega)
    show (sumN f n + f n) % 2 = 0
    omega
theorem momT_ev {P : Nat → OS} (hs : scoOK P) {m : Nat} (hm : m < cntM P) : ev2 (momT P m) := by
  rcases momT_spec hs m with ⟨g, -⟩ | ⟨-, -, ⟨k, hk, h1, h2⟩, -⟩
  · exact absurd g (cntM_pos hm)
  · have r := nxM_rg hs hk m
    rw [← h2, (hs k hk).beg _ r.1 h1]
    refine sumN_ev _ (fun i a b => ?_)
    have v := (hs k hk).2.2.2.2.2.1 i a (by omega)
    unfold ev2
    unfold isVal at v
    omega
theorem len_ev {p0 : OS} (hc : calOK p0) {b : Int} (hb : isBar b) : ev2 (p0.2 2 b) := by
  have h := hc.2.2 b hb
  obtain ⟨h1, h2⟩ := (hc.1.2.2 b hb).1
  rw [Int.tdiv_eq_ediv_of_nonneg (by omega)] at h
  unfold ev2
  rcases h2 with e | e | e <;> rw [e] at h <;> omega
theorem bar_ev {p0 : OS} (hc : calOK p0) (k : Nat) (hk : k ≤ 24) : ev2 (sumN (p0.2 2) k) := sumN_ev k (fun i a b => len_ev hc ⟨a, by omega⟩)
theorem msrM_ev {T : Int → Int} {e : Int} : ∀ (n : Nat) (m w l : Int), ev2 l → (∀ i : Int, m ≤ i → i < m + n → ev2 (T i)) → ev2 (msrM T e n m w l).2.2
  | 0, _, _, _, h, _ => h
  | n + 1, m, w, l, h, hT => by
    unfold msrM
    split
    · split
      · exact msrM_ev n _ _ _ (hT m (by omega) (by omega)) (fun i a b => hT i (by omega) (by omega))
      · exact msrM_ev n _ _ _ h (fun i a b => hT i (by omega) (by omega))
    · exact h
theorem gapW_3 {g : Int} (h : 2 ≤ g) : 3 ≤ gapW g := by
  unfold gapW
  have h1 : 1 ≤ g.toNat.log2 := (Nat.le_log2 (by omega)).mpr (by omega)
  omega
theorem msr_6 {P : Nat → OS} {p0 : OS} (hs : scoOK P) (hc : calOK p0) {F : Int → Int} : ∀ k : Nat, k ≤ 24 → ∀ i : Int, 0 ≤ i → i < k → 6 ≤ (msr (p0.2 2) (p0.2 3) (fun m => momT P m.toNat) (cntM P) F k).2 i
  | 0, _ => fun i a b => absurd b (by simp; omega)
  | k + 1, hk => by
    have ih := msr_6 hs hc (F := F) k (by omega)
    intro i a b
    have hm := msr_rg (L := p0.2 2) (K := p0.2 3) (T := fun m => momT P m.toNat) (cnt := (cntM P : Int)) (F := F) (by omega) k
    have hL := hc.1.1 k (by omega) (by omega)
    have e1 := bar_ev hc k (by omega)
    have e2 := len_ev hc (b := (k : Int)) ⟨by omega, by omega⟩
    unfold msr
    dsimp only
    generalize (msr (p0.2 2) (p0.2 3) (fun m => momT P m.toNat) (cntM P) F k).1 = s at *
    have hw := msrM_w (T := fun m => momT P m.toNat) (e := sumN (p0.2 2) k + p0.2 2 k) ((cntM P : Int) - s).toNat s (msrB (p0.2 3) k) (sumN (p0.2 2) k)
    have hr := msrM_rg (T := fun m => momT P m.toNat) (e := sumN (p0.2 2) k + p0.2 2 k) ((cntM P : Int) - s).toNat s (msrB (p0.2 3) k) (sumN (p0.2 2) k)
    have he := msrM_ev (T := fun m => momT P m.toNat) (e := sumN (p0.2 2) k + p0.2 2 k) ((cntM P : Int) - s).toNat s (msrB (p0.2 3) k) (sumN (p0.2 2) k) e1 (fun j x y => momT_ev hs (by omega))
    have hB : 3 ≤ msrB (p0.2 3) k := by
      unfold msrB
      rw [Int.tdiv_eq_ediv_of_nonneg (by omega)]
      omega
    generalize msrM (fun m => momT P m.toNat) (sumN (p0.2 2) k + p0.2 2 k) ((cntM P : Int) - s).toNat s (msrB (p0.2 3) k) (sumN (p0.2 2) k) = r at *
    by_cases c : i = k
    · subst c
      rw [upI_s]
      have l1 := hr.1.2 (by omega)
      have g := gapW_3 (g := sumN (p0.2 2) k + p0.2 2 k - r.2.2) (by unfold ev2 at e1 e2 he; omega)
      omega
    · rw [upI_n c]
      exact ih i a (by omega)
theorem widF_6 {P : Nat → OS} {p0 : OS} (hs : scoOK P) (hc : calOK p0) {b : Int} (hb : isBar b) : 6 ≤ widF P p0 b := msr_6 hs hc 24 (Nat.le_refl _) b hb.1 hb.2
/-- the numbering of the lines -/
def NumI (s : Int) (k : Nat) (r : Int × Int × (Int → Int)) : Prop :=
  (k = 0 → r.1 = 0 ∧ r.2.1 = 0) ∧ (0 ≤ r.1 ∧ r.1 ≤ k) ∧ (0 < k → 0 < s → 1 ≤ r.1 ∧ r.2.2 0 = 0) ∧ (∀ b : Int, 0 ≤ b → b < k → b < s → 0 ≤ r.2.2 b ∧ r.2.2 b ≤ 23) ∧ (∀ b : Int, s ≤ b → b < k → 0 ≤ b → r.2.2 b = -1) ∧
  (∀ b : Int, 0 ≤ b → b + 1 < k → b + 1 < s → r.2.2 b ≤ r.2.2 (b + 1) ∧ r.2.2 (b + 1) ≤ r.2.2 b + 1) ∧ (0 < min (k : Int) s → r.1 = r.2.2 (min (k : Int) s - 1) + 1) ∧ (s ≤ 0 → r.1 = 0)
theorem num_ok {nx : Int → Int} {s : Int} {F : Int → Int} : ∀ k : Nat, k ≤ 24 → NumI s k (numL nx s F k)
  | 0, _ => ⟨fun _ => ⟨rfl, rfl⟩, ⟨Int.le_refl _, Int.le_refl _⟩, fun h => absurd h (by decide), fun b h0 h1 => absurd h1 (by simp; omega), fun b _ h1 h0 => absurd h1 (by simp; omega), fun b h0 h1 => absurd h1 (by simp; omega), fun h => absurd h (by simp; omega), fun _ => rfl⟩
  | k + 1, hk => by
    have ih := num_ok (nx := nx) (s := s) (F := F) k (by omega)
    rw [numL_s]
    generalize numL nx s F k = r at *
    obtain ⟨c, n, G⟩ := r
    obtain ⟨h1, h2, h3, h4, h5, h6, h7, h8⟩ := ih
    simp only at h1 h2 h3 h4 h5 h6 h7 h8 ⊢
    by_cases d : s ≤ k
    · rw [if_pos d]
      refine ⟨fun z => absurd z (by omega), ⟨h2.1, by show c ≤ ((k + 1 : Nat) : Int); omega⟩, fun _ hs => ?_, fun b b0 b1 b2 => ?_, fun b b1 b2 b0 => ?_, fun b b0 b1 b2 => ?_, fun z => ?_, h8⟩
      · have g := h3 (by omega) hs
        exact ⟨g.1, by show upI G k (-1) 0 = 0; rw [upI_n (by omega)]; exact g.2⟩
      · show 0 ≤ upI G k (-1) b ∧ upI G k (-1) b ≤ 23
        rw [upI_n (by omega)]
        exact h4 b b0 (by omega) b2
      · show upI G k (-1) b = -1
        by_cases e : b = k
        · subst e; rw [upI_s]
        · rw [upI_n e]; exact h5 b b1 (by omega) b0
      · show upI G k (-1) b ≤ upI G k (-1) (b + 1) ∧ upI G k (-1) (b + 1) ≤ upI G k (-1) b + 1
        rw [upI_n (by omega), upI_n (by omega)]
        exact h6 b b0 (by omega) b2
      · show c = upI G k (-1) (min ((k + 1 : Nat) : Int) s - 1) + 1
        rw [show min ((k + 1 : Nat) : Int) s = min (k : Int) s by omega, upI_n (by omega)]
        exact h7 (by omega)
    · rw [if_neg d]
      have key : ∀ c' : Int, (c' = c ∧ 0 < k ∨ c' = c + 1) → ∀ n' : Int, NumI s (k + 1) (c', n', upI G k (c' - 1)) := by
        intro c' hc' n'
        have hl : 0 < k → c = G (k - 1) + 1 := fun z => by
          have g := h7 (by omega)
          rw [show min (k : Int) s = k by omega] at g
          exact g
        have g0 : k = 0 → c = 0 := fun z => (h1 z).1
        refine ⟨fun z => absurd z (by omega), ⟨by show 0 ≤ c'; omega, by show c' ≤ ((k + 1 : Nat) : Int); omega⟩, fun _ hs => ⟨?_, ?_⟩, fun b b0 b1 b2 => ?_, fun b b1 b2 b0 => absurd b2 (by omega), fun b b0 b1 b2 => ?_, fun z => ?_, fun z => absurd z (by omega)⟩
        · show 1 ≤ c'
          rcases hc' with ⟨e, f⟩ | e
          · have := h3 f hs; omega
          · omega
        · show upI G k (c' - 1) 0 = 0
          by_cases e : k = 0
          · subst e
            rw [show ((0 : Nat) : Int) = 0 from rfl, upI_s]
            have := g0 rfl
            omega
          · rw [upI_n (by omega)]
            exact (h3 (by omega) hs).2
        · show 0 ≤ upI G k (c' - 1) b ∧ upI G k (c' - 1) b ≤ 23
          by_cases e : b = k
          · subst e
            rw [upI_s]
            rcases hc' with ⟨e, f⟩ | e
            · have := (h3 f (by omega)).1; omega
            · omega
          · rw [upI_n e]; exact h4 b b0 (by omega) b2
        · show upI G k (c' - 1) b ≤ upI G k (c' - 1) (b + 1) ∧ upI G k (c' - 1) (b + 1) ≤ upI G k (c' - 1) b + 1
          by_cases e : b + 1 = k
          · rw [e, upI_s, upI_n (by omega)]
            have g := hl (by omega)
            rw [show (k : Int) - 1 = b by omega] at g
            omega
          · rw [upI_n (by omega), upI_n e]
            exact h6 b b0 (by omega) b2
        · show c' = upI G k (c' - 1) (min ((k + 1 : Nat) : Int) s - 1) + 1
          rw [show min ((k + 1 : Nat) : Int) s - 1 = k by omega, upI_s]
          omega
      by_cases e : (k : Int) = n
      · rw [if_pos e]
        exact key (c + 1) (Or.inr rfl) (nx k)
      · rw [if_neg e]
        refine key c (Or.inl ⟨rfl, ?_⟩) n
        by_cases f : k = 0
        · have := (h1 f).2; omega
        · omega
/-- the least cost is no more than that of one bar a line -/
theorem chN_le {W C : Int → Int} {s w first nx : Int} (hw : 10 ≤ w ∧ w ≤ 400) (hW : wZ W) (hC : cZ C (first + 1) s) (h0 : 0 ≤ first) (hs : s ≤ 24) : ∀ j : Nat, first + j + 1 ≤ s → (chN W C s w first nx (j + 1)).2.1 ≤ cstB W s w first + C (first + 1)
  | 0, hj => by
    rw [chN_s]
    have e : (chN W C s w first nx 0).2.1 = -1 := rfl
    have e1 : (chN W C s w first nx 0).1 = 0 := rfl
    unfold chT
    rw [if_pos (Or.inl e), e1]
    show chCo C s w (0 + W (first + ((0 : Nat) : Int))) (first + ((0 : Nat) : Int) + 1) ≤ _
    rw [show first + ((0 : Nat) : Int) = first by omega, show (0 : Int) + W first = W first by omega]
    unfold chCo cstB
    by_cases c : first = s - 1 ∧ W first ≤ w
    · rw [if_pos c, if_pos ⟨by omega, by omega⟩]
      exact Int.le_refl _
    · rw [if_neg c, if_neg (fun z => c ⟨by omega, by omega⟩)]
      exact Int.le_refl _
  | j + 1, hj => by
    have ih := chN_le (nx := nx) hw hW hC h0 hs j (by omega)
    have g := chN_rg (nx := nx) hw hW hC h0 hs (j + 1) (by omega)
    have g2 := (g.2.2 (by omega)).1.1
    rw [chN_s]
    generalize chN W C s w first nx (j + 1) = r at *
    generalize chCo C s w (r.1 + W (first + ((j + 1 : Nat) : Int))) (first + ((j + 1 : Nat) : Int) + 1) = c
    unfold chT
    split
    · rename_i d
      show c ≤ _
      omega
    · exact ih
theorem dp_le (p : OS) {s w : Int} (hw : 10 ≤ w ∧ w ≤ 400) (hW : wZ (p.2 0)) (h0 : 0 ≤ s) (hs : s ≤ 24) : ∀ k : Nat, (k : Int) ≤ s → (dpP p s w k).2 1 (s - k) ≤ sumN (cstB (p.2 0) s w) s.toNat - sumN (cstB (p.2 0) s w) (s - k).toNat
  | 0, _ => by
    show upI (p.2 1) s 0 (s - ((0 : Nat) : Int)) ≤ _
    rw [show s - ((0 : Nat) : Int) = s by omega, upI_s]
    omega
  | k + 1, hk => by
    have ih := dp_le p hw hW h0 hs k (by omega)
    have hC := dpP_c p (w := w) hw hW hs k (by omega)
    have e2 := sumN_succ (f := cstB (p.2 0) s w) (i := s - 1 - k) (by omega)
    rw [show s - 1 - (k : Int) + 1 = s - k by omega] at e2
    have g := chN_le (W := (dpP p s w k).2 0) (C := (dpP p s w k).2 1) (s := s) (first := s - 1 - k) (nx := (dpP p s w k).2 2 (s - 1 - k)) hw (by rw [dpP_w]; exact hW) (by rw [show s - 1 - (k : Int) + 1 = s - k by omega]; exact hC) (by omega) hs ((s - (s - 1 - k)).toNat - 1) (by omega)
    rw [show (s - (s - 1 - (k : Int))).toNat - 1 + 1 = (s - (s - 1 - k)).toNat by omega, dpP_w, show s - 1 - (k : Int) + 1 = s - k by omega] at g
    rw [show s - ((k + 1 : Nat) : Int) = s - 1 - k by omega]
    show upI ((dpP p s w k).2 1) (s - 1 - k) (chN ((dpP p s w k).2 0) ((dpP p s w k).2 1) s w (s - 1 - k) ((dpP p s w k).2 2 (s - 1 - k)) (s - (s - 1 - k)).toNat).2.1 (s - 1 - k) ≤ _
    rw [upI_s, dpP_w]
    omega
theorem sd_lin {P : Nat → OS} {p0 : OS} {w : Int} (hs : scoOK P) (hc : calOK p0) (hw : 10 ≤ w ∧ w ≤ 400) : LinOK (widF P p0) ((lnP P p0 (barsA P p0) w).2 3) (barsA P p0) w ((lnP P p0 (barsA P p0) w).1 4) ((lnP P p0 (barsA P p0) w).2 1 0) := by
  have hB := barsA_rg P p0
  generalize barsA P p0 = s at *
  have hW : wZ (widF P p0) := widF_Z hc.1
  obtain ⟨p, hp⟩ : ∃ p, p = oA zOS 0 (widF P p0) := ⟨_, rfl⟩
  have hpW : p.2 0 = widF P p0 := by rw [hp, oA_s]
  have hln : lnP P p0 s w = numP (dpP p s w s.toNat) s := by rw [hp]; rfl
  have n := num_ok (nx := (dpP p s w s.toNat).2 2) (s := s) (F := (dpP p s w s.toNat).2 3) 24 (Nat.le_refl _)
  have e3 : (lnP P p0 s w).2 3 = (numL ((dpP p s w s.toNat).2 2) s ((dpP p s w s.toNat).2 3) 24).2.2 := by rw [hln]; rfl
  have e4 : (lnP P p0 s w).1 4 = (numL ((dpP p s w s.toNat).2 2) s ((dpP p s w s.toNat).2 3) 24).1 := by rw [hln]; rfl
  have e1 : (lnP P p0 s w).2 1 0 = (dpP p s w s.toNat).2 1 0 := by rw [hln]; rfl
  have c0 := dpP_c p hw (by rw [hpW]; exact hW) hB.2 s.toNat (by omega)
  have c1 := dp_le p hw (by rw [hpW]; exact hW) hB.1 hB.2 s.toNat (by omega)
  have c2 := (c0 0 (by omega) (by omega)).1
  rw [show s - ((s.toNat : Nat) : Int) = 0 by omega, hpW] at c1
  have e0 : sumN (cstB (widF P p0) s w) (0 : Int).toNat = 0 := rfl
  rw [e0] at c1
  rw [e1]
  generalize numL ((dpP p s w s.toNat).2 2) s ((dpP p s w s.toNat).2 3) 24 = r at *
  obtain ⟨h1, h2, h3, h4, h5, h6, h7, h8⟩ := n
  rw [e3, e4]
  refine ⟨hB, fun b hb => ⟨widF_6 hs hc hb, (hW b hb.1 hb.2).2⟩, fun b b0 b1 => h4 b b0 (by omega) b1, fun b b1 b2 => h5 b b1 b2 (by omega), fun z => (h3 (by omega) z).2, fun b b0 b1 => h6 b b0 (by omega) b1, fun z => h8 (by omega), fun z => ?_, c2, by omega⟩
  have g := h7 (by omega)
  rw [show min ((24 : Nat) : Int) s = s by omega] at g
  exact g
