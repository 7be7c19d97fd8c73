theorem chN_cg {W W' C C' : Int → Int} {s w first nx nx' : Int} (h0 : 0 ≤ first) (hs : s ≤ 24) (hW : agI 24 W W') (hC : ∀ i : Int, first + 1 ≤ i → i ≤ s → C i = C' i) : ∀ j : Nat, first + j ≤ s → (chN W C s w first nx j).1 = (chN W' C' s w first nx' j).1 ∧ (chN W C s w first nx j).2.1 = (chN W' C' s w first nx' j).2.1 ∧ (1 ≤ j → (chN W C s w first nx j).2.2 = (chN W' C' s w first nx' j).2.2)
  | 0, _ => ⟨rfl, rfl, fun h => absurd h (by decide)⟩
  | j + 1, hj => by
    have ih := chN_cg (w := w) (nx := nx) (nx' := nx') h0 hs hW hC j (by omega)
    have hz : j = 0 → (chN W C s w first nx j).2.1 = -1 := fun e => by subst e; rfl
    rw [chN_s, chN_s, ← ih.1, ← hW (first + j) (by omega) (by omega)]
    have ec : chCo C s w ((chN W C s w first nx j).1 + W (first + j)) (first + j + 1) = chCo C' s w ((chN W C s w first nx j).1 + W (first + j)) (first + j + 1) := by
      unfold chCo
      rw [hC (first + j + 1) (by omega) (by omega)]
    rw [← ec]
    generalize chCo C s w ((chN W C s w first nx j).1 + W (first + j)) (first + j + 1) = c
    generalize chN W C s w first nx j = r at *
    generalize chN W' C' s w first nx' j = r' at *
    unfold chT
    by_cases g : r.2.1 = -1 ∨ c ≤ r.2.1
    · rw [if_pos g, if_pos (by rw [← ih.2.1]; exact g)]
      exact ⟨rfl, rfl, fun _ => rfl⟩
    · rw [if_neg g, if_neg (by rw [← ih.2.1]; exact g)]
      refine ⟨rfl, ih.2.1, fun _ => ih.2.2 ?_⟩
      by_cases e : j = 0
      · exact absurd (Or.inl (hz e)) g
      · omega
theorem dpP_cg {p p' : OS} {s w : Int} (hs : s ≤ 24) (hW : agI 24 (p.2 0) (p'.2 0)) : ∀ k : Nat, (k : Int) ≤ s → (∀ i : Int, s - k ≤ i → i ≤ s → (dpP p s w k).2 1 i = (dpP p' s w k).2 1 i) ∧ ∀ i : Int, s - k ≤ i → i < s → (dpP p s w k).2 2 i = (dpP p' s w k).2 2 i
  | 0, _ => by
    refine ⟨fun i a b => ?_, fun i a b => absurd a (by simp; omega)⟩
    have e : i = s := by simp at a; omega
    show upI (p.2 1) s 0 i = upI (p'.2 1) s 0 i
    subst e
    rw [upI_s, upI_s]
  | k + 1, hk => by
    have ih := dpP_cg (w := w) hs hW k (by omega)
    have g := chN_cg (W := (dpP p s w k).2 0) (W' := (dpP p' s w k).2 0) (C := (dpP p s w k).2 1) (C' := (dpP p' s w k).2 1) (w := w) (first := s - 1 - k) (nx := (dpP p s w k).2 2 (s - 1 - k)) (nx' := (dpP p' s w k).2 2 (s - 1 - k)) (by omega) hs (by rw [dpP_w, dpP_w]; exact hW) (fun i a b => ih.1 i (by omega) b) (s - (s - 1 - k)).toNat (by omega)
    refine ⟨fun i a b => ?_, fun i a b => ?_⟩
    · show upI ((dpP p s w k).2 1) (s - 1 - k) _ i = upI ((dpP p' s w k).2 1) (s - 1 - k) _ i
      by_cases e : i = s - 1 - k
      · subst e
        rw [upI_s, upI_s]
        exact g.2.1
      · rw [upI_n e, upI_n e]
        exact ih.1 i (by omega) b
    · show upI ((dpP p s w k).2 2) (s - 1 - k) _ i = upI ((dpP p' s w k).2 2) (s - 1 - k) _ i
      by_cases e : i = s - 1 - k
      · subst e
        rw [upI_s, upI_s]
        exact g.2.2 (by omega)
      · rw [upI_n e, upI_n e]
        exact ih.2 i (by omega) b
theorem numL_cg {nx nx' : Int → Int} {s : Int} {F F' : Int → Int} (h : ∀ i : Int, 0 ≤ i → i < s → nx i = nx' i) : ∀ k : Nat, (numL nx s F k).1 = (numL nx' s F' k).1 ∧ (numL nx s F k).2.1 = (numL nx' s F' k).2.1 ∧ agI k (numL nx s F k).2.2 (numL nx' s F' k).2.2
  | 0 => ⟨rfl, rfl, fun j a b => absurd b (by simp; omega)⟩
  | k + 1 => by
    have ih := numL_cg (F := F) (F' := F') h k
    rw [numL_s, numL_s]
    generalize numL nx s F k = r at *
    generalize numL nx' s F' k = r' at *
    dsimp only
    rw [← ih.1, ← ih.2.1]
    by_cases c : s ≤ k
    · rw [if_pos c, if_pos c]
      exact ⟨rfl, rfl, ih.2.2.up _⟩
    · rw [if_neg c, if_neg c]
      by_cases d : (k : Int) = r.2.1
      · rw [if_pos d, if_pos d, h k (by omega) (by omega)]
        exact ⟨rfl, rfl, ih.2.2.up _⟩
      · rw [if_neg d, if_neg d]
        exact ⟨rfl, rfl, ih.2.2.up _⟩
theorem brk_cg {p p' : OS} {s w : Int} (h0 : 0 ≤ s) (hs : s ≤ 24) (hW : agI 24 (p.2 0) (p'.2 0)) : BrkEq (brkP p s w) (brkP p' s w) := by
  have g := dpP_cg (w := w) hs hW s.toNat (by omega)
  have n := numL_cg (nx := (dpP p s w s.toNat).2 2) (nx' := (dpP p' s w s.toNat).2 2) (s := s) (F := (dpP p s w s.toNat).2 3) (F' := (dpP p' s w s.toNat).2 3) (fun i a b => g.2 i (by omega) b) 24
  exact ⟨n.1, g.1 0 (by omega) (by omega), n.2.2⟩
/-- the canonical breaking of lines -/
def lnP (P : Nat → OS) (p0 : OS) (s w : Int) : OS := brkP (oA zOS 0 (widF P p0)) s w
theorem lnP_eq {P : Nat → OS} {p0 p : OS} {s w : Int} (h : WidOK P p0 p) (h0 : 0 ≤ s) (hs : s ≤ 24) : BrkEq (brkP p s w) (lnP P p0 s w) := brk_cg h0 hs h
theorem brk_wid (p : OS) (s w : Int) : (brkP p s w).2 0 = p.2 0 := dpP_w p s w s.toNat
