/-! the law's invariant -/
abbrev mL_law : jM := (RL, code, 9, ret, [], "law", room_1)
def LI (G : jG) (a a2 o : Nat) (n : Int) (h : jH) : Prop := ∃ (d : DA) (s : DS) (Z : Nat → Nat) (d2 : MD) (mp : Nat → OS) (p : OS) (Z2 : Nat → Nat) (f : Nat → Int64),
  Desk G h a d s ∧ Dz a d Z ∧ DI s ∧ Mod G h a2 d2 mp p ∧ Mz a2 d2 Z2 ∧ MI d2 s.1 (s.2.1 0) mp p.2 ∧ (∀ c, FtD a d c → ¬ FtM a2 d2 c ∧ c ≠ o) ∧ ¬ FtM a2 d2 o ∧ h o = some (aJ G 1 f) ∧ evs s.1 ≤ n
theorem Desk.keepF {G : jG} {h h' : jH} {a : Nat} {d : DA} {s : DS} (hD : Desk G h a d s) (hd : ∀ c, FtD a d c → h' c = h c) : Desk G h' a d s := by
  obtain ⟨h0, h1, h2, h3, h4, h5, h6, h7⟩ := hD
  refine ⟨(hd a (Or.inl rfl)).trans h0, h1.keep (S := fun b => h' b ≠ h b) (fun _ hb => Classical.not_not.mp hb) (fun b hb c => c (hd b (Or.inr (Or.inl hb)))), ?_, ?_, ?_, ?_, ?_, ?_⟩
  · exact h2.keepF (fun b hb => hd b (Or.inr (Or.inr (Or.inl hb))))
  · exact h3.keepF (fun b hb => hd b (Or.inr (Or.inr (Or.inr (Or.inl hb)))))
  · exact h4.keepF (fun b hb => hd b (Or.inr (Or.inr (Or.inr (Or.inr (Or.inl hb))))))
  · exact h5.keepF (fun b hb => hd b (Or.inr (Or.inr (Or.inr (Or.inr (Or.inr (Or.inl hb)))))))
  · exact h6.keepF (fun b hb => hd b (Or.inr (Or.inr (Or.inr (Or.inr (Or.inr (Or.inr (Or.inl hb))))))))
  · exact h7.keepF (fun b hb => hd b (Or.inr (Or.inr (Or.inr (Or.inr (Or.inr (Or.inr (Or.inr hb))))))))
theorem Desk.someN {G : jG} {h : jH} {a : Nat} {d : DA} {s : DS} (hD : Desk G h a d s) {b : Nat} (hb : FtD a d b) : h b ≠ none := by
  obtain ⟨h0, ⟨⟨F, h1, -⟩, h1'⟩, h2, h3, h4, h5, h6, h7⟩ := hD
  rcases hb with e | (e | ⟨k, hk, e⟩) | e | e | e | e | e | e
  · rw [e, h0]; exact fun z => by cases z
  · rw [e, h1]; exact fun z => by cases z
  · exact (h1' k hk).someN e
  · exact h2.someN e
  · exact h3.someN e
  · exact h4.someN e
  · exact h5.someN e
  · exact h6.someN e
  · exact h7.someN e
section LAWA
variable {G : jG} {h h1 h2 h3 : jH} {a a2 o : Nat} {d : DA} {s s' : DS} {Z Z2 : Nat → Nat} {d2 : MD} {mp P : Nat → OS} {p p0 : OS} {f f' : Nat → Int64} {t n : Int}
/-- the desk was called, and the row was written -/
theorem law_A (hM : Mod G h a2 d2 mp p) (hd : ∀ c, FtD a d c → ¬ FtM a2 d2 c ∧ c ≠ o) (ho : ¬ FtM a2 d2 o) (hN : DN G a d h P p0 h1) (h12 : ∀ c, c ≠ o → h2 c = h1 c) : ∃ s', Desk G h2 a d s' ∧ DI s' ∧ s'.1 = P ∧ s'.2.1 0 = p0 ∧ Mod G h2 a2 d2 mp p := by
  obtain ⟨s', g1, g2, g3, g4, g5⟩ := hN
  refine ⟨s', g1.keepF (fun c hc => h12 c (hd c hc).2), g2, g3, g4, hM.fr (S := fun c => h2 c ≠ h c) (fun c hc => Classical.not_not.mp hc) (fun c hc z => z ?_)⟩
  rw [h12 c (fun e => ho (by rw [← e]; exact hc))]
  exact g5 c (fun e => (hd c e).1 hc)
/-- the reference was called -/
theorem law_B (hD : Desk G h2 a d s') (hd : ∀ c, FtD a d c → ¬ FtM a2 d2 c ∧ c ≠ o) (ho : ¬ FtM a2 d2 o) (hf : h2 o = some (aJ G 1 f)) (e1 : s'.1 = P) (e2 : s'.2.1 0 = p0) (hN : MN G a2 d2 h2 P p0 t h3) : ∃ (d2' : MD) (mp' : Nat → OS) (p' : OS) (Z2' : Nat → Nat), Mod G h3 a2 d2' mp' p' ∧ Mz a2 d2' Z2' ∧ MI d2' s'.1 (s'.2.1 0) mp' p'.2 ∧ p'.1 0 = t ∧ Desk G h3 a d s' ∧ (∀ c, FtD a d c → ¬ FtM a2 d2' c ∧ c ≠ o) ∧ ¬ FtM a2 d2' o ∧ h3 o = some (aJ G 1 f) := by
  obtain ⟨d2', mp', p', Z2', g1, g2, g3, g4, g5, g6⟩ := hN
  have hfn : h2 o ≠ none := fun z => by rw [hf] at z; cases z
  refine ⟨d2', mp', p', Z2', g1, g2, by rw [e1, e2]; exact g3, g4, hD.keepF (fun c hc => g6 c (hd c hc).1 (hD.someN hc)), fun c hc => ⟨fun z => ?_, (hd c hc).2⟩, fun z => ?_, (g6 o ho hfn).trans hf⟩
  · rcases g5 c z with x | x
    · exact (hd c hc).1 x
    · exact hD.someN hc x
  · rcases g5 o z with x | x
    · exact ho x
    · exact hfn x
end LAWA
theorem hr1 {c1 : Prop} [Decidable c1] {v : Int} {r0 : jO} {E1 : String} (e : r0 = oI v) : ((if c1 then (0 : Int) else 1) = 0 ∧ (if c1 then r0 else .inr E1) = oI (if c1 then v else 0)) ∨ ((if c1 then (0 : Int) else 1) = 1 ∧ (if c1 then r0 else .inr E1) = .inr E1) := by
  by_cases h : c1
  · rw [if_pos h, if_pos h, if_pos h]; exact Or.inl ⟨rfl, e⟩
  · rw [if_neg h, if_neg h, if_neg h]; exact Or.inr ⟨rfl, rfl⟩
theorem hr2 {c1 c2 : Prop} [Decidable c1] [Decidable c2] {v : Int} {r0 : jO} {E1 E2 : String} (e : r0 = oI v) : ((if c1 then (if c2 then (0 : Int) else 2) else 1) = 0 ∧ (if c1 then (if c2 then r0 else .inr E2) else .inr E1) = oI (if c1 then (if c2 then v else 0) else 0)) ∨ ((if c1 then (if c2 then (0 : Int) else 2) else 1) = 1 ∧ (if c1 then (if c2 then r0 else .inr E2) else .inr E1) = .inr E1) ∨ ((if c1 then (if c2 then (0 : Int) else 2) else 1) = 2 ∧ (if c1 then (if c2 then r0 else .inr E2) else .inr E1) = .inr E2) := by
  by_cases h : c1
  · rw [if_pos h, if_pos h, if_pos h]
    by_cases h2 : c2
    · rw [if_pos h2, if_pos h2, if_pos h2]; exact Or.inl ⟨rfl, e⟩
    · rw [if_neg h2, if_neg h2, if_neg h2]; exact Or.inr (Or.inr ⟨rfl, rfl⟩)
  · rw [if_neg h, if_neg h, if_neg h]; exact Or.inr (Or.inl ⟨rfl, rfl⟩)
theorem hr3 {c1 c2 c3 : Prop} [Decidable c1] [Decidable c2] [Decidable c3] {v : Int} {r0 : jO} {E1 E2 E3 : String} (e : r0 = oI v) : ((if c1 then (if c2 then (if c3 then (0 : Int) else 3) else 2) else 1) = 0 ∧ (if c1 then (if c2 then (if c3 then r0 else .inr E3) else .inr E2) else .inr E1) = oI (if c1 then (if c2 then (if c3 then v else 0) else 0) else 0)) ∨ ((if c1 then (if c2 then (if c3 then (0 : Int) else 3) else 2) else 1) = 1 ∧ (if c1 then (if c2 then (if c3 then r0 else .inr E3) else .inr E2) else .inr E1) = .inr E1) ∨ ((if c1 then (if c2 then (if c3 then (0 : Int) else 3) else 2) else 1) = 2 ∧ (if c1 then (if c2 then (if c3 then r0 else .inr E3) else .inr E2) else .inr E1) = .inr E2) ∨ ((if c1 then (if c2 then (if c3 then (0 : Int) else 3) else 2) else 1) = 3 ∧ (if c1 then (if c2 then (if c3 then r0 else .inr E3) else .inr E2) else .inr E1) = .inr E3) := by
  by_cases h : c1
  · rw [if_pos h, if_pos h, if_pos h]
    by_cases h2 : c2
    · rw [if_pos h2, if_pos h2, if_pos h2]
      by_cases h3 : c3
      · rw [if_pos h3, if_pos h3, if_pos h3]; exact Or.inl ⟨rfl, e⟩
      · rw [if_neg h3, if_neg h3, if_neg h3]; exact Or.inr (Or.inr (Or.inr ⟨rfl, rfl⟩))
    · rw [if_neg h2, if_neg h2, if_neg h2]; exact Or.inr (Or.inr (Or.inl ⟨rfl, rfl⟩))
  · rw [if_neg h, if_neg h, if_neg h]; exact Or.inr (Or.inl ⟨rfl, rfl⟩)
theorem rg_t1 {c1 : Prop} [Decidable c1] : rg (if c1 then (0 : Int) else 1) := by split <;> decide
theorem rg_t2 {c1 c2 : Prop} [Decidable c1] [Decidable c2] : rg (if c1 then (if c2 then (0 : Int) else 2) else 1) := by
  by_cases h : c1
  · rw [if_pos h]; split <;> decide
  · rw [if_neg h]; decide
theorem rg_t3 {c1 c2 c3 : Prop} [Decidable c1] [Decidable c2] [Decidable c3] : rg (if c1 then (if c2 then (if c3 then (0 : Int) else 3) else 2) else 1) := by
  by_cases h : c1
  · rw [if_pos h]
    by_cases h2 : c2
    · rw [if_pos h2]; split <;> decide
    · rw [if_neg h2]; decide
  · rw [if_neg h]; decide
theorem evs_if {c : Prop} [Decidable c] {P : Nat → OS} {k : Nat} {p : OS} (hk : c → k < 4) (h7 : c → p.1 7 ≤ (P k).1 7 + 1) : evs (if c then upN P k p else P) ≤ evs P + 1 := by
  by_cases h : c
  · rw [if_pos h]
    have e := evs_up P (hk h) p
    have := h7 h
    omega
  · rw [if_neg h]; omega
section LAWJ
variable {l : Launch} {G : jG} {M : jM} {QF : jF} {ck sk pc : Nat} {L : List (Nat × Value)} {st : List Value} {h : jH}
theorem J_lcmp0 {x y : Int64} (hd : decode M.cc pc = .ok (.lcmp, 1)) (e : x = y) (kk : J l G M QF ck sk (pc + 1) L (vI 0 :: st) h) : J l G M QF ck sk pc L (.long y :: .long x :: st) h := by
  subst e
  refine j_lcmp hd ?_
  rw [lcmp_s]
  exact kk
end LAWJ
