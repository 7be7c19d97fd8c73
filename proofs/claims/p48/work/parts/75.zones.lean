/-! what was born stands apart -/
theorem evs_part {P : Nat → OS} (h : scoOK P) {k : Nat} (hk : k < 4) : (P k).1 7 ≤ evs P := by
  have a0 : 0 ≤ (P 0).1 7 ∧ (P 0).1 7 ≤ 512 := (h 0 (by omega)).1
  have a1 : 0 ≤ (P 1).1 7 ∧ (P 1).1 7 ≤ 512 := (h 1 (by omega)).1
  have a2 : 0 ≤ (P 2).1 7 ∧ (P 2).1 7 ≤ 512 := (h 2 (by omega)).1
  have a3 : 0 ≤ (P 3).1 7 ∧ (P 3).1 7 ≤ 512 := (h 3 (by omega)).1
  unfold evs
  rcases (by omega : k = 0 ∨ k = 1 ∨ k = 2 ∨ k = 3) with e | e | e | e <;> subst e <;> omega
theorem At.keepF {o : oO} {ca : oC} {A : Nat → Bool} {h h' : jH} {a : Nat} {q : Nat → Nat} {p : OS} (hP : At o ca A h a q p) (hd : ∀ b, ft A a q b → h' b = h b) : At o ca A h' a q p :=
  hP.keep (S := fun b => h' b ≠ h b) (fun _ hb => Classical.not_not.mp hb) (fun b hb c => c (hd b hb))
theorem At.someN {o : oO} {ca : oC} {A : Nat → Bool} {h : jH} {a : Nat} {q : Nat → Nat} {p : OS} (hP : At o ca A h a q p) {b : Nat} (hb : ft A a q b) : h b ≠ none := by
  rcases hb with e | ⟨k, hk, e⟩
  · rw [e, hP.1]; exact fun z => by cases z
  · rw [e, hP.2.1 k hk]; exact fun z => by cases z
/-! zones of what is born one behind the other -/
def zs (h : jH) (t : Nat) (Z : Nat → Nat) : Nat → Nat := fun c => if (h c).isNone = true then t else Z c
theorem zs_new {h : jH} {t : Nat} {Z : Nat → Nat} {c : Nat} (e : h c = none) : zs h t Z c = t := by unfold zs; rw [e]; rfl
theorem zs_old {h : jH} {t : Nat} {Z : Nat → Nat} {c : Nat} (e : h c ≠ none) : zs h t Z c = Z c := by
  unfold zs
  cases g : h c with
  | none => exact absurd g e
  | some x => rfl
/-- what was there and isn't of E stands -/
def BStp (E : Nat → Prop) (h h' : jH) : Prop := ∀ c, ¬ E c → h c ≠ none → h' c = h c
def Zin (a : Nat) (h0 : jH) (E S : Nat → Prop) (h : jH) (Z : Nat → Nat) (t : Nat) : Prop := ∀ c, S c → ¬ E c ∧ h c ≠ none ∧ Z c = t ∧ (c = a ∨ h0 c = none)
def Old (a : Nat) (h0 h : jH) : Prop := ∀ c, c ≠ a → h0 c ≠ none → h c = h0 c
section ZST
variable {a : Nat} {h0 h h' h2 : jH} {E S : Nat → Prop} {Z : Nat → Nat} {t t' : Nat} {o : oO} {ca : oC} {A : Nat → Bool} {b w : Nat} {q : Nat → Nat} {p : OS} {x y : va_E}
theorem Old.new (O : Old a h0 h) {c : Nat} (e : h c = none) : c = a ∨ h0 c = none := by
  by_cases d : c = a
  · exact Or.inl d
  · by_cases g : h0 c = none
    · exact Or.inr g
    · have := O c d g
      rw [e] at this
      exact absurd this.symm g
theorem Old.step (O : Old a h0 h) (hs : BStp E h h') (hE : ∀ c, E c → c = a ∨ h0 c = none) : Old a h0 h' := fun c hc hn => by
  have g := O c hc hn
  have hEc : ¬ E c := fun z => by
    rcases hE c z with d | d
    · exact hc d
    · exact hn d
  rw [hs c hEc (by rw [g]; exact hn)]
  exact g
theorem Zin.new (O : Old a h0 h) (hE : ∀ c, E c → h c ≠ none) (hf : ∀ c, S c → h c = none ∧ h' c ≠ none) : Zin a h0 E S h' (zs h t Z) t := fun c hc => ⟨fun z => hE c z (hf c hc).1, (hf c hc).2, zs_new (hf c hc).1, O.new (hf c hc).1⟩
theorem Zin.old (H : Zin a h0 E S h Z t) (hs : BStp E h h') : Zin a h0 E S h' (zs h t' Z) t := fun c hc => by
  obtain ⟨g1, g2, g3, g4⟩ := H c hc
  exact ⟨g1, by rw [hs c g1 g2]; exact g2, (zs_old g2).trans g3, g4⟩
theorem At.stp (hP : At o ca A h b q p) (H : Zin a h0 E (ft A b q) h Z t) (hs : BStp E h h') : At o ca A h' b q p := hP.keepF (fun c hc => hs c (H c hc).1 (H c hc).2.1)
/-- an object is born and its address is written down -/
theorem born.on (hb : h b = none) (hB : born A (hset h b x) h2 b q) (c : Nat) (hc : h c ≠ none) : h2 c = h c := by
  have hne : c ≠ b := fun z => hc (by rw [z]; exact hb)
  cases e : h c with
  | none => exact absurd e hc
  | some v => exact hB.2 c v hne (by rw [hset_n hne]; exact e)
theorem NO (hE : ∀ c, E c → h c ≠ none) (hw : E w) (hb : h b = none) (hP : At o ca A h2 b q p) (hB : born A (hset h b x) h2 b q) : At o ca A (hset h2 w y) b q p ∧ (∀ c, ft A b q c → h c = none ∧ hset h2 w y c ≠ none) ∧ BStp E h (hset h2 w y) ∧ (∀ c, E c → c ≠ w → hset h2 w y c = h c) ∧ hset h2 w y w = some y := by
  have fr : ∀ c, ft A b q c → h c = none := fun c hc => by
    rcases hc with e | ⟨k, hk, e⟩
    · rw [e]; exact hb
    · have g := hB.1 k hk
      by_cases d : q k = b
      · rw [e, d]; exact hb
      · rw [hset_n d] at g
        rw [e]; exact g
  have nw : ∀ c, ft A b q c → c ≠ w := fun c hc z => hE w hw (by rw [← z]; exact fr c hc)
  have hP2 : At o ca A (hset h2 w y) b q p := hP.keepF (fun c hc => hset_n (nw c hc))
  exact ⟨hP2, fun c hc => ⟨fr c hc, hP2.someN hc⟩, fun c hc hn => by
    have d : c ≠ w := fun z => hc (by rw [z]; exact hw)
    rw [hset_n d]
    exact born.on hb hB c hn, fun c hc hn => by
    rw [hset_n hn]
    exact born.on hb hB c (hE c hc), hset_s _ _ _⟩
end ZST
/-- the score at the beginning -/
def P00 : Nat → OS := fun _ => oU (oU zOS 9 1) 10 62
def p00 : OS := metP zOS 0 4 4
theorem part00 : partOK (oU (oU zOS 9 1) 10 62) := by
  refine timOK.part ⟨by unfold pN; decide, by unfold pZ; decide, fun i hi => absurd hi (by show ¬ ((i : Int) < 0); omega), rfl, fun i a b => absurd b (by show ¬ (i < 0); omega), by decide⟩ (fun i a b => absurd b (by show ¬ (i < 0); omega))
theorem sco00 : scoOK P00 := fun _ _ => part00
theorem evs00 : evs P00 = 0 := rfl
theorem rng00 {b v : Int} (hb : isBar b) : rng (fun _ => 0) 0 24 v b = v := if_pos hb
theorem cal00 : calOK p00 := by
  have e0 : ∀ b : Int, isBar b → p00.2 0 b = 4 := fun b hb => rng00 hb
  have e1 : ∀ b : Int, isBar b → p00.2 1 b = 4 := fun b hb => rng00 hb
  have e2 : ∀ b : Int, isBar b → p00.2 2 b = 64 := fun b hb => rng00 hb
  have e3 : ∀ b : Int, p00.2 3 b = 0 := fun b => rfl
  have hL : lenZ (p00.2 2) := fun i a c => by rw [e2 i ⟨a, c⟩]; decide
  have hs := lenZ_sum hL 24 (by omega)
  refine ⟨⟨hL, ?_, fun b hb => by rw [e0 b hb, e1 b hb, e3 b]; decide⟩, rfl, fun b hb => by rw [e0 b hb, e1 b hb, e2 b hb]; rfl⟩
  show 0 ≤ sumN (p00.2 2) 24 ∧ sumN (p00.2 2) 24 ≤ 20000
  omega
theorem Desk.keepF {G : jG} {h h' : jH} {a : Nat} {d : DA} {s : DS} (hD : Desk G h a d s) (hd : ∀ c, FtD a d c → h' c = h c) : Desk G h' a d s := by
  obtain ⟨h0, h1, h2, h3, h4, h5, h6, h7⟩ := hD
  refine ⟨(hd a (Or.inl rfl)).trans h0, h1.keep (S := fun b => h' b ≠ h b) (fun _ hb => Classical.not_not.mp hb) (fun b hb c => c (hd b (Or.inr (Or.inl hb)))), ?_, ?_, ?_, ?_, ?_, ?_⟩
  · exact h2.keepF (fun b hb => hd b (Or.inr (Or.inr (Or.inl hb))))
  · exact h3.keepF (fun b hb => hd b (Or.inr (Or.inr (Or.inr (Or.inl hb)))))
  · exact h4.keepF (fun b hb => hd b (Or.inr (Or.inr (Or.inr (Or.inr (Or.inl hb))))))
  · exact h5.keepF (fun b hb => hd b (Or.inr (Or.inr (Or.inr (Or.inr (Or.inr (Or.inl hb)))))))
  · exact h6.keepF (fun b hb => hd b (Or.inr (Or.inr (Or.inr (Or.inr (Or.inr (Or.inr (Or.inl hb))))))))
  · exact h7.keepF (fun b hb => hd b (Or.inr (Or.inr (Or.inr (Or.inr (Or.inr (Or.inr (Or.inr hb))))))))
theorem Desk.someN {G : jG} {h : jH} {a : Nat} {d : DA} {s : DS} (hD : Desk G h a d s) {b : Nat} (hb : FtD a d b) : h b ≠ none := by
  obtain ⟨h0, ⟨⟨F, h1, -⟩, h1'⟩, h2, h3, h4, h5, h6, h7⟩ := hD
  rcases hb with e | (e | ⟨k, hk, e⟩) | e | e | e | e | e | e
  · rw [e, h0]; exact fun z => by cases z
  · rw [e, h1]; exact fun z => by cases z
  · exact (h1' k hk).someN e
  · exact h2.someN e
  · exact h3.someN e
  · exact h4.someN e
  · exact h5.someN e
  · exact h6.someN e
  · exact h7.someN e
