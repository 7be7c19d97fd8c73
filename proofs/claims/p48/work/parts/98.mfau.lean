/-! faults: as the law asks -/
def FOK (t : Int) (x : Int × Int × Int) : Prop := x.2.1 = t ∧ (0 ≤ x.1 ∧ x.1 ≤ 4) ∧ (x.1 < 3 → pq6 x.2.2) ∧ (3 ≤ x.1 → 0 ≤ x.2.2 ∧ x.2.2 ≤ 3)
theorem FOK.a {t k c : Int} (hk : k = 0 ∨ k = 1 ∨ k = 2) (hc : pq6 c) : FOK t (k, t, c) := ⟨rfl, show 0 ≤ k ∧ k ≤ 4 by omega, fun _ => hc, fun z => absurd (show 3 ≤ k from z) (by omega)⟩
theorem FOK.b {t k c : Int} (hk : k = 3 ∨ k = 4) (hc : 0 ≤ c ∧ c ≤ 3) : FOK t (k, t, c) := ⟨rfl, show 0 ≤ k ∧ k ≤ 4 by omega, fun z => absurd (show k < 3 from z) (by omega), fun _ => hc⟩
theorem prs_all {g : Int → Int → FL} {Q : Int × Int × Int → Prop} (h : ∀ i j : Int, pq6 (4 * i + j) → ∀ x ∈ g i j, Q x) : ∀ x ∈ prsL g, Q x := by
  intro x hx
  unfold prsL at hx
  simp only [List.mem_append] at hx
  rcases hx with e | e | e | e | e | e
  · exact h 0 1 (by unfold pq6; decide) x e
  · exact h 0 2 (by unfold pq6; decide) x e
  · exact h 0 3 (by unfold pq6; decide) x e
  · exact h 1 2 (by unfold pq6; decide) x e
  · exact h 1 3 (by unfold pq6; decide) x e
  · exact h 2 3 (by unfold pq6; decide) x e
theorem par_all {A H W : Int → Int} {t i j : Int} (hp : pq6 (4 * i + j)) : ∀ x ∈ parL A H W t i j, FOK t x := by
  intro x hx
  unfold parL at hx
  split at hx
  · split at hx
    · obtain rfl := List.mem_singleton.mp hx
      exact FOK.a (by omega) hp
    · split at hx
      · obtain rfl := List.mem_singleton.mp hx
        exact FOK.a (by omega) hp
      · exact absurd hx List.not_mem_nil
  · exact absurd hx List.not_mem_nil
theorem crs_all {H B : Int → Int} {t i j : Int} (hp : pq6 (4 * i + j)) : ∀ x ∈ crsL H B t i j, FOK t x := by
  intro x hx
  unfold crsL at hx
  split at hx
  · obtain rfl := List.mem_singleton.mp hx
    exact FOK.a (by omega) hp
  · exact absurd hx List.not_mem_nil
theorem nte_all {P : Nat → OS} {m k : Nat} (hk : k < 4) : ∀ x ∈ nteM P m k, FOK (momT P m) x := by
  intro x hx
  unfold nteM at hx
  split at hx
  · rename_i c
    have hb : bgE (P k) (evM P m k) = momT P m := by
      unfold bgM at c
      rw [Int.toNat_natCast] at c
      split at c
      · rename_i d
        show (if inP (P k) (evM P m k) then (P k).2 3 (evM P m k) else (P k).1 8) = momT P m
        rw [if_pos d.1.1]
        exact d.2
      · exact absurd rfl c
    unfold nteL at hx
    rw [hb] at hx
    rcases List.mem_append.mp hx with hx | hx
    · split at hx
      · obtain rfl := List.mem_singleton.mp hx
        exact FOK.b (by omega) (by omega)
      · exact absurd hx List.not_mem_nil
    · split at hx
      · obtain rfl := List.mem_singleton.mp hx
        exact FOK.b (by omega) (by omega)
      · exact absurd hx List.not_mem_nil
  · exact absurd hx List.not_mem_nil
theorem fauAt_all (P : Nat → OS) (m : Nat) : ∀ x ∈ fauAt P m, FOK (momT P m) x := by
  intro x hx
  unfold fauAt at hx
  simp only [List.mem_append] at hx
  rcases hx with e | e | e | e | e | e
  · exact prs_all (fun i j hp => par_all hp) x e
  · exact prs_all (fun i j hp => crs_all hp) x e
  · exact nte_all (k := 0) (by omega) x e
  · exact nte_all (k := 1) (by omega) x e
  · exact nte_all (k := 2) (by omega) x e
  · exact nte_all (k := 3) (by omega) x e
theorem fauL_all (P : Nat → OS) : ∀ n : Nat, ∀ x ∈ fauL P n, ∃ m : Nat, m < n ∧ FOK (momT P m) x
  | 0, x, hx => absurd hx List.not_mem_nil
  | n + 1, x, hx => by
    unfold fauL at hx
    rcases List.mem_append.mp hx with e | e
    · obtain ⟨m, h1, h2⟩ := fauL_all P n x e
      exact ⟨m, by omega, h2⟩
    · exact ⟨n, by omega, fauAt_all P n x e⟩
theorem pw_same {t : Int} : ∀ l : FL, (∀ x ∈ l, x.2.1 = t) → l.Pairwise (fun x y => x.2.1 ≤ y.2.1)
  | [], _ => List.Pairwise.nil
  | a :: l, h => List.pairwise_cons.mpr ⟨fun y hy => by rw [h a List.mem_cons_self, h y (List.mem_cons_of_mem _ hy)]; exact Int.le_refl _, pw_same l (fun x hx => h x (List.mem_cons_of_mem _ hx))⟩
theorem fauL_pw {P : Nat → OS} (hs : scoOK P) : ∀ n : Nat, n ≤ cntM P → (fauL P n).Pairwise (fun x y => x.2.1 ≤ y.2.1)
  | 0, _ => List.Pairwise.nil
  | n + 1, hn => by
    unfold fauL
    refine List.pairwise_append.mpr ⟨fauL_pw hs n (by omega), pw_same (t := momT P n) _ (fun x hx => (fauAt_all P n x hx).1), fun x hx y hy => ?_⟩
    obtain ⟨m, h1, h2⟩ := fauL_all P n x hx
    rw [h2.1, (fauAt_all P n y hy).1]
    exact Int.le_of_lt (mom_mono hs n m h1 (by omega))
theorem sd_fau {P : Nat → OS} (hs : scoOK P) (he : evs P ≤ 512) : FauLs P := by
  have hE : ∀ (m : Nat) (hm : m < (fauA P).length), fauE P m = (fauA P)[m] := fun m hm => by
    show (fauA P)[m]?.getD (0, 0, 0) = _
    rw [List.getElem?_eq_getElem hm]
    rfl
  refine ⟨fauA_len hs he, fun m hm => ?_, fun i j hij hj => ?_⟩
  · rw [hE m hm]
    obtain ⟨k, h1, h2, h3, h4, h5⟩ := fauL_all P (cntM P) _ (List.getElem_mem hm)
    have a := momT_rg hs k
    have b := cntM_pos h1
    have h2' : ((fauA P)[m]).2.1 = momT P k := h2
    exact ⟨h3, by rw [h2']; omega, h4, h5⟩
  · rw [hE i (by omega), hE j hj]
    exact List.pairwise_iff_getElem.mp (show (fauA P).Pairwise (fun x y => x.2.1 ≤ y.2.1) from fauL_pw hs (cntM P) (Nat.le_refl _)) i j (by omega) hj hij
