theorem fau_rg {P : Nat → OS} (hs : scoOK P) : ∀ (m : Nat), ∀ x ∈ fauL P m, rg x.1 ∧ rg x.2.1 ∧ rg x.2.2
  | 0, x, h => by cases h
  | m + 1, x, h => by
    have e : fauL P (m + 1) = fauL P m ++ fauAt P m := rfl
    rw [e, List.mem_append] at h
    rcases h with h | h
    · exact fau_rg hs m x h
    · have ht := momT_rg hs m
      have hp : ∀ (i j : Int), 0 ≤ i → i < 4 → 0 ≤ j → j < 4 → ∀ y ∈ parL (hiA P m) (hiM P m) (wyM P m) (momT P m) i j, rg y.1 ∧ rg y.2.1 ∧ rg y.2.2 := by
        intro i j _ _ _ _ y hy
        unfold parL at hy
        split at hy
        · split at hy
          · rw [List.mem_singleton] at hy; subst hy; dsimp only; omega
          · split at hy
            · rw [List.mem_singleton] at hy; subst hy; dsimp only; omega
            · cases hy
        · cases hy
      have hc : ∀ (i j : Int), 0 ≤ i → i < 4 → 0 ≤ j → j < 4 → ∀ y ∈ crsL (hiM P m) (bgM P m) (momT P m) i j, rg y.1 ∧ rg y.2.1 ∧ rg y.2.2 := by
        intro i j _ _ _ _ y hy
        unfold crsL at hy
        split at hy
        · rw [List.mem_singleton] at hy; subst hy; dsimp only; omega
        · cases hy
      have hpr : ∀ (g : Int → Int → FL), (∀ (i j : Int), 0 ≤ i → i < 4 → 0 ≤ j → j < 4 → ∀ y ∈ g i j, rg y.1 ∧ rg y.2.1 ∧ rg y.2.2) → ∀ y ∈ prsL g, rg y.1 ∧ rg y.2.1 ∧ rg y.2.2 := by
        intro g hg y hy
        unfold prsL at hy
        simp only [List.mem_append] at hy
        rcases hy with hy | hy | hy | hy | hy | hy
        · exact hg 0 1 (by omega) (by omega) (by omega) (by omega) y hy
        · exact hg 0 2 (by omega) (by omega) (by omega) (by omega) y hy
        · exact hg 0 3 (by omega) (by omega) (by omega) (by omega) y hy
        · exact hg 1 2 (by omega) (by omega) (by omega) (by omega) y hy
        · exact hg 1 3 (by omega) (by omega) (by omega) (by omega) y hy
        · exact hg 2 3 (by omega) (by omega) (by omega) (by omega) y hy
      have hn : ∀ k : Nat, k < 4 → ∀ y ∈ nteM P m k, rg y.1 ∧ rg y.2.1 ∧ rg y.2.2 := by
        intro k hk y hy
        have hb : rg (bgE (P k) (evM P m k)) := by
          have h8 := (hs k hk).2.2.1.1
          unfold bgE
          split
          · rename_i c
            have := ((hs k hk).2.1 _ c.1 c.2).2.2.2.1
            omega
          · omega
        unfold nteM at hy
        split at hy
        · unfold nteL at hy
          rw [List.mem_append] at hy
          rcases hy with hy | hy
          · split at hy
            · rw [List.mem_singleton] at hy; subst hy; exact ⟨by dsimp only; omega, hb, by dsimp only; omega⟩
            · cases hy
          · split at hy
            · rw [List.mem_singleton] at hy; subst hy; exact ⟨by dsimp only; omega, hb, by dsimp only; omega⟩
            · cases hy
        · cases hy
      unfold fauAt at h
      simp only [List.mem_append] at h
      rcases h with h | h | h | h | h | h
      · exact hpr _ hp x h
      · exact hpr _ hc x h
      · exact hn 0 (by omega) x h
      · exact hn 1 (by omega) x h
      · exact hn 2 (by omega) x h
      · exact hn 3 (by omega) x h
theorem fauA_rg {P : Nat → OS} (hs : scoOK P) (i : Nat) : rg ((fauA P)[i]?.getD (0, 0, 0)).1 ∧ rg ((fauA P)[i]?.getD (0, 0, 0)).2.1 ∧ rg ((fauA P)[i]?.getD (0, 0, 0)).2.2 := by
  by_cases c : i < (fauA P).length
  · rw [List.getElem?_eq_getElem c]
    exact fau_rg hs (cntM P) _ (List.getElem_mem c)
  · rw [List.getElem?_eq_none (by omega)]
    exact ⟨by show rg 0; omega, by show rg 0; omega, by show rg 0; omega⟩
theorem numL_c {nx : Int → Int} {s : Int} {F : Int → Int} : ∀ k : Nat, 0 ≤ (numL nx s F k).1 ∧ (numL nx s F k).1 ≤ k
  | 0 => ⟨Int.le_refl _, Int.le_refl _⟩
  | k + 1 => by
    have ih := numL_c (nx := nx) (s := s) (F := F) k
    rw [numL_s]
    generalize numL nx s F k = r at *
    dsimp only
    split
    · show 0 ≤ r.1 ∧ r.1 ≤ ((k + 1 : Nat) : Int); omega
    · split
      · show 0 ≤ r.1 + 1 ∧ r.1 + 1 ≤ ((k + 1 : Nat) : Int); omega
      · show 0 ≤ r.1 ∧ r.1 ≤ ((k + 1 : Nat) : Int); omega
theorem lnP_rg {P : Nat → OS} {p0 : OS} (h : calOK p0) {w : Int} (hw : 10 ≤ w ∧ w ≤ 400) : rg ((lnP P p0 (barsA P p0) w).1 4) ∧ rg ((lnP P p0 (barsA P p0) w).2 1 0) := by
  have hb := barsA_rg P p0
  have h1 := numL_c (nx := (dpP (oA zOS 0 (widF P p0)) (barsA P p0) w (barsA P p0).toNat).2 2) (s := barsA P p0) (F := (dpP (oA zOS 0 (widF P p0)) (barsA P p0) w (barsA P p0).toNat).2 3) 24
  have h2 := dpP_c (oA zOS 0 (widF P p0)) hw (s := barsA P p0) (widF_Z h.1) hb.2 (barsA P p0).toNat (by omega) 0 (by omega) (by omega)
  constructor
  · show rg (numL _ _ _ 24).1
    omega
  · show rg ((dpP (oA zOS 0 (widF P p0)) (barsA P p0) w (barsA P p0).toNat).2 1 0)
    omega
theorem hiM_rg {P : Nat → OS} (hs : scoOK P) (m k : Nat) (hk : k < 4) : -1 ≤ hiM P m k ∧ hiM P m k ≤ 200 := by
  unfold hiM
  simp only [Int.toNat_natCast]
  split
  · rename_i c
    exact ((hs k hk).2.1 _ c.1 c.2).2.2.1
  · omega
set_option maxRecDepth 100000 in
theorem c_X9_mixFaults {l : Launch} {G : jG} {h : jH} {a : Nat} {d : DA} {s : DS} {Z : Nat → Nat} {x : Int} (hD : Desk G h a d s) (hI : DI s) (hZ : Dz a d Z) (h8 : s.2.2 8 = 1) : jC l G yX9_mixFaults mX9_mixFaults [.ref a, vL x] h (jE (.inl (some (vL (mixL x (faL s.1))))) h) := by
  have hL : LstAt (s.2.1 2) (fauA s.1) := hI.fau (by omega)
  have hle := fauA_len hI.1 hI.2.1
  have hl1 := hL.1
  have loop : ∀ (n i : Nat), i + n = (fauA s.1).length → J l G mX9_mixFaults (jQ G mX9_mixFaults (jE (.inl (some (vL (mixL x (faL s.1))))) h)) 0 0 15 [(3, vI (i : Int)), (1, vL (mixL x ([((fauA s.1).length : Int)] ++ rpt (faL1 s.1) i))), (0, .ref a)] [] h := by
    intro n
    induction n with
    | zero =>
      intro i hi
      obtain rfl : i = (fauA s.1).length := by omega
      refine j_iload_n 3 dX9_mixFaults_15 rfl rfl ?_
      refine j_aload_n 0 dX9_mixFaults_16 rfl rfl ?_
      refine j_get fX9_47 dX9_mixFaults_17 hD.1 rfl ?_
      refine J_callV1 kX9_253 cvX2_size (hD.2.2.2.2.1).1 (c_X2_size (hD.2.2.2.2.1)) rfl rfl rfl rfl rfl dX9_mixFaults_20 rfl rfl ?_
      refine J_top (((fauA s.1).length : Int)) ?_ (by exact hl1)
      refine J_icmp_ge 74 dX9_mixFaults_23 (by decide) (fun c23 => ?_) (fun c23 => absurd c23 (by omega)) 
      refine j_lload_n 1 dX9_mixFaults_74 rfl rfl ?_
      refine j_lret rfl dX9_mixFaults_75 ?_
      exact ⟨rfl, rfl⟩
    | succ n ih =>
      intro i hi
      have g := ih (i + 1) (by omega)
      rw [rpt_s, ← List.append_assoc, mixL_app] at g
      have hg := hL.get (m := (i : Int)) (by omega) (by omega)
      rw [Int.toNat_natCast] at hg
      have hr := fauA_rg hI.1 i
      refine j_iload_n 3 dX9_mixFaults_15 rfl rfl ?_
      refine j_aload_n 0 dX9_mixFaults_16 rfl rfl ?_
      refine j_get fX9_47 dX9_mixFaults_17 hD.1 rfl ?_
      refine J_callV1 kX9_253 cvX2_size (hD.2.2.2.2.1).1 (c_X2_size (hD.2.2.2.2.1)) rfl rfl rfl rfl rfl dX9_mixFaults_20 rfl rfl ?_
      refine J_top (((fauA s.1).length : Int)) ?_ (by exact hl1)
      refine J_icmp_ge 74 dX9_mixFaults_23 (by decide) (fun c23 => absurd c23 (by omega)) (fun c23 => ?_) 
      refine j_lload_n 1 dX9_mixFaults_26 rfl rfl ?_
      refine j_aload_n 0 dX9_mixFaults_27 rfl rfl ?_
      refine j_get fX9_47 dX9_mixFaults_28 hD.1 rfl ?_
      refine j_iload_n 3 dX9_mixFaults_31 rfl rfl ?_
      refine J_callV1 kX9_257 cvX2_kindAt (hD.2.2.2.2.1).1 (c_X2_kindAt (hD.2.2.2.2.1) hI.2.2.2.2.1.1 (by omega)) rfl rfl rfl rfl rfl dX9_mixFaults_32 rfl rfl ?_
      refine J_top (((fauA s.1)[i]?.getD (0, 0, 0)).1) ?_ (by rw [if_pos (by omega)]; exact hg.1)
      refine J_i2l dX9_mixFaults_35 ?_ hr.1
      refine J_callS1 kX9_325 csX9_mix c_X9_mix rfl rfl rfl rfl rfl dX9_mixFaults_36 rfl rfl ?_
      refine j_lstore_n 1 (L' := [(1, _), (3, _), (0, _)]) dX9_mixFaults_39 rfl rfl rfl ?_
      refine j_lload_n 1 dX9_mixFaults_40 rfl rfl ?_
      refine j_aload_n 0 dX9_mixFaults_41 rfl rfl ?_
      refine j_get fX9_47 dX9_mixFaults_42 hD.1 rfl ?_
      refine j_iload_n 3 dX9_mixFaults_45 rfl rfl ?_
      refine J_callV1 kX9_260 cvX2_tickAt (hD.2.2.2.2.1).1 (c_X2_tickAt (hD.2.2.2.2.1) hI.2.2.2.2.1.1 (by omega)) rfl rfl rfl rfl rfl dX9_mixFaults_46 rfl rfl ?_
      refine J_top (((fauA s.1)[i]?.getD (0, 0, 0)).2.1) ?_ (by rw [if_pos (by omega)]; exact hg.2.1)
      refine J_i2l dX9_mixFaults_49 ?_ hr.2.1
      refine J_callS1 kX9_325 csX9_mix c_X9_mix rfl rfl rfl rfl rfl dX9_mixFaults_50 rfl rfl ?_
      refine j_lstore_n 1 (L' := [(1, _), (3, _), (0, _)]) dX9_mixFaults_53 rfl rfl rfl ?_
      refine j_lload_n 1 dX9_mixFaults_54 rfl rfl ?_
      refine j_aload_n 0 dX9_mixFaults_55 rfl rfl ?_
      refine j_get fX9_47 dX9_mixFaults_56 hD.1 rfl ?_
      refine j_iload_n 3 dX9_mixFaults_59 rfl rfl ?_
      refine J_callV1 kX9_261 cvX2_partsAt (hD.2.2.2.2.1).1 (c_X2_partsAt (hD.2.2.2.2.1) hI.2.2.2.2.1.1 (by omega)) rfl rfl rfl rfl rfl dX9_mixFaults_60 rfl rfl ?_
      refine J_top (((fauA s.1)[i]?.getD (0, 0, 0)).2.2) ?_ (by rw [if_pos (by omega)]; exact hg.2.2)
      refine J_i2l dX9_mixFaults_63 ?_ hr.2.2
      refine J_callS1 kX9_325 csX9_mix c_X9_mix rfl rfl rfl rfl rfl dX9_mixFaults_64 rfl rfl ?_
      refine j_lstore_n 1 (L' := [(1, _), (3, _), (0, _)]) dX9_mixFaults_67 rfl rfl rfl ?_
      refine J_iinc (L' := [(3, _), (1, _), (0, _)]) dX9_mixFaults_68 rfl rfl rfl ?_
      refine j_goto 15 dX9_mixFaults_71 (by decide) ?_
      exact j_locR g (by repeat' (first | exact True.intro | refine And.intro rfl ?_))
  refine j_body (by decide +kernel) ⟨rfl, rfl⟩ rfl ?_
  refine j_lload_n 1 dX9_mixFaults_0 rfl rfl ?_
  refine j_aload_n 0 dX9_mixFaults_1 rfl rfl ?_
  refine j_get fX9_47 dX9_mixFaults_2 hD.1 rfl ?_
  refine J_callV1 kX9_253 cvX2_size (hD.2.2.2.2.1).1 (c_X2_size (hD.2.2.2.2.1)) rfl rfl rfl rfl rfl dX9_mixFaults_5 rfl rfl ?_
  refine J_top (((fauA s.1).length : Int)) ?_ (by exact hl1)
  refine J_i2l dX9_mixFaults_8 ?_ 
  refine J_callS1 kX9_325 csX9_mix c_X9_mix rfl rfl rfl rfl rfl dX9_mixFaults_9 rfl rfl ?_
  refine j_lstore_n 1 (L' := [(1, _), (0, _)]) dX9_mixFaults_12 rfl rfl rfl ?_
  refine J_iconst dX9_mixFaults_13 ?_
  refine j_istore_n 3 (L' := [(3, _), (1, _), (0, _)]) dX9_mixFaults_14 rfl rfl rfl ?_
  exact j_locR (loop (fauA s.1).length 0 (by omega)) (by repeat' (first | exact True.intro | refine And.intro rfl ?_))
set_option maxRecDepth 100000 in
theorem c_X9_mixLines {l : Launch} {G : jG} {h : jH} {a : Nat} {d : DA} {s : DS} {Z : Nat → Nat} {x w : Int} (hD : Desk G h a d s) (hI : DI s) (hZ : Dz a d Z) (hw : 10 ≤ w ∧ w ≤ 400) (h9 : s.2.2 9 = 1) : jC l G yX9_mixLines mX9_mixLines [.ref a, vL x, vI w] h (jW (.inl (some (vL (mixL x (lnL s.1 (s.2.1 0) w))))) (DP G a d s h (fun s' => ∀ j, s'.2.2 j = s.2.2 j))) := by
  refine j_body (by decide +kernel) ⟨rfl, rfl⟩ rfl ?_
  have hr := lnP_rg (P := s.1) hI.2.2.1 hw
  refine j_aload_n 0 dX9_mixLines_0 rfl rfl ?_
  refine j_iload_n 3 dX9_mixLines_1 rfl rfl ?_
  refine J_callVW0 kX9_289 cvX9_breakLines hD.1 (c_X9_breakLines hD hI hZ hw h9) rfl rfl rfl rfl rfl dX9_mixLines_2 rfl rfl (fun h hp => ?_)
  obtain ⟨s2, hD, hI, g1, g2, ⟨g3, g4⟩, hF⟩ := hp
  refine j_lload_n 1 dX9_mixLines_5 rfl rfl ?_
  refine j_aload_n 0 dX9_mixLines_6 rfl rfl ?_
  refine j_get fX9_54 dX9_mixLines_7 hD.1 rfl ?_
  refine J_callV1 kX9_292 cvX4_size (hD.2.2.2.2.2.2.1).1 (c_X4_size (hD.2.2.2.2.2.2.1)) rfl rfl rfl rfl rfl dX9_mixLines_10 rfl rfl ?_
  refine J_top ((lnP s.1 (s.2.1 0) (barsA s.1 (s.2.1 0)) w).1 4) ?_ (by exact g4.1)
  refine J_i2l dX9_mixLines_13 ?_ hr.1
  refine J_callS1 kX9_325 csX9_mix c_X9_mix rfl rfl rfl rfl rfl dX9_mixLines_14 rfl rfl ?_
  refine j_lstore_n 1 (L' := [(1, _), (0, _), (3, _)]) dX9_mixLines_17 rfl rfl rfl ?_
  refine j_lload_n 1 dX9_mixLines_18 rfl rfl ?_
  refine j_aload_n 0 dX9_mixLines_19 rfl rfl ?_
  refine j_get fX9_54 dX9_mixLines_20 hD.1 rfl ?_
  refine J_callV1 kX9_296 cvX4_leastCost (hD.2.2.2.2.2.2.1).1 (c_X4_leastCost (hD.2.2.2.2.2.2.1)) rfl rfl rfl rfl rfl dX9_mixLines_23 rfl rfl ?_
  refine J_top ((lnP s.1 (s.2.1 0) (barsA s.1 (s.2.1 0)) w).2 1 0) ?_ (by exact g4.2.1)
  refine J_i2l dX9_mixLines_26 ?_ hr.2
  refine J_callS1 kX9_325 csX9_mix c_X9_mix rfl rfl rfl rfl rfl dX9_mixLines_27 rfl rfl ?_
  refine j_lret rfl dX9_mixLines_30 ?_
  exact ⟨rfl, s2, hD, hI, g1, g2, g3, hF⟩
set_option maxRecDepth 100000 in
theorem c_X9_mixMoments {l : Launch} {G : jG} {h : jH} {a : Nat} {d : DA} {s : DS} {Z : Nat → Nat} {x : Int} (hD : Desk G h a d s) (hI : DI s) (hZ : Dz a d Z) (h7 : s.2.2 7 = 1) : jC l G yX9_mixMoments mX9_mixMoments [.ref a, vL x] h (jW (.inl (some (vL (mixL x (moL s.1))))) (DP G a d s h (fun s' => ∀ j, s'.2.2 j = s.2.2 j))) := by
  have hcl := cntM_le s.1
  have hsc := hI.1
  have hF : Fr (FtD a d) h h := Fr.rf
  have loop : ∀ (n m : Nat) (s2 : DS) (h2 : jH), m + n = cntM s.1 → Desk G h2 a d s2 → DI s2 → s2.1 = s.1 → s2.2.1 0 = (s.2.1 0) → (∀ j, s2.2.2 j = s.2.2 j) → Fr (FtD a d) h h2 → J l G mX9_mixMoments (jQ G mX9_mixMoments (jW (.inl (some (vL (mixL x (moL s.1))))) (DP G a d s h (fun s' => ∀ j, s'.2.2 j = s.2.2 j)))) 0 0 15 [(3, vI (m : Int)), (1, vL (mixL x ([(cntM s.1 : Int)] ++ rpt (moL1 s.1) m))), (0, .ref a)] [] h2 := by
    intro n
    induction n with
    | zero =>
      intro m s2 h2 hm hD hI q1 q2 q3 hF
      obtain rfl : m = cntM s.1 := by omega
      have hH := hI.har (by rw [q3 7, h7]; decide)
      rw [q1] at hH
      refine j_iload_n 3 dX9_mixMoments_15 rfl rfl ?_
      refine j_aload_n 0 dX9_mixMoments_16 rfl rfl ?_
      refine j_get fX9_33 dX9_mixMoments_17 hD.1 rfl ?_
      refine J_callV1 kX9_228 cvX3_size (hD.2.2.2.2.2.1).1 (c_X3_size (hD.2.2.2.2.2.1)) rfl rfl rfl rfl rfl dX9_mixMoments_20 rfl rfl ?_
      refine J_top ((cntM s.1 : Int)) ?_ (by exact hH.1)
      refine J_icmp_ge 131 dX9_mixMoments_23 (by decide) (fun c23 => ?_) (fun c23 => absurd c23 (by omega)) 
      refine j_lload_n 1 dX9_mixMoments_131 rfl rfl ?_
      refine j_lret rfl dX9_mixMoments_132 ?_
      exact ⟨rfl, s2, hD, hI, q1, q2, q3, hF⟩
    | succ n ih =>
      intro m s2 h2 hm hD hI q1 q2 q3 hF
      have hH := hI.har (by rw [q3 7, h7]; decide)
      rw [q1] at hH
      have g := ih (m + 1)
      rw [rpt_s, ← List.append_assoc, mixL_app] at g
      obtain ⟨y, hy⟩ : ∃ y, y = mixL x ([(cntM s.1 : Int)] ++ rpt (moL1 s.1) m) := ⟨_, rfl⟩
      rw [← hy] at g
      have hcr := chd_rg (P := s.1) (m := m)
      have hmr := momT_rg hsc m
      have K85 : J l G mX9_mixMoments (jQ G mX9_mixMoments (jW (.inl (some (vL (mixL x (moL s.1))))) (DP G a d s h (fun s' => ∀ j, s'.2.2 j = s.2.2 j)))) 0 0 85 [(4, vI (4 : Nat)), (1, vL (mixL y ([momT s.1 m] ++ rpt (fun k => [hiM s.1 m k]) 4))), (3, vI (m : Int)), (0, .ref a)] [] h2 := by
        have gch := c_X9_chordAt (l := l) (m := m) hD hI hZ (by rw [q3 7, h7]) (by rw [q1]; omega)
        refine j_aload_n 0 dX9_mixMoments_85 rfl rfl ?_
        refine j_iload_n 3 dX9_mixMoments_86 rfl rfl ?_
        refine J_callVW1 kX9_237 cvX9_chordAt hD.1 gch rfl rfl rfl rfl rfl dX9_mixMoments_87 rfl rfl (fun h hp => ?_)
        obtain ⟨s3, hD, hI, e1, e2, ⟨e3, e4⟩, hF9⟩ := hp
        have hF := hF.tr hF9
        rw [q1] at e4
        refine j_astore (L' := [(4, _), (1, _), (3, _), (0, _)]) dX9_mixMoments_90 rfl rfl ?_
        refine j_lload_n 1 dX9_mixMoments_92 rfl rfl ?_
        refine j_aload dX9_mixMoments_93 rfl ?_
        refine J_callV1 kX9_241 cvX1_rootClass (hD.2.2.2.1).1 (c_X1_rootClass (hD.2.2.2.1)) rfl rfl rfl rfl rfl dX9_mixMoments_95 rfl rfl ?_
        refine J_top ((chdF s.1 m).1 0) ?_ (by exact e4.1)
        refine J_i2l dX9_mixMoments_98 ?_ 
        refine J_callS1 kX9_325 csX9_mix c_X9_mix rfl rfl rfl rfl rfl dX9_mixMoments_99 rfl rfl ?_
        refine j_lstore_n 1 (L' := [(1, _), (4, _), (3, _), (0, _)]) dX9_mixMoments_102 rfl rfl rfl ?_
        refine j_lload_n 1 dX9_mixMoments_103 rfl rfl ?_
        refine j_aload dX9_mixMoments_104 rfl ?_
        refine J_callV1 kX9_244 cvX1_kindNumber (hD.2.2.2.1).1 (c_X1_kindNumber (hD.2.2.2.1)) rfl rfl rfl rfl rfl dX9_mixMoments_106 rfl rfl ?_
        refine J_top ((chdF s.1 m).1 1) ?_ (by exact e4.2.1)
        refine J_i2l dX9_mixMoments_109 ?_ 
        refine J_callS1 kX9_325 csX9_mix c_X9_mix rfl rfl rfl rfl rfl dX9_mixMoments_110 rfl rfl ?_
        refine j_lstore_n 1 (L' := [(1, _), (4, _), (3, _), (0, _)]) dX9_mixMoments_113 rfl rfl rfl ?_
        refine j_lload_n 1 dX9_mixMoments_114 rfl rfl ?_
        refine j_aload dX9_mixMoments_115 rfl ?_
        refine J_callV1 kX9_247 cvX1_lowestTone (hD.2.2.2.1).1 (c_X1_lowestTone (hD.2.2.2.1)) rfl rfl rfl rfl rfl dX9_mixMoments_117 rfl rfl ?_
        refine J_top ((chdF s.1 m).1 2) ?_ (by exact e4.2.2)
        refine J_i2l dX9_mixMoments_120 ?_ 
        refine J_callS1 kX9_325 csX9_mix c_X9_mix rfl rfl rfl rfl rfl dX9_mixMoments_121 rfl rfl ?_
        refine j_lstore_n 1 (L' := [(1, _), (4, _), (3, _), (0, _)]) dX9_mixMoments_124 rfl rfl rfl ?_
        refine J_iinc (L' := [(3, _), (1, _), (4, _), (0, _)]) dX9_mixMoments_125 rfl rfl rfl ?_
        refine j_goto 15 dX9_mixMoments_128 (by decide) ?_
        have g2 := g s3 h (by omega) hD hI (e1.trans q1) (e2.trans q2) (fun j => (e3 j).trans (q3 j)) hF
        unfold moL1 at g2
        rw [mixL_app] at g2
        exact j_locR g2 (by repeat' (first | exact True.intro | refine And.intro rfl ?_))
      have inner : ∀ (n k : Nat), k + n = 4 → J l G mX9_mixMoments (jQ G mX9_mixMoments (jW (.inl (some (vL (mixL x (moL s.1))))) (DP G a d s h (fun s' => ∀ j, s'.2.2 j = s.2.2 j)))) 0 0 43 [(4, vI (k : Int)), (1, vL (mixL y ([momT s.1 m] ++ rpt (fun k => [hiM s.1 m k]) k))), (3, vI (m : Int)), (0, .ref a)] [] h2 := by
        intro n
        induction n with
        | zero =>
          intro k hk
          obtain rfl : k = 4 := by omega
          obtain ⟨F, hpa, hF4⟩ := hD.2.1.1
          refine j_iload dX9_mixMoments_43 rfl ?_
          refine j_aload_n 0 dX9_mixMoments_45 rfl rfl ?_
          refine j_get fX9_11 dX9_mixMoments_46 hD.1 rfl ?_
          refine J_alenq 3 dX9_mixMoments_49 hpa rfl ?_
          refine J_icmp_ge 85 dX9_mixMoments_50 (by decide) (fun c50 => ?_) (fun c50 => absurd c50 (by omega)) 
          exact K85
        | succ n ih2 =>
          intro k hk
          have hk4 : k < 4 := by omega
          obtain ⟨F, hpa, hF4⟩ := hD.2.1.1
          have hPk : AtX6 G h2 (d.pad k) (d.pq k) (s.1 k) := by have g := hD.2.1.2 k hk4; rw [q1] at g; exact g
          have hev := evM_rg hsc (m := m) hk4
          have hn7 : 0 ≤ (s.1 k).1 7 ∧ (s.1 k).1 7 ≤ 512 := (hsc k hk4).1
          have hhr := hiM_rg hsc m k hk4
          have e2 := har_ev2 hH (m := (m : Int)) (k := (k : Int)) ⟨by omega, by omega⟩ ⟨by omega, by omega⟩
          rw [Int.toNat_natCast, Int.toNat_natCast] at e2
          have e3 : (if inP (s.1 k) (evM s.1 m k) then (s.1 k).2 2 (evM s.1 m k) else -1) = hiM s.1 m k := by unfold hiM; rw [Int.toNat_natCast]
          have g3 := ih2 (k + 1) (by omega)
          rw [rpt_s, ← List.append_assoc, mixL_app] at g3
          refine j_iload dX9_mixMoments_43 rfl ?_
          refine j_aload_n 0 dX9_mixMoments_45 rfl rfl ?_
          refine j_get fX9_11 dX9_mixMoments_46 hD.1 rfl ?_
          refine J_alenq 3 dX9_mixMoments_49 hpa rfl ?_
          refine J_icmp_ge 85 dX9_mixMoments_50 (by decide) (fun c50 => absurd c50 (by omega)) (fun c50 => ?_) 
          refine j_lload_n 1 dX9_mixMoments_53 rfl rfl ?_
          refine j_aload_n 0 dX9_mixMoments_54 rfl rfl ?_
          refine j_get fX9_11 dX9_mixMoments_55 hD.1 rfl ?_
          refine j_iload dX9_mixMoments_58 rfl ?_
          refine J_qald dX9_mixMoments_60 hpa (by rw [Int.toNat_natCast]; exact hF4 k hk4) ?_ 
          refine j_aload_n 0 dX9_mixMoments_61 rfl rfl ?_
          refine j_get fX9_33 dX9_mixMoments_62 hD.1 rfl ?_
          refine j_iload_n 3 dX9_mixMoments_65 rfl rfl ?_
          refine j_iload dX9_mixMoments_66 rfl ?_
          refine J_callV1 kX9_235 cvX3_eventAt (hD.2.2.2.2.2.1).1 (c_X3_eventAt (hD.2.2.2.2.2.1) (har_n hH) (by omega) (by omega)) rfl rfl rfl rfl rfl dX9_mixMoments_68 rfl rfl ?_
          refine J_top (evM s.1 m k) ?_ (by exact e2)
          refine J_callV1 kX9_119 cvX6_heightAt hPk.1 (c_X6_heightAt hPk (hsc k hk4).1 (by omega)) rfl rfl rfl rfl rfl dX9_mixMoments_71 rfl rfl ?_
          refine J_top (hiM s.1 m k) ?_ (by exact e3)
          refine J_i2l dX9_mixMoments_74 ?_ 
          refine J_callS1 kX9_325 csX9_mix c_X9_mix rfl rfl rfl rfl rfl dX9_mixMoments_75 rfl rfl ?_
          refine j_lstore_n 1 (L' := [(1, _), (4, _), (3, _), (0, _)]) dX9_mixMoments_78 rfl rfl rfl ?_
          refine J_iinc (L' := [(4, _), (1, _), (3, _), (0, _)]) dX9_mixMoments_79 rfl rfl rfl ?_
          refine j_goto 43 dX9_mixMoments_82 (by decide) ?_
          exact j_locR g3 (by repeat' (first | exact True.intro | refine And.intro rfl ?_))
      rw [← hy]
      refine j_iload_n 3 dX9_mixMoments_15 rfl rfl ?_
      refine j_aload_n 0 dX9_mixMoments_16 rfl rfl ?_
      refine j_get fX9_33 dX9_mixMoments_17 hD.1 rfl ?_
      refine J_callV1 kX9_228 cvX3_size (hD.2.2.2.2.2.1).1 (c_X3_size (hD.2.2.2.2.2.1)) rfl rfl rfl rfl rfl dX9_mixMoments_20 rfl rfl ?_
      refine J_top ((cntM s.1 : Int)) ?_ (by exact hH.1)
      refine J_icmp_ge 131 dX9_mixMoments_23 (by decide) (fun c23 => absurd c23 (by omega)) (fun c23 => ?_) 
      refine j_lload_n 1 dX9_mixMoments_26 rfl rfl ?_
      refine j_aload_n 0 dX9_mixMoments_27 rfl rfl ?_
      refine j_get fX9_33 dX9_mixMoments_28 hD.1 rfl ?_
      refine j_iload_n 3 dX9_mixMoments_31 rfl rfl ?_
      refine J_callV1 kX9_232 cvX3_tickAt (hD.2.2.2.2.2.1).1 (c_X3_tickAt (hD.2.2.2.2.2.1) (har_n hH) (by omega)) rfl rfl rfl rfl rfl dX9_mixMoments_32 rfl rfl ?_
      refine J_top (momT s.1 m) ?_ (by (have e := har_tk2 hH (m := (m : Int)) ⟨by omega, by omega⟩; rw [Int.toNat_natCast] at e; exact e))
      refine J_i2l dX9_mixMoments_35 ?_ 
      refine J_callS1 kX9_325 csX9_mix c_X9_mix rfl rfl rfl rfl rfl dX9_mixMoments_36 rfl rfl ?_
      refine j_lstore_n 1 (L' := [(1, _), (3, _), (0, _)]) dX9_mixMoments_39 rfl rfl rfl ?_
      refine J_iconst dX9_mixMoments_40 ?_
      refine j_istore (L' := [(4, _), (1, _), (3, _), (0, _)]) dX9_mixMoments_41 rfl rfl ?_
      exact j_locR (inner 4 0 (by omega)) (by repeat' (first | exact True.intro | refine And.intro rfl ?_))
  refine j_body (by decide +kernel) ⟨rfl, rfl⟩ rfl ?_
  have hH := hI.har (by rw [h7]; decide)
  refine j_lload_n 1 dX9_mixMoments_0 rfl rfl ?_
  refine j_aload_n 0 dX9_mixMoments_1 rfl rfl ?_
  refine j_get fX9_33 dX9_mixMoments_2 hD.1 rfl ?_
  refine J_callV1 kX9_228 cvX3_size (hD.2.2.2.2.2.1).1 (c_X3_size (hD.2.2.2.2.2.1)) rfl rfl rfl rfl rfl dX9_mixMoments_5 rfl rfl ?_
  refine J_top ((cntM s.1 : Int)) ?_ (by exact hH.1)
  refine J_i2l dX9_mixMoments_8 ?_ 
  refine J_callS1 kX9_325 csX9_mix c_X9_mix rfl rfl rfl rfl rfl dX9_mixMoments_9 rfl rfl ?_
  refine j_lstore_n 1 (L' := [(1, _), (0, _)]) dX9_mixMoments_12 rfl rfl rfl ?_
  refine J_iconst dX9_mixMoments_13 ?_
  refine j_istore_n 3 (L' := [(3, _), (1, _), (0, _)]) dX9_mixMoments_14 rfl rfl rfl ?_
  exact j_locR (loop (cntM s.1) 0 s h (by omega) hD hI rfl rfl (fun _ => rfl) hF) (by repeat' (first | exact True.intro | refine And.intro rfl ?_))
