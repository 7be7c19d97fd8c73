/-! the law's loop and start -/
theorem LI.mono {G : jG} {a a2 o : Nat} {n n' : Int} {h : jH} (H : LI G a a2 o n h) (hn : n ≤ n') : LI G a a2 o n' h := by
  obtain ⟨d, s, Z, d2, mp, p, Z2, f, h1, h2, h3, h4, h5, h6, h7, h8, h9, h10⟩ := H
  exact ⟨d, s, Z, d2, mp, p, Z2, f, h1, h2, h3, h4, h5, h6, h7, h8, h9, Int.le_trans h10 hn⟩
set_option maxRecDepth 100000 in
theorem law_loop {l : Launch} {G : jG} {b N : Nat} {xs : Nat → Int32} {QF : jF} (hl0 : l.stackTraces = false) (hN : N ≤ 2560) (hfin : ∀ (ck sk : Nat) (h : jH) (L : List (Nat × Value)), J l G mL_law (QH G b N xs QF) ck sk 3047 L [] h) {a a2 o : Nat} : ∀ (n c : Nat) (h : jH), c + n = 512 → LI G a a2 o (c : Int) h → J l G mL_law (QH G b N xs QF) (1030 * n) (4110 * n) 23 [(4, vI (5 * (c : Int))), (3, .ref o), (2, .ref a2), (1, .ref a), (0, .ref b)] [] h := by
  intro n
  induction n with
  | zero =>
    intro c h hc H
    obtain rfl : c = 512 := by omega
    refine j_iload dL_law_23 rfl ?_
    refine j_aload_n 0 dL_law_25 rfl rfl ?_
    refine J_slen dL_law_26 ?_
    refine J_iconst dL_law_27 ?_
    refine J_isub dL_law_28 ?_
    exact J_icmp_gt 3047 dL_law_29 (by decide) (fun _ => hfin _ _ _ _) (fun z => absurd z (by omega)) (by omega)
  | succ n ih =>
    intro c h hc H
    have kk : ∀ h', LI G a a2 o ((c : Int) + 1) h' → J l G mL_law (QH G b N xs QF) (1030 * n) (4110 * n) 3041 [(4, vI (5 * (c : Int))), (3, .ref o), (2, .ref a2), (1, .ref a), (0, .ref b)] [] h' := by
      intro h' H'
      refine J_iinc (L' := [(4, _), (3, _), (2, _), (1, _), (0, _)]) dL_law_3041 rfl rfl rfl ?_
      refine j_goto 23 dL_law_3044 (by decide) ?_
      have g := ih (c + 1) h' (by omega) (H'.mono (by omega))
      rw [show 5 * ((c + 1 : Nat) : Int) = 5 * (c : Int) + 5 by omega] at g
      exact g
    refine j_iload dL_law_23 rfl ?_
    refine j_aload_n 0 dL_law_25 rfl rfl ?_
    refine J_slen dL_law_26 ?_
    refine J_iconst dL_law_27 ?_
    refine J_isub dL_law_28 ?_
    refine J_icmp_gt 3047 dL_law_29 (by decide) (fun _ => hfin _ _ _ _) (fun z => ?_) (by omega)
    refine j_aload_n 0 dL_law_32 rfl rfl ?_
    refine j_iload dL_law_33 rfl ?_
    refine J_sld dL_law_35 (by omega) ?_
    refine J_bipush dL_law_36 (by decide) ?_
    refine j_iand dL_law_38 ?_
    obtain ⟨y, hy, ey⟩ := I_of (Int32.ofInt (sX xs (5 * (c : Int))) &&& Int32.ofInt 63)
    rw [ey]
    refine j_room (ck' := 1030 * n + 1030) (sk' := 4110 * n + 4110) (by omega) (by omega) ?_
    have hi : 0 ≤ 5 * (c : Int) ∧ 5 * (c : Int) + 5 ≤ (N : Int) := ⟨by omega, by omega⟩
    have hn : (c : Int) < 512 := by omega
    refine J_table 3041 dL_law_39 hy (by decide) (fun _ => j_room (ck' := 1030 * n) (sk' := 4110 * n) (by omega) (by omega) (kk h (H.mono (by omega)))) (fun t ht et => ?_)
    have h45 : t = 0 ∨ t = 1 ∨ t = 2 ∨ t = 3 ∨ t = 4 ∨ t = 5 ∨ t = 6 ∨ t = 7 ∨ t = 8 ∨ t = 9 ∨ t = 10 ∨ t = 11 ∨ t = 12 ∨ t = 13 ∨ t = 14 ∨ t = 15 ∨ t = 16 ∨ t = 17 ∨ t = 18 ∨ t = 19 ∨ t = 20 ∨ t = 21 ∨ t = 22 ∨ t = 23 ∨ t = 24 ∨ t = 25 ∨ t = 26 ∨ t = 27 ∨ t = 28 ∨ t = 29 ∨ t = 30 ∨ t = 31 ∨ t = 32 ∨ t = 33 ∨ t = 34 ∨ t = 35 ∨ t = 36 ∨ t = 37 ∨ t = 38 ∨ t = 39 ∨ t = 40 ∨ t = 41 ∨ t = 42 ∨ t = 43 ∨ t = 44 := by omega
    rcases h45 with e | e | e | e | e | e | e | e | e | e | e | e | e | e | e | e | e | e | e | e | e | e | e | e | e | e | e | e | e | e | e | e | e | e | e | e | e | e | e | e | e | e | e | e | e <;> subst e
    · exact ⟨193, 232, rfl, by decide, lc_0 hl0 hN hi hn H kk⟩
    · exact ⟨285, 324, rfl, by decide, lc_1 hl0 hN hi hn H kk⟩
    · exact ⟨353, 392, rfl, by decide, lc_2 hl0 hN hi hn H kk⟩
    · exact ⟨409, 448, rfl, by decide, lc_3 hl0 hN hi hn H kk⟩
    · exact ⟨501, 540, rfl, by decide, lc_4 hl0 hN hi hn H kk⟩
    · exact ⟨581, 620, rfl, by decide, lc_5 hl0 hN hi hn H kk⟩
    · exact ⟨649, 688, rfl, by decide, lc_6 hl0 hN hi hn H kk⟩
    · exact ⟨729, 768, rfl, by decide, lc_7 hl0 hN hi hn H kk⟩
    · exact ⟨809, 848, rfl, by decide, lc_8 hl0 hN hi hn H kk⟩
    · exact ⟨865, 904, rfl, by decide, lc_9 hl0 hN hi hn H kk⟩
    · exact ⟨933, 972, rfl, by decide, lc_10 hl0 hN hi hn H kk⟩
    · exact ⟨1001, 1040, rfl, by decide, lc_11 hl0 hN hi hn H kk⟩
    · exact ⟨1069, 1108, rfl, by decide, lc_12 hl0 hN hi hn H kk⟩
    · exact ⟨1137, 1176, rfl, by decide, lc_13 hl0 hN hi hn H kk⟩
    · exact ⟨1205, 1244, rfl, by decide, lc_14 hl0 hN hi hn H kk⟩
    · exact ⟨1273, 1312, rfl, by decide, lc_15 hl0 hN hi hn H kk⟩
    · exact ⟨1341, 1380, rfl, by decide, lc_16 hl0 hN hi hn H kk⟩
    · exact ⟨1397, 1436, rfl, by decide, lc_17 hl0 hN hi hn H kk⟩
    · exact ⟨1453, 1492, rfl, by decide, lc_18 hl0 hN hi hn H kk⟩
    · exact ⟨1521, 1560, rfl, by decide, lc_19 hl0 hN hi hn H kk⟩
    · exact ⟨1601, 1640, rfl, by decide, lc_20 hl0 hN hi hn H kk⟩
    · exact ⟨1681, 1720, rfl, by decide, lc_21 hl0 hN hi hn H kk⟩
    · exact ⟨1768, 1807, rfl, by decide, lc_22 hl0 hN hi hn H kk⟩
    · exact ⟨1848, 1887, rfl, by decide, lc_23 hl0 hN hi hn H kk⟩
    · exact ⟨1928, 1967, rfl, by decide, lc_24 hl0 hN hi hn H kk⟩
    · exact ⟨1996, 2035, rfl, by decide, lc_25 hl0 hN hi hn H kk⟩
    · exact ⟨2076, 2115, rfl, by decide, lc_26 hl0 hN hi hn H kk⟩
    · exact ⟨2144, 2183, rfl, by decide, lc_27 hl0 hN hi hn H kk⟩
    · exact ⟨2157, 2196, rfl, by decide, lc_28 hl0 hN hi hn H kk⟩
    · exact ⟨2213, 2252, rfl, by decide, lc_29 hl0 hN hi hn H kk⟩
    · exact ⟨2281, 2320, rfl, by decide, lc_30 hl0 hN hi hn H kk⟩
    · exact ⟨2337, 2376, rfl, by decide, lc_31 hl0 hN hi hn H kk⟩
    · exact ⟨2393, 2432, rfl, by decide, lc_32 hl0 hN hi hn H kk⟩
    · exact ⟨2449, 2488, rfl, by decide, lc_33 hl0 hN hi hn H kk⟩
    · exact ⟨2462, 2501, rfl, by decide, lc_34 hl0 hN hi hn H kk⟩
    · exact ⟨2518, 2557, rfl, by decide, lc_35 hl0 hN hi hn H kk⟩
    · exact ⟨2574, 2613, rfl, by decide, lc_36 hl0 hN hi hn H kk⟩
    · exact ⟨2630, 2669, rfl, by decide, lc_37 hl0 hN hi hn H kk⟩
    · exact ⟨2698, 2737, rfl, by decide, lc_38 hl0 hN hi hn H kk⟩
    · exact ⟨2711, 2750, rfl, by decide, lc_39 hl0 hN hi hn H kk⟩
    · exact ⟨2767, 2806, rfl, by decide, lc_40 hl0 hN hi hn H kk⟩
    · exact ⟨2823, 2862, rfl, by decide, lc_41 hl0 hN hi hn H kk⟩
    · exact ⟨2891, 2930, rfl, by decide, lc_42 hl0 hN hi hn H kk⟩
    · exact ⟨2947, 2986, rfl, by decide, lc_43 hl0 hN hi hn H kk⟩
    · exact ⟨2988, 3027, rfl, by decide, lc_44 hl0 hN hi hn H kk⟩
set_option maxRecDepth 100000 in
theorem law_start {l : Launch} {G : jG} {b N : Nat} {xs : Nat → Int32} {QF : jF} (hl0 : l.stackTraces = false) (hN : N ≤ 2560) (hfin : ∀ (ck sk : Nat) (h : jH) (L : List (Nat × Value)), J l G mL_law (QH G b N xs QF) ck sk 3047 L [] h) : J l G mL_law (QH G b N xs QF) 601024 7293034 0 [(0, .ref b)] [] (fun _ => none) := by
  refine j_new (ck' := 601023) (sk' := 7293022) nL_8 dL_law_0 (by decide) (by decide) (fun a ha _ => ?_)
  refine j_dup dL_law_3 rfl ?_
  refine j_callI (As := []) (ck' := 600957) (sk' := 7267054) kL_140 ciX9_init (c_X9_init (hset_s _ _ _)) (fun E h' hp => by cases hp.1) rfl rfl rfl rfl rfl rfl dL_law_4 (by decide) (by decide) (fun v h1 hp => ?_)
  obtain ⟨ev, d, s, Z, hD, hZ, hI, eP, ep, hFD, hO1⟩ := hp
  cases ev
  refine j_astore_n 1 (L' := [(1, _), (0, _)]) dL_law_7 rfl rfl rfl ?_
  refine j_new (ck' := 600956) (sk' := 7267023) nL_141 dL_law_8 (by decide) (by decide) (fun a2 ha2 _ => ?_)
  refine j_dup dL_law_11 rfl ?_
  refine j_callI (As := []) (ck' := 600918) (sk' := 7260906) kL_143 ciX11_init (c_X11_init (hset_s _ _ _)) (fun E h' hp => by cases hp.1) rfl rfl rfl rfl rfl rfl dL_law_12 (by decide) (by decide) (fun v h3 hp => ?_)
  obtain ⟨ev, d2, mp, p, Z2, hM, hZ2, hMI, e0, hFM, hO3⟩ := hp
  cases ev
  refine j_astore_n 2 (L' := [(2, _), (1, _), (0, _)]) dL_law_15 rfl rfl rfl ?_
  refine J_iconst dL_law_16 ?_
  refine j_newL (ck' := 600917) (sk' := 7260905) 1 acL dL_law_17 (by decide) (by decide) (by decide) (by decide) (by decide) (fun o ho _ => ?_)
  refine j_astore_n 3 (L' := [(3, _), (2, _), (1, _), (0, _)]) dL_law_19 rfl rfl rfl ?_
  refine J_iconst dL_law_20 ?_
  refine j_istore (L' := [(4, _), (3, _), (2, _), (1, _), (0, _)]) dL_law_21 rfl rfl ?_
  have n2 : ∀ c, FtD a d c → c ≠ a2 := fun c hc z => hD.someN hc (by rw [z]; exact ha2)
  have k2 : ∀ c, FtD a d c → h3 c = h1 c := fun c hc => by
    exact (hO3 c (n2 c hc) (by rw [hset_n (n2 c hc)]; exact hD.someN hc)).trans (hset_n (n2 c hc))
  have hD3 := hD.keepF k2
  have hdis : ∀ c, FtD a d c → ¬ FtM a2 d2 c := fun c hc z => by
    rcases hFM c z with e | e
    · exact n2 c hc e
    · rw [hset_n (n2 c hc)] at e
      exact hD.someN hc e
  have oD : ∀ c, FtD a d c → c ≠ o := fun c hc z => hD3.someN hc (by rw [z]; exact ho)
  have oM : ¬ FtM a2 d2 o := hM.out ho
  have hD4 := hD3.keepF (h' := hset h3 o (aJ G 1 (fun _ => 0))) (fun c hc => hset_n (oD c hc))
  have hM4 := hM.fr (h' := hset h3 o (aJ G 1 (fun _ => 0))) (S := fun c => c = o) (fun c hc => hset_n hc) (fun c hc z => oM (by rw [← z]; exact hc))
  have hLI : LI G a a2 o ((0 : Nat) : Int) (hset h3 o (aJ G 1 (fun _ => 0))) := ⟨d, s, Z, d2, mp, p, Z2, _, hD4, hZ, hI, hM4, hZ2, by rw [eP, ep]; exact hMI, fun c hc => ⟨hdis c hc, oD c hc⟩, oM, hset_s _ _ _, by rw [eP, evs00]; decide⟩
  have g := law_loop hl0 hN hfin 512 0 _ (by decide) hLI
  exact j_room (ck' := 1030 * 512) (sk' := 4110 * 512) (by decide) (by decide) g
