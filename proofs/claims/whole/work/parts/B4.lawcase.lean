set_option maxRecDepth 100000 in
theorem lc_33 {l : Launch} {G : jG} {a a2 o b N ck sk : Nat} {xs : Nat → Int32} {i n : Int} {QF : jF} {h : jH} (hl0 : l.stackTraces = false) (hN : N ≤ 2560) (hi : 0 ≤ i ∧ i + 5 ≤ (N : Int)) (hn : n < 512) (H : LI G a a2 o n h) (kk : ∀ h', LI G a a2 o (n + 1) h' → J l G mL_law (QH G b N xs QF) ck sk 3041 [(4, vI i), (3, .ref o), (2, .ref a2), (1, .ref a), (0, .ref b)] [] h') : J l G mL_law (QH G b N xs QF) (ck + 1030) (sk + 4110) 2488 [(4, vI i), (3, .ref o), (2, .ref a2), (1, .ref a), (0, .ref b)] [] h := by
  obtain ⟨d, s, Z, d2, mp, p, Z2, f, hD, hZ, hI, hM, hZ2, hMI, hd, ho, hf, hev⟩ := H
  have hO : ∀ {P : Nat → OS} {p0 : OS} {h' : jH}, DN G a d h P p0 h' → h' o = some (aJ G 1 f) := fun hp => by obtain ⟨_, _, _, _, _, g⟩ := hp; exact (g o (fun z => (hd o z).2 rfl)).trans hf
  refine j_aload_n 1 dL_law_2488 rfl rfl ?_
  refine j_callV (ck' := ck + 1030) (sk' := sk + 4110) kL_254 cvX9_faults hD.1 (toDN (c_X9_faults hD hI hZ)) rfl rfl rfl rfl rfl dL_law_2489 (by show 0 + (ck + 1030) ≤ ck + 1030; omega) (by show 0 + (sk + 4110) ≤ sk + 4110; omega) (fun v9 h2 hp => ?_) (fun E h' hp => by cases hp.1)
  obtain ⟨ev9, hN1⟩ := hp
  cases ev9
  have hf' := hO hN1
  obtain ⟨s', hD', hI', es, ep, hM'⟩ := law_A hM hd ho hN1 (fun _ _ => rfl)
  refine j_aload_n 2 dL_law_2492 rfl rfl ?_
  refine j_callV (ck' := ck + 1030) (sk' := sk + 4110) kL_257 cvX11_faults hM'.1.1 (toMN hZ2 (c_X11_faults hM' hZ2 hMI)) rfl rfl rfl rfl rfl dL_law_2493 (by show 0 + (ck + 1030) ≤ ck + 1030; omega) (by show 0 + (sk + 4110) ≤ sk + 4110; omega) (fun v9 h3 hp => ?_) (fun E h' hp => by cases hp.1)
  obtain ⟨ev9, hN2⟩ := hp
  cases ev9
  obtain ⟨d3, mp3, p3, Z3, hM3, hZ3, hMI3, ht3, hD3, hd3, ho3, hf3⟩ := law_B hD' hd ho hf' es ep hN2
  have hE : evs s'.1 ≤ n + 1 := by rw [es]; omega
  refine j_icmp_eq 3041 dL_law_2496 (by decide) (fun _ => ?_) (fun c => absurd rfl c)
  refine j_room (ck' := ck) (sk' := sk) (by omega) (by omega) ?_
  exact j_locR (kk _ ⟨d, s', Z, d3, mp3, p3, Z3, _, hD3, hZ, hI', hM3, hZ3, hMI3, hd3, ho3, hf3, hE⟩) (by repeat' (first | exact True.intro | refine And.intro rfl ?_))
set_option maxRecDepth 100000 in
theorem lc_34 {l : Launch} {G : jG} {a a2 o b N ck sk : Nat} {xs : Nat → Int32} {i n : Int} {QF : jF} {h : jH} (hl0 : l.stackTraces = false) (hN : N ≤ 2560) (hi : 0 ≤ i ∧ i + 5 ≤ (N : Int)) (hn : n < 512) (H : LI G a a2 o n h) (kk : ∀ h', LI G a a2 o (n + 1) h' → J l G mL_law (QH G b N xs QF) ck sk 3041 [(4, vI i), (3, .ref o), (2, .ref a2), (1, .ref a), (0, .ref b)] [] h') : J l G mL_law (QH G b N xs QF) (ck + 1030) (sk + 4110) 2501 [(4, vI i), (3, .ref o), (2, .ref a2), (1, .ref a), (0, .ref b)] [] h := by
  obtain ⟨d, s, Z, d2, mp, p, Z2, f, hD, hZ, hI, hM, hZ2, hMI, hd, ho, hf, hev⟩ := H
  have hO : ∀ {P : Nat → OS} {p0 : OS} {h' : jH}, DN G a d h P p0 h' → h' o = some (aJ G 1 f) := fun hp => by obtain ⟨_, _, _, _, _, g⟩ := hp; exact (g o (fun z => (hd o z).2 rfl)).trans hf
  refine j_aload_n 1 dL_law_2501 rfl rfl ?_
  refine j_aload_n 0 dL_law_2502 rfl rfl ?_
  refine j_iload dL_law_2503 rfl ?_
  refine J_iconst dL_law_2505 ?_
  refine J_iadd dL_law_2506 ?_
  refine J_sld dL_law_2507 (by omega) ?_
  refine j_aload_n 3 dL_law_2508 rfl rfl ?_
  refine j_callSH (ck' := ck + 1029) (sk' := sk + 4104) kL_258 ceL_kindOfFault csL_kindOfFault (c_L_kindOfFault (f := f) hD.1 (toDN (c_X9_kindOfFault hl0 hD hI hZ (sX_rg _ _))) (hr1 rfl) (fun _ hp => hO hp)) (fun E h' hp => by cases hp.1) rfl rfl rfl rfl rfl dL_law_2509 (by show 1 + (ck + 1029) ≤ ck + 1030; omega) (by show 6 + (sk + 4104) ≤ sk + 4110; omega) (fun v9 h2 hp => ?_)
  obtain ⟨ev9, h1, f', hN1, hf', hv', h12⟩ := hp
  cases ev9
  obtain ⟨s', hD', hI', es, ep, hM'⟩ := law_A hM hd ho hN1 h12
  refine j_istore (L' := [(5, _), (4, _), (3, _), (2, _), (1, _), (0, _)]) dL_law_2512 rfl rfl ?_
  refine j_aload_n 2 dL_law_2514 rfl rfl ?_
  refine j_aload_n 0 dL_law_2515 rfl rfl ?_
  refine j_iload dL_law_2516 rfl ?_
  refine J_iconst dL_law_2518 ?_
  refine J_iadd dL_law_2519 ?_
  refine J_sld dL_law_2520 (by omega) ?_
  refine j_callV (ck' := ck + 1029) (sk' := sk + 4104) kL_260 cvX11_kindOfFault hM'.1.1 (toMN hZ2 (c_X11_kindOfFault hM' hZ2 hMI (sX_rg _ _))) rfl rfl rfl rfl rfl dL_law_2521 (by show 0 + (ck + 1029) ≤ ck + 1029; omega) (by show 0 + (sk + 4104) ≤ sk + 4104; omega) (fun v9 h3 hp => ?_) (fun E h' hp => by cases hp.1)
  obtain ⟨ev9, hN2⟩ := hp
  cases ev9
  obtain ⟨d3, mp3, p3, Z3, hM3, hZ3, hMI3, ht3, hD3, hd3, ho3, hf3⟩ := law_B hD' hd ho hf' es ep hN2
  have hE : evs s'.1 ≤ n + 1 := by rw [es]; omega
  refine j_istore (L' := [(6, _), (5, _), (4, _), (3, _), (2, _), (1, _), (0, _)]) dL_law_2524 rfl rfl ?_
  refine j_aload_n 2 dL_law_2526 rfl rfl ?_
  refine J_callV1 kL_150 cvX11_thrown hM3.1.1 (c_X11_thrown hM3 hZ3 hMI3) rfl rfl rfl rfl rfl dL_law_2527 rfl rfl ?_
  rw [ht3]
  refine j_iload dL_law_2530 rfl ?_
  refine j_icmp_eq 2537 dL_law_2532 (by decide) (fun _ => ?_) (fun c => absurd rfl c)
  refine j_iload dL_law_2537 rfl ?_
  refine J_if_ne 2554 dL_law_2539 (by decide) (fun c => ?_) (fun c => ?_) rg_t1
  · refine j_goto 3041 dL_law_2554 (by decide) ?_
    refine j_room (ck' := ck) (sk' := sk) (by omega) (by omega) ?_
    exact j_locR (kk _ ⟨d, s', Z, d3, mp3, p3, Z3, _, hD3, hZ, hI', hM3, hZ3, hMI3, hd3, ho3, hf3, hE⟩) (by repeat' (first | exact True.intro | refine And.intro rfl ?_))
  · refine j_aload_n 3 dL_law_2542 rfl rfl ?_
    refine J_iconst dL_law_2543 ?_
    refine j_lald dL_law_2544 hf3 (I_vpin (by decide) (by decide)) ?_
    refine j_iload dL_law_2545 rfl ?_
    refine j_i2l dL_law_2547 ?_
    refine J_lcmp0 dL_law_2548 (hv' c) ?_
    refine J_if_eq 2554 dL_law_2549 (by decide) (fun _ => ?_) (fun c => absurd rfl c) (by decide)
    refine j_goto 3041 dL_law_2554 (by decide) ?_
    refine j_room (ck' := ck) (sk' := sk) (by omega) (by omega) ?_
    exact j_locR (kk _ ⟨d, s', Z, d3, mp3, p3, Z3, _, hD3, hZ, hI', hM3, hZ3, hMI3, hd3, ho3, hf3, hE⟩) (by repeat' (first | exact True.intro | refine And.intro rfl ?_))
set_option maxRecDepth 100000 in
theorem lc_35 {l : Launch} {G : jG} {a a2 o b N ck sk : Nat} {xs : Nat → Int32} {i n : Int} {QF : jF} {h : jH} (hl0 : l.stackTraces = false) (hN : N ≤ 2560) (hi : 0 ≤ i ∧ i + 5 ≤ (N : Int)) (hn : n < 512) (H : LI G a a2 o n h) (kk : ∀ h', LI G a a2 o (n + 1) h' → J l G mL_law (QH G b N xs QF) ck sk 3041 [(4, vI i), (3, .ref o), (2, .ref a2), (1, .ref a), (0, .ref b)] [] h') : J l G mL_law (QH G b N xs QF) (ck + 1030) (sk + 4110) 2557 [(4, vI i), (3, .ref o), (2, .ref a2), (1, .ref a), (0, .ref b)] [] h := by
  obtain ⟨d, s, Z, d2, mp, p, Z2, f, hD, hZ, hI, hM, hZ2, hMI, hd, ho, hf, hev⟩ := H
  have hO : ∀ {P : Nat → OS} {p0 : OS} {h' : jH}, DN G a d h P p0 h' → h' o = some (aJ G 1 f) := fun hp => by obtain ⟨_, _, _, _, _, g⟩ := hp; exact (g o (fun z => (hd o z).2 rfl)).trans hf
  refine j_aload_n 1 dL_law_2557 rfl rfl ?_
  refine j_aload_n 0 dL_law_2558 rfl rfl ?_
  refine j_iload dL_law_2559 rfl ?_
  refine J_iconst dL_law_2561 ?_
  refine J_iadd dL_law_2562 ?_
  refine J_sld dL_law_2563 (by omega) ?_
  refine j_aload_n 3 dL_law_2564 rfl rfl ?_
  refine j_callSH (ck' := ck + 1029) (sk' := sk + 4104) kL_261 ceL_tickOfFault csL_tickOfFault (c_L_tickOfFault (f := f) hD.1 (toDN (c_X9_tickOfFault hl0 hD hI hZ (sX_rg _ _))) (hr1 rfl) (fun _ hp => hO hp)) (fun E h' hp => by cases hp.1) rfl rfl rfl rfl rfl dL_law_2565 (by show 1 + (ck + 1029) ≤ ck + 1030; omega) (by show 6 + (sk + 4104) ≤ sk + 4110; omega) (fun v9 h2 hp => ?_)
  obtain ⟨ev9, h1, f', hN1, hf', hv', h12⟩ := hp
  cases ev9
  obtain ⟨s', hD', hI', es, ep, hM'⟩ := law_A hM hd ho hN1 h12
  refine j_istore (L' := [(5, _), (4, _), (3, _), (2, _), (1, _), (0, _)]) dL_law_2568 rfl rfl ?_
  refine j_aload_n 2 dL_law_2570 rfl rfl ?_
  refine j_aload_n 0 dL_law_2571 rfl rfl ?_
  refine j_iload dL_law_2572 rfl ?_
  refine J_iconst dL_law_2574 ?_
  refine J_iadd dL_law_2575 ?_
  refine J_sld dL_law_2576 (by omega) ?_
  refine j_callV (ck' := ck + 1029) (sk' := sk + 4104) kL_263 cvX11_tickOfFault hM'.1.1 (toMN hZ2 (c_X11_tickOfFault hM' hZ2 hMI (sX_rg _ _))) rfl rfl rfl rfl rfl dL_law_2577 (by show 0 + (ck + 1029) ≤ ck + 1029; omega) (by show 0 + (sk + 4104) ≤ sk + 4104; omega) (fun v9 h3 hp => ?_) (fun E h' hp => by cases hp.1)
  obtain ⟨ev9, hN2⟩ := hp
  cases ev9
  obtain ⟨d3, mp3, p3, Z3, hM3, hZ3, hMI3, ht3, hD3, hd3, ho3, hf3⟩ := law_B hD' hd ho hf' es ep hN2
  have hE : evs s'.1 ≤ n + 1 := by rw [es]; omega
  refine j_istore (L' := [(6, _), (5, _), (4, _), (3, _), (2, _), (1, _), (0, _)]) dL_law_2580 rfl rfl ?_
  refine j_aload_n 2 dL_law_2582 rfl rfl ?_
  refine J_callV1 kL_150 cvX11_thrown hM3.1.1 (c_X11_thrown hM3 hZ3 hMI3) rfl rfl rfl rfl rfl dL_law_2583 rfl rfl ?_
  rw [ht3]
  refine j_iload dL_law_2586 rfl ?_
  refine j_icmp_eq 2593 dL_law_2588 (by decide) (fun _ => ?_) (fun c => absurd rfl c)
  refine j_iload dL_law_2593 rfl ?_
  refine J_if_ne 2610 dL_law_2595 (by decide) (fun c => ?_) (fun c => ?_) rg_t1
  · refine j_goto 3041 dL_law_2610 (by decide) ?_
    refine j_room (ck' := ck) (sk' := sk) (by omega) (by omega) ?_
    exact j_locR (kk _ ⟨d, s', Z, d3, mp3, p3, Z3, _, hD3, hZ, hI', hM3, hZ3, hMI3, hd3, ho3, hf3, hE⟩) (by repeat' (first | exact True.intro | refine And.intro rfl ?_))
  · refine j_aload_n 3 dL_law_2598 rfl rfl ?_
    refine J_iconst dL_law_2599 ?_
    refine j_lald dL_law_2600 hf3 (I_vpin (by decide) (by decide)) ?_
    refine j_iload dL_law_2601 rfl ?_
    refine j_i2l dL_law_2603 ?_
    refine J_lcmp0 dL_law_2604 (hv' c) ?_
    refine J_if_eq 2610 dL_law_2605 (by decide) (fun _ => ?_) (fun c => absurd rfl c) (by decide)
    refine j_goto 3041 dL_law_2610 (by decide) ?_
    refine j_room (ck' := ck) (sk' := sk) (by omega) (by omega) ?_
    exact j_locR (kk _ ⟨d, s', Z, d3, mp3, p3, Z3, _, hD3, hZ, hI', hM3, hZ3, hMI3, hd3, ho3, hf3, hE⟩) (by repeat' (first | exact True.intro | refine And.intro rfl ?_))
set_option maxRecDepth 100000 in
theorem lc_36 {l : Launch} {G : jG} {a a2 o b N ck sk : Nat} {xs : Nat → Int32} {i n : Int} {QF : jF} {h : jH} (hl0 : l.stackTraces = false) (hN : N ≤ 2560) (hi : 0 ≤ i ∧ i + 5 ≤ (N : Int)) (hn : n < 512) (H : LI G a a2 o n h) (kk : ∀ h', LI G a a2 o (n + 1) h' → J l G mL_law (QH G b N xs QF) ck sk 3041 [(4, vI i), (3, .ref o), (2, .ref a2), (1, .ref a), (0, .ref b)] [] h') : J l G mL_law (QH G b N xs QF) (ck + 1030) (sk + 4110) 2613 [(4, vI i), (3, .ref o), (2, .ref a2), (1, .ref a), (0, .ref b)] [] h := by
  obtain ⟨d, s, Z, d2, mp, p, Z2, f, hD, hZ, hI, hM, hZ2, hMI, hd, ho, hf, hev⟩ := H
  have hO : ∀ {P : Nat → OS} {p0 : OS} {h' : jH}, DN G a d h P p0 h' → h' o = some (aJ G 1 f) := fun hp => by obtain ⟨_, _, _, _, _, g⟩ := hp; exact (g o (fun z => (hd o z).2 rfl)).trans hf
  refine j_aload_n 1 dL_law_2613 rfl rfl ?_
  refine j_aload_n 0 dL_law_2614 rfl rfl ?_
  refine j_iload dL_law_2615 rfl ?_
  refine J_iconst dL_law_2617 ?_
  refine J_iadd dL_law_2618 ?_
  refine J_sld dL_law_2619 (by omega) ?_
  refine j_aload_n 3 dL_law_2620 rfl rfl ?_
  refine j_callSH (ck' := ck + 1029) (sk' := sk + 4104) kL_264 ceL_partsOfFault csL_partsOfFault (c_L_partsOfFault (f := f) hD.1 (toDN (c_X9_partsOfFault hl0 hD hI hZ (sX_rg _ _))) (hr1 rfl) (fun _ hp => hO hp)) (fun E h' hp => by cases hp.1) rfl rfl rfl rfl rfl dL_law_2621 (by show 1 + (ck + 1029) ≤ ck + 1030; omega) (by show 6 + (sk + 4104) ≤ sk + 4110; omega) (fun v9 h2 hp => ?_)
  obtain ⟨ev9, h1, f', hN1, hf', hv', h12⟩ := hp
  cases ev9
  obtain ⟨s', hD', hI', es, ep, hM'⟩ := law_A hM hd ho hN1 h12
  refine j_istore (L' := [(5, _), (4, _), (3, _), (2, _), (1, _), (0, _)]) dL_law_2624 rfl rfl ?_
  refine j_aload_n 2 dL_law_2626 rfl rfl ?_
  refine j_aload_n 0 dL_law_2627 rfl rfl ?_
  refine j_iload dL_law_2628 rfl ?_
  refine J_iconst dL_law_2630 ?_
  refine J_iadd dL_law_2631 ?_
  refine J_sld dL_law_2632 (by omega) ?_
  refine j_callV (ck' := ck + 1029) (sk' := sk + 4104) kL_266 cvX11_partsOfFault hM'.1.1 (toMN hZ2 (c_X11_partsOfFault hM' hZ2 hMI (sX_rg _ _))) rfl rfl rfl rfl rfl dL_law_2633 (by show 0 + (ck + 1029) ≤ ck + 1029; omega) (by show 0 + (sk + 4104) ≤ sk + 4104; omega) (fun v9 h3 hp => ?_) (fun E h' hp => by cases hp.1)
  obtain ⟨ev9, hN2⟩ := hp
  cases ev9
  obtain ⟨d3, mp3, p3, Z3, hM3, hZ3, hMI3, ht3, hD3, hd3, ho3, hf3⟩ := law_B hD' hd ho hf' es ep hN2
  have hE : evs s'.1 ≤ n + 1 := by rw [es]; omega
  refine j_istore (L' := [(6, _), (5, _), (4, _), (3, _), (2, _), (1, _), (0, _)]) dL_law_2636 rfl rfl ?_
  refine j_aload_n 2 dL_law_2638 rfl rfl ?_
  refine J_callV1 kL_150 cvX11_thrown hM3.1.1 (c_X11_thrown hM3 hZ3 hMI3) rfl rfl rfl rfl rfl dL_law_2639 rfl rfl ?_
  rw [ht3]
  refine j_iload dL_law_2642 rfl ?_
  refine j_icmp_eq 2649 dL_law_2644 (by decide) (fun _ => ?_) (fun c => absurd rfl c)
  refine j_iload dL_law_2649 rfl ?_
  refine J_if_ne 2666 dL_law_2651 (by decide) (fun c => ?_) (fun c => ?_) rg_t1
  · refine j_goto 3041 dL_law_2666 (by decide) ?_
    refine j_room (ck' := ck) (sk' := sk) (by omega) (by omega) ?_
    exact j_locR (kk _ ⟨d, s', Z, d3, mp3, p3, Z3, _, hD3, hZ, hI', hM3, hZ3, hMI3, hd3, ho3, hf3, hE⟩) (by repeat' (first | exact True.intro | refine And.intro rfl ?_))
  · refine j_aload_n 3 dL_law_2654 rfl rfl ?_
    refine J_iconst dL_law_2655 ?_
    refine j_lald dL_law_2656 hf3 (I_vpin (by decide) (by decide)) ?_
    refine j_iload dL_law_2657 rfl ?_
    refine j_i2l dL_law_2659 ?_
    refine J_lcmp0 dL_law_2660 (hv' c) ?_
    refine J_if_eq 2666 dL_law_2661 (by decide) (fun _ => ?_) (fun c => absurd rfl c) (by decide)
    refine j_goto 3041 dL_law_2666 (by decide) ?_
    refine j_room (ck' := ck) (sk' := sk) (by omega) (by omega) ?_
    exact j_locR (kk _ ⟨d, s', Z, d3, mp3, p3, Z3, _, hD3, hZ, hI', hM3, hZ3, hMI3, hd3, ho3, hf3, hE⟩) (by repeat' (first | exact True.intro | refine And.intro rfl ?_))
set_option maxRecDepth 100000 in
theorem lc_37 {l : Launch} {G : jG} {a a2 o b N ck sk : Nat} {xs : Nat → Int32} {i n : Int} {QF : jF} {h : jH} (hl0 : l.stackTraces = false) (hN : N ≤ 2560) (hi : 0 ≤ i ∧ i + 5 ≤ (N : Int)) (hn : n < 512) (H : LI G a a2 o n h) (kk : ∀ h', LI G a a2 o (n + 1) h' → J l G mL_law (QH G b N xs QF) ck sk 3041 [(4, vI i), (3, .ref o), (2, .ref a2), (1, .ref a), (0, .ref b)] [] h') : J l G mL_law (QH G b N xs QF) (ck + 1030) (sk + 4110) 2669 [(4, vI i), (3, .ref o), (2, .ref a2), (1, .ref a), (0, .ref b)] [] h := by
  obtain ⟨d, s, Z, d2, mp, p, Z2, f, hD, hZ, hI, hM, hZ2, hMI, hd, ho, hf, hev⟩ := H
  have hO : ∀ {P : Nat → OS} {p0 : OS} {h' : jH}, DN G a d h P p0 h' → h' o = some (aJ G 1 f) := fun hp => by obtain ⟨_, _, _, _, _, g⟩ := hp; exact (g o (fun z => (hd o z).2 rfl)).trans hf
  refine j_aload_n 1 dL_law_2669 rfl rfl ?_
  refine j_aload_n 0 dL_law_2670 rfl rfl ?_
  refine j_iload dL_law_2671 rfl ?_
  refine J_iconst dL_law_2673 ?_
  refine J_iadd dL_law_2674 ?_
  refine J_sld dL_law_2675 (by omega) ?_
  refine j_aload_n 0 dL_law_2676 rfl rfl ?_
  refine j_iload dL_law_2677 rfl ?_
  refine J_iconst dL_law_2679 ?_
  refine J_iadd dL_law_2680 ?_
  refine J_sld dL_law_2681 (by omega) ?_
  refine j_aload_n 3 dL_law_2682 rfl rfl ?_
  refine j_callSH (ck' := ck + 1029) (sk' := sk + 4104) kL_267 ceL_faultsIfUp csL_faultsIfUp (c_L_faultsIfUp (f := f) hD.1 (toDN (c_X9_faultsIfUp hl0 hD hI hZ (sX_rg _ _) (sX_rg _ _))) (hr2 (ifoI _ _)) (fun _ hp => hO hp)) (fun E h' hp => by cases hp.1) rfl rfl rfl rfl rfl dL_law_2683 (by show 1 + (ck + 1029) ≤ ck + 1030; omega) (by show 6 + (sk + 4104) ≤ sk + 4110; omega) (fun v9 h2 hp => ?_)
  obtain ⟨ev9, h1, f', hN1, hf', hv', h12⟩ := hp
  cases ev9
  obtain ⟨s', hD', hI', es, ep, hM'⟩ := law_A hM hd ho hN1 h12
  refine j_istore (L' := [(5, _), (4, _), (3, _), (2, _), (1, _), (0, _)]) dL_law_2686 rfl rfl ?_
  refine j_aload_n 2 dL_law_2688 rfl rfl ?_
  refine j_aload_n 0 dL_law_2689 rfl rfl ?_
  refine j_iload dL_law_2690 rfl ?_
  refine J_iconst dL_law_2692 ?_
  refine J_iadd dL_law_2693 ?_
  refine J_sld dL_law_2694 (by omega) ?_
  refine j_aload_n 0 dL_law_2695 rfl rfl ?_
  refine j_iload dL_law_2696 rfl ?_
  refine J_iconst dL_law_2698 ?_
  refine J_iadd dL_law_2699 ?_
  refine J_sld dL_law_2700 (by omega) ?_
  refine j_callV (ck' := ck + 1029) (sk' := sk + 4104) kL_269 cvX11_faultsIfUp hM'.1.1 (c_X11_faultsIfUp hM' hZ2 hMI (sX_rg _ _) (sX_rg _ _)) rfl rfl rfl rfl rfl dL_law_2701 (by show 0 + (ck + 1029) ≤ ck + 1029; omega) (by show 0 + (sk + 4104) ≤ sk + 4104; omega) (fun v9 h3 hp => ?_) (fun E h' hp => by cases hp.1)
  obtain ⟨ev9, hN2⟩ := hp
  cases ev9
  obtain ⟨d3, mp3, p3, Z3, hM3, hZ3, hMI3, ht3, hD3, hd3, ho3, hf3⟩ := law_B hD' hd ho hf' es ep hN2
  have hE : evs s'.1 ≤ n + 1 := by rw [es]; omega
  refine j_istore (L' := [(6, _), (5, _), (4, _), (3, _), (2, _), (1, _), (0, _)]) dL_law_2704 rfl rfl ?_
  refine j_aload_n 2 dL_law_2706 rfl rfl ?_
  refine J_callV1 kL_150 cvX11_thrown hM3.1.1 (c_X11_thrown hM3 hZ3 hMI3) rfl rfl rfl rfl rfl dL_law_2707 rfl rfl ?_
  rw [ht3]
  refine j_iload dL_law_2710 rfl ?_
  refine j_icmp_eq 2717 dL_law_2712 (by decide) (fun _ => ?_) (fun c => absurd rfl c)
  refine j_iload dL_law_2717 rfl ?_
  refine J_if_ne 2734 dL_law_2719 (by decide) (fun c => ?_) (fun c => ?_) rg_t2
  · refine j_goto 3041 dL_law_2734 (by decide) ?_
    refine j_room (ck' := ck) (sk' := sk) (by omega) (by omega) ?_
    exact j_locR (kk _ ⟨d, s', Z, d3, mp3, p3, Z3, _, hD3, hZ, hI', hM3, hZ3, hMI3, hd3, ho3, hf3, hE⟩) (by repeat' (first | exact True.intro | refine And.intro rfl ?_))
  · refine j_aload_n 3 dL_law_2722 rfl rfl ?_
    refine J_iconst dL_law_2723 ?_
    refine j_lald dL_law_2724 hf3 (I_vpin (by decide) (by decide)) ?_
    refine j_iload dL_law_2725 rfl ?_
    refine j_i2l dL_law_2727 ?_
    refine J_lcmp0 dL_law_2728 (hv' c) ?_
    refine J_if_eq 2734 dL_law_2729 (by decide) (fun _ => ?_) (fun c => absurd rfl c) (by decide)
    refine j_goto 3041 dL_law_2734 (by decide) ?_
    refine j_room (ck' := ck) (sk' := sk) (by omega) (by omega) ?_
    exact j_locR (kk _ ⟨d, s', Z, d3, mp3, p3, Z3, _, hD3, hZ, hI', hM3, hZ3, hMI3, hd3, ho3, hf3, hE⟩) (by repeat' (first | exact True.intro | refine And.intro rfl ?_))
set_option maxRecDepth 100000 in
theorem lc_38 {l : Launch} {G : jG} {a a2 o b N ck sk : Nat} {xs : Nat → Int32} {i n : Int} {QF : jF} {h : jH} (hl0 : l.stackTraces = false) (hN : N ≤ 2560) (hi : 0 ≤ i ∧ i + 5 ≤ (N : Int)) (hn : n < 512) (H : LI G a a2 o n h) (kk : ∀ h', LI G a a2 o (n + 1) h' → J l G mL_law (QH G b N xs QF) ck sk 3041 [(4, vI i), (3, .ref o), (2, .ref a2), (1, .ref a), (0, .ref b)] [] h') : J l G mL_law (QH G b N xs QF) (ck + 1030) (sk + 4110) 2737 [(4, vI i), (3, .ref o), (2, .ref a2), (1, .ref a), (0, .ref b)] [] h := by
  obtain ⟨d, s, Z, d2, mp, p, Z2, f, hD, hZ, hI, hM, hZ2, hMI, hd, ho, hf, hev⟩ := H
  have hO : ∀ {P : Nat → OS} {p0 : OS} {h' : jH}, DN G a d h P p0 h' → h' o = some (aJ G 1 f) := fun hp => by obtain ⟨_, _, _, _, _, g⟩ := hp; exact (g o (fun z => (hd o z).2 rfl)).trans hf
  refine j_aload_n 1 dL_law_2737 rfl rfl ?_
  refine j_callV (ck' := ck + 1030) (sk' := sk + 4110) kL_270 cvX9_bars hD.1 (toDN (c_X9_bars hD hI hZ)) rfl rfl rfl rfl rfl dL_law_2738 (by show 0 + (ck + 1030) ≤ ck + 1030; omega) (by show 0 + (sk + 4110) ≤ sk + 4110; omega) (fun v9 h2 hp => ?_) (fun E h' hp => by cases hp.1)
  obtain ⟨ev9, hN1⟩ := hp
  cases ev9
  have hf' := hO hN1
  obtain ⟨s', hD', hI', es, ep, hM'⟩ := law_A hM hd ho hN1 (fun _ _ => rfl)
  refine j_aload_n 2 dL_law_2741 rfl rfl ?_
  refine j_callV (ck' := ck + 1030) (sk' := sk + 4110) kL_273 cvX11_bars hM'.1.1 (toMN hZ2 (c_X11_bars hM' hZ2 hMI)) rfl rfl rfl rfl rfl dL_law_2742 (by show 0 + (ck + 1030) ≤ ck + 1030; omega) (by show 0 + (sk + 4110) ≤ sk + 4110; omega) (fun v9 h3 hp => ?_) (fun E h' hp => by cases hp.1)
  obtain ⟨ev9, hN2⟩ := hp
  cases ev9
  obtain ⟨d3, mp3, p3, Z3, hM3, hZ3, hMI3, ht3, hD3, hd3, ho3, hf3⟩ := law_B hD' hd ho hf' es ep hN2
  have hE : evs s'.1 ≤ n + 1 := by rw [es]; omega
  refine j_icmp_eq 3041 dL_law_2745 (by decide) (fun _ => ?_) (fun c => absurd rfl c)
  refine j_room (ck' := ck) (sk' := sk) (by omega) (by omega) ?_
  exact j_locR (kk _ ⟨d, s', Z, d3, mp3, p3, Z3, _, hD3, hZ, hI', hM3, hZ3, hMI3, hd3, ho3, hf3, hE⟩) (by repeat' (first | exact True.intro | refine And.intro rfl ?_))
set_option maxRecDepth 100000 in
theorem lc_39 {l : Launch} {G : jG} {a a2 o b N ck sk : Nat} {xs : Nat → Int32} {i n : Int} {QF : jF} {h : jH} (hl0 : l.stackTraces = false) (hN : N ≤ 2560) (hi : 0 ≤ i ∧ i + 5 ≤ (N : Int)) (hn : n < 512) (H : LI G a a2 o n h) (kk : ∀ h', LI G a a2 o (n + 1) h' → J l G mL_law (QH G b N xs QF) ck sk 3041 [(4, vI i), (3, .ref o), (2, .ref a2), (1, .ref a), (0, .ref b)] [] h') : J l G mL_law (QH G b N xs QF) (ck + 1030) (sk + 4110) 2750 [(4, vI i), (3, .ref o), (2, .ref a2), (1, .ref a), (0, .ref b)] [] h := by
  obtain ⟨d, s, Z, d2, mp, p, Z2, f, hD, hZ, hI, hM, hZ2, hMI, hd, ho, hf, hev⟩ := H
  have hO : ∀ {P : Nat → OS} {p0 : OS} {h' : jH}, DN G a d h P p0 h' → h' o = some (aJ G 1 f) := fun hp => by obtain ⟨_, _, _, _, _, g⟩ := hp; exact (g o (fun z => (hd o z).2 rfl)).trans hf
  refine j_aload_n 1 dL_law_2750 rfl rfl ?_
  refine j_aload_n 0 dL_law_2751 rfl rfl ?_
  refine j_iload dL_law_2752 rfl ?_
  refine J_iconst dL_law_2754 ?_
  refine J_iadd dL_law_2755 ?_
  refine J_sld dL_law_2756 (by omega) ?_
  refine j_aload_n 3 dL_law_2757 rfl rfl ?_
  refine j_callSH (ck' := ck + 1029) (sk' := sk + 4104) kL_274 ceL_widthOf csL_widthOf (c_L_widthOf (f := f) hD.1 (toDN (c_X9_widthOf hl0 hD hI hZ (sX_rg _ _))) (hr1 rfl) (fun _ hp => hO hp)) (fun E h' hp => by cases hp.1) rfl rfl rfl rfl rfl dL_law_2758 (by show 1 + (ck + 1029) ≤ ck + 1030; omega) (by show 6 + (sk + 4104) ≤ sk + 4110; omega) (fun v9 h2 hp => ?_)
  obtain ⟨ev9, h1, f', hN1, hf', hv', h12⟩ := hp
  cases ev9
  obtain ⟨s', hD', hI', es, ep, hM'⟩ := law_A hM hd ho hN1 h12
  refine j_istore (L' := [(5, _), (4, _), (3, _), (2, _), (1, _), (0, _)]) dL_law_2761 rfl rfl ?_
  refine j_aload_n 2 dL_law_2763 rfl rfl ?_
  refine j_aload_n 0 dL_law_2764 rfl rfl ?_
  refine j_iload dL_law_2765 rfl ?_
  refine J_iconst dL_law_2767 ?_
  refine J_iadd dL_law_2768 ?_
  refine J_sld dL_law_2769 (by omega) ?_
  refine j_callV (ck' := ck + 1029) (sk' := sk + 4104) kL_276 cvX11_widthOf hM'.1.1 (toMN hZ2 (c_X11_widthOf hM' hZ2 hMI (sX_rg _ _))) rfl rfl rfl rfl rfl dL_law_2770 (by show 0 + (ck + 1029) ≤ ck + 1029; omega) (by show 0 + (sk + 4104) ≤ sk + 4104; omega) (fun v9 h3 hp => ?_) (fun E h' hp => by cases hp.1)
  obtain ⟨ev9, hN2⟩ := hp
  cases ev9
  obtain ⟨d3, mp3, p3, Z3, hM3, hZ3, hMI3, ht3, hD3, hd3, ho3, hf3⟩ := law_B hD' hd ho hf' es ep hN2
  have hE : evs s'.1 ≤ n + 1 := by rw [es]; omega
  refine j_istore (L' := [(6, _), (5, _), (4, _), (3, _), (2, _), (1, _), (0, _)]) dL_law_2773 rfl rfl ?_
  refine j_aload_n 2 dL_law_2775 rfl rfl ?_
  refine J_callV1 kL_150 cvX11_thrown hM3.1.1 (c_X11_thrown hM3 hZ3 hMI3) rfl rfl rfl rfl rfl dL_law_2776 rfl rfl ?_
  rw [ht3]
  refine j_iload dL_law_2779 rfl ?_
  refine j_icmp_eq 2786 dL_law_2781 (by decide) (fun _ => ?_) (fun c => absurd rfl c)
  refine j_iload dL_law_2786 rfl ?_
  refine J_if_ne 2803 dL_law_2788 (by decide) (fun c => ?_) (fun c => ?_) rg_t1
  · refine j_goto 3041 dL_law_2803 (by decide) ?_
    refine j_room (ck' := ck) (sk' := sk) (by omega) (by omega) ?_
    exact j_locR (kk _ ⟨d, s', Z, d3, mp3, p3, Z3, _, hD3, hZ, hI', hM3, hZ3, hMI3, hd3, ho3, hf3, hE⟩) (by repeat' (first | exact True.intro | refine And.intro rfl ?_))
  · refine j_aload_n 3 dL_law_2791 rfl rfl ?_
    refine J_iconst dL_law_2792 ?_
    refine j_lald dL_law_2793 hf3 (I_vpin (by decide) (by decide)) ?_
    refine j_iload dL_law_2794 rfl ?_
    refine j_i2l dL_law_2796 ?_
    refine J_lcmp0 dL_law_2797 (hv' c) ?_
    refine J_if_eq 2803 dL_law_2798 (by decide) (fun _ => ?_) (fun c => absurd rfl c) (by decide)
    refine j_goto 3041 dL_law_2803 (by decide) ?_
    refine j_room (ck' := ck) (sk' := sk) (by omega) (by omega) ?_
    exact j_locR (kk _ ⟨d, s', Z, d3, mp3, p3, Z3, _, hD3, hZ, hI', hM3, hZ3, hMI3, hd3, ho3, hf3, hE⟩) (by repeat' (first | exact True.intro | refine And.intro rfl ?_))
set_option maxRecDepth 100000 in
theorem lc_40 {l : Launch} {G : jG} {a a2 o b N ck sk : Nat} {xs : Nat → Int32} {i n : Int} {QF : jF} {h : jH} (hl0 : l.stackTraces = false) (hN : N ≤ 2560) (hi : 0 ≤ i ∧ i + 5 ≤ (N : Int)) (hn : n < 512) (H : LI G a a2 o n h) (kk : ∀ h', LI G a a2 o (n + 1) h' → J l G mL_law (QH G b N xs QF) ck sk 3041 [(4, vI i), (3, .ref o), (2, .ref a2), (1, .ref a), (0, .ref b)] [] h') : J l G mL_law (QH G b N xs QF) (ck + 1030) (sk + 4110) 2806 [(4, vI i), (3, .ref o), (2, .ref a2), (1, .ref a), (0, .ref b)] [] h := by
  obtain ⟨d, s, Z, d2, mp, p, Z2, f, hD, hZ, hI, hM, hZ2, hMI, hd, ho, hf, hev⟩ := H
  have hO : ∀ {P : Nat → OS} {p0 : OS} {h' : jH}, DN G a d h P p0 h' → h' o = some (aJ G 1 f) := fun hp => by obtain ⟨_, _, _, _, _, g⟩ := hp; exact (g o (fun z => (hd o z).2 rfl)).trans hf
  refine j_aload_n 1 dL_law_2806 rfl rfl ?_
  refine j_aload_n 0 dL_law_2807 rfl rfl ?_
  refine j_iload dL_law_2808 rfl ?_
  refine J_iconst dL_law_2810 ?_
  refine J_iadd dL_law_2811 ?_
  refine J_sld dL_law_2812 (by omega) ?_
  refine j_aload_n 3 dL_law_2813 rfl rfl ?_
  refine j_callSH (ck' := ck + 1029) (sk' := sk + 4104) kL_277 ceL_lines csL_lines (c_L_lines (f := f) hD.1 (toDN (c_X9_lines hl0 hD hI hZ (sX_rg _ _))) (hr1 rfl) (fun _ hp => hO hp)) (fun E h' hp => by cases hp.1) rfl rfl rfl rfl rfl dL_law_2814 (by show 1 + (ck + 1029) ≤ ck + 1030; omega) (by show 6 + (sk + 4104) ≤ sk + 4110; omega) (fun v9 h2 hp => ?_)
  obtain ⟨ev9, h1, f', hN1, hf', hv', h12⟩ := hp
  cases ev9
  obtain ⟨s', hD', hI', es, ep, hM'⟩ := law_A hM hd ho hN1 h12
  refine j_istore (L' := [(5, _), (4, _), (3, _), (2, _), (1, _), (0, _)]) dL_law_2817 rfl rfl ?_
  refine j_aload_n 2 dL_law_2819 rfl rfl ?_
  refine j_aload_n 0 dL_law_2820 rfl rfl ?_
  refine j_iload dL_law_2821 rfl ?_
  refine J_iconst dL_law_2823 ?_
  refine J_iadd dL_law_2824 ?_
  refine J_sld dL_law_2825 (by omega) ?_
  refine j_callV (ck' := ck + 1029) (sk' := sk + 4104) kL_279 cvX11_lines hM'.1.1 (toMN hZ2 (c_X11_lines hM' hZ2 hMI (sX_rg _ _))) rfl rfl rfl rfl rfl dL_law_2826 (by show 0 + (ck + 1029) ≤ ck + 1029; omega) (by show 0 + (sk + 4104) ≤ sk + 4104; omega) (fun v9 h3 hp => ?_) (fun E h' hp => by cases hp.1)
  obtain ⟨ev9, hN2⟩ := hp
  cases ev9
  obtain ⟨d3, mp3, p3, Z3, hM3, hZ3, hMI3, ht3, hD3, hd3, ho3, hf3⟩ := law_B hD' hd ho hf' es ep hN2
  have hE : evs s'.1 ≤ n + 1 := by rw [es]; omega
  refine j_istore (L' := [(6, _), (5, _), (4, _), (3, _), (2, _), (1, _), (0, _)]) dL_law_2829 rfl rfl ?_
  refine j_aload_n 2 dL_law_2831 rfl rfl ?_
  refine J_callV1 kL_150 cvX11_thrown hM3.1.1 (c_X11_thrown hM3 hZ3 hMI3) rfl rfl rfl rfl rfl dL_law_2832 rfl rfl ?_
  rw [ht3]
  refine j_iload dL_law_2835 rfl ?_
  refine j_icmp_eq 2842 dL_law_2837 (by decide) (fun _ => ?_) (fun c => absurd rfl c)
  refine j_iload dL_law_2842 rfl ?_
  refine J_if_ne 2859 dL_law_2844 (by decide) (fun c => ?_) (fun c => ?_) rg_t1
  · refine j_goto 3041 dL_law_2859 (by decide) ?_
    refine j_room (ck' := ck) (sk' := sk) (by omega) (by omega) ?_
    exact j_locR (kk _ ⟨d, s', Z, d3, mp3, p3, Z3, _, hD3, hZ, hI', hM3, hZ3, hMI3, hd3, ho3, hf3, hE⟩) (by repeat' (first | exact True.intro | refine And.intro rfl ?_))
  · refine j_aload_n 3 dL_law_2847 rfl rfl ?_
    refine J_iconst dL_law_2848 ?_
    refine j_lald dL_law_2849 hf3 (I_vpin (by decide) (by decide)) ?_
    refine j_iload dL_law_2850 rfl ?_
    refine j_i2l dL_law_2852 ?_
    refine J_lcmp0 dL_law_2853 (hv' c) ?_
    refine J_if_eq 2859 dL_law_2854 (by decide) (fun _ => ?_) (fun c => absurd rfl c) (by decide)
    refine j_goto 3041 dL_law_2859 (by decide) ?_
    refine j_room (ck' := ck) (sk' := sk) (by omega) (by omega) ?_
    exact j_locR (kk _ ⟨d, s', Z, d3, mp3, p3, Z3, _, hD3, hZ, hI', hM3, hZ3, hMI3, hd3, ho3, hf3, hE⟩) (by repeat' (first | exact True.intro | refine And.intro rfl ?_))
set_option maxRecDepth 100000 in
theorem lc_41 {l : Launch} {G : jG} {a a2 o b N ck sk : Nat} {xs : Nat → Int32} {i n : Int} {QF : jF} {h : jH} (hl0 : l.stackTraces = false) (hN : N ≤ 2560) (hi : 0 ≤ i ∧ i + 5 ≤ (N : Int)) (hn : n < 512) (H : LI G a a2 o n h) (kk : ∀ h', LI G a a2 o (n + 1) h' → J l G mL_law (QH G b N xs QF) ck sk 3041 [(4, vI i), (3, .ref o), (2, .ref a2), (1, .ref a), (0, .ref b)] [] h') : J l G mL_law (QH G b N xs QF) (ck + 1030) (sk + 4110) 2862 [(4, vI i), (3, .ref o), (2, .ref a2), (1, .ref a), (0, .ref b)] [] h := by
  obtain ⟨d, s, Z, d2, mp, p, Z2, f, hD, hZ, hI, hM, hZ2, hMI, hd, ho, hf, hev⟩ := H
  have hO : ∀ {P : Nat → OS} {p0 : OS} {h' : jH}, DN G a d h P p0 h' → h' o = some (aJ G 1 f) := fun hp => by obtain ⟨_, _, _, _, _, g⟩ := hp; exact (g o (fun z => (hd o z).2 rfl)).trans hf
  refine j_aload_n 1 dL_law_2862 rfl rfl ?_
  refine j_aload_n 0 dL_law_2863 rfl rfl ?_
  refine j_iload dL_law_2864 rfl ?_
  refine J_iconst dL_law_2866 ?_
  refine J_iadd dL_law_2867 ?_
  refine J_sld dL_law_2868 (by omega) ?_
  refine j_aload_n 0 dL_law_2869 rfl rfl ?_
  refine j_iload dL_law_2870 rfl ?_
  refine J_iconst dL_law_2872 ?_
  refine J_iadd dL_law_2873 ?_
  refine J_sld dL_law_2874 (by omega) ?_
  refine j_aload_n 3 dL_law_2875 rfl rfl ?_
  refine j_callSH (ck' := ck + 1029) (sk' := sk + 4104) kL_280 ceL_lineOf csL_lineOf (c_L_lineOf (f := f) hD.1 (toDN (c_X9_lineOf hl0 hD hI hZ (sX_rg _ _) (sX_rg _ _))) (hr2 rfl) (fun _ hp => hO hp)) (fun E h' hp => by cases hp.1) rfl rfl rfl rfl rfl dL_law_2876 (by show 1 + (ck + 1029) ≤ ck + 1030; omega) (by show 6 + (sk + 4104) ≤ sk + 4110; omega) (fun v9 h2 hp => ?_)
  obtain ⟨ev9, h1, f', hN1, hf', hv', h12⟩ := hp
  cases ev9
  obtain ⟨s', hD', hI', es, ep, hM'⟩ := law_A hM hd ho hN1 h12
  refine j_istore (L' := [(5, _), (4, _), (3, _), (2, _), (1, _), (0, _)]) dL_law_2879 rfl rfl ?_
  refine j_aload_n 2 dL_law_2881 rfl rfl ?_
  refine j_aload_n 0 dL_law_2882 rfl rfl ?_
  refine j_iload dL_law_2883 rfl ?_
  refine J_iconst dL_law_2885 ?_
  refine J_iadd dL_law_2886 ?_
  refine J_sld dL_law_2887 (by omega) ?_
  refine j_aload_n 0 dL_law_2888 rfl rfl ?_
  refine j_iload dL_law_2889 rfl ?_
  refine J_iconst dL_law_2891 ?_
  refine J_iadd dL_law_2892 ?_
  refine J_sld dL_law_2893 (by omega) ?_
  refine j_callV (ck' := ck + 1029) (sk' := sk + 4104) kL_282 cvX11_lineOf hM'.1.1 (toMN hZ2 (c_X11_lineOf hM' hZ2 hMI (sX_rg _ _) (sX_rg _ _))) rfl rfl rfl rfl rfl dL_law_2894 (by show 0 + (ck + 1029) ≤ ck + 1029; omega) (by show 0 + (sk + 4104) ≤ sk + 4104; omega) (fun v9 h3 hp => ?_) (fun E h' hp => by cases hp.1)
  obtain ⟨ev9, hN2⟩ := hp
  cases ev9
  obtain ⟨d3, mp3, p3, Z3, hM3, hZ3, hMI3, ht3, hD3, hd3, ho3, hf3⟩ := law_B hD' hd ho hf' es ep hN2
  have hE : evs s'.1 ≤ n + 1 := by rw [es]; omega
  refine j_istore (L' := [(6, _), (5, _), (4, _), (3, _), (2, _), (1, _), (0, _)]) dL_law_2897 rfl rfl ?_
  refine j_aload_n 2 dL_law_2899 rfl rfl ?_
  refine J_callV1 kL_150 cvX11_thrown hM3.1.1 (c_X11_thrown hM3 hZ3 hMI3) rfl rfl rfl rfl rfl dL_law_2900 rfl rfl ?_
  rw [ht3]
  refine j_iload dL_law_2903 rfl ?_
  refine j_icmp_eq 2910 dL_law_2905 (by decide) (fun _ => ?_) (fun c => absurd rfl c)
  refine j_iload dL_law_2910 rfl ?_
  refine J_if_ne 2927 dL_law_2912 (by decide) (fun c => ?_) (fun c => ?_) rg_t2
  · refine j_goto 3041 dL_law_2927 (by decide) ?_
    refine j_room (ck' := ck) (sk' := sk) (by omega) (by omega) ?_
    exact j_locR (kk _ ⟨d, s', Z, d3, mp3, p3, Z3, _, hD3, hZ, hI', hM3, hZ3, hMI3, hd3, ho3, hf3, hE⟩) (by repeat' (first | exact True.intro | refine And.intro rfl ?_))
  · refine j_aload_n 3 dL_law_2915 rfl rfl ?_
    refine J_iconst dL_law_2916 ?_
    refine j_lald dL_law_2917 hf3 (I_vpin (by decide) (by decide)) ?_
    refine j_iload dL_law_2918 rfl ?_
    refine j_i2l dL_law_2920 ?_
    refine J_lcmp0 dL_law_2921 (hv' c) ?_
    refine J_if_eq 2927 dL_law_2922 (by decide) (fun _ => ?_) (fun c => absurd rfl c) (by decide)
    refine j_goto 3041 dL_law_2927 (by decide) ?_
    refine j_room (ck' := ck) (sk' := sk) (by omega) (by omega) ?_
    exact j_locR (kk _ ⟨d, s', Z, d3, mp3, p3, Z3, _, hD3, hZ, hI', hM3, hZ3, hMI3, hd3, ho3, hf3, hE⟩) (by repeat' (first | exact True.intro | refine And.intro rfl ?_))
set_option maxRecDepth 100000 in
theorem lc_42 {l : Launch} {G : jG} {a a2 o b N ck sk : Nat} {xs : Nat → Int32} {i n : Int} {QF : jF} {h : jH} (hl0 : l.stackTraces = false) (hN : N ≤ 2560) (hi : 0 ≤ i ∧ i + 5 ≤ (N : Int)) (hn : n < 512) (H : LI G a a2 o n h) (kk : ∀ h', LI G a a2 o (n + 1) h' → J l G mL_law (QH G b N xs QF) ck sk 3041 [(4, vI i), (3, .ref o), (2, .ref a2), (1, .ref a), (0, .ref b)] [] h') : J l G mL_law (QH G b N xs QF) (ck + 1030) (sk + 4110) 2930 [(4, vI i), (3, .ref o), (2, .ref a2), (1, .ref a), (0, .ref b)] [] h := by
  obtain ⟨d, s, Z, d2, mp, p, Z2, f, hD, hZ, hI, hM, hZ2, hMI, hd, ho, hf, hev⟩ := H
  have hO : ∀ {P : Nat → OS} {p0 : OS} {h' : jH}, DN G a d h P p0 h' → h' o = some (aJ G 1 f) := fun hp => by obtain ⟨_, _, _, _, _, g⟩ := hp; exact (g o (fun z => (hd o z).2 rfl)).trans hf
  refine j_aload_n 1 dL_law_2930 rfl rfl ?_
  refine j_aload_n 0 dL_law_2931 rfl rfl ?_
  refine j_iload dL_law_2932 rfl ?_
  refine J_iconst dL_law_2934 ?_
  refine J_iadd dL_law_2935 ?_
  refine J_sld dL_law_2936 (by omega) ?_
  refine j_aload_n 3 dL_law_2937 rfl rfl ?_
  refine j_callSH (ck' := ck + 1029) (sk' := sk + 4104) kL_283 ceL_costOf csL_costOf (c_L_costOf (f := f) hD.1 (toDN (c_X9_costOf hl0 hD hI hZ (sX_rg _ _))) (hr1 rfl) (fun _ hp => hO hp)) (fun E h' hp => by cases hp.1) rfl rfl rfl rfl rfl dL_law_2938 (by show 1 + (ck + 1029) ≤ ck + 1030; omega) (by show 6 + (sk + 4104) ≤ sk + 4110; omega) (fun v9 h2 hp => ?_)
  obtain ⟨ev9, h1, f', hN1, hf', hv', h12⟩ := hp
  cases ev9
  obtain ⟨s', hD', hI', es, ep, hM'⟩ := law_A hM hd ho hN1 h12
  refine j_istore (L' := [(5, _), (4, _), (3, _), (2, _), (1, _), (0, _)]) dL_law_2941 rfl rfl ?_
  refine j_aload_n 2 dL_law_2943 rfl rfl ?_
  refine j_aload_n 0 dL_law_2944 rfl rfl ?_
  refine j_iload dL_law_2945 rfl ?_
  refine J_iconst dL_law_2947 ?_
  refine J_iadd dL_law_2948 ?_
  refine J_sld dL_law_2949 (by omega) ?_
  refine j_callV (ck' := ck + 1029) (sk' := sk + 4104) kL_285 cvX11_costOf hM'.1.1 (toMN hZ2 (c_X11_costOf hM' hZ2 hMI (sX_rg _ _))) rfl rfl rfl rfl rfl dL_law_2950 (by show 0 + (ck + 1029) ≤ ck + 1029; omega) (by show 0 + (sk + 4104) ≤ sk + 4104; omega) (fun v9 h3 hp => ?_) (fun E h' hp => by cases hp.1)
  obtain ⟨ev9, hN2⟩ := hp
  cases ev9
  obtain ⟨d3, mp3, p3, Z3, hM3, hZ3, hMI3, ht3, hD3, hd3, ho3, hf3⟩ := law_B hD' hd ho hf' es ep hN2
  have hE : evs s'.1 ≤ n + 1 := by rw [es]; omega
  refine j_istore (L' := [(6, _), (5, _), (4, _), (3, _), (2, _), (1, _), (0, _)]) dL_law_2953 rfl rfl ?_
  refine j_aload_n 2 dL_law_2955 rfl rfl ?_
  refine J_callV1 kL_150 cvX11_thrown hM3.1.1 (c_X11_thrown hM3 hZ3 hMI3) rfl rfl rfl rfl rfl dL_law_2956 rfl rfl ?_
  rw [ht3]
  refine j_iload dL_law_2959 rfl ?_
  refine j_icmp_eq 2966 dL_law_2961 (by decide) (fun _ => ?_) (fun c => absurd rfl c)
  refine j_iload dL_law_2966 rfl ?_
  refine J_if_ne 2983 dL_law_2968 (by decide) (fun c => ?_) (fun c => ?_) rg_t1
  · refine j_goto 3041 dL_law_2983 (by decide) ?_
    refine j_room (ck' := ck) (sk' := sk) (by omega) (by omega) ?_
    exact j_locR (kk _ ⟨d, s', Z, d3, mp3, p3, Z3, _, hD3, hZ, hI', hM3, hZ3, hMI3, hd3, ho3, hf3, hE⟩) (by repeat' (first | exact True.intro | refine And.intro rfl ?_))
  · refine j_aload_n 3 dL_law_2971 rfl rfl ?_
    refine J_iconst dL_law_2972 ?_
    refine j_lald dL_law_2973 hf3 (I_vpin (by decide) (by decide)) ?_
    refine j_iload dL_law_2974 rfl ?_
    refine j_i2l dL_law_2976 ?_
    refine J_lcmp0 dL_law_2977 (hv' c) ?_
    refine J_if_eq 2983 dL_law_2978 (by decide) (fun _ => ?_) (fun c => absurd rfl c) (by decide)
    refine j_goto 3041 dL_law_2983 (by decide) ?_
    refine j_room (ck' := ck) (sk' := sk) (by omega) (by omega) ?_
    exact j_locR (kk _ ⟨d, s', Z, d3, mp3, p3, Z3, _, hD3, hZ, hI', hM3, hZ3, hMI3, hd3, ho3, hf3, hE⟩) (by repeat' (first | exact True.intro | refine And.intro rfl ?_))
set_option maxRecDepth 100000 in
theorem lc_43 {l : Launch} {G : jG} {a a2 o b N ck sk : Nat} {xs : Nat → Int32} {i n : Int} {QF : jF} {h : jH} (hl0 : l.stackTraces = false) (hN : N ≤ 2560) (hi : 0 ≤ i ∧ i + 5 ≤ (N : Int)) (hn : n < 512) (H : LI G a a2 o n h) (kk : ∀ h', LI G a a2 o (n + 1) h' → J l G mL_law (QH G b N xs QF) ck sk 3041 [(4, vI i), (3, .ref o), (2, .ref a2), (1, .ref a), (0, .ref b)] [] h') : J l G mL_law (QH G b N xs QF) (ck + 1030) (sk + 4110) 2986 [(4, vI i), (3, .ref o), (2, .ref a2), (1, .ref a), (0, .ref b)] [] h := by
  obtain ⟨d, s, Z, d2, mp, p, Z2, f, hD, hZ, hI, hM, hZ2, hMI, hd, ho, hf, hev⟩ := H
  have hO : ∀ {P : Nat → OS} {p0 : OS} {h' : jH}, DN G a d h P p0 h' → h' o = some (aJ G 1 f) := fun hp => by obtain ⟨_, _, _, _, _, g⟩ := hp; exact (g o (fun z => (hd o z).2 rfl)).trans hf
  refine j_aload_n 1 dL_law_2986 rfl rfl ?_
  refine j_callV (ck' := ck + 1030) (sk' := sk + 4110) kL_286 cvX9_meanHeight hD.1 (toDN (c_X9_meanHeight hD hI hZ)) rfl rfl rfl rfl rfl dL_law_2987 (by show 0 + (ck + 1030) ≤ ck + 1030; omega) (by show 0 + (sk + 4110) ≤ sk + 4110; omega) (fun v9 h2 hp => ?_) (fun E h' hp => by cases hp.1)
  obtain ⟨ev9, hN1⟩ := hp
  cases ev9
  have hf' := hO hN1
  obtain ⟨s', hD', hI', es, ep, hM'⟩ := law_A hM hd ho hN1 (fun _ _ => rfl)
  refine j_dstore (L' := [(5, _), (4, _), (3, _), (2, _), (1, _), (0, _)]) dL_law_2990 rfl rfl ?_
  refine j_aload_n 2 dL_law_2992 rfl rfl ?_
  refine j_callV (ck' := ck + 1030) (sk' := sk + 4110) kL_290 cvX11_meanHeight hM'.1.1 (toMN hZ2 (c_X11_meanHeight hM' hZ2 hMI)) rfl rfl rfl rfl rfl dL_law_2993 (by show 0 + (ck + 1030) ≤ ck + 1030; omega) (by show 0 + (sk + 4110) ≤ sk + 4110; omega) (fun v9 h3 hp => ?_) (fun E h' hp => by cases hp.1)
  obtain ⟨ev9, hN2⟩ := hp
  cases ev9
  obtain ⟨d3, mp3, p3, Z3, hM3, hZ3, hMI3, ht3, hD3, hd3, ho3, hf3⟩ := law_B hD' hd ho hf' es ep hN2
  have hE : evs s'.1 ≤ n + 1 := by rw [es]; omega
  refine j_dstore (L' := [(7, _), (5, _), (4, _), (3, _), (2, _), (1, _), (0, _)]) dL_law_2996 rfl rfl ?_
  refine j_dload dL_law_2998 rfl ?_
  refine j_dload dL_law_3000 rfl ?_
  refine j_dcmp dL_law_3002 ?_
  refine j_if_eq 3024 dL_law_3003 (by decide) (fun c => ?_) (fun c => ?_)
  · refine j_goto 3041 dL_law_3024 (by decide) ?_
    refine j_room (ck' := ck) (sk' := sk) (by omega) (by omega) ?_
    exact j_locR (kk _ ⟨d, s', Z, d3, mp3, p3, Z3, _, hD3, hZ, hI', hM3, hZ3, hMI3, hd3, ho3, hf3, hE⟩) (by repeat' (first | exact True.intro | refine And.intro rfl ?_))
  · refine j_dload dL_law_3006 rfl ?_
    refine j_dload dL_law_3008 rfl ?_
    refine j_dcmp dL_law_3010 ?_
    refine j_if_eq 3022 dL_law_3011 (by decide) (fun z => absurd z c) (fun _ => ?_)
    refine j_dload dL_law_3014 rfl ?_
    refine j_dload dL_law_3016 rfl ?_
    refine j_dcmp dL_law_3018 ?_
    refine j_if_ne 3024 dL_law_3019 (by decide) (fun _ => ?_) (fun z => absurd z c)
    refine j_goto 3041 dL_law_3024 (by decide) ?_
    refine j_room (ck' := ck) (sk' := sk) (by omega) (by omega) ?_
    exact j_locR (kk _ ⟨d, s', Z, d3, mp3, p3, Z3, _, hD3, hZ, hI', hM3, hZ3, hMI3, hd3, ho3, hf3, hE⟩) (by repeat' (first | exact True.intro | refine And.intro rfl ?_))
set_option maxRecDepth 100000 in
theorem lc_44 {l : Launch} {G : jG} {a a2 o b N ck sk : Nat} {xs : Nat → Int32} {i n : Int} {QF : jF} {h : jH} (hl0 : l.stackTraces = false) (hN : N ≤ 2560) (hi : 0 ≤ i ∧ i + 5 ≤ (N : Int)) (hn : n < 512) (H : LI G a a2 o n h) (kk : ∀ h', LI G a a2 o (n + 1) h' → J l G mL_law (QH G b N xs QF) ck sk 3041 [(4, vI i), (3, .ref o), (2, .ref a2), (1, .ref a), (0, .ref b)] [] h') : J l G mL_law (QH G b N xs QF) (ck + 1030) (sk + 4110) 3027 [(4, vI i), (3, .ref o), (2, .ref a2), (1, .ref a), (0, .ref b)] [] h := by
  obtain ⟨d, s, Z, d2, mp, p, Z2, f, hD, hZ, hI, hM, hZ2, hMI, hd, ho, hf, hev⟩ := H
  have hO : ∀ {P : Nat → OS} {p0 : OS} {h' : jH}, DN G a d h P p0 h' → h' o = some (aJ G 1 f) := fun hp => by obtain ⟨_, _, _, _, _, g⟩ := hp; exact (g o (fun z => (hd o z).2 rfl)).trans hf
  refine j_aload_n 1 dL_law_3027 rfl rfl ?_
  refine j_callV (ck' := ck + 1030) (sk' := sk + 4110) (show jLk _ _ yX9_digest z9_digest _ from kL_291) cvX9_digest hD.1 (toDN (c0_X9_digest hD hI hZ)) rfl rfl rfl rfl rfl dL_law_3028 (by show 0 + (ck + 1030) ≤ ck + 1030; omega) (by show 0 + (sk + 4110) ≤ sk + 4110; omega) (fun v9 h2 hp => ?_) (fun E h' hp => by cases hp.1)
  obtain ⟨ev9, hN1⟩ := hp
  cases ev9
  have hf' := hO hN1
  obtain ⟨s', hD', hI', es, ep, hM'⟩ := law_A hM hd ho hN1 (fun _ _ => rfl)
  refine j_aload_n 2 dL_law_3031 rfl rfl ?_
  refine j_callV (ck' := ck + 6) (sk' := sk + 14) kL_295 cvX11_digest hM'.1.1 (toMN hZ2 (c_X11_digest hM' hZ2 hMI)) rfl rfl rfl rfl rfl dL_law_3032 (by show 1024 + (ck + 6) ≤ ck + 1030; omega) (by show 4096 + (sk + 14) ≤ sk + 4110; omega) (fun v9 h3 hp => ?_) (fun E h' hp => by cases hp.1)
  obtain ⟨ev9, hN2⟩ := hp
  cases ev9
  obtain ⟨d3, mp3, p3, Z3, hM3, hZ3, hMI3, ht3, hD3, hd3, ho3, hf3⟩ := law_B hD' hd ho hf' es ep hN2
  have hE : evs s'.1 ≤ n + 1 := by rw [es]; omega
  refine J_lcmp0 dL_law_3035 rfl ?_
  refine J_if_eq 3041 dL_law_3036 (by decide) (fun _ => ?_) (fun c => absurd rfl c) (by decide)
  refine j_room (ck' := ck) (sk' := sk) (by omega) (by omega) ?_
  exact j_locR (kk _ ⟨d, s', Z, d3, mp3, p3, Z3, _, hD3, hZ, hI', hM3, hZ3, hMI3, hd3, ho3, hf3, hE⟩) (by repeat' (first | exact True.intro | refine And.intro rfl ?_))
