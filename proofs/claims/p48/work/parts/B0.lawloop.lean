/-! the law's loops and start -/
abbrev mL_law : jM := (RL, code, 7, ret, [], "law", room_1)
/-- the bars that are looked at, by how many are left -/
def barR (r : Nat) : Int := if 4 ≤ r then 8 - (r : Int) else 24 - 5 * (r : Int)
set_option maxRecDepth 100000 in
theorem law_parts {l : Launch} {G : jG} {QF : jF} {a : Nat} {d : DA} {P : Nat → OS} {p0 : OS} {Z : Nat → Nat} (hl0 : l.stackTraces = false) (hZ : Dz a d Z) {ck sk : Nat} {t c g : Int} (hs : scoOK P) (hc : calOK p0) (hb : isBar c) (fin : ∀ (h : jH) (x : Int), DD G a d P p0 h → J l G mL_law QF ck sk 91 [(6, vI x), (5, vI c), (3, vL g), (2, vI t), (1, .ref a), (0, .ref (jSb G))] [] h) : ∀ (n : Nat) (k : Int) (h : jH), k + n = 4 → 0 ≤ k → DD G a d P p0 h → J l G mL_law QF (1560 * n + ck) (9360 * n + sk) 66 [(6, vI k), (5, vI c), (3, vL g), (2, vI t), (1, .ref a), (0, .ref (jSb G))] [] h := by
  intro n
  induction n with
  | zero =>
    intro k h hk h0 hD
    refine j_iload dL_law_66 rfl ?_
    refine J_iconst dL_law_68 ?_
    refine J_icmp_ge 91 dL_law_69 (by decide) (fun c69 => ?_) (fun c69 => absurd c69 (by omega)) (by omega)
    refine j_room (ck' := ck) (sk' := sk) (by omega) (by omega) ?_
    exact j_locR (fin h _ hD) (by repeat' (first | exact True.intro | refine And.intro rfl ?_))
  | succ n ih =>
    intro k h hk h0 hD
    refine j_iload dL_law_66 rfl ?_
    refine J_iconst dL_law_68 ?_
    refine J_icmp_ge 91 dL_law_69 (by decide) (fun c69 => absurd c69 (by omega)) (fun c69 => ?_) (by omega)
    refine j_aload_n 1 dL_law_72 rfl rfl ?_
    refine j_iload dL_law_73 rfl ?_
    refine j_iload dL_law_75 rfl ?_
    refine J_ck (ck' := 1560 * n + ck + 0) (sk' := 9360 * n + sk + 0) (show jLk _ _ yL_isBarSound zL_isBarSound 3 from kL_26) csL_isBarSound (c_L_isBarSound hl0 hZ ⟨h0, by omega⟩ hb (sd_bar hs hc ⟨h0, by omega⟩ hb) hD) rfl rfl rfl rfl rfl dL_law_77 (by show 1560 + _ ≤ _; omega) (by show 9360 + _ ≤ _; omega) (fun h hD => ?_)
    refine J_if_ne 85 dL_law_80 (by decide) (fun c80 => ?_) (fun c80 => absurd c80 (by omega)) (by omega)
    refine J_iinc (L' := [(6, _), (5, _), (3, _), (2, _), (1, _), (0, _)]) dL_law_85 rfl rfl rfl ?_
    refine j_goto 66 dL_law_88 (by decide) ?_
    exact j_locR (ih (k + 1) h (by omega) (by omega) hD) (by repeat' (first | exact True.intro | refine And.intro rfl ?_))
set_option maxRecDepth 100000 in
theorem law_bars {l : Launch} {G : jG} {QF : jF} {a : Nat} {d : DA} {P : Nat → OS} {p0 : OS} {Z : Nat → Nat} (hl0 : l.stackTraces = false) (hZ : Dz a d Z) {ck sk : Nat} {t g : Int} (hs : scoOK P) (hc : calOK p0) (fin : ∀ (h : jH), DD G a d P p0 h → J l G mL_law QF ck sk 110 [(3, vL g), (2, vI t), (1, .ref a), (0, .ref (jSb G))] [] h) : ∀ (r : Nat) (c : Int) (h : jH), c = barR r → r ≤ 8 → DD G a d P p0 h → J l G mL_law QF (6240 * r + ck) (37440 * r + sk) 56 [(5, vI c), (3, vL g), (2, vI t), (1, .ref a), (0, .ref (jSb G))] [] h := by
  intro r
  induction r with
  | zero =>
    intro c h hc0 hr hD
    have e : c = 24 := hc0
    refine j_iload dL_law_56 rfl ?_
    refine J_bipush dL_law_58 (by decide) ?_
    refine J_icmp_ge 110 dL_law_60 (by decide) (fun c60 => ?_) (fun c60 => absurd c60 (by omega)) (by omega)
    refine j_room (ck' := ck) (sk' := sk) (by omega) (by omega) ?_
    exact j_locR (fin h hD) (by repeat' (first | exact True.intro | refine And.intro rfl ?_))
  | succ r ih =>
    intro c h hc0 hr hD
    have hb : isBar c ∧ ((4 ≤ c ∧ c + 5 = barR r) ∨ (c < 4 ∧ c + 1 = barR r)) := by
      unfold barR at hc0 ⊢
      split at hc0 <;> split <;> omega
    obtain ⟨hb, hn⟩ := hb
    have K91 : ∀ (h : jH) (x : Int), DD G a d P p0 h → J l G mL_law QF (6240 * r + ck) (37440 * r + sk) 91 [(6, vI x), (5, vI c), (3, vL g), (2, vI t), (1, .ref a), (0, .ref (jSb G))] [] h := by
      intro h x hD
      refine j_iload dL_law_91 rfl ?_
      refine j_iload dL_law_93 rfl ?_
      refine J_iconst dL_law_95 ?_
      refine J_icmp_ge 103 dL_law_96 (by decide) (fun c96 => ?_) (fun c96 => ?_) (by omega)
      · refine J_iconst dL_law_103 ?_
        refine J_iadd dL_law_104 ?_
        refine j_istore (L' := [(5, _), (6, _), (3, _), (2, _), (1, _), (0, _)]) dL_law_105 rfl rfl ?_
        refine j_goto 56 dL_law_107 (by decide) ?_
        exact j_locR (ih (c + 5) h (by omega) (by omega) hD) (by repeat' (first | exact True.intro | refine And.intro rfl ?_))
      · refine J_iconst dL_law_99 ?_
        refine j_goto 104 dL_law_100 (by decide) ?_
        refine J_iadd dL_law_104 ?_
        refine j_istore (L' := [(5, _), (6, _), (3, _), (2, _), (1, _), (0, _)]) dL_law_105 rfl rfl ?_
        refine j_goto 56 dL_law_107 (by decide) ?_
        exact j_locR (ih (c + 1) h (by omega) (by omega) hD) (by repeat' (first | exact True.intro | refine And.intro rfl ?_))
    refine j_iload dL_law_56 rfl ?_
    refine J_bipush dL_law_58 (by decide) ?_
    refine J_icmp_ge 110 dL_law_60 (by decide) (fun c60 => absurd c60 (by omega)) (fun c60 => ?_) (by omega)
    refine J_iconst dL_law_63 ?_
    refine j_istore (L' := [(6, _), (5, _), (3, _), (2, _), (1, _), (0, _)]) dL_law_64 rfl rfl ?_
    refine j_room (ck' := 1560 * 4 + (6240 * r + ck)) (sk' := 9360 * 4 + (37440 * r + sk)) (by omega) (by omega) ?_
    exact j_locR (law_parts hl0 hZ hs hc hb K91 4 0 h (by omega) (by omega) hD) (by repeat' (first | exact True.intro | refine And.intro rfl ?_))
set_option maxRecDepth 100000 in
theorem law_loop {l : Launch} {G : jG} {QF : jF} {a : Nat} {d : DA} {Z : Nat → Nat} (hl0 : l.stackTraces = false) (hZ : Dz a d Z) (hN : jSn G ≤ 260) (hfin : ∀ (ck sk : Nat) (h : jH) (L : List (Nat × Value)), J l G mL_law QF ck sk 156 L [] h) : ∀ (n t : Nat) (h : jH), t + n = 60 → DX G a d h → J l G mL_law QF (3 * n + 61272 * (3 - t / 20)) (24 * n + 367632 * (3 - t / 20)) 10 [(2, vI (t : Int)), (1, .ref a), (0, .ref (jSb G))] [] h := by
  intro n
  induction n with
  | zero =>
    intro t h ht hX
    refine j_iload_n 2 dL_law_10 rfl rfl ?_
    refine J_bipush dL_law_11 (by decide) ?_
    refine J_icmp_ge 156 dL_law_13 (by decide) (fun c13 => ?_) (fun c13 => absurd c13 (by omega)) (by omega)
    exact hfin _ _ _ _
  | succ n ih =>
    intro t h ht hX
    have K150 : ∀ (h : jH), DX G a d h → J l G mL_law QF (3 * n + 61272 * (3 - (t + 1) / 20)) (24 * n + 367632 * (3 - (t + 1) / 20)) 150 [(2, vI (t : Int)), (1, .ref a), (0, .ref (jSb G))] [] h := by
      intro h hX
      refine J_iinc (L' := [(2, _), (1, _), (0, _)]) dL_law_150 rfl rfl rfl ?_
      refine j_goto 10 dL_law_153 (by decide) ?_
      exact j_locR (ih (t + 1) h (by omega) hX) (by repeat' (first | exact True.intro | refine And.intro rfl ?_))
    obtain ⟨P, p0, hD⟩ := hX
    refine j_iload_n 2 dL_law_10 rfl rfl ?_
    refine J_bipush dL_law_11 (by decide) ?_
    refine J_icmp_ge 156 dL_law_13 (by decide) (fun c13 => absurd c13 (by omega)) (fun c13 => ?_) (by omega)
    refine j_aload_n 1 dL_law_16 rfl rfl ?_
    refine j_aload_n 0 dL_law_17 rfl rfl ?_
    refine j_iload_n 2 dL_law_18 rfl rfl ?_
    refine J_bipush dL_law_19 (by decide) ?_
    refine J_irem dL_law_21 ?_ (by omega)
    refine J_top ((t : Int) % 20) ?_ (Int.tmod_eq_emod_of_nonneg (by omega))
    refine J_callS1 kL_12 csL_cell (c_L_cell hN (by omega)) rfl rfl rfl rfl rfl dL_law_22 rfl rfl ?_
    refine j_iload_n 2 dL_law_25 rfl rfl ?_
    refine J_bipush dL_law_26 (by decide) ?_
    refine J_idiv dL_law_28 ?_ (by omega)
    refine J_bipush dL_law_29 (by decide) ?_
    refine J_imul dL_law_31 ?_
    refine J_ishrA dL_law_32 (fun x32 => ?_)
    refine j_callSH (M' := zL_act) (ck' := 3 * n + 61272 * (3 - t / 20)) (sk' := 24 * n + 367632 * (3 - t / 20)) kL_18 ceL_act csL_act (c_L_act hl0 hZ hD) (fun E h' hp => by cases hp.1) rfl rfl rfl rfl rfl dL_law_33 (by show 3 + _ ≤ _; omega) (by show 24 + _ ≤ _; omega) (fun v h hp => ?_)
    obtain ⟨ev, hX⟩ := hp
    cases ev
    refine j_iload_n 2 dL_law_36 rfl rfl ?_
    refine J_bipush dL_law_37 (by decide) ?_
    refine J_irem dL_law_39 ?_ (by omega)
    refine J_top ((t : Int) % 20) ?_ (Int.tmod_eq_emod_of_nonneg (by omega))
    refine J_bipush dL_law_40 (by decide) ?_
    refine J_icmp_eq 48 dL_law_42 (by decide) (fun c42 => ?_) (fun c42 => ?_) (by omega)
    · obtain ⟨P, p0, hD⟩ := hX
      obtain ⟨hs, he, hc⟩ := hD.sco
      refine j_room (ck' := 3 * n + 61272 * (3 - (t + 1) / 20) + 61272) (sk' := 24 * n + 367632 * (3 - (t + 1) / 20) + 367632) (by omega) (by omega) ?_
      refine j_aload_n 1 dL_law_48 rfl rfl ?_
      refine J_rdL (ck' := 3 * n + 61272 * (3 - (t + 1) / 20) + 61272) (sk' := 24 * n + 367632 * (3 - (t + 1) / 20) + 367632) (show jLk _ _ yX9_digest z9_digest 0 from kL_22) cvX9_digest hD (r_digest hZ hD) rfl rfl rfl rfl rfl dL_law_49 (by show 0 + _ ≤ _; omega) (by show 0 + _ ≤ _; omega) (fun h hD => ?_)
      refine j_lstore_n 3 (L' := [(3, _), (2, _), (1, _), (0, _)]) dL_law_52 rfl rfl rfl ?_
      refine J_iconst dL_law_53 ?_
      refine j_istore (L' := [(5, _), (3, _), (2, _), (1, _), (0, _)]) dL_law_54 rfl rfl ?_
      have K110 : ∀ (h : jH), DD G a d P p0 h → J l G mL_law QF (3 * n + 61272 * (3 - (t + 1) / 20) + 11352) (24 * n + 367632 * (3 - (t + 1) / 20) + 68112) 110 [(3, vL (digD P p0)), (2, vI (t : Int)), (1, .ref a), (0, .ref (jSb G))] [] h := by
        intro h hD
        refine j_aload_n 1 dL_law_110 rfl rfl ?_
        refine J_ck (ck' := 3 * n + 61272 * (3 - (t + 1) / 20) + 80) (sk' := 24 * n + 367632 * (3 - (t + 1) / 20) + 480) (show jLk _ _ yL_areMomentsSound zL_areMomentsSound 1 from kL_30) csL_areMomentsSound (c_L_areMomentsSound hl0 hZ (sd_mom hs he) (sd_fau hs he) hD) rfl rfl rfl rfl rfl dL_law_111 (by show 11272 + _ ≤ _; omega) (by show 67632 + _ ≤ _; omega) (fun h hD => ?_)
        refine J_if_eq 148 dL_law_114 (by decide) (fun c114 => absurd c114 (by omega)) (fun c114 => ?_) (by omega)
        refine j_aload_n 1 dL_law_117 rfl rfl ?_
        refine J_bipush dL_law_118 (by decide) ?_
        refine j_aload_n 0 dL_law_120 rfl rfl ?_
        refine J_bipush dL_law_121 (by decide) ?_
        refine J_callS1 kL_12 csL_cell (c_L_cell hN (by omega)) rfl rfl rfl rfl rfl dL_law_123 rfl rfl ?_
        refine J_sipush dL_law_126 (by decide) ?_
        refine J_below (by omega) dL_law_129 rfl rfl rfl (fun y129 hy129 => ?_)
        refine J_iadd dL_law_132 ?_
        refine J_ck (ck' := 3 * n + 61272 * (3 - (t + 1) / 20) + 0) (sk' := 24 * n + 367632 * (3 - (t + 1) / 20) + 0) (show jLk _ _ yL_areLinesSound zL_areLinesSound 2 from kL_38) csL_areLinesSound (c_L_areLinesSound hl0 hZ (by omega) (sd_lin hs hc (by omega)) hD) rfl rfl rfl rfl rfl dL_law_133 (by show 80 + _ ≤ _; omega) (by show 480 + _ ≤ _; omega) (fun h hD => ?_)
        refine J_if_eq 148 dL_law_136 (by decide) (fun c136 => absurd c136 (by omega)) (fun c136 => ?_) (by omega)
        refine j_aload_n 1 dL_law_139 rfl rfl ?_
        refine J_rdL (ck' := 3 * n + 61272 * (3 - (t + 1) / 20) + 0) (sk' := 24 * n + 367632 * (3 - (t + 1) / 20) + 0) (show jLk _ _ yX9_digest z9_digest 0 from kL_22) cvX9_digest hD (r_digest hZ hD) rfl rfl rfl rfl rfl dL_law_140 (by show 0 + _ ≤ _; omega) (by show 0 + _ ≤ _; omega) (fun h hD => ?_)
        refine j_lload_n 3 dL_law_143 rfl rfl ?_
        refine j_lcmp dL_law_144 ?_
        rw [lcmp_s]
        refine J_if_eq (x := 0) 150 dL_law_145 (by decide) (fun c145 => ?_) (fun c145 => absurd rfl c145) (by omega)
        refine j_room (ck' := 3 * n + 61272 * (3 - (t + 1) / 20)) (sk' := 24 * n + 367632 * (3 - (t + 1) / 20)) (by omega) (by omega) ?_
        exact j_locR (K150 h ⟨P, p0, hD⟩) (by repeat' (first | exact True.intro | refine And.intro rfl ?_))
      refine j_room (ck' := 6240 * 8 + (3 * n + 61272 * (3 - (t + 1) / 20) + 11352)) (sk' := 37440 * 8 + (24 * n + 367632 * (3 - (t + 1) / 20) + 68112)) (by omega) (by omega) ?_
      exact j_locR (law_bars hl0 hZ hs hc K110 8 0 h rfl (by omega) hD) (by repeat' (first | exact True.intro | refine And.intro rfl ?_))
    · refine j_goto 150 dL_law_45 (by decide) ?_
      refine j_room (ck' := 3 * n + 61272 * (3 - (t + 1) / 20)) (sk' := 24 * n + 367632 * (3 - (t + 1) / 20)) (by omega) (by omega) ?_
      exact j_locR (K150 h hX) (by repeat' (first | exact True.intro | refine And.intro rfl ?_))
set_option maxRecDepth 100000 in
theorem law_start {l : Launch} {G : jG} {QF : jF} (hl0 : l.stackTraces = false) (hN : jSn G ≤ 260) (hfin : ∀ (ck sk : Nat) (h : jH) (L : List (Nat × Value)), J l G mL_law QF ck sk 156 L [] h) : J l G mL_law QF 600104 7301314 0 [(0, .ref (jSb G))] [] (fun _ => none) := by
  refine j_new (ck' := 600103) (sk' := 7301302) nL_9 dL_law_0 (by decide) (by decide) (fun a ha _ => ?_)
  refine j_dup dL_law_3 rfl ?_
  refine j_callI (As := []) (ck' := 600037) (sk' := 7275334) kL_11 ciX9_init (c_X9_init (hset_s _ _ _)) (fun E h' hp => by cases hp.1) rfl rfl rfl rfl rfl rfl dL_law_4 (by decide) (by decide) (fun v h1 hp => ?_)
  obtain ⟨ev, d, s, Z, hD, hZ, hI, eP, ep, hFD, hO1⟩ := hp
  cases ev
  refine j_astore_n 1 (L' := [(1, _), (0, _)]) dL_law_7 rfl rfl rfl ?_
  refine J_iconst dL_law_8 ?_
  refine j_istore_n 2 (L' := [(2, _), (1, _), (0, _)]) dL_law_9 rfl rfl rfl ?_
  refine j_room (ck' := 3 * 60 + 61272 * (3 - 0 / 20)) (sk' := 24 * 60 + 367632 * (3 - 0 / 20)) (by decide) (by decide) ?_
  exact j_locR (law_loop hl0 hZ hN hfin 60 0 h1 (by omega) ⟨_, _, s, hD, hI, rfl, rfl⟩) (by repeat' (first | exact True.intro | refine And.intro rfl ?_))
