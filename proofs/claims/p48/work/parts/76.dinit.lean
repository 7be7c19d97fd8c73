/-! the desk's constructor -/
def S00 (f : Nat → Int) : DS := (P00, fun j => if j = 0 then p00 else if j = 1 then oU (oU (oU zOS 0 (-1)) 1 (-1)) 2 (-1) else zOS, f)
theorem DI00 {f : Nat → Int} (h7 : f 7 = 0) (h8 : f 8 = 0) (h9 : f 9 = 0) (h10 : f 10 = -1) (h11 : f 11 = -1) : DI (S00 f) := by
  refine ⟨sco00, by rw [show evs (S00 f).1 = 0 from rfl]; decide, cal00, (show 0 ≤ (0 : Int) ∧ (0 : Int) ≤ 512 by decide), ⟨(show 0 ≤ (0 : Int) ∧ (0 : Int) ≤ 2560 by decide), fun k _ _ => ?_⟩, Or.inl h7, Or.inl h8, Or.inl h9, Or.inl ⟨h10, h11⟩⟩
  show (-1 ≤ (0 : Int) ∧ (0 : Int) ≤ 200) ∧ (-1 ≤ (0 : Int) ∧ (0 : Int) ≤ 200) ∧ ((0 : Int) = 0 ∨ (0 : Int) = 1) ∧ (-1 ≤ (0 : Int) ∧ (0 : Int) ≤ 1)
  decide
set_option maxRecDepth 100000 in
theorem c_X9_init {l : Launch} {G : jG} {h : jH} {a : Nat} (ha : h a = some (.inr (7, [.null, .null, .null, .null, .null, .null, .null, .int 0, .int 0, .int 0, .int 0, .int 0]))) : jC l G yX9_init mX9_init [.ref a] h (jW oN (fun h' => ∃ (d : DA) (s : DS) (Z : Nat → Nat), Desk G h' a d s ∧ Dz a d Z ∧ DI s ∧ s.1 = P00 ∧ s.2.1 0 = p00 ∧ (∀ c, FtD a d c → c = a ∨ h c = none) ∧ Old a h h')) := by
  have K1 : ∀ (h1 : jH) (qp : Nat) (Z : Nat → Nat), h1 a = some (.inr (7, [.ref qp, .null, .null, .null, .null, .null, .null, .int 0, .int 0, .int 0, .int 0, .int 0])) → h1 qp = some (aR G 3 4 (fun _ => none)) → qp ≠ a → h qp = none → Old a h h1 → Z a = 30 → Z qp = 20 → J l G mX9_init (jQ G mX9_init (jW oN (fun h' => ∃ (d : DA) (s : DS) (Z : Nat → Nat), Desk G h' a d s ∧ Dz a d Z ∧ DI s ∧ s.1 = P00 ∧ s.2.1 0 = p00 ∧ (∀ c, FtD a d c → c = a ∨ h c = none) ∧ Old a h h'))) 65 25964 12 [(0, .ref a)] [] h1 := by
    intro h1 qp Z ha0 hq0 hne hqn hO0 hZa0 hZq0
    have hE0 : ∀ c, (fun c => c = a ∨ c = qp) c → h1 c ≠ none := fun c e => by rcases e with e | e <;> rw [e]; exact (fun z => by rw [ha0] at z; cases z); exact (fun z => by rw [hq0] at z; cases z)
    have hEn : ∀ c, (fun c => c = a ∨ c = qp) c → c = a ∨ h c = none := fun c e => by rcases e with e | e; exact Or.inl e; exact Or.inr (by rw [e]; exact hqn)
    refine J_iconst dX9_init_12 ?_
    refine j_istore_n 1 (L' := [(1, _), (0, _)]) dX9_init_13 rfl rfl rfl ?_
    refine j_iload_n 1 dX9_init_14 rfl rfl ?_
    refine j_aload_n 0 dX9_init_15 rfl rfl ?_
    refine j_get fX9_11 dX9_init_16 ha0 rfl ?_
    refine J_alenq 3 dX9_init_19 hq0 rfl ?_
    refine J_icmp_ge 42 dX9_init_20 (by decide) (fun c => absurd c (by decide)) (fun _ => ?_) (by decide)
    refine j_aload_n 0 dX9_init_23 rfl rfl ?_
    refine j_get fX9_11 dX9_init_24 ha0 rfl ?_
    refine j_iload_n 1 dX9_init_27 rfl rfl ?_
    refine j_new (ck' := 64) (sk' := 25951) nX9_9 dX9_init_28 (by decide) (by decide) (fun b0 hb0 _ => ?_)
    refine j_dup dX9_init_31 rfl ?_
    refine j_callI (As := []) (ck' := 57) (sk' := 22367) kX9_15 ciX6_init (c_X6_init (hset_s _ _ _)) (fun E h' hp => by cases hp.1) rfl rfl rfl rfl rfl rfl dX9_init_32 (by decide) (by decide) (fun v g0 hp => ?_)
    obtain ⟨ev, qq0, hA0, hB0⟩ := hp
    cases ev
    refine j_qast (t := 3) rfl rfl dX9_init_35 ((born.on hb0 hB0 _ (hE0 _ (Or.inr rfl))).trans hq0) hA0.1 (I_vpin (by decide) (by decide)) ?_
    obtain ⟨hX0, hN0, hS0, hU0, hw0⟩ := NO (E := (fun c => c = a ∨ c = qp)) hE0 (Or.inr rfl) hb0 hA0 hB0 (y := (aR G 3 4 (va_up (fun _ => none) 0 (some b0))))
    have y0 : Zin a h (fun c => c = a ∨ c = qp) _ _ (zs h1 10 Z) 10 := Zin.new hO0 hE0 hN0
    have hO1 := hO0.step hS0 hEn
    have hZa1 : (zs h1 10 Z) a = 30 := (zs_old (hE0 _ (Or.inl rfl))).trans hZa0
    have hZq1 : (zs h1 10 Z) qp = 20 := (zs_old (hE0 _ (Or.inr rfl))).trans hZq0
    have hq1 := hw0
    have ha1 := (hU0 a (Or.inl rfl) (Ne.symm hne)).trans ha0
    have hE1 : ∀ c, (fun c => c = a ∨ c = qp) c → (hset g0 qp (aR G 3 4 (va_up (fun _ => none) 0 (some b0)))) c ≠ none := fun c e => by rcases e with e | e <;> rw [e]; exact (fun z => by rw [ha1] at z; cases z); exact (fun z => by rw [hq1] at z; cases z)
    refine J_iinc (L' := [(1, _), (0, _)]) dX9_init_36 rfl rfl rfl ?_
    refine j_goto 14 dX9_init_39 (by decide) ?_
    refine j_iload_n 1 dX9_init_14 rfl rfl ?_
    refine j_aload_n 0 dX9_init_15 rfl rfl ?_
    refine j_get fX9_11 dX9_init_16 ha1 rfl ?_
    refine J_alenq 3 dX9_init_19 hq1 rfl ?_
    refine J_icmp_ge 42 dX9_init_20 (by decide) (fun c => absurd c (by decide)) (fun _ => ?_) (by decide)
    refine j_aload_n 0 dX9_init_23 rfl rfl ?_
    refine j_get fX9_11 dX9_init_24 ha1 rfl ?_
    refine j_iload_n 1 dX9_init_27 rfl rfl ?_
    refine j_new (ck' := 56) (sk' := 22354) nX9_9 dX9_init_28 (by decide) (by decide) (fun b1 hb1 _ => ?_)
    refine j_dup dX9_init_31 rfl ?_
    refine j_callI (As := []) (ck' := 49) (sk' := 18770) kX9_15 ciX6_init (c_X6_init (hset_s _ _ _)) (fun E h' hp => by cases hp.1) rfl rfl rfl rfl rfl rfl dX9_init_32 (by decide) (by decide) (fun v g1 hp => ?_)
    obtain ⟨ev, qq1, hA1, hB1⟩ := hp
    cases ev
    refine j_qast (t := 3) rfl rfl dX9_init_35 ((born.on hb1 hB1 _ (hE1 _ (Or.inr rfl))).trans hq1) hA1.1 (I_vpin (by decide) (by decide)) ?_
    obtain ⟨hX1, hN1, hS1, hU1, hw1⟩ := NO (E := (fun c => c = a ∨ c = qp)) hE1 (Or.inr rfl) hb1 hA1 hB1 (y := (aR G 3 4 (va_up (va_up (fun _ => none) 0 (some b0)) 1 (some b1))))
    have hX0 := hX0.stp y0 hS1
    have y0 := y0.old (t' := 11) hS1
    have y1 : Zin a h (fun c => c = a ∨ c = qp) _ _ (zs (hset g0 qp (aR G 3 4 (va_up (fun _ => none) 0 (some b0)))) 11 (zs h1 10 Z)) 11 := Zin.new hO1 hE1 hN1
    have hO2 := hO1.step hS1 hEn
    have hZa2 : (zs (hset g0 qp (aR G 3 4 (va_up (fun _ => none) 0 (some b0)))) 11 (zs h1 10 Z)) a = 30 := (zs_old (hE1 _ (Or.inl rfl))).trans hZa1
    have hZq2 : (zs (hset g0 qp (aR G 3 4 (va_up (fun _ => none) 0 (some b0)))) 11 (zs h1 10 Z)) qp = 20 := (zs_old (hE1 _ (Or.inr rfl))).trans hZq1
    have hq2 := hw1
    have ha2 := (hU1 a (Or.inl rfl) (Ne.symm hne)).trans ha1
    have hE2 : ∀ c, (fun c => c = a ∨ c = qp) c → (hset g1 qp (aR G 3 4 (va_up (va_up (fun _ => none) 0 (some b0)) 1 (some b1)))) c ≠ none := fun c e => by rcases e with e | e <;> rw [e]; exact (fun z => by rw [ha2] at z; cases z); exact (fun z => by rw [hq2] at z; cases z)
    refine J_iinc (L' := [(1, _), (0, _)]) dX9_init_36 rfl rfl rfl ?_
    refine j_goto 14 dX9_init_39 (by decide) ?_
    refine j_iload_n 1 dX9_init_14 rfl rfl ?_
    refine j_aload_n 0 dX9_init_15 rfl rfl ?_
    refine j_get fX9_11 dX9_init_16 ha2 rfl ?_
    refine J_alenq 3 dX9_init_19 hq2 rfl ?_
    refine J_icmp_ge 42 dX9_init_20 (by decide) (fun c => absurd c (by decide)) (fun _ => ?_) (by decide)
    refine j_aload_n 0 dX9_init_23 rfl rfl ?_
    refine j_get fX9_11 dX9_init_24 ha2 rfl ?_
    refine j_iload_n 1 dX9_init_27 rfl rfl ?_
    refine j_new (ck' := 48) (sk' := 18757) nX9_9 dX9_init_28 (by decide) (by decide) (fun b2 hb2 _ => ?_)
    refine j_dup dX9_init_31 rfl ?_
    refine j_callI (As := []) (ck' := 41) (sk' := 15173) kX9_15 ciX6_init (c_X6_init (hset_s _ _ _)) (fun E h' hp => by cases hp.1) rfl rfl rfl rfl rfl rfl dX9_init_32 (by decide) (by decide) (fun v g2 hp => ?_)
    obtain ⟨ev, qq2, hA2, hB2⟩ := hp
    cases ev
    refine j_qast (t := 3) rfl rfl dX9_init_35 ((born.on hb2 hB2 _ (hE2 _ (Or.inr rfl))).trans hq2) hA2.1 (I_vpin (by decide) (by decide)) ?_
    obtain ⟨hX2, hN2, hS2, hU2, hw2⟩ := NO (E := (fun c => c = a ∨ c = qp)) hE2 (Or.inr rfl) hb2 hA2 hB2 (y := (aR G 3 4 (va_up (va_up (va_up (fun _ => none) 0 (some b0)) 1 (some b1)) 2 (some b2))))
    have hX0 := hX0.stp y0 hS2
    have y0 := y0.old (t' := 12) hS2
    have hX1 := hX1.stp y1 hS2
    have y1 := y1.old (t' := 12) hS2
    have y2 : Zin a h (fun c => c = a ∨ c = qp) _ _ (zs (hset g1 qp (aR G 3 4 (va_up (va_up (fun _ => none) 0 (some b0)) 1 (some b1)))) 12 (zs (hset g0 qp (aR G 3 4 (va_up (fun _ => none) 0 (some b0)))) 11 (zs h1 10 Z))) 12 := Zin.new hO2 hE2 hN2
    have hO3 := hO2.step hS2 hEn
    have hZa3 : (zs (hset g1 qp (aR G 3 4 (va_up (va_up (fun _ => none) 0 (some b0)) 1 (some b1)))) 12 (zs (hset g0 qp (aR G 3 4 (va_up (fun _ => none) 0 (some b0)))) 11 (zs h1 10 Z))) a = 30 := (zs_old (hE2 _ (Or.inl rfl))).trans hZa2
    have hZq3 : (zs (hset g1 qp (aR G 3 4 (va_up (va_up (fun _ => none) 0 (some b0)) 1 (some b1)))) 12 (zs (hset g0 qp (aR G 3 4 (va_up (fun _ => none) 0 (some b0)))) 11 (zs h1 10 Z))) qp = 20 := (zs_old (hE2 _ (Or.inr rfl))).trans hZq2
    have hq3 := hw2
    have ha3 := (hU2 a (Or.inl rfl) (Ne.symm hne)).trans ha2
    have hE3 : ∀ c, (fun c => c = a ∨ c = qp) c → (hset g2 qp (aR G 3 4 (va_up (va_up (va_up (fun _ => none) 0 (some b0)) 1 (some b1)) 2 (some b2)))) c ≠ none := fun c e => by rcases e with e | e <;> rw [e]; exact (fun z => by rw [ha3] at z; cases z); exact (fun z => by rw [hq3] at z; cases z)
    refine J_iinc (L' := [(1, _), (0, _)]) dX9_init_36 rfl rfl rfl ?_
    refine j_goto 14 dX9_init_39 (by decide) ?_
    refine j_iload_n 1 dX9_init_14 rfl rfl ?_
    refine j_aload_n 0 dX9_init_15 rfl rfl ?_
    refine j_get fX9_11 dX9_init_16 ha3 rfl ?_
    refine J_alenq 3 dX9_init_19 hq3 rfl ?_
    refine J_icmp_ge 42 dX9_init_20 (by decide) (fun c => absurd c (by decide)) (fun _ => ?_) (by decide)
    refine j_aload_n 0 dX9_init_23 rfl rfl ?_
    refine j_get fX9_11 dX9_init_24 ha3 rfl ?_
    refine j_iload_n 1 dX9_init_27 rfl rfl ?_
    refine j_new (ck' := 40) (sk' := 15160) nX9_9 dX9_init_28 (by decide) (by decide) (fun b3 hb3 _ => ?_)
    refine j_dup dX9_init_31 rfl ?_
    refine j_callI (As := []) (ck' := 33) (sk' := 11576) kX9_15 ciX6_init (c_X6_init (hset_s _ _ _)) (fun E h' hp => by cases hp.1) rfl rfl rfl rfl rfl rfl dX9_init_32 (by decide) (by decide) (fun v g3 hp => ?_)
    obtain ⟨ev, qq3, hA3, hB3⟩ := hp
    cases ev
    refine j_qast (t := 3) rfl rfl dX9_init_35 ((born.on hb3 hB3 _ (hE3 _ (Or.inr rfl))).trans hq3) hA3.1 (I_vpin (by decide) (by decide)) ?_
    obtain ⟨hX3, hN3, hS3, hU3, hw3⟩ := NO (E := (fun c => c = a ∨ c = qp)) hE3 (Or.inr rfl) hb3 hA3 hB3 (y := (aR G 3 4 (va_up (va_up (va_up (va_up (fun _ => none) 0 (some b0)) 1 (some b1)) 2 (some b2)) 3 (some b3))))
    have hX0 := hX0.stp y0 hS3
    have y0 := y0.old (t' := 13) hS3
    have hX1 := hX1.stp y1 hS3
    have y1 := y1.old (t' := 13) hS3
    have hX2 := hX2.stp y2 hS3
    have y2 := y2.old (t' := 13) hS3
    have y3 : Zin a h (fun c => c = a ∨ c = qp) _ _ (zs (hset g2 qp (aR G 3 4 (va_up (va_up (va_up (fun _ => none) 0 (some b0)) 1 (some b1)) 2 (some b2)))) 13 (zs (hset g1 qp (aR G 3 4 (va_up (va_up (fun _ => none) 0 (some b0)) 1 (some b1)))) 12 (zs (hset g0 qp (aR G 3 4 (va_up (fun _ => none) 0 (some b0)))) 11 (zs h1 10 Z)))) 13 := Zin.new hO3 hE3 hN3
    have hO4 := hO3.step hS3 hEn
    have hZa4 : (zs (hset g2 qp (aR G 3 4 (va_up (va_up (va_up (fun _ => none) 0 (some b0)) 1 (some b1)) 2 (some b2)))) 13 (zs (hset g1 qp (aR G 3 4 (va_up (va_up (fun _ => none) 0 (some b0)) 1 (some b1)))) 12 (zs (hset g0 qp (aR G 3 4 (va_up (fun _ => none) 0 (some b0)))) 11 (zs h1 10 Z)))) a = 30 := (zs_old (hE3 _ (Or.inl rfl))).trans hZa3
    have hZq4 : (zs (hset g2 qp (aR G 3 4 (va_up (va_up (va_up (fun _ => none) 0 (some b0)) 1 (some b1)) 2 (some b2)))) 13 (zs (hset g1 qp (aR G 3 4 (va_up (va_up (fun _ => none) 0 (some b0)) 1 (some b1)))) 12 (zs (hset g0 qp (aR G 3 4 (va_up (fun _ => none) 0 (some b0)))) 11 (zs h1 10 Z)))) qp = 20 := (zs_old (hE3 _ (Or.inr rfl))).trans hZq3
    have hq4 := hw3
    have ha4 := (hU3 a (Or.inl rfl) (Ne.symm hne)).trans ha3
    have hE4 : ∀ c, (fun c => c = a ∨ c = qp) c → (hset g3 qp (aR G 3 4 (va_up (va_up (va_up (va_up (fun _ => none) 0 (some b0)) 1 (some b1)) 2 (some b2)) 3 (some b3)))) c ≠ none := fun c e => by rcases e with e | e <;> rw [e]; exact (fun z => by rw [ha4] at z; cases z); exact (fun z => by rw [hq4] at z; cases z)
    refine J_iinc (L' := [(1, _), (0, _)]) dX9_init_36 rfl rfl rfl ?_
    refine j_goto 14 dX9_init_39 (by decide) ?_
    refine j_iload_n 1 dX9_init_14 rfl rfl ?_
    refine j_aload_n 0 dX9_init_15 rfl rfl ?_
    refine j_get fX9_11 dX9_init_16 ha4 rfl ?_
    refine J_alenq 3 dX9_init_19 hq4 rfl ?_
    refine J_icmp_ge 42 dX9_init_20 (by decide) (fun _ => ?_) (fun c => absurd c (by decide)) (by decide)
    refine j_aload_n 0 dX9_init_42 rfl rfl ?_
    refine j_new (ck' := 32) (sk' := 11571) nX9_16 dX9_init_43 (by decide) (by decide) (fun b4 hb4 _ => ?_)
    refine j_dup dX9_init_46 rfl ?_
    refine j_callI (As := []) (ck' := 28) (sk' := 11475) kX9_18 ciX0_init (c_X0_init (hset_s _ _ _)) (fun E h' hp => by cases hp.1) rfl rfl rfl rfl rfl rfl dX9_init_47 (by decide) (by decide) (fun v g4 hp => ?_)
    obtain ⟨ev, qq4, hA4, hB4⟩ := hp
    cases ev
    refine j_putF (fs' := [.ref qp, .ref b4, .null, .null, .null, .null, .null, .int 0, .int 0, .int 0, .int 0, .int 0]) fX9_19 tyX9_calendar rfl ⟨_, _, rfl⟩ dX9_init_50 ((born.on hb4 hB4 _ (hE4 _ (Or.inl rfl))).trans ha4) rfl rfl rfl rfl ?_
    obtain ⟨hX4, hN4, hS4, hU4, hw4⟩ := NO (E := (fun c => c = a ∨ c = qp)) hE4 (Or.inl rfl) hb4 hA4 hB4 (y := (.inr (7, [.ref qp, .ref b4, .null, .null, .null, .null, .null, .int 0, .int 0, .int 0, .int 0, .int 0])))
    have hX0 := hX0.stp y0 hS4
    have y0 := y0.old (t' := 0) hS4
    have hX1 := hX1.stp y1 hS4
    have y1 := y1.old (t' := 0) hS4
    have hX2 := hX2.stp y2 hS4
    have y2 := y2.old (t' := 0) hS4
    have hX3 := hX3.stp y3 hS4
    have y3 := y3.old (t' := 0) hS4
    have y4 : Zin a h (fun c => c = a ∨ c = qp) _ _ (zs (hset g3 qp (aR G 3 4 (va_up (va_up (va_up (va_up (fun _ => none) 0 (some b0)) 1 (some b1)) 2 (some b2)) 3 (some b3)))) 0 (zs (hset g2 qp (aR G 3 4 (va_up (va_up (va_up (fun _ => none) 0 (some b0)) 1 (some b1)) 2 (some b2)))) 13 (zs (hset g1 qp (aR G 3 4 (va_up (va_up (fun _ => none) 0 (some b0)) 1 (some b1)))) 12 (zs (hset g0 qp (aR G 3 4 (va_up (fun _ => none) 0 (some b0)))) 11 (zs h1 10 Z))))) 0 := Zin.new hO4 hE4 hN4
    have hO5 := hO4.step hS4 hEn
    have hZa5 : (zs (hset g3 qp (aR G 3 4 (va_up (va_up (va_up (va_up (fun _ => none) 0 (some b0)) 1 (some b1)) 2 (some b2)) 3 (some b3)))) 0 (zs (hset g2 qp (aR G 3 4 (va_up (va_up (va_up (fun _ => none) 0 (some b0)) 1 (some b1)) 2 (some b2)))) 13 (zs (hset g1 qp (aR G 3 4 (va_up (va_up (fun _ => none) 0 (some b0)) 1 (some b1)))) 12 (zs (hset g0 qp (aR G 3 4 (va_up (fun _ => none) 0 (some b0)))) 11 (zs h1 10 Z))))) a = 30 := (zs_old (hE4 _ (Or.inl rfl))).trans hZa4
    have hZq5 : (zs (hset g3 qp (aR G 3 4 (va_up (va_up (va_up (va_up (fun _ => none) 0 (some b0)) 1 (some b1)) 2 (some b2)) 3 (some b3)))) 0 (zs (hset g2 qp (aR G 3 4 (va_up (va_up (va_up (fun _ => none) 0 (some b0)) 1 (some b1)) 2 (some b2)))) 13 (zs (hset g1 qp (aR G 3 4 (va_up (va_up (fun _ => none) 0 (some b0)) 1 (some b1)))) 12 (zs (hset g0 qp (aR G 3 4 (va_up (fun _ => none) 0 (some b0)))) 11 (zs h1 10 Z))))) qp = 20 := (zs_old (hE4 _ (Or.inr rfl))).trans hZq4
    have ha5 := hw4
    have hq5 := (hU4 qp (Or.inr rfl) hne).trans hq4
    have hE5 : ∀ c, (fun c => c = a ∨ c = qp) c → (hset g4 a (.inr (7, [.ref qp, .ref b4, .null, .null, .null, .null, .null, .int 0, .int 0, .int 0, .int 0, .int 0]))) c ≠ none := fun c e => by rcases e with e | e <;> rw [e]; exact (fun z => by rw [ha5] at z; cases z); exact (fun z => by rw [hq5] at z; cases z)
    refine j_aload_n 0 dX9_init_53 rfl rfl ?_
    refine j_new (ck' := 27) (sk' := 11464) nX9_23 dX9_init_54 (by decide) (by decide) (fun b5 hb5 _ => ?_)
    refine j_dup dX9_init_57 rfl ?_
    refine j_callI (As := []) (ck' := 18) (sk' := 10377) kX9_25 ciX5_init (c_X5_init (hset_s _ _ _)) (fun E h' hp => by cases hp.1) rfl rfl rfl rfl rfl rfl dX9_init_58 (by decide) (by decide) (fun v g5 hp => ?_)
    obtain ⟨ev, qq5, hA5, hB5⟩ := hp
    cases ev
    refine j_putF (fs' := [.ref qp, .ref b4, .ref b5, .null, .null, .null, .null, .int 0, .int 0, .int 0, .int 0, .int 0]) fX9_26 tyX9_measure rfl ⟨_, _, rfl⟩ dX9_init_61 ((born.on hb5 hB5 _ (hE5 _ (Or.inl rfl))).trans ha5) rfl rfl rfl rfl ?_
    obtain ⟨hX5, hN5, hS5, hU5, hw5⟩ := NO (E := (fun c => c = a ∨ c = qp)) hE5 (Or.inl rfl) hb5 hA5 hB5 (y := (.inr (7, [.ref qp, .ref b4, .ref b5, .null, .null, .null, .null, .int 0, .int 0, .int 0, .int 0, .int 0])))
    have hX0 := hX0.stp y0 hS5
    have y0 := y0.old (t' := 5) hS5
    have hX1 := hX1.stp y1 hS5
    have y1 := y1.old (t' := 5) hS5
    have hX2 := hX2.stp y2 hS5
    have y2 := y2.old (t' := 5) hS5
    have hX3 := hX3.stp y3 hS5
    have y3 := y3.old (t' := 5) hS5
    have hX4 := hX4.stp y4 hS5
    have y4 := y4.old (t' := 5) hS5
    have y5 : Zin a h (fun c => c = a ∨ c = qp) _ _ (zs (hset g4 a (.inr (7, [.ref qp, .ref b4, .null, .null, .null, .null, .null, .int 0, .int 0, .int 0, .int 0, .int 0]))) 5 (zs (hset g3 qp (aR G 3 4 (va_up (va_up (va_up (va_up (fun _ => none) 0 (some b0)) 1 (some b1)) 2 (some b2)) 3 (some b3)))) 0 (zs (hset g2 qp (aR G 3 4 (va_up (va_up (va_up (fun _ => none) 0 (some b0)) 1 (some b1)) 2 (some b2)))) 13 (zs (hset g1 qp (aR G 3 4 (va_up (va_up (fun _ => none) 0 (some b0)) 1 (some b1)))) 12 (zs (hset g0 qp (aR G 3 4 (va_up (fun _ => none) 0 (some b0)))) 11 (zs h1 10 Z)))))) 5 := Zin.new hO5 hE5 hN5
    have hO6 := hO5.step hS5 hEn
    have hZa6 : (zs (hset g4 a (.inr (7, [.ref qp, .ref b4, .null, .null, .null, .null, .null, .int 0, .int 0, .int 0, .int 0, .int 0]))) 5 (zs (hset g3 qp (aR G 3 4 (va_up (va_up (va_up (va_up (fun _ => none) 0 (some b0)) 1 (some b1)) 2 (some b2)) 3 (some b3)))) 0 (zs (hset g2 qp (aR G 3 4 (va_up (va_up (va_up (fun _ => none) 0 (some b0)) 1 (some b1)) 2 (some b2)))) 13 (zs (hset g1 qp (aR G 3 4 (va_up (va_up (fun _ => none) 0 (some b0)) 1 (some b1)))) 12 (zs (hset g0 qp (aR G 3 4 (va_up (fun _ => none) 0 (some b0)))) 11 (zs h1 10 Z)))))) a = 30 := (zs_old (hE5 _ (Or.inl rfl))).trans hZa5
    have hZq6 : (zs (hset g4 a (.inr (7, [.ref qp, .ref b4, .null, .null, .null, .null, .null, .int 0, .int 0, .int 0, .int 0, .int 0]))) 5 (zs (hset g3 qp (aR G 3 4 (va_up (va_up (va_up (va_up (fun _ => none) 0 (some b0)) 1 (some b1)) 2 (some b2)) 3 (some b3)))) 0 (zs (hset g2 qp (aR G 3 4 (va_up (va_up (va_up (fun _ => none) 0 (some b0)) 1 (some b1)) 2 (some b2)))) 13 (zs (hset g1 qp (aR G 3 4 (va_up (va_up (fun _ => none) 0 (some b0)) 1 (some b1)))) 12 (zs (hset g0 qp (aR G 3 4 (va_up (fun _ => none) 0 (some b0)))) 11 (zs h1 10 Z)))))) qp = 20 := (zs_old (hE5 _ (Or.inr rfl))).trans hZq5
    have ha6 := hw5
    have hq6 := (hU5 qp (Or.inr rfl) hne).trans hq5
    have hE6 : ∀ c, (fun c => c = a ∨ c = qp) c → (hset g5 a (.inr (7, [.ref qp, .ref b4, .ref b5, .null, .null, .null, .null, .int 0, .int 0, .int 0, .int 0, .int 0]))) c ≠ none := fun c e => by rcases e with e | e <;> rw [e]; exact (fun z => by rw [ha6] at z; cases z); exact (fun z => by rw [hq6] at z; cases z)
    refine j_aload_n 0 dX9_init_64 rfl rfl ?_
    refine j_new (ck' := 17) (sk' := 10373) nX9_30 dX9_init_65 (by decide) (by decide) (fun b6 hb6 _ => ?_)
    refine j_dup dX9_init_68 rfl ?_
    refine j_callI (As := []) (ck' := 14) (sk' := 7809) kX9_32 ciX3_init (c_X3_init (hset_s _ _ _)) (fun E h' hp => by cases hp.1) rfl rfl rfl rfl rfl rfl dX9_init_69 (by decide) (by decide) (fun v g6 hp => ?_)
    obtain ⟨ev, qq6, hA6, hB6⟩ := hp
    cases ev
    refine j_putF (fs' := [.ref qp, .ref b4, .ref b5, .ref b6, .null, .null, .null, .int 0, .int 0, .int 0, .int 0, .int 0]) fX9_33 tyX9_harmony rfl ⟨_, _, rfl⟩ dX9_init_72 ((born.on hb6 hB6 _ (hE6 _ (Or.inl rfl))).trans ha6) rfl rfl rfl rfl ?_
    obtain ⟨hX6, hN6, hS6, hU6, hw6⟩ := NO (E := (fun c => c = a ∨ c = qp)) hE6 (Or.inl rfl) hb6 hA6 hB6 (y := (.inr (7, [.ref qp, .ref b4, .ref b5, .ref b6, .null, .null, .null, .int 0, .int 0, .int 0, .int 0, .int 0])))
    have hX0 := hX0.stp y0 hS6
    have y0 := y0.old (t' := 3) hS6
    have hX1 := hX1.stp y1 hS6
    have y1 := y1.old (t' := 3) hS6
    have hX2 := hX2.stp y2 hS6
    have y2 := y2.old (t' := 3) hS6
    have hX3 := hX3.stp y3 hS6
    have y3 := y3.old (t' := 3) hS6
    have hX4 := hX4.stp y4 hS6
    have y4 := y4.old (t' := 3) hS6
    have hX5 := hX5.stp y5 hS6
    have y5 := y5.old (t' := 3) hS6
    have y6 : Zin a h (fun c => c = a ∨ c = qp) _ _ (zs (hset g5 a (.inr (7, [.ref qp, .ref b4, .ref b5, .null, .null, .null, .null, .int 0, .int 0, .int 0, .int 0, .int 0]))) 3 (zs (hset g4 a (.inr (7, [.ref qp, .ref b4, .null, .null, .null, .null, .null, .int 0, .int 0, .int 0, .int 0, .int 0]))) 5 (zs (hset g3 qp (aR G 3 4 (va_up (va_up (va_up (va_up (fun _ => none) 0 (some b0)) 1 (some b1)) 2 (some b2)) 3 (some b3)))) 0 (zs (hset g2 qp (aR G 3 4 (va_up (va_up (va_up (fun _ => none) 0 (some b0)) 1 (some b1)) 2 (some b2)))) 13 (zs (hset g1 qp (aR G 3 4 (va_up (va_up (fun _ => none) 0 (some b0)) 1 (some b1)))) 12 (zs (hset g0 qp (aR G 3 4 (va_up (fun _ => none) 0 (some b0)))) 11 (zs h1 10 Z))))))) 3 := Zin.new hO6 hE6 hN6
    have hO7 := hO6.step hS6 hEn
    have hZa7 : (zs (hset g5 a (.inr (7, [.ref qp, .ref b4, .ref b5, .null, .null, .null, .null, .int 0, .int 0, .int 0, .int 0, .int 0]))) 3 (zs (hset g4 a (.inr (7, [.ref qp, .ref b4, .null, .null, .null, .null, .null, .int 0, .int 0, .int 0, .int 0, .int 0]))) 5 (zs (hset g3 qp (aR G 3 4 (va_up (va_up (va_up (va_up (fun _ => none) 0 (some b0)) 1 (some b1)) 2 (some b2)) 3 (some b3)))) 0 (zs (hset g2 qp (aR G 3 4 (va_up (va_up (va_up (fun _ => none) 0 (some b0)) 1 (some b1)) 2 (some b2)))) 13 (zs (hset g1 qp (aR G 3 4 (va_up (va_up (fun _ => none) 0 (some b0)) 1 (some b1)))) 12 (zs (hset g0 qp (aR G 3 4 (va_up (fun _ => none) 0 (some b0)))) 11 (zs h1 10 Z))))))) a = 30 := (zs_old (hE6 _ (Or.inl rfl))).trans hZa6
    have hZq7 : (zs (hset g5 a (.inr (7, [.ref qp, .ref b4, .ref b5, .null, .null, .null, .null, .int 0, .int 0, .int 0, .int 0, .int 0]))) 3 (zs (hset g4 a (.inr (7, [.ref qp, .ref b4, .null, .null, .null, .null, .null, .int 0, .int 0, .int 0, .int 0, .int 0]))) 5 (zs (hset g3 qp (aR G 3 4 (va_up (va_up (va_up (va_up (fun _ => none) 0 (some b0)) 1 (some b1)) 2 (some b2)) 3 (some b3)))) 0 (zs (hset g2 qp (aR G 3 4 (va_up (va_up (va_up (fun _ => none) 0 (some b0)) 1 (some b1)) 2 (some b2)))) 13 (zs (hset g1 qp (aR G 3 4 (va_up (va_up (fun _ => none) 0 (some b0)) 1 (some b1)))) 12 (zs (hset g0 qp (aR G 3 4 (va_up (fun _ => none) 0 (some b0)))) 11 (zs h1 10 Z))))))) qp = 20 := (zs_old (hE6 _ (Or.inr rfl))).trans hZq6
    have ha7 := hw6
    have hq7 := (hU6 qp (Or.inr rfl) hne).trans hq6
    have hE7 : ∀ c, (fun c => c = a ∨ c = qp) c → (hset g6 a (.inr (7, [.ref qp, .ref b4, .ref b5, .ref b6, .null, .null, .null, .int 0, .int 0, .int 0, .int 0, .int 0]))) c ≠ none := fun c e => by rcases e with e | e <;> rw [e]; exact (fun z => by rw [ha7] at z; cases z); exact (fun z => by rw [hq7] at z; cases z)
    refine j_aload_n 0 dX9_init_75 rfl rfl ?_
    refine j_new (ck' := 13) (sk' := 7806) nX9_37 dX9_init_76 (by decide) (by decide) (fun b7 hb7 _ => ?_)
    refine j_dup dX9_init_79 rfl ?_
    refine j_callI (As := []) (ck' := 13) (sk' := 7806) kX9_39 ciX1_init (c_X1_init (hset_s _ _ _)) (fun E h' hp => by cases hp.1) rfl rfl rfl rfl rfl rfl dX9_init_80 (by decide) (by decide) (fun v g7 hp => ?_)
    obtain ⟨ev, qq7, hA7, hB7⟩ := hp
    cases ev
    refine j_putF (fs' := [.ref qp, .ref b4, .ref b5, .ref b6, .ref b7, .null, .null, .int 0, .int 0, .int 0, .int 0, .int 0]) fX9_40 tyX9_chord rfl ⟨_, _, rfl⟩ dX9_init_83 ((born.on hb7 hB7 _ (hE7 _ (Or.inl rfl))).trans ha7) rfl rfl rfl rfl ?_
    obtain ⟨hX7, hN7, hS7, hU7, hw7⟩ := NO (E := (fun c => c = a ∨ c = qp)) hE7 (Or.inl rfl) hb7 hA7 hB7 (y := (.inr (7, [.ref qp, .ref b4, .ref b5, .ref b6, .ref b7, .null, .null, .int 0, .int 0, .int 0, .int 0, .int 0])))
    have hX0 := hX0.stp y0 hS7
    have y0 := y0.old (t' := 1) hS7
    have hX1 := hX1.stp y1 hS7
    have y1 := y1.old (t' := 1) hS7
    have hX2 := hX2.stp y2 hS7
    have y2 := y2.old (t' := 1) hS7
    have hX3 := hX3.stp y3 hS7
    have y3 := y3.old (t' := 1) hS7
    have hX4 := hX4.stp y4 hS7
    have y4 := y4.old (t' := 1) hS7
    have hX5 := hX5.stp y5 hS7
    have y5 := y5.old (t' := 1) hS7
    have hX6 := hX6.stp y6 hS7
    have y6 := y6.old (t' := 1) hS7
    have y7 : Zin a h (fun c => c = a ∨ c = qp) _ _ (zs (hset g6 a (.inr (7, [.ref qp, .ref b4, .ref b5, .ref b6, .null, .null, .null, .int 0, .int 0, .int 0, .int 0, .int 0]))) 1 (zs (hset g5 a (.inr (7, [.ref qp, .ref b4, .ref b5, .null, .null, .null, .null, .int 0, .int 0, .int 0, .int 0, .int 0]))) 3 (zs (hset g4 a (.inr (7, [.ref qp, .ref b4, .null, .null, .null, .null, .null, .int 0, .int 0, .int 0, .int 0, .int 0]))) 5 (zs (hset g3 qp (aR G 3 4 (va_up (va_up (va_up (va_up (fun _ => none) 0 (some b0)) 1 (some b1)) 2 (some b2)) 3 (some b3)))) 0 (zs (hset g2 qp (aR G 3 4 (va_up (va_up (va_up (fun _ => none) 0 (some b0)) 1 (some b1)) 2 (some b2)))) 13 (zs (hset g1 qp (aR G 3 4 (va_up (va_up (fun _ => none) 0 (some b0)) 1 (some b1)))) 12 (zs (hset g0 qp (aR G 3 4 (va_up (fun _ => none) 0 (some b0)))) 11 (zs h1 10 Z)))))))) 1 := Zin.new hO7 hE7 hN7
    have hO8 := hO7.step hS7 hEn
    have hZa8 : (zs (hset g6 a (.inr (7, [.ref qp, .ref b4, .ref b5, .ref b6, .null, .null, .null, .int 0, .int 0, .int 0, .int 0, .int 0]))) 1 (zs (hset g5 a (.inr (7, [.ref qp, .ref b4, .ref b5, .null, .null, .null, .null, .int 0, .int 0, .int 0, .int 0, .int 0]))) 3 (zs (hset g4 a (.inr (7, [.ref qp, .ref b4, .null, .null, .null, .null, .null, .int 0, .int 0, .int 0, .int 0, .int 0]))) 5 (zs (hset g3 qp (aR G 3 4 (va_up (va_up (va_up (va_up (fun _ => none) 0 (some b0)) 1 (some b1)) 2 (some b2)) 3 (some b3)))) 0 (zs (hset g2 qp (aR G 3 4 (va_up (va_up (va_up (fun _ => none) 0 (some b0)) 1 (some b1)) 2 (some b2)))) 13 (zs (hset g1 qp (aR G 3 4 (va_up (va_up (fun _ => none) 0 (some b0)) 1 (some b1)))) 12 (zs (hset g0 qp (aR G 3 4 (va_up (fun _ => none) 0 (some b0)))) 11 (zs h1 10 Z)))))))) a = 30 := (zs_old (hE7 _ (Or.inl rfl))).trans hZa7
    have hZq8 : (zs (hset g6 a (.inr (7, [.ref qp, .ref b4, .ref b5, .ref b6, .null, .null, .null, .int 0, .int 0, .int 0, .int 0, .int 0]))) 1 (zs (hset g5 a (.inr (7, [.ref qp, .ref b4, .ref b5, .null, .null, .null, .null, .int 0, .int 0, .int 0, .int 0, .int 0]))) 3 (zs (hset g4 a (.inr (7, [.ref qp, .ref b4, .null, .null, .null, .null, .null, .int 0, .int 0, .int 0, .int 0, .int 0]))) 5 (zs (hset g3 qp (aR G 3 4 (va_up (va_up (va_up (va_up (fun _ => none) 0 (some b0)) 1 (some b1)) 2 (some b2)) 3 (some b3)))) 0 (zs (hset g2 qp (aR G 3 4 (va_up (va_up (va_up (fun _ => none) 0 (some b0)) 1 (some b1)) 2 (some b2)))) 13 (zs (hset g1 qp (aR G 3 4 (va_up (va_up (fun _ => none) 0 (some b0)) 1 (some b1)))) 12 (zs (hset g0 qp (aR G 3 4 (va_up (fun _ => none) 0 (some b0)))) 11 (zs h1 10 Z)))))))) qp = 20 := (zs_old (hE7 _ (Or.inr rfl))).trans hZq7
    have ha8 := hw7
    have hq8 := (hU7 qp (Or.inr rfl) hne).trans hq7
    have hE8 : ∀ c, (fun c => c = a ∨ c = qp) c → (hset g7 a (.inr (7, [.ref qp, .ref b4, .ref b5, .ref b6, .ref b7, .null, .null, .int 0, .int 0, .int 0, .int 0, .int 0]))) c ≠ none := fun c e => by rcases e with e | e <;> rw [e]; exact (fun z => by rw [ha8] at z; cases z); exact (fun z => by rw [hq8] at z; cases z)
    refine j_aload_n 0 dX9_init_86 rfl rfl ?_
    refine j_new (ck' := 12) (sk' := 7798) nX9_44 dX9_init_87 (by decide) (by decide) (fun b8 hb8 _ => ?_)
    refine j_dup dX9_init_90 rfl ?_
    refine j_callI (As := []) (ck' := 5) (sk' := 102) kX9_46 ciX2_init (c_X2_init (hset_s _ _ _)) (fun E h' hp => by cases hp.1) rfl rfl rfl rfl rfl rfl dX9_init_91 (by decide) (by decide) (fun v g8 hp => ?_)
    obtain ⟨ev, qq8, hA8, hB8⟩ := hp
    cases ev
    refine j_putF (fs' := [.ref qp, .ref b4, .ref b5, .ref b6, .ref b7, .ref b8, .null, .int 0, .int 0, .int 0, .int 0, .int 0]) fX9_47 tyX9_faultList rfl ⟨_, _, rfl⟩ dX9_init_94 ((born.on hb8 hB8 _ (hE8 _ (Or.inl rfl))).trans ha8) rfl rfl rfl rfl ?_
    obtain ⟨hX8, hN8, hS8, hU8, hw8⟩ := NO (E := (fun c => c = a ∨ c = qp)) hE8 (Or.inl rfl) hb8 hA8 hB8 (y := (.inr (7, [.ref qp, .ref b4, .ref b5, .ref b6, .ref b7, .ref b8, .null, .int 0, .int 0, .int 0, .int 0, .int 0])))
    have hX0 := hX0.stp y0 hS8
    have y0 := y0.old (t' := 2) hS8
    have hX1 := hX1.stp y1 hS8
    have y1 := y1.old (t' := 2) hS8
    have hX2 := hX2.stp y2 hS8
    have y2 := y2.old (t' := 2) hS8
    have hX3 := hX3.stp y3 hS8
    have y3 := y3.old (t' := 2) hS8
    have hX4 := hX4.stp y4 hS8
    have y4 := y4.old (t' := 2) hS8
    have hX5 := hX5.stp y5 hS8
    have y5 := y5.old (t' := 2) hS8
    have hX6 := hX6.stp y6 hS8
    have y6 := y6.old (t' := 2) hS8
    have hX7 := hX7.stp y7 hS8
    have y7 := y7.old (t' := 2) hS8
    have y8 : Zin a h (fun c => c = a ∨ c = qp) _ _ (zs (hset g7 a (.inr (7, [.ref qp, .ref b4, .ref b5, .ref b6, .ref b7, .null, .null, .int 0, .int 0, .int 0, .int 0, .int 0]))) 2 (zs (hset g6 a (.inr (7, [.ref qp, .ref b4, .ref b5, .ref b6, .null, .null, .null, .int 0, .int 0, .int 0, .int 0, .int 0]))) 1 (zs (hset g5 a (.inr (7, [.ref qp, .ref b4, .ref b5, .null, .null, .null, .null, .int 0, .int 0, .int 0, .int 0, .int 0]))) 3 (zs (hset g4 a (.inr (7, [.ref qp, .ref b4, .null, .null, .null, .null, .null, .int 0, .int 0, .int 0, .int 0, .int 0]))) 5 (zs (hset g3 qp (aR G 3 4 (va_up (va_up (va_up (va_up (fun _ => none) 0 (some b0)) 1 (some b1)) 2 (some b2)) 3 (some b3)))) 0 (zs (hset g2 qp (aR G 3 4 (va_up (va_up (va_up (fun _ => none) 0 (some b0)) 1 (some b1)) 2 (some b2)))) 13 (zs (hset g1 qp (aR G 3 4 (va_up (va_up (fun _ => none) 0 (some b0)) 1 (some b1)))) 12 (zs (hset g0 qp (aR G 3 4 (va_up (fun _ => none) 0 (some b0)))) 11 (zs h1 10 Z))))))))) 2 := Zin.new hO8 hE8 hN8
    have hO9 := hO8.step hS8 hEn
    have hZa9 : (zs (hset g7 a (.inr (7, [.ref qp, .ref b4, .ref b5, .ref b6, .ref b7, .null, .null, .int 0, .int 0, .int 0, .int 0, .int 0]))) 2 (zs (hset g6 a (.inr (7, [.ref qp, .ref b4, .ref b5, .ref b6, .null, .null, .null, .int 0, .int 0, .int 0, .int 0, .int 0]))) 1 (zs (hset g5 a (.inr (7, [.ref qp, .ref b4, .ref b5, .null, .null, .null, .null, .int 0, .int 0, .int 0, .int 0, .int 0]))) 3 (zs (hset g4 a (.inr (7, [.ref qp, .ref b4, .null, .null, .null, .null, .null, .int 0, .int 0, .int 0, .int 0, .int 0]))) 5 (zs (hset g3 qp (aR G 3 4 (va_up (va_up (va_up (va_up (fun _ => none) 0 (some b0)) 1 (some b1)) 2 (some b2)) 3 (some b3)))) 0 (zs (hset g2 qp (aR G 3 4 (va_up (va_up (va_up (fun _ => none) 0 (some b0)) 1 (some b1)) 2 (some b2)))) 13 (zs (hset g1 qp (aR G 3 4 (va_up (va_up (fun _ => none) 0 (some b0)) 1 (some b1)))) 12 (zs (hset g0 qp (aR G 3 4 (va_up (fun _ => none) 0 (some b0)))) 11 (zs h1 10 Z))))))))) a = 30 := (zs_old (hE8 _ (Or.inl rfl))).trans hZa8
    have hZq9 : (zs (hset g7 a (.inr (7, [.ref qp, .ref b4, .ref b5, .ref b6, .ref b7, .null, .null, .int 0, .int 0, .int 0, .int 0, .int 0]))) 2 (zs (hset g6 a (.inr (7, [.ref qp, .ref b4, .ref b5, .ref b6, .null, .null, .null, .int 0, .int 0, .int 0, .int 0, .int 0]))) 1 (zs (hset g5 a (.inr (7, [.ref qp, .ref b4, .ref b5, .null, .null, .null, .null, .int 0, .int 0, .int 0, .int 0, .int 0]))) 3 (zs (hset g4 a (.inr (7, [.ref qp, .ref b4, .null, .null, .null, .null, .null, .int 0, .int 0, .int 0, .int 0, .int 0]))) 5 (zs (hset g3 qp (aR G 3 4 (va_up (va_up (va_up (va_up (fun _ => none) 0 (some b0)) 1 (some b1)) 2 (some b2)) 3 (some b3)))) 0 (zs (hset g2 qp (aR G 3 4 (va_up (va_up (va_up (fun _ => none) 0 (some b0)) 1 (some b1)) 2 (some b2)))) 13 (zs (hset g1 qp (aR G 3 4 (va_up (va_up (fun _ => none) 0 (some b0)) 1 (some b1)))) 12 (zs (hset g0 qp (aR G 3 4 (va_up (fun _ => none) 0 (some b0)))) 11 (zs h1 10 Z))))))))) qp = 20 := (zs_old (hE8 _ (Or.inr rfl))).trans hZq8
    have ha9 := hw8
    have hq9 := (hU8 qp (Or.inr rfl) hne).trans hq8
    have hE9 : ∀ c, (fun c => c = a ∨ c = qp) c → (hset g8 a (.inr (7, [.ref qp, .ref b4, .ref b5, .ref b6, .ref b7, .ref b8, .null, .int 0, .int 0, .int 0, .int 0, .int 0]))) c ≠ none := fun c e => by rcases e with e | e <;> rw [e]; exact (fun z => by rw [ha9] at z; cases z); exact (fun z => by rw [hq9] at z; cases z)
    refine j_aload_n 0 dX9_init_97 rfl rfl ?_
    refine j_new (ck' := 4) (sk' := 97) nX9_51 dX9_init_98 (by decide) (by decide) (fun b9 hb9 _ => ?_)
    refine j_dup dX9_init_101 rfl ?_
    refine j_callI (As := []) (ck' := 0) (sk' := 0) kX9_53 ciX4_init (c_X4_init (hset_s _ _ _)) (fun E h' hp => by cases hp.1) rfl rfl rfl rfl rfl rfl dX9_init_102 (by decide) (by decide) (fun v g9 hp => ?_)
    obtain ⟨ev, qq9, hA9, hB9⟩ := hp
    cases ev
    refine j_putF (fs' := [.ref qp, .ref b4, .ref b5, .ref b6, .ref b7, .ref b8, .ref b9, .int 0, .int 0, .int 0, .int 0, .int 0]) fX9_54 tyX9_breaks rfl ⟨_, _, rfl⟩ dX9_init_105 ((born.on hb9 hB9 _ (hE9 _ (Or.inl rfl))).trans ha9) rfl rfl rfl rfl ?_
    obtain ⟨hX9, hN9, hS9, hU9, hw9⟩ := NO (E := (fun c => c = a ∨ c = qp)) hE9 (Or.inl rfl) hb9 hA9 hB9 (y := (.inr (7, [.ref qp, .ref b4, .ref b5, .ref b6, .ref b7, .ref b8, .ref b9, .int 0, .int 0, .int 0, .int 0, .int 0])))
    have hX0 := hX0.stp y0 hS9
    have y0 := y0.old (t' := 4) hS9
    have hX1 := hX1.stp y1 hS9
    have y1 := y1.old (t' := 4) hS9
    have hX2 := hX2.stp y2 hS9
    have y2 := y2.old (t' := 4) hS9
    have hX3 := hX3.stp y3 hS9
    have y3 := y3.old (t' := 4) hS9
    have hX4 := hX4.stp y4 hS9
    have y4 := y4.old (t' := 4) hS9
    have hX5 := hX5.stp y5 hS9
    have y5 := y5.old (t' := 4) hS9
    have hX6 := hX6.stp y6 hS9
    have y6 := y6.old (t' := 4) hS9
    have hX7 := hX7.stp y7 hS9
    have y7 := y7.old (t' := 4) hS9
    have hX8 := hX8.stp y8 hS9
    have y8 := y8.old (t' := 4) hS9
    have y9 : Zin a h (fun c => c = a ∨ c = qp) _ _ (zs (hset g8 a (.inr (7, [.ref qp, .ref b4, .ref b5, .ref b6, .ref b7, .ref b8, .null, .int 0, .int 0, .int 0, .int 0, .int 0]))) 4 (zs (hset g7 a (.inr (7, [.ref qp, .ref b4, .ref b5, .ref b6, .ref b7, .null, .null, .int 0, .int 0, .int 0, .int 0, .int 0]))) 2 (zs (hset g6 a (.inr (7, [.ref qp, .ref b4, .ref b5, .ref b6, .null, .null, .null, .int 0, .int 0, .int 0, .int 0, .int 0]))) 1 (zs (hset g5 a (.inr (7, [.ref qp, .ref b4, .ref b5, .null, .null, .null, .null, .int 0, .int 0, .int 0, .int 0, .int 0]))) 3 (zs (hset g4 a (.inr (7, [.ref qp, .ref b4, .null, .null, .null, .null, .null, .int 0, .int 0, .int 0, .int 0, .int 0]))) 5 (zs (hset g3 qp (aR G 3 4 (va_up (va_up (va_up (va_up (fun _ => none) 0 (some b0)) 1 (some b1)) 2 (some b2)) 3 (some b3)))) 0 (zs (hset g2 qp (aR G 3 4 (va_up (va_up (va_up (fun _ => none) 0 (some b0)) 1 (some b1)) 2 (some b2)))) 13 (zs (hset g1 qp (aR G 3 4 (va_up (va_up (fun _ => none) 0 (some b0)) 1 (some b1)))) 12 (zs (hset g0 qp (aR G 3 4 (va_up (fun _ => none) 0 (some b0)))) 11 (zs h1 10 Z)))))))))) 4 := Zin.new hO9 hE9 hN9
    have hO10 := hO9.step hS9 hEn
    have hZa10 : (zs (hset g8 a (.inr (7, [.ref qp, .ref b4, .ref b5, .ref b6, .ref b7, .ref b8, .null, .int 0, .int 0, .int 0, .int 0, .int 0]))) 4 (zs (hset g7 a (.inr (7, [.ref qp, .ref b4, .ref b5, .ref b6, .ref b7, .null, .null, .int 0, .int 0, .int 0, .int 0, .int 0]))) 2 (zs (hset g6 a (.inr (7, [.ref qp, .ref b4, .ref b5, .ref b6, .null, .null, .null, .int 0, .int 0, .int 0, .int 0, .int 0]))) 1 (zs (hset g5 a (.inr (7, [.ref qp, .ref b4, .ref b5, .null, .null, .null, .null, .int 0, .int 0, .int 0, .int 0, .int 0]))) 3 (zs (hset g4 a (.inr (7, [.ref qp, .ref b4, .null, .null, .null, .null, .null, .int 0, .int 0, .int 0, .int 0, .int 0]))) 5 (zs (hset g3 qp (aR G 3 4 (va_up (va_up (va_up (va_up (fun _ => none) 0 (some b0)) 1 (some b1)) 2 (some b2)) 3 (some b3)))) 0 (zs (hset g2 qp (aR G 3 4 (va_up (va_up (va_up (fun _ => none) 0 (some b0)) 1 (some b1)) 2 (some b2)))) 13 (zs (hset g1 qp (aR G 3 4 (va_up (va_up (fun _ => none) 0 (some b0)) 1 (some b1)))) 12 (zs (hset g0 qp (aR G 3 4 (va_up (fun _ => none) 0 (some b0)))) 11 (zs h1 10 Z)))))))))) a = 30 := (zs_old (hE9 _ (Or.inl rfl))).trans hZa9
    have hZq10 : (zs (hset g8 a (.inr (7, [.ref qp, .ref b4, .ref b5, .ref b6, .ref b7, .ref b8, .null, .int 0, .int 0, .int 0, .int 0, .int 0]))) 4 (zs (hset g7 a (.inr (7, [.ref qp, .ref b4, .ref b5, .ref b6, .ref b7, .null, .null, .int 0, .int 0, .int 0, .int 0, .int 0]))) 2 (zs (hset g6 a (.inr (7, [.ref qp, .ref b4, .ref b5, .ref b6, .null, .null, .null, .int 0, .int 0, .int 0, .int 0, .int 0]))) 1 (zs (hset g5 a (.inr (7, [.ref qp, .ref b4, .ref b5, .null, .null, .null, .null, .int 0, .int 0, .int 0, .int 0, .int 0]))) 3 (zs (hset g4 a (.inr (7, [.ref qp, .ref b4, .null, .null, .null, .null, .null, .int 0, .int 0, .int 0, .int 0, .int 0]))) 5 (zs (hset g3 qp (aR G 3 4 (va_up (va_up (va_up (va_up (fun _ => none) 0 (some b0)) 1 (some b1)) 2 (some b2)) 3 (some b3)))) 0 (zs (hset g2 qp (aR G 3 4 (va_up (va_up (va_up (fun _ => none) 0 (some b0)) 1 (some b1)) 2 (some b2)))) 13 (zs (hset g1 qp (aR G 3 4 (va_up (va_up (fun _ => none) 0 (some b0)) 1 (some b1)))) 12 (zs (hset g0 qp (aR G 3 4 (va_up (fun _ => none) 0 (some b0)))) 11 (zs h1 10 Z)))))))))) qp = 20 := (zs_old (hE9 _ (Or.inr rfl))).trans hZq9
    have ha10 := hw9
    have hq10 := (hU9 qp (Or.inr rfl) hne).trans hq9
    have hE10 : ∀ c, (fun c => c = a ∨ c = qp) c → (hset g9 a (.inr (7, [.ref qp, .ref b4, .ref b5, .ref b6, .ref b7, .ref b8, .ref b9, .int 0, .int 0, .int 0, .int 0, .int 0]))) c ≠ none := fun c e => by rcases e with e | e <;> rw [e]; exact (fun z => by rw [ha10] at z; cases z); exact (fun z => by rw [hq10] at z; cases z)
    refine j_aload_n 0 dX9_init_108 rfl rfl ?_
    refine J_iconst dX9_init_109 ?_
    refine j_put (fs' := [.ref qp, .ref b4, .ref b5, .ref b6, .ref b7, .ref b8, .ref b9, vI 0, .int 0, .int 0, .int 0, .int 0]) fX9_58 tyX9_heard dX9_init_110 ha10 rfl rfl rfl rfl ?_
    refine j_aload_n 0 dX9_init_113 rfl rfl ?_
    refine J_iconst dX9_init_114 ?_
    refine j_put (fs' := [.ref qp, .ref b4, .ref b5, .ref b6, .ref b7, .ref b8, .ref b9, vI 0, vI 0, .int 0, .int 0, .int 0]) fX9_62 tyX9_searched dX9_init_115 (hset_s _ _ _) rfl rfl rfl rfl ?_
    refine j_aload_n 0 dX9_init_118 rfl rfl ?_
    refine J_iconst dX9_init_119 ?_
    refine j_put (fs' := [.ref qp, .ref b4, .ref b5, .ref b6, .ref b7, .ref b8, .ref b9, vI 0, vI 0, vI 0, .int 0, .int 0]) fX9_65 tyX9_widthsKnown dX9_init_120 (hset_s _ _ _) rfl rfl rfl rfl ?_
    refine j_aload_n 0 dX9_init_123 rfl rfl ?_
    refine J_iconst dX9_init_124 ?_
    refine j_put (fs' := [.ref qp, .ref b4, .ref b5, .ref b6, .ref b7, .ref b8, .ref b9, vI 0, vI 0, vI 0, vI (-1), .int 0]) fX9_68 tyX9_laidPart dX9_init_125 (hset_s _ _ _) rfl rfl rfl rfl ?_
    refine j_aload_n 0 dX9_init_128 rfl rfl ?_
    refine J_iconst dX9_init_129 ?_
    refine j_put (fs' := [.ref qp, .ref b4, .ref b5, .ref b6, .ref b7, .ref b8, .ref b9, vI 0, vI 0, vI 0, vI (-1), vI (-1)]) fX9_72 tyX9_laidBar dX9_init_130 (hset_s _ _ _) rfl rfl rfl rfl ?_
    refine j_vret rfl dX9_init_133 ?_
    have fin : ∀ h9 : jH, h9 a = some (.inr (7, [.ref qp, .ref b4, .ref b5, .ref b6, .ref b7, .ref b8, .ref b9, vI 0, vI 0, vI 0, vI (-1), vI (-1)])) → (∀ c, c ≠ a → h9 c = (hset g9 a (.inr (7, [.ref qp, .ref b4, .ref b5, .ref b6, .ref b7, .ref b8, .ref b9, .int 0, .int 0, .int 0, .int 0, .int 0]))) c) → (jW oN (fun h' => ∃ (d : DA) (s : DS) (Z : Nat → Nat), Desk G h' a d s ∧ Dz a d Z ∧ DI s ∧ s.1 = P00 ∧ s.2.1 0 = p00 ∧ (∀ c, FtD a d c → c = a ∨ h c = none) ∧ Old a h h')) (.inl none) h9 := by
      intro h9 ha9 hf9
      have hF9 : BStp (fun c => c = a ∨ c = qp) (hset g9 a (.inr (7, [.ref qp, .ref b4, .ref b5, .ref b6, .ref b7, .ref b8, .ref b9, .int 0, .int 0, .int 0, .int 0, .int 0]))) h9 := fun c hc _ => hf9 c (fun z => hc (Or.inl z))
      have hO9 := hO10.step hF9 hEn
      refine ⟨rfl, ((qp, fun k => if k = 0 then b0 else if k = 1 then b1 else if k = 2 then b2 else b3, fun k => if k = 0 then qq0 else if k = 1 then qq1 else if k = 2 then qq2 else qq3, fun k => if k = 0 then b4 else if k = 1 then b7 else if k = 2 then b8 else if k = 3 then b6 else if k = 4 then b9 else b5, fun k => if k = 0 then qq4 else if k = 1 then qq7 else if k = 2 then qq8 else if k = 3 then qq6 else if k = 4 then qq9 else qq5) : DA), S00 (fun k => if k = 10 then -1 else if k = 11 then -1 else 0), (zs (hset g8 a (.inr (7, [.ref qp, .ref b4, .ref b5, .ref b6, .ref b7, .ref b8, .null, .int 0, .int 0, .int 0, .int 0, .int 0]))) 4 (zs (hset g7 a (.inr (7, [.ref qp, .ref b4, .ref b5, .ref b6, .ref b7, .null, .null, .int 0, .int 0, .int 0, .int 0, .int 0]))) 2 (zs (hset g6 a (.inr (7, [.ref qp, .ref b4, .ref b5, .ref b6, .null, .null, .null, .int 0, .int 0, .int 0, .int 0, .int 0]))) 1 (zs (hset g5 a (.inr (7, [.ref qp, .ref b4, .ref b5, .null, .null, .null, .null, .int 0, .int 0, .int 0, .int 0, .int 0]))) 3 (zs (hset g4 a (.inr (7, [.ref qp, .ref b4, .null, .null, .null, .null, .null, .int 0, .int 0, .int 0, .int 0, .int 0]))) 5 (zs (hset g3 qp (aR G 3 4 (va_up (va_up (va_up (va_up (fun _ => none) 0 (some b0)) 1 (some b1)) 2 (some b2)) 3 (some b3)))) 0 (zs (hset g2 qp (aR G 3 4 (va_up (va_up (va_up (fun _ => none) 0 (some b0)) 1 (some b1)) 2 (some b2)))) 13 (zs (hset g1 qp (aR G 3 4 (va_up (va_up (fun _ => none) 0 (some b0)) 1 (some b1)))) 12 (zs (hset g0 qp (aR G 3 4 (va_up (fun _ => none) 0 (some b0)))) 11 (zs h1 10 Z)))))))))), ?_, ?_, DI00 rfl rfl rfl rfl rfl, rfl, rfl, fun c hc => ?_, hO9⟩
      · refine ⟨ha9, ⟨⟨_, (hf9 qp hne).trans hq10, fun k hk => ?_⟩, fun k hk => ?_⟩, hX4.stp y4 hF9, hX7.stp y7 hF9, hX8.stp y8 hF9, hX6.stp y6 hF9, hX9.stp y9 hF9, hX5.stp y5 hF9⟩
        · rcases (by omega : k = 0 ∨ k = 1 ∨ k = 2 ∨ k = 3) with e | e | e | e <;> subst e <;> rfl
        · rcases (by omega : k = 0 ∨ k = 1 ∨ k = 2 ∨ k = 3) with e | e | e | e <;> subst e
          · exact hX0.stp y0 hF9
          · exact hX1.stp y1 hF9
          · exact hX2.stp y2 hF9
          · exact hX3.stp y3 hF9
      · refine ⟨hZa10, hZq10, fun k hk c hc => ?_, fun c hc => (y4 c hc).2.2.1, fun c hc => (y7 c hc).2.2.1, fun c hc => (y8 c hc).2.2.1, fun c hc => (y6 c hc).2.2.1, fun c hc => (y9 c hc).2.2.1, fun c hc => (y5 c hc).2.2.1⟩
        rcases (by omega : k = 0 ∨ k = 1 ∨ k = 2 ∨ k = 3) with e | e | e | e <;> subst e
        · exact (y0 c hc).2.2.1
        · exact (y1 c hc).2.2.1
        · exact (y2 c hc).2.2.1
        · exact (y3 c hc).2.2.1
      · rcases hc with hc | (hc | ⟨k, hk, hc⟩) | hc | hc | hc | hc | hc | hc
        · exact Or.inl hc
        · exact hEn c (Or.inr hc)
        · rcases (by omega : k = 0 ∨ k = 1 ∨ k = 2 ∨ k = 3) with e | e | e | e <;> subst e
          · exact (y0 c hc).2.2.2
          · exact (y1 c hc).2.2.2
          · exact (y2 c hc).2.2.2
          · exact (y3 c hc).2.2.2
        · exact (y4 c hc).2.2.2
        · exact (y7 c hc).2.2.2
        · exact (y8 c hc).2.2.2
        · exact (y6 c hc).2.2.2
        · exact (y9 c hc).2.2.2
        · exact (y5 c hc).2.2.2
    exact fin _ (hset_s _ _ _) (fun c hc => by rw [hset_n hc, hset_n hc, hset_n hc, hset_n hc, hset_n hc])
  refine j_body (by decide +kernel) ⟨rfl, rfl⟩ rfl ?_
  refine j_aload_n 0 dX9_init_0 rfl rfl ?_
  refine j_objInit kX9_3 dX9_init_1 rfl rfl ?_
  refine j_aload_n 0 dX9_init_4 rfl rfl ?_
  refine J_iconst dX9_init_5 ?_
  refine j_newq (t := 3) (ck' := 65) (sk' := 25964) 4 (wt 28 (by decide +kernel) rfl) (by decide +kernel) rfl dX9_init_6 (by decide) (by decide) (by decide) (by decide) (by decide) (fun qp hqp _ => ?_)
  have hne : a ≠ qp := fun z => by rw [← z, ha] at hqp; cases hqp
  refine j_putF (fs' := [.ref qp, .null, .null, .null, .null, .null, .null, .int 0, .int 0, .int 0, .int 0, .int 0]) fX9_11 tyX9_parts rfl ⟨_, _, rfl⟩ dX9_init_9 ((hset_n hne).trans ha) rfl rfl rfl rfl ?_
  exact K1 _ qp (zs h 20 (fun _ => 30)) (hset_s _ _ _) (by rw [hset_n (Ne.symm hne), hset_s]) (Ne.symm hne) hqp (fun c hc hn => by rw [hset_n hc, hset_n (fun z => hn (by rw [z]; exact hqp))]) (zs_old (by rw [ha]; exact fun z => by cases z)) (zs_new hqp)
