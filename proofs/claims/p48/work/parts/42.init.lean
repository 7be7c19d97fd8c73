/-! constructors -/
def zOS : OS := (fun _ => 0, fun _ _ => 0)
def PA (ca : oC) (n : Nat) (h0 h : jH) (a : Nat) (q : Nat → Nat) (e : va_E) : Prop :=
  h a = some e ∧ (∀ k, k < n → h (q k) = some (ca k (fun _ => 0)) ∧ q k ≠ a ∧ h0 (q k) = none) ∧ (∀ i j, i < n → j < n → q i = q j → i = j) ∧ (∀ b e, b ≠ a → h0 b = some e → h b = some e) ∧ (∃ e, h0 a = some e)
theorem PA.zero {ca : oC} {h : jH} {a : Nat} {e : va_E} (ha : h a = some e) : PA ca 0 h h a (fun _ => 0) e :=
  ⟨ha, fun k hk => absurd hk (by omega), fun i j hi => absurd hi (by omega), fun _ _ _ hb => hb, ⟨e, ha⟩⟩
theorem PA.look {ca : oC} {n : Nat} {h0 h : jH} {a : Nat} {q : Nat → Nat} {e x : va_E} {q' : Nat} (H : PA ca n h0 h a q e) (hq : h q' = none) : hset h q' x a = some e := by
  have hne : a ≠ q' := fun z => by rw [← z, H.1] at hq; cases hq
  rw [hset_n hne]
  exact H.1
theorem PA.step {ca : oC} {n : Nat} {h0 h : jH} {a : Nat} {q : Nat → Nat} {e : va_E} {q' : Nat} (H : PA ca n h0 h a q e) (hq : h q' = none) (e' : va_E) : PA ca (n + 1) h0 (hset (hset h q' (ca n (fun _ => 0))) a e') a (fun k => if k = n then q' else q k) e' := by
  obtain ⟨h1, h2, h3, h4, h5⟩ := H
  have hne : q' ≠ a := fun z => by rw [z, h1] at hq; cases hq
  have h0q : h0 q' = none := by
    cases he : h0 q' with
    | none => rfl
    | some x => rw [h4 q' x hne he] at hq; cases hq
  have hqk : ∀ k, k < n → q k ≠ q' := fun k hk z => by rw [← z, (h2 k hk).1] at hq; cases hq
  refine ⟨hset_s _ _ _, fun k hk => ?_, fun i j hi hj hij => ?_, fun b x hb hx => ?_, h5⟩
  · by_cases c : k = n
    · subst c
      simp only [if_true]
      exact ⟨by rw [hset_n hne, hset_s], hne, h0q⟩
    · simp only [c, if_false]
      have hk2 : k < n := by omega
      have g := h2 k hk2
      exact ⟨by rw [hset_n g.2.1, hset_n (hqk k hk2)]; exact g.1, g.2.1, g.2.2⟩
  · dsimp only at hij
    by_cases c : i = n
    · by_cases d : j = n
      · omega
      · rw [if_pos c, if_neg d] at hij
        exact absurd hij.symm (hqk j (by omega))
    · by_cases d : j = n
      · rw [if_neg c, if_pos d] at hij
        exact absurd hij (hqk i (by omega))
      · rw [if_neg c, if_neg d] at hij
        exact h3 i j (by omega) (by omega) hij
  · have g := h4 b x hb hx
    have : b ≠ q' := fun z => by rw [z] at g; rw [g] at hq; cases hq
    rw [hset_n hb, hset_n this]
    exact g
/-- a is an object that is there; what is at q is new; all else stands -/
def born (A : Nat → Bool) (h h' : jH) (a : Nat) (q : Nat → Nat) : Prop := (∀ k, A k = true → h (q k) = none) ∧ (∀ b e, b ≠ a → h b = some e → h' b = some e)
theorem PA.at {ca : oC} {n : Nat} {h0 h : jH} {a : Nat} {q : Nat → Nat} {o : oO} {p : OS} {A : Nat → Bool} (H : PA ca n h0 h a q (.inr (o q p))) (hA : ∀ k, A k = true → k < n) (hp : ∀ k, p.2 k = fun _ => 0) : At o ca A h a q p ∧ born A h0 h a q :=
  ⟨⟨H.1, fun k hk => by rw [hp]; exact (H.2.1 k (hA k hk)).1, fun k hk => (H.2.1 k (hA k hk)).2.1, fun i j hi hj => H.2.2.1 i j (hA i hi) (hA j hj)⟩, fun k hk => (H.2.1 k (hA k hk)).2.2, H.2.2.2.1⟩
theorem born.fr {A : Nat → Bool} {h h1 h2 : jH} {a : Nat} {q : Nat → Nat} (B : born A h h1 a q) (hF : Fr (ft A a q) h1 h2) : born A h h2 a q :=
  ⟨B.1, fun b e hb he => (hF b (fun z => by
    rcases z with z | ⟨k, hk, z⟩
    · exact hb z
    · rw [z, B.1 k hk] at he; cases he)).trans (B.2 b e hb he)⟩
set_option maxRecDepth 100000 in
theorem c_X0_init {l : Launch} {G : jG} {h : jH} {a : Nat} (ha : h a = some (.inr (0, [.null, .null, .null, .null, .int 0]))) : jC l G yX0_init mX0_init [.ref a] h (jW oN (fun h' => ∃ q, AtX0 G h' a q (metP zOS 0 4 4) ∧ born AX0 h h' a q)) := by
  refine j_body (by decide +kernel) ⟨rfl, rfl⟩ rfl ?_
  have H0 : PA (caX0 G) 0 h h a (fun _ => 0) _ := PA.zero ha
  refine j_aload_n 0 dX0_init_0 rfl rfl ?_
  refine j_objInit kX0_3 dX0_init_1 rfl rfl ?_
  refine j_aload_n 0 dX0_init_4 rfl rfl ?_
  refine J_bipush dX0_init_5 (by decide) ?_
  refine j_newI (ck' := 3) (sk' := 72) 24 acI dX0_init_7 (by decide) (by decide) (by decide) (by decide) (by decide) (fun q0 hq0 _ => ?_)
  refine j_putF (fs' := [.ref q0, .null, .null, .null, .int 0]) fX0_9 tyX0_beats rfl ⟨_, _, rfl⟩ dX0_init_9 (H0.look hq0) rfl rfl rfl rfl ?_
  have H1 := H0.step hq0 (.inr (0, [.ref q0, .null, .null, .null, .int 0]))
  refine j_aload_n 0 dX0_init_12 rfl rfl ?_
  refine J_bipush dX0_init_13 (by decide) ?_
  refine j_newI (ck' := 2) (sk' := 48) 24 acI dX0_init_15 (by decide) (by decide) (by decide) (by decide) (by decide) (fun q1 hq1 _ => ?_)
  refine j_putF (fs' := [.ref q0, .ref q1, .null, .null, .int 0]) fX0_15 tyX0_units rfl ⟨_, _, rfl⟩ dX0_init_17 (H1.look hq1) rfl rfl rfl rfl ?_
  have H2 := H1.step hq1 (.inr (0, [.ref q0, .ref q1, .null, .null, .int 0]))
  refine j_aload_n 0 dX0_init_20 rfl rfl ?_
  refine J_bipush dX0_init_21 (by decide) ?_
  refine j_newI (ck' := 1) (sk' := 24) 24 acI dX0_init_23 (by decide) (by decide) (by decide) (by decide) (by decide) (fun q2 hq2 _ => ?_)
  refine j_putF (fs' := [.ref q0, .ref q1, .ref q2, .null, .int 0]) fX0_18 tyX0_lengths rfl ⟨_, _, rfl⟩ dX0_init_25 (H2.look hq2) rfl rfl rfl rfl ?_
  have H3 := H2.step hq2 (.inr (0, [.ref q0, .ref q1, .ref q2, .null, .int 0]))
  refine j_aload_n 0 dX0_init_28 rfl rfl ?_
  refine J_bipush dX0_init_29 (by decide) ?_
  refine j_newI (ck' := 0) (sk' := 0) 24 acI dX0_init_31 (by decide) (by decide) (by decide) (by decide) (by decide) (fun q3 hq3 _ => ?_)
  refine j_putF (fs' := [.ref q0, .ref q1, .ref q2, .ref q3, .int 0]) fX0_21 tyX0_keys rfl ⟨_, _, rfl⟩ dX0_init_33 (H3.look hq3) rfl rfl rfl rfl ?_
  have H4 := H3.step hq3 (.inr (0, [.ref q0, .ref q1, .ref q2, .ref q3, .int 0]))
  obtain ⟨hP, hB⟩ := PA.at (o := oX0) (p := zOS) (A := AX0) H4 (fun k hk => Nat.le_of_ble_eq_true hk) (fun _ => rfl)
  refine j_aload_n 0 dX0_init_36 rfl rfl ?_
  refine J_iconst dX0_init_37 ?_
  refine J_iconst dX0_init_38 ?_
  refine J_iconst dX0_init_39 ?_
  refine J_callVW0 kX0_24 cvX0_changeMetre hP.1 (c_X0_changeMetre hP (by decide) (by decide) (by decide)) rfl rfl rfl rfl rfl dX0_init_40 rfl rfl (fun h hp => ?_)
  obtain ⟨hP, hF9⟩ := hp
  have hB := hB.fr hF9
  refine j_vret rfl dX0_init_43 ?_
  exact ⟨rfl, _, hP, hB⟩
set_option maxRecDepth 100000 in
theorem c_X1_init {l : Launch} {G : jG} {h : jH} {a : Nat} (ha : h a = some (.inr (1, [.int 0, .int 0, .int 0]))) : jC l G yX1_init mX1_init [.ref a] h (jW oN (fun h' => ∃ q, AtX1 G h' a q (oU (oU (oU zOS 0 (-1)) 1 (-1)) 2 (-1)) ∧ born AX1 h h' a q)) := by
  refine j_body (by decide +kernel) ⟨rfl, rfl⟩ rfl ?_
  have H0 : PA (caX1 G) 0 h h a (fun _ => 0) _ := PA.zero ha
  refine j_aload_n 0 dX1_init_0 rfl rfl ?_
  refine j_objInit kX1_3 dX1_init_1 rfl rfl ?_
  obtain ⟨hP, hB⟩ := PA.at (o := oX1) (p := zOS) (A := AX1) H0 (fun k hk => absurd hk Bool.false_ne_true) (fun _ => rfl)
  refine j_aload_n 0 dX1_init_4 rfl rfl ?_
  refine J_iconst dX1_init_5 ?_
  refine J_putA hP fX1_9 tyX1_root dX1_init_6 rfl rfl (fun h hP hF6 => ?_)
  have hB := hB.fr hF6
  refine j_aload_n 0 dX1_init_9 rfl rfl ?_
  refine J_iconst dX1_init_10 ?_
  refine J_putA hP fX1_15 tyX1_kind dX1_init_11 rfl rfl (fun h hP hF11 => ?_)
  have hB := hB.fr hF11
  refine j_aload_n 0 dX1_init_14 rfl rfl ?_
  refine J_iconst dX1_init_15 ?_
  refine J_putA hP fX1_18 tyX1_lowest dX1_init_16 rfl rfl (fun h hP hF16 => ?_)
  have hB := hB.fr hF16
  refine j_vret rfl dX1_init_19 ?_
  exact ⟨rfl, _, hP, hB⟩
set_option maxRecDepth 100000 in
theorem c_X2_init {l : Launch} {G : jG} {h : jH} {a : Nat} (ha : h a = some (.inr (2, [.null, .null, .null, .null, .null, .null, .null, .int 0]))) : jC l G yX2_init mX2_init [.ref a] h (jW oN (fun h' => ∃ q, AtX2 G h' a q (zOS) ∧ born AX2 h h' a q)) := by
  refine j_body (by decide +kernel) ⟨rfl, rfl⟩ rfl ?_
  have H0 : PA (caX2 G) 0 h h a (fun _ => 0) _ := PA.zero ha
  refine j_aload_n 0 dX2_init_0 rfl rfl ?_
  refine j_objInit kX2_3 dX2_init_1 rfl rfl ?_
  refine j_aload_n 0 dX2_init_4 rfl rfl ?_
  refine J_sipush dX2_init_5 (by decide) ?_
  refine j_newI (ck' := 6) (sk' := 5136) 2560 acI dX2_init_8 (by decide) (by decide) (by decide) (by decide) (by decide) (fun q0 hq0 _ => ?_)
  refine j_putF (fs' := [.ref q0, .null, .null, .null, .null, .null, .null, .int 0]) fX2_9 tyX2_kinds rfl ⟨_, _, rfl⟩ dX2_init_10 (H0.look hq0) rfl rfl rfl rfl ?_
  have H1 := H0.step hq0 (.inr (2, [.ref q0, .null, .null, .null, .null, .null, .null, .int 0]))
  refine j_aload_n 0 dX2_init_13 rfl rfl ?_
  refine J_sipush dX2_init_14 (by decide) ?_
  refine j_newI (ck' := 5) (sk' := 2576) 2560 acI dX2_init_17 (by decide) (by decide) (by decide) (by decide) (by decide) (fun q1 hq1 _ => ?_)
  refine j_putF (fs' := [.ref q0, .ref q1, .null, .null, .null, .null, .null, .int 0]) fX2_15 tyX2_ticks rfl ⟨_, _, rfl⟩ dX2_init_19 (H1.look hq1) rfl rfl rfl rfl ?_
  have H2 := H1.step hq1 (.inr (2, [.ref q0, .ref q1, .null, .null, .null, .null, .null, .int 0]))
  refine j_aload_n 0 dX2_init_22 rfl rfl ?_
  refine J_sipush dX2_init_23 (by decide) ?_
  refine j_newI (ck' := 4) (sk' := 16) 2560 acI dX2_init_26 (by decide) (by decide) (by decide) (by decide) (by decide) (fun q2 hq2 _ => ?_)
  refine j_putF (fs' := [.ref q0, .ref q1, .ref q2, .null, .null, .null, .null, .int 0]) fX2_18 tyX2_partCodes rfl ⟨_, _, rfl⟩ dX2_init_28 (H2.look hq2) rfl rfl rfl rfl ?_
  have H3 := H2.step hq2 (.inr (2, [.ref q0, .ref q1, .ref q2, .null, .null, .null, .null, .int 0]))
  refine j_aload_n 0 dX2_init_31 rfl rfl ?_
  refine J_iconst dX2_init_32 ?_
  refine j_newI (ck' := 3) (sk' := 12) 4 acI dX2_init_33 (by decide) (by decide) (by decide) (by decide) (by decide) (fun q3 hq3 _ => ?_)
  refine j_putF (fs' := [.ref q0, .ref q1, .ref q2, .ref q3, .null, .null, .null, .int 0]) fX2_21 tyX2_heightsAhead rfl ⟨_, _, rfl⟩ dX2_init_35 (H3.look hq3) rfl rfl rfl rfl ?_
  have H4 := H3.step hq3 (.inr (2, [.ref q0, .ref q1, .ref q2, .ref q3, .null, .null, .null, .int 0]))
  refine j_aload_n 0 dX2_init_38 rfl rfl ?_
  refine J_iconst dX2_init_39 ?_
  refine j_newI (ck' := 2) (sk' := 8) 4 acI dX2_init_40 (by decide) (by decide) (by decide) (by decide) (by decide) (fun q4 hq4 _ => ?_)
  refine j_putF (fs' := [.ref q0, .ref q1, .ref q2, .ref q3, .ref q4, .null, .null, .int 0]) fX2_24 tyX2_heightsNow rfl ⟨_, _, rfl⟩ dX2_init_42 (H4.look hq4) rfl rfl rfl rfl ?_
  have H5 := H4.step hq4 (.inr (2, [.ref q0, .ref q1, .ref q2, .ref q3, .ref q4, .null, .null, .int 0]))
  refine j_aload_n 0 dX2_init_45 rfl rfl ?_
  refine J_iconst dX2_init_46 ?_
  refine j_newZ (ck' := 1) (sk' := 4) 4 acZ dX2_init_47 (by decide) (by decide) (by decide) (by decide) (by decide) (fun q5 hq5 _ => ?_)
  refine j_putF (fs' := [.ref q0, .ref q1, .ref q2, .ref q3, .ref q4, .ref q5, .null, .int 0]) fX2_27 tyX2_begins rfl ⟨_, _, rfl⟩ dX2_init_49 (H5.look hq5) rfl rfl rfl rfl ?_
  have H6 := H5.step hq5 (.inr (2, [.ref q0, .ref q1, .ref q2, .ref q3, .ref q4, .ref q5, .null, .int 0]))
  refine j_aload_n 0 dX2_init_52 rfl rfl ?_
  refine J_iconst dX2_init_53 ?_
  refine j_newI (ck' := 0) (sk' := 0) 4 acI dX2_init_54 (by decide) (by decide) (by decide) (by decide) (by decide) (fun q6 hq6 _ => ?_)
  refine j_putF (fs' := [.ref q0, .ref q1, .ref q2, .ref q3, .ref q4, .ref q5, .ref q6, .int 0]) fX2_31 tyX2_ways rfl ⟨_, _, rfl⟩ dX2_init_56 (H6.look hq6) rfl rfl rfl rfl ?_
  have H7 := H6.step hq6 (.inr (2, [.ref q0, .ref q1, .ref q2, .ref q3, .ref q4, .ref q5, .ref q6, .int 0]))
  obtain ⟨hP, hB⟩ := PA.at (o := oX2) (p := zOS) (A := AX2) H7 (fun k hk => Nat.le_of_ble_eq_true hk) (fun _ => rfl)
  refine j_vret rfl dX2_init_59 ?_
  exact ⟨rfl, _, hP, hB⟩
set_option maxRecDepth 100000 in
theorem c_X3_init {l : Launch} {G : jG} {h : jH} {a : Nat} (ha : h a = some (.inr (3, [.null, .null, .null, .int 0]))) : jC l G yX3_init mX3_init [.ref a] h (jW oN (fun h' => ∃ q, AtX3 G h' a q (zOS) ∧ born AX3 h h' a q)) := by
  refine j_body (by decide +kernel) ⟨rfl, rfl⟩ rfl ?_
  have H0 : PA (caX3 G) 0 h h a (fun _ => 0) _ := PA.zero ha
  refine j_aload_n 0 dX3_init_0 rfl rfl ?_
  refine j_objInit kX3_3 dX3_init_1 rfl rfl ?_
  refine j_aload_n 0 dX3_init_4 rfl rfl ?_
  refine J_sipush dX3_init_5 (by decide) ?_
  refine j_newI (ck' := 2) (sk' := 2052) 512 acI dX3_init_8 (by decide) (by decide) (by decide) (by decide) (by decide) (fun q0 hq0 _ => ?_)
  refine j_putF (fs' := [.ref q0, .null, .null, .int 0]) fX3_9 tyX3_ticks rfl ⟨_, _, rfl⟩ dX3_init_10 (H0.look hq0) rfl rfl rfl rfl ?_
  have H1 := H0.step hq0 (.inr (3, [.ref q0, .null, .null, .int 0]))
  refine j_aload_n 0 dX3_init_13 rfl rfl ?_
  refine J_sipush dX3_init_14 (by decide) ?_
  refine j_newI (ck' := 1) (sk' := 4) 2048 acI dX3_init_17 (by decide) (by decide) (by decide) (by decide) (by decide) (fun q1 hq1 _ => ?_)
  refine j_putF (fs' := [.ref q0, .ref q1, .null, .int 0]) fX3_15 tyX3_eventsThen rfl ⟨_, _, rfl⟩ dX3_init_19 (H1.look hq1) rfl rfl rfl rfl ?_
  have H2 := H1.step hq1 (.inr (3, [.ref q0, .ref q1, .null, .int 0]))
  refine j_aload_n 0 dX3_init_22 rfl rfl ?_
  refine J_iconst dX3_init_23 ?_
  refine j_newI (ck' := 0) (sk' := 0) 4 acI dX3_init_24 (by decide) (by decide) (by decide) (by decide) (by decide) (fun q2 hq2 _ => ?_)
  refine j_putF (fs' := [.ref q0, .ref q1, .ref q2, .int 0]) fX3_18 tyX3_begun rfl ⟨_, _, rfl⟩ dX3_init_26 (H2.look hq2) rfl rfl rfl rfl ?_
  have H3 := H2.step hq2 (.inr (3, [.ref q0, .ref q1, .ref q2, .int 0]))
  obtain ⟨hP, hB⟩ := PA.at (o := oX3) (p := zOS) (A := AX3) H3 (fun k hk => Nat.le_of_ble_eq_true hk) (fun _ => rfl)
  refine j_vret rfl dX3_init_29 ?_
  exact ⟨rfl, _, hP, hB⟩
set_option maxRecDepth 100000 in
theorem c_X4_init {l : Launch} {G : jG} {h : jH} {a : Nat} (ha : h a = some (.inr (4, [.null, .null, .null, .null, .int 0]))) : jC l G yX4_init mX4_init [.ref a] h (jW oN (fun h' => ∃ q, AtX4 G h' a q (zOS) ∧ born AX4 h h' a q)) := by
  refine j_body (by decide +kernel) ⟨rfl, rfl⟩ rfl ?_
  have H0 : PA (caX4 G) 0 h h a (fun _ => 0) _ := PA.zero ha
  refine j_aload_n 0 dX4_init_0 rfl rfl ?_
  refine j_objInit kX4_3 dX4_init_1 rfl rfl ?_
  refine j_aload_n 0 dX4_init_4 rfl rfl ?_
  refine J_bipush dX4_init_5 (by decide) ?_
  refine j_newI (ck' := 3) (sk' := 73) 24 acI dX4_init_7 (by decide) (by decide) (by decide) (by decide) (by decide) (fun q0 hq0 _ => ?_)
  refine j_putF (fs' := [.ref q0, .null, .null, .null, .int 0]) fX4_9 tyX4_widths rfl ⟨_, _, rfl⟩ dX4_init_9 (H0.look hq0) rfl rfl rfl rfl ?_
  have H1 := H0.step hq0 (.inr (4, [.ref q0, .null, .null, .null, .int 0]))
  refine j_aload_n 0 dX4_init_12 rfl rfl ?_
  refine J_bipush dX4_init_13 (by decide) ?_
  refine j_newI (ck' := 2) (sk' := 48) 25 acI dX4_init_15 (by decide) (by decide) (by decide) (by decide) (by decide) (fun q1 hq1 _ => ?_)
  refine j_putF (fs' := [.ref q0, .ref q1, .null, .null, .int 0]) fX4_15 tyX4_costs rfl ⟨_, _, rfl⟩ dX4_init_17 (H1.look hq1) rfl rfl rfl rfl ?_
  have H2 := H1.step hq1 (.inr (4, [.ref q0, .ref q1, .null, .null, .int 0]))
  refine j_aload_n 0 dX4_init_20 rfl rfl ?_
  refine J_bipush dX4_init_21 (by decide) ?_
  refine j_newI (ck' := 1) (sk' := 24) 24 acI dX4_init_23 (by decide) (by decide) (by decide) (by decide) (by decide) (fun q2 hq2 _ => ?_)
  refine j_putF (fs' := [.ref q0, .ref q1, .ref q2, .null, .int 0]) fX4_18 tyX4_nextLines rfl ⟨_, _, rfl⟩ dX4_init_25 (H2.look hq2) rfl rfl rfl rfl ?_
  have H3 := H2.step hq2 (.inr (4, [.ref q0, .ref q1, .ref q2, .null, .int 0]))
  refine j_aload_n 0 dX4_init_28 rfl rfl ?_
  refine J_bipush dX4_init_29 (by decide) ?_
  refine j_newI (ck' := 0) (sk' := 0) 24 acI dX4_init_31 (by decide) (by decide) (by decide) (by decide) (by decide) (fun q3 hq3 _ => ?_)
  refine j_putF (fs' := [.ref q0, .ref q1, .ref q2, .ref q3, .int 0]) fX4_21 tyX4_lineNumbers rfl ⟨_, _, rfl⟩ dX4_init_33 (H3.look hq3) rfl rfl rfl rfl ?_
  have H4 := H3.step hq3 (.inr (4, [.ref q0, .ref q1, .ref q2, .ref q3, .int 0]))
  obtain ⟨hP, hB⟩ := PA.at (o := oX4) (p := zOS) (A := AX4) H4 (fun k hk => Nat.le_of_ble_eq_true hk) (fun _ => rfl)
  refine j_vret rfl dX4_init_36 ?_
  exact ⟨rfl, _, hP, hB⟩
set_option maxRecDepth 100000 in
theorem c_X5_init {l : Launch} {G : jG} {h : jH} {a : Nat} (ha : h a = some (.inr (5, [.null, .null, .null, .null, .null, .null, .null, .null, .null, .int 0, .int 0]))) : jC l G yX5_init mX5_init [.ref a] h (jW oN (fun h' => ∃ q, AtX5 G h' a q (zOS) ∧ born AX5 h h' a q)) := by
  refine j_body (by decide +kernel) ⟨rfl, rfl⟩ rfl ?_
  have H0 : PA (caX5 G) 0 h h a (fun _ => 0) _ := PA.zero ha
  refine j_aload_n 0 dX5_init_0 rfl rfl ?_
  refine j_objInit kX5_3 dX5_init_1 rfl rfl ?_
  refine j_aload_n 0 dX5_init_4 rfl rfl ?_
  refine J_sipush dX5_init_5 (by decide) ?_
  refine j_newI (ck' := 8) (sk' := 959) 128 acI dX5_init_8 (by decide) (by decide) (by decide) (by decide) (by decide) (fun q0 hq0 _ => ?_)
  refine j_putF (fs' := [.ref q0, .null, .null, .null, .null, .null, .null, .null, .null, .int 0, .int 0]) fX5_9 tyX5_signEvents rfl ⟨_, _, rfl⟩ dX5_init_10 (H0.look hq0) rfl rfl rfl rfl ?_
  have H1 := H0.step hq0 (.inr (5, [.ref q0, .null, .null, .null, .null, .null, .null, .null, .null, .int 0, .int 0]))
  refine j_aload_n 0 dX5_init_13 rfl rfl ?_
  refine J_sipush dX5_init_14 (by decide) ?_
  refine j_newI (ck' := 7) (sk' := 831) 128 acI dX5_init_17 (by decide) (by decide) (by decide) (by decide) (by decide) (fun q1 hq1 _ => ?_)
  refine j_putF (fs' := [.ref q0, .ref q1, .null, .null, .null, .null, .null, .null, .null, .int 0, .int 0]) fX5_15 tyX5_ticks rfl ⟨_, _, rfl⟩ dX5_init_19 (H1.look hq1) rfl rfl rfl rfl ?_
  have H2 := H1.step hq1 (.inr (5, [.ref q0, .ref q1, .null, .null, .null, .null, .null, .null, .null, .int 0, .int 0]))
  refine j_aload_n 0 dX5_init_22 rfl rfl ?_
  refine J_sipush dX5_init_23 (by decide) ?_
  refine j_newI (ck' := 6) (sk' := 703) 128 acI dX5_init_26 (by decide) (by decide) (by decide) (by decide) (by decide) (fun q2 hq2 _ => ?_)
  refine j_putF (fs' := [.ref q0, .ref q1, .ref q2, .null, .null, .null, .null, .null, .null, .int 0, .int 0]) fX5_18 tyX5_lengths rfl ⟨_, _, rfl⟩ dX5_init_28 (H2.look hq2) rfl rfl rfl rfl ?_
  have H3 := H2.step hq2 (.inr (5, [.ref q0, .ref q1, .ref q2, .null, .null, .null, .null, .null, .null, .int 0, .int 0]))
  refine j_aload_n 0 dX5_init_31 rfl rfl ?_
  refine J_sipush dX5_init_32 (by decide) ?_
  refine j_newZ (ck' := 5) (sk' := 575) 128 acZ dX5_init_35 (by decide) (by decide) (by decide) (by decide) (by decide) (fun q3 hq3 _ => ?_)
  refine j_putF (fs' := [.ref q0, .ref q1, .ref q2, .ref q3, .null, .null, .null, .null, .null, .int 0, .int 0]) fX5_21 tyX5_firstOfNote rfl ⟨_, _, rfl⟩ dX5_init_37 (H3.look hq3) rfl rfl rfl rfl ?_
  have H4 := H3.step hq3 (.inr (5, [.ref q0, .ref q1, .ref q2, .ref q3, .null, .null, .null, .null, .null, .int 0, .int 0]))
  refine j_aload_n 0 dX5_init_40 rfl rfl ?_
  refine J_sipush dX5_init_41 (by decide) ?_
  refine j_newZ (ck' := 4) (sk' := 447) 128 acZ dX5_init_44 (by decide) (by decide) (by decide) (by decide) (by decide) (fun q4 hq4 _ => ?_)
  refine j_putF (fs' := [.ref q0, .ref q1, .ref q2, .ref q3, .ref q4, .null, .null, .null, .null, .int 0, .int 0]) fX5_25 tyX5_tied rfl ⟨_, _, rfl⟩ dX5_init_46 (H4.look hq4) rfl rfl rfl rfl ?_
  have H5 := H4.step hq4 (.inr (5, [.ref q0, .ref q1, .ref q2, .ref q3, .ref q4, .null, .null, .null, .null, .int 0, .int 0]))
  refine j_aload_n 0 dX5_init_49 rfl rfl ?_
  refine J_sipush dX5_init_50 (by decide) ?_
  refine j_newI (ck' := 3) (sk' := 319) 128 acI dX5_init_53 (by decide) (by decide) (by decide) (by decide) (by decide) (fun q5 hq5 _ => ?_)
  refine j_putF (fs' := [.ref q0, .ref q1, .ref q2, .ref q3, .ref q4, .ref q5, .null, .null, .null, .int 0, .int 0]) fX5_28 tyX5_shownAlters rfl ⟨_, _, rfl⟩ dX5_init_55 (H5.look hq5) rfl rfl rfl rfl ?_
  have H6 := H5.step hq5 (.inr (5, [.ref q0, .ref q1, .ref q2, .ref q3, .ref q4, .ref q5, .null, .null, .null, .int 0, .int 0]))
  refine j_aload_n 0 dX5_init_58 rfl rfl ?_
  refine J_sipush dX5_init_59 (by decide) ?_
  refine j_newI (ck' := 2) (sk' := 191) 128 acI dX5_init_62 (by decide) (by decide) (by decide) (by decide) (by decide) (fun q6 hq6 _ => ?_)
  refine j_putF (fs' := [.ref q0, .ref q1, .ref q2, .ref q3, .ref q4, .ref q5, .ref q6, .null, .null, .int 0, .int 0]) fX5_31 tyX5_shownAltersAsWritten rfl ⟨_, _, rfl⟩ dX5_init_64 (H6.look hq6) rfl rfl rfl rfl ?_
  have H7 := H6.step hq6 (.inr (5, [.ref q0, .ref q1, .ref q2, .ref q3, .ref q4, .ref q5, .ref q6, .null, .null, .int 0, .int 0]))
  refine j_aload_n 0 dX5_init_67 rfl rfl ?_
  refine J_sipush dX5_init_68 (by decide) ?_
  refine j_newI (ck' := 1) (sk' := 63) 128 acI dX5_init_71 (by decide) (by decide) (by decide) (by decide) (by decide) (fun q7 hq7 _ => ?_)
  refine j_putF (fs' := [.ref q0, .ref q1, .ref q2, .ref q3, .ref q4, .ref q5, .ref q6, .ref q7, .null, .int 0, .int 0]) fX5_34 tyX5_beamNumbers rfl ⟨_, _, rfl⟩ dX5_init_73 (H7.look hq7) rfl rfl rfl rfl ?_
  have H8 := H7.step hq7 (.inr (5, [.ref q0, .ref q1, .ref q2, .ref q3, .ref q4, .ref q5, .ref q6, .ref q7, .null, .int 0, .int 0]))
  refine j_aload_n 0 dX5_init_76 rfl rfl ?_
  refine J_bipush dX5_init_77 (by decide) ?_
  refine j_newI (ck' := 0) (sk' := 0) 63 acI dX5_init_79 (by decide) (by decide) (by decide) (by decide) (by decide) (fun q8 hq8 _ => ?_)
  refine j_putF (fs' := [.ref q0, .ref q1, .ref q2, .ref q3, .ref q4, .ref q5, .ref q6, .ref q7, .ref q8, .int 0, .int 0]) fX5_37 tyX5_altersInForce rfl ⟨_, _, rfl⟩ dX5_init_81 (H8.look hq8) rfl rfl rfl rfl ?_
  have H9 := H8.step hq8 (.inr (5, [.ref q0, .ref q1, .ref q2, .ref q3, .ref q4, .ref q5, .ref q6, .ref q7, .ref q8, .int 0, .int 0]))
  obtain ⟨hP, hB⟩ := PA.at (o := oX5) (p := zOS) (A := AX5) H9 (fun k hk => Nat.le_of_ble_eq_true hk) (fun _ => rfl)
  refine j_vret rfl dX5_init_84 ?_
  exact ⟨rfl, _, hP, hB⟩
set_option maxRecDepth 100000 in
theorem c_X6_init {l : Launch} {G : jG} {h : jH} {a : Nat} (ha : h a = some (.inr (6, [.null, .null, .null, .null, .null, .null, .null, .int 0, .int 0, .int 0, .int 0, .int 0, .int 0]))) : jC l G yX6_init mX6_init [.ref a] h (jW oN (fun h' => ∃ q, AtX6 G h' a q (oU (oU zOS 9 1) 10 62) ∧ born AX6 h h' a q)) := by
  refine j_body (by decide +kernel) ⟨rfl, rfl⟩ rfl ?_
  have H0 : PA (caX6 G) 0 h h a (fun _ => 0) _ := PA.zero ha
  refine j_aload_n 0 dX6_init_0 rfl rfl ?_
  refine j_objInit kX6_3 dX6_init_1 rfl rfl ?_
  refine j_aload_n 0 dX6_init_4 rfl rfl ?_
  refine J_sipush dX6_init_5 (by decide) ?_
  refine j_newI (ck' := 6) (sk' := 3072) 512 acI dX6_init_8 (by decide) (by decide) (by decide) (by decide) (by decide) (fun q0 hq0 _ => ?_)
  refine j_putF (fs' := [.ref q0, .null, .null, .null, .null, .null, .null, .int 0, .int 0, .int 0, .int 0, .int 0, .int 0]) fX6_9 tyX6_places rfl ⟨_, _, rfl⟩ dX6_init_10 (H0.look hq0) rfl rfl rfl rfl ?_
  have H1 := H0.step hq0 (.inr (6, [.ref q0, .null, .null, .null, .null, .null, .null, .int 0, .int 0, .int 0, .int 0, .int 0, .int 0]))
  refine j_aload_n 0 dX6_init_13 rfl rfl ?_
  refine J_sipush dX6_init_14 (by decide) ?_
  refine j_newI (ck' := 5) (sk' := 2560) 512 acI dX6_init_17 (by decide) (by decide) (by decide) (by decide) (by decide) (fun q1 hq1 _ => ?_)
  refine j_putF (fs' := [.ref q0, .ref q1, .null, .null, .null, .null, .null, .int 0, .int 0, .int 0, .int 0, .int 0, .int 0]) fX6_15 tyX6_alters rfl ⟨_, _, rfl⟩ dX6_init_19 (H1.look hq1) rfl rfl rfl rfl ?_
  have H2 := H1.step hq1 (.inr (6, [.ref q0, .ref q1, .null, .null, .null, .null, .null, .int 0, .int 0, .int 0, .int 0, .int 0, .int 0]))
  refine j_aload_n 0 dX6_init_22 rfl rfl ?_
  refine J_sipush dX6_init_23 (by decide) ?_
  refine j_newI (ck' := 4) (sk' := 2048) 512 acI dX6_init_26 (by decide) (by decide) (by decide) (by decide) (by decide) (fun q2 hq2 _ => ?_)
  refine j_putF (fs' := [.ref q0, .ref q1, .ref q2, .null, .null, .null, .null, .int 0, .int 0, .int 0, .int 0, .int 0, .int 0]) fX6_18 tyX6_heights rfl ⟨_, _, rfl⟩ dX6_init_28 (H2.look hq2) rfl rfl rfl rfl ?_
  have H3 := H2.step hq2 (.inr (6, [.ref q0, .ref q1, .ref q2, .null, .null, .null, .null, .int 0, .int 0, .int 0, .int 0, .int 0, .int 0]))
  refine j_aload_n 0 dX6_init_31 rfl rfl ?_
  refine J_sipush dX6_init_32 (by decide) ?_
  refine j_newI (ck' := 3) (sk' := 1536) 512 acI dX6_init_35 (by decide) (by decide) (by decide) (by decide) (by decide) (fun q3 hq3 _ => ?_)
  refine j_putF (fs' := [.ref q0, .ref q1, .ref q2, .ref q3, .null, .null, .null, .int 0, .int 0, .int 0, .int 0, .int 0, .int 0]) fX6_21 tyX6_begins rfl ⟨_, _, rfl⟩ dX6_init_37 (H3.look hq3) rfl rfl rfl rfl ?_
  have H4 := H3.step hq3 (.inr (6, [.ref q0, .ref q1, .ref q2, .ref q3, .null, .null, .null, .int 0, .int 0, .int 0, .int 0, .int 0, .int 0]))
  refine j_aload_n 0 dX6_init_40 rfl rfl ?_
  refine J_sipush dX6_init_41 (by decide) ?_
  refine j_newI (ck' := 2) (sk' := 1024) 512 acI dX6_init_44 (by decide) (by decide) (by decide) (by decide) (by decide) (fun q4 hq4 _ => ?_)
  refine j_putF (fs' := [.ref q0, .ref q1, .ref q2, .ref q3, .ref q4, .null, .null, .int 0, .int 0, .int 0, .int 0, .int 0, .int 0]) fX6_24 tyX6_lengths rfl ⟨_, _, rfl⟩ dX6_init_46 (H4.look hq4) rfl rfl rfl rfl ?_
  have H5 := H4.step hq4 (.inr (6, [.ref q0, .ref q1, .ref q2, .ref q3, .ref q4, .null, .null, .int 0, .int 0, .int 0, .int 0, .int 0, .int 0]))
  refine j_aload_n 0 dX6_init_49 rfl rfl ?_
  refine J_sipush dX6_init_50 (by decide) ?_
  refine j_newI (ck' := 1) (sk' := 512) 512 acI dX6_init_53 (by decide) (by decide) (by decide) (by decide) (by decide) (fun q5 hq5 _ => ?_)
  refine j_putF (fs' := [.ref q0, .ref q1, .ref q2, .ref q3, .ref q4, .ref q5, .null, .int 0, .int 0, .int 0, .int 0, .int 0, .int 0]) fX6_27 tyX6_writtenPlaces rfl ⟨_, _, rfl⟩ dX6_init_55 (H5.look hq5) rfl rfl rfl rfl ?_
  have H6 := H5.step hq5 (.inr (6, [.ref q0, .ref q1, .ref q2, .ref q3, .ref q4, .ref q5, .null, .int 0, .int 0, .int 0, .int 0, .int 0, .int 0]))
  refine j_aload_n 0 dX6_init_58 rfl rfl ?_
  refine J_sipush dX6_init_59 (by decide) ?_
  refine j_newI (ck' := 0) (sk' := 0) 512 acI dX6_init_62 (by decide) (by decide) (by decide) (by decide) (by decide) (fun q6 hq6 _ => ?_)
  refine j_putF (fs' := [.ref q0, .ref q1, .ref q2, .ref q3, .ref q4, .ref q5, .ref q6, .int 0, .int 0, .int 0, .int 0, .int 0, .int 0]) fX6_30 tyX6_writtenAlters rfl ⟨_, _, rfl⟩ dX6_init_64 (H6.look hq6) rfl rfl rfl rfl ?_
  have H7 := H6.step hq6 (.inr (6, [.ref q0, .ref q1, .ref q2, .ref q3, .ref q4, .ref q5, .ref q6, .int 0, .int 0, .int 0, .int 0, .int 0, .int 0]))
  obtain ⟨hP, hB⟩ := PA.at (o := oX6) (p := zOS) (A := AX6) H7 (fun k hk => Nat.le_of_ble_eq_true hk) (fun _ => rfl)
  refine j_aload_n 0 dX6_init_67 rfl rfl ?_
  refine J_iconst dX6_init_68 ?_
  refine J_putA hP fX6_33 tyX6_lowest dX6_init_69 rfl rfl (fun h hP hF69 => ?_)
  have hB := hB.fr hF69
  refine j_aload_n 0 dX6_init_72 rfl rfl ?_
  refine J_bipush dX6_init_73 (by decide) ?_
  refine J_putA hP fX6_37 tyX6_highest dX6_init_75 rfl rfl (fun h hP hF75 => ?_)
  have hB := hB.fr hF75
  refine j_vret rfl dX6_init_78 ?_
  exact ⟨rfl, _, hP, hB⟩
