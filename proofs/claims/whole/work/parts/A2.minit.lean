/-! the constructors of the reference -/
/-- as 'PA', by the fields of B -/
def PB (ca : oC) (B : Nat → Bool) (h0 h : jH) (a : Nat) (q : Nat → Nat) (e : va_E) : Prop :=
  h a = some e ∧ (∀ k, B k = true → h (q k) = some (ca k (fun _ => 0)) ∧ q k ≠ a ∧ h0 (q k) = none) ∧ (∀ i j, B i = true → B j = true → q i = q j → i = j) ∧ (∀ b e, b ≠ a → h0 b = some e → h b = some e) ∧ (∃ e, h0 a = some e)
theorem PB.zero {ca : oC} {h : jH} {a : Nat} {e : va_E} (q : Nat → Nat) (ha : h a = some e) : PB ca (fun _ => false) h h a q e :=
  ⟨ha, fun k hk => absurd hk Bool.false_ne_true, fun i j hi => absurd hi Bool.false_ne_true, fun _ _ _ hb => hb, ⟨e, ha⟩⟩
theorem PB.look {ca : oC} {B : Nat → Bool} {h0 h : jH} {a : Nat} {q : Nat → Nat} {e x : va_E} {q' : Nat} (H : PB ca B h0 h a q e) (hq : h q' = none) : hset h q' x a = some e := by
  have hne : a ≠ q' := fun z => by rw [← z, H.1] at hq; cases hq
  rw [hset_n hne]
  exact H.1
theorem PB.step {ca : oC} {B : Nat → Bool} {h0 h : jH} {a : Nat} {q : Nat → Nat} {e : va_E} {q' : Nat} (H : PB ca B h0 h a q e) (n : Nat) (hq : h q' = none) (e' : va_E) : PB ca (fun k => B k || Nat.beq k n) h0 (hset (hset h q' (ca n (fun _ => 0))) a e') a (fun k => if k = n then q' else q k) e' := by
  obtain ⟨h1, h2, h3, h4, h5⟩ := H
  have hne : q' ≠ a := fun z => by rw [z, h1] at hq; cases hq
  have h0q : h0 q' = none := by
    cases he : h0 q' with
    | none => rfl
    | some x => rw [h4 q' x hne he] at hq; cases hq
  have hqk : ∀ k, B k = true → q k ≠ q' := fun k hk z => by rw [← z, (h2 k hk).1] at hq; cases hq
  have hB : ∀ k, (B k || Nat.beq k n) = true → k ≠ n → B k = true := fun k hk c => by
    rcases (Bool.or_eq_true _ _).mp hk with g | g
    · exact g
    · exact absurd (Nat.eq_of_beq_eq_true g) c
  refine ⟨hset_s _ _ _, fun k hk => ?_, fun i j hi hj hij => ?_, fun b x hb hx => ?_, h5⟩
  · by_cases c : k = n
    · subst c
      simp only [if_true]
      exact ⟨by rw [hset_n hne, hset_s], hne, h0q⟩
    · simp only [c, if_false]
      have hk2 := hB k hk c
      have g := h2 k hk2
      exact ⟨by rw [hset_n g.2.1, hset_n (hqk k hk2)]; exact g.1, g.2.1, g.2.2⟩
  · dsimp only at hij
    by_cases c : i = n
    · by_cases d : j = n
      · omega
      · rw [if_pos c, if_neg d] at hij
        exact absurd hij.symm (hqk j (hB j hj d))
    · by_cases d : j = n
      · rw [if_neg c, if_pos d] at hij
        exact absurd hij (hqk i (hB i hi c))
      · rw [if_neg c, if_neg d] at hij
        exact h3 i j (hB i hi c) (hB j hj d) hij
  · have g := h4 b x hb hx
    have : b ≠ q' := fun z => by rw [z] at g; rw [g] at hq; cases hq
    rw [hset_n hb, hset_n this]
    exact g
theorem PB.at {ca : oC} {B C : Nat → Bool} {h0 h : jH} {a : Nat} {q : Nat → Nat} {o : oO} {p : OS} (H : PB ca B h0 h a q (.inr (o q p))) (hA : ∀ k, C k = true → B k = true) (hp : ∀ k, p.2 k = fun _ => 0) : At o ca C h a q p ∧ born C h0 h a q :=
  ⟨⟨H.1, fun k hk => by rw [hp]; exact (H.2.1 k (hA k hk)).1, fun k hk => (H.2.1 k (hA k hk)).2.1, fun i j hi hj => H.2.2.1 i j (hA i hi) (hA j hj)⟩, fun k hk => (H.2.1 k (hA k hk)).2.2, H.2.2.2.1⟩
/-! zones of what is born one behind the other -/
def zs (h : jH) (t : Nat) (Z : Nat → Nat) : Nat → Nat := fun c => if (h c).isNone = true then t else Z c
theorem zs_new {h : jH} {t : Nat} {Z : Nat → Nat} {c : Nat} (e : h c = none) : zs h t Z c = t := by unfold zs; rw [e]; rfl
theorem zs_old {h : jH} {t : Nat} {Z : Nat → Nat} {c : Nat} (e : h c ≠ none) : zs h t Z c = Z c := by
  unfold zs
  cases g : h c with
  | none => exact absurd g e
  | some x => rfl
/-- what was there and isn't of E stands -/
def BStp (E : Nat → Prop) (h h' : jH) : Prop := ∀ c, ¬ E c → h c ≠ none → h' c = h c
def Zin (a : Nat) (h0 : jH) (E S : Nat → Prop) (h : jH) (Z : Nat → Nat) (t : Nat) : Prop := ∀ c, S c → ¬ E c ∧ h c ≠ none ∧ Z c = t ∧ (c = a ∨ h0 c = none)
def Old (a : Nat) (h0 h : jH) : Prop := ∀ c, c ≠ a → h0 c ≠ none → h c = h0 c
section ZST
variable {a : Nat} {h0 h h' h2 : jH} {E S : Nat → Prop} {Z : Nat → Nat} {t t' : Nat} {o : oO} {ca : oC} {A : Nat → Bool} {b w : Nat} {q : Nat → Nat} {p : OS} {x y : va_E}
theorem Old.new (O : Old a h0 h) {c : Nat} (e : h c = none) : c = a ∨ h0 c = none := by
  by_cases d : c = a
  · exact Or.inl d
  · by_cases g : h0 c = none
    · exact Or.inr g
    · have := O c d g
      rw [e] at this
      exact absurd this.symm g
theorem Old.step (O : Old a h0 h) (hs : BStp E h h') (hE : ∀ c, E c → c = a ∨ h0 c = none) : Old a h0 h' := fun c hc hn => by
  have g := O c hc hn
  have hEc : ¬ E c := fun z => by
    rcases hE c z with d | d
    · exact hc d
    · exact hn d
  rw [hs c hEc (by rw [g]; exact hn)]
  exact g
theorem Zin.new (O : Old a h0 h) (hE : ∀ c, E c → h c ≠ none) (hf : ∀ c, S c → h c = none ∧ h' c ≠ none) : Zin a h0 E S h' (zs h t Z) t := fun c hc => ⟨fun z => hE c z (hf c hc).1, (hf c hc).2, zs_new (hf c hc).1, O.new (hf c hc).1⟩
theorem Zin.old (H : Zin a h0 E S h Z t) (hs : BStp E h h') : Zin a h0 E S h' (zs h t' Z) t := fun c hc => by
  obtain ⟨g1, g2, g3, g4⟩ := H c hc
  exact ⟨g1, by rw [hs c g1 g2]; exact g2, (zs_old g2).trans g3, g4⟩
theorem At.stp (hP : At o ca A h b q p) (H : Zin a h0 E (ft A b q) h Z t) (hs : BStp E h h') : At o ca A h' b q p := hP.keepF (fun c hc => hs c (H c hc).1 (H c hc).2.1)
/-- an object is born and its address is written down -/
theorem born.on (hb : h b = none) (hB : born A (hset h b x) h2 b q) (c : Nat) (hc : h c ≠ none) : h2 c = h c := by
  have hne : c ≠ b := fun z => hc (by rw [z]; exact hb)
  cases e : h c with
  | none => exact absurd e hc
  | some v => exact hB.2 c v hne (by rw [hset_n hne]; exact e)
theorem NO (hE : ∀ c, E c → h c ≠ none) (hw : E w) (hb : h b = none) (hP : At o ca A h2 b q p) (hB : born A (hset h b x) h2 b q) : At o ca A (hset h2 w y) b q p ∧ (∀ c, ft A b q c → h c = none ∧ hset h2 w y c ≠ none) ∧ BStp E h (hset h2 w y) ∧ (∀ c, E c → c ≠ w → hset h2 w y c = h c) ∧ hset h2 w y w = some y := by
  have fr : ∀ c, ft A b q c → h c = none := fun c hc => by
    rcases hc with e | ⟨k, hk, e⟩
    · rw [e]; exact hb
    · have g := hB.1 k hk
      by_cases d : q k = b
      · rw [e, d]; exact hb
      · rw [hset_n d] at g
        rw [e]; exact g
  have nw : ∀ c, ft A b q c → c ≠ w := fun c hc z => hE w hw (by rw [← z]; exact fr c hc)
  have hP2 : At o ca A (hset h2 w y) b q p := hP.keepF (fun c hc => hset_n (nw c hc))
  exact ⟨hP2, fun c hc => ⟨fr c hc, hP2.someN hc⟩, fun c hc hn => by
    have d : c ≠ w := fun z => hc (by rw [z]; exact hw)
    rw [hset_n d]
    exact born.on hb hB c hn, fun c hc hn => by
    rw [hset_n hn]
    exact born.on hb hB c (hE c hc), hset_s _ _ _⟩
end ZST
/-- the score at the beginning -/
def P00 : Nat → OS := fun _ => oU (oU zOS 9 1) 10 62
def p00 : OS := metP zOS 0 4 4
theorem part00 : partOK (oU (oU zOS 9 1) 10 62) := by
  refine timOK.part ⟨by unfold pN; decide, by unfold pZ; decide, fun i hi => absurd hi (by show ¬ ((i : Int) < 0); omega), rfl, fun i a b => absurd b (by show ¬ (i < 0); omega), by decide⟩ (fun i a b => absurd b (by show ¬ (i < 0); omega))
theorem sco00 : scoOK P00 := fun _ _ => part00
theorem evs00 : evs P00 = 0 := rfl
theorem rng00 {b v : Int} (hb : isBar b) : rng (fun _ => 0) 0 24 v b = v := if_pos hb
theorem cal00 : calOK p00 := by
  have e0 : ∀ b : Int, isBar b → p00.2 0 b = 4 := fun b hb => rng00 hb
  have e1 : ∀ b : Int, isBar b → p00.2 1 b = 4 := fun b hb => rng00 hb
  have e2 : ∀ b : Int, isBar b → p00.2 2 b = 64 := fun b hb => rng00 hb
  have e3 : ∀ b : Int, p00.2 3 b = 0 := fun b => rfl
  have hL : lenZ (p00.2 2) := fun i a c => by rw [e2 i ⟨a, c⟩]; decide
  have hs := lenZ_sum hL 24 (by omega)
  refine ⟨⟨hL, ?_, fun b hb => by rw [e0 b hb, e1 b hb, e3 b]; decide⟩, rfl, fun b hb => by rw [e0 b hb, e1 b hb, e2 b hb]; rfl⟩
  show 0 ≤ sumN (p00.2 2) 24 ∧ sumN (p00.2 2) 24 ≤ 20000
  omega
theorem mp00 : mpOK 16 (oU (oU zOS 5 1) 6 62) (oU (oU zOS 9 1) 10 62) := ⟨⟨rfl, rfl, rfl, rfl, rfl⟩, fun i a b => absurd b (by show ¬ (i < 0); omega), by decide, Or.inl rfl⟩
theorem AX11_sub (k : Nat) (hk : AX11 k = true) : (((((((((((((((((false || Nat.beq k 2) || Nat.beq k 3) || Nat.beq k 4) || Nat.beq k 7) || Nat.beq k 8) || Nat.beq k 9) || Nat.beq k 10) || Nat.beq k 11) || Nat.beq k 12) || Nat.beq k 13) || Nat.beq k 14) || Nat.beq k 16) || Nat.beq k 17) || Nat.beq k 18) || Nat.beq k 27) || Nat.beq k 28) || Nat.beq k 29) = true := by
  by_cases c : k < 30
  · have h : ∀ j : Fin 30, AX11 j.val = true → (((((((((((((((((false || Nat.beq j.val 2) || Nat.beq j.val 3) || Nat.beq j.val 4) || Nat.beq j.val 7) || Nat.beq j.val 8) || Nat.beq j.val 9) || Nat.beq j.val 10) || Nat.beq j.val 11) || Nat.beq j.val 12) || Nat.beq j.val 13) || Nat.beq j.val 14) || Nat.beq j.val 16) || Nat.beq j.val 17) || Nat.beq j.val 18) || Nat.beq j.val 27) || Nat.beq j.val 28) || Nat.beq j.val 29) = true := by decide +kernel
    exact h ⟨k, c⟩ hk
  · have e : ∀ n : Nat, n ≤ 30 → Nat.blt k n = false := fun n hn => by
      cases g : Nat.blt k n with
      | false => rfl
      | true => have := Nat.le_of_ble_eq_true g; omega
    have hk2 : ((Nat.blt 1 k && Nat.blt k 5) || (Nat.blt 6 k && Nat.blt k 15) || (Nat.blt 15 k && Nat.blt k 19) || (Nat.blt 26 k && Nat.blt k 30)) = true := hk
    rw [e 5 (by omega), e 15 (by omega), e 19 (by omega), e 30 (by omega)] at hk2
    simp at hk2
set_option maxRecDepth 100000 in
theorem c_X10_init {l : Launch} {G : jG} {h : jH} {a : Nat} (ha : h a = some (.inr (8, [.int 0, .null, .null, .null, .null, .int 0, .int 0, .int 0, .int 0]))) : jC l G yX10_init mX10_init [.ref a] h (jW oN (fun h' => ∃ q, AtX10 G 16 h' a q (oU (oU zOS 5 1) 6 62) ∧ born AX10 h h' a q)) := by
  refine j_body (by decide +kernel) ⟨rfl, rfl⟩ rfl ?_
  have H0 : PB (caX10 G 16) (fun _ => false) h h a (fun _ => 0) _ := PB.zero _ ha
  refine j_aload_n 0 dX10_init_0 rfl rfl ?_
  refine j_objInit kX10_3 dX10_init_1 rfl rfl ?_
  refine j_aload_n 0 dX10_init_4 rfl rfl ?_
  refine J_bipush dX10_init_5 (by decide) ?_
  refine j_newI (ck' := 3) (sk' := 48) 16 acI dX10_init_7 (by decide) (by decide) (by decide) (by decide) (by decide) (fun q0 hq0 _ => ?_)
  refine j_put (fs' := [.int 0, .ref q0, .null, .null, .null, .int 0, .int 0, .int 0, .int 0]) fX10_9 tyX10_begin dX10_init_9 (H0.look hq0) rfl rfl rfl rfl ?_
  have H1 := H0.step 1 hq0 (.inr (8, [.int 0, .ref q0, .null, .null, .null, .int 0, .int 0, .int 0, .int 0]))
  refine j_aload_n 0 dX10_init_12 rfl rfl ?_
  refine J_bipush dX10_init_13 (by decide) ?_
  refine j_newI (ck' := 2) (sk' := 32) 16 acI dX10_init_15 (by decide) (by decide) (by decide) (by decide) (by decide) (fun q1 hq1 _ => ?_)
  refine j_put (fs' := [.int 0, .ref q0, .ref q1, .null, .null, .int 0, .int 0, .int 0, .int 0]) fX10_15 tyX10_length dX10_init_17 (H1.look hq1) rfl rfl rfl rfl ?_
  have H2 := H1.step 2 hq1 (.inr (8, [.int 0, .ref q0, .ref q1, .null, .null, .int 0, .int 0, .int 0, .int 0]))
  refine j_aload_n 0 dX10_init_20 rfl rfl ?_
  refine J_bipush dX10_init_21 (by decide) ?_
  refine j_newI (ck' := 1) (sk' := 16) 16 acI dX10_init_23 (by decide) (by decide) (by decide) (by decide) (by decide) (fun q2 hq2 _ => ?_)
  refine j_put (fs' := [.int 0, .ref q0, .ref q1, .ref q2, .null, .int 0, .int 0, .int 0, .int 0]) fX10_18 tyX10_place dX10_init_25 (H2.look hq2) rfl rfl rfl rfl ?_
  have H3 := H2.step 3 hq2 (.inr (8, [.int 0, .ref q0, .ref q1, .ref q2, .null, .int 0, .int 0, .int 0, .int 0]))
  refine j_aload_n 0 dX10_init_28 rfl rfl ?_
  refine J_bipush dX10_init_29 (by decide) ?_
  refine j_newI (ck' := 0) (sk' := 0) 16 acI dX10_init_31 (by decide) (by decide) (by decide) (by decide) (by decide) (fun q3 hq3 _ => ?_)
  refine j_put (fs' := [.int 0, .ref q0, .ref q1, .ref q2, .ref q3, .int 0, .int 0, .int 0, .int 0]) fX10_21 tyX10_alter dX10_init_33 (H3.look hq3) rfl rfl rfl rfl ?_
  have H4 := H3.step 4 hq3 (.inr (8, [.int 0, .ref q0, .ref q1, .ref q2, .ref q3, .int 0, .int 0, .int 0, .int 0]))
  obtain ⟨hP, hB⟩ := PB.at (o := oX10) (p := zOS) (C := AX10) H4 (fun k hk => by have g := AX10_rg hk; rcases (by omega : k = 1 ∨ k = 2 ∨ k = 3 ∨ k = 4) with e | e | e | e <;> subst e <;> rfl) (fun _ => rfl)
  refine j_aload_n 0 dX10_init_36 rfl rfl ?_
  refine J_iconst dX10_init_37 ?_
  refine J_putA hP fX10_24 tyX10_lowest dX10_init_38 rfl rfl (fun h hP hF38 => ?_)
  have hB := hB.fr hF38
  refine j_aload_n 0 dX10_init_41 rfl rfl ?_
  refine J_bipush dX10_init_42 (by decide) ?_
  refine J_putA hP fX10_28 tyX10_highest dX10_init_44 rfl rfl (fun h hP hF44 => ?_)
  have hB := hB.fr hF44
  refine j_vret rfl dX10_init_47 ?_
  exact ⟨rfl, _, hP, hB⟩
set_option maxRecDepth 100000 in
theorem c_X11_init {l : Launch} {G : jG} {h : jH} {a : Nat} (ha : h a = some (.inr (9, [.int 0, .null, .null, .null, .null, .int 0, .int 0, .null, .null, .null, .null, .null, .null, .null, .null, .int 0, .null, .null, .null, .int 0, .int 0, .int 0, .int 0, .int 0, .int 0, .int 0, .int 0, .null, .null, .null, .long 0]))) : jC l G yX11_init mX11_init [.ref a] h (jW oN (fun h' => ∃ (d : MD) (mp : Nat → OS) (p : OS) (Z : Nat → Nat), Mod G h' a d mp p ∧ Mz a d Z ∧ MI d P00 p00 mp p.2 ∧ p.1 0 = 0 ∧ (∀ c, FtM a d c → c = a ∨ h c = none) ∧ Old a h h')) := by
  have K2 : ∀ (h2 : jH) (q : Nat → Nat) (Z : Nat → Nat), AtX11 G h2 a q zOS → h2 (q 1) = some (aR G 4 4 (fun _ => none)) → Old a h h2 → h (q 1) = none → Z (q 1) = 51 → Zin a h (fun c => c = q 1) (ft AX11 a q) h2 Z 50 → J l G mX11_init (jQ G mX11_init (jW oN (fun h' => ∃ (d : MD) (mp : Nat → OS) (p : OS) (Z : Nat → Nat), Mod G h' a d mp p ∧ Mz a d Z ∧ MI d P00 p00 mp p.2 ∧ p.1 0 = 0 ∧ (∀ c, FtM a d c → c = a ∨ h c = none) ∧ Old a h h'))) 20 292 152 [(0, .ref a)] [] h2 := by
    intro h2 q Z hP0 hq0 hO0 hqn hZ0 hz0
    have hE0 : ∀ c, c = q 1 → h2 c ≠ none := fun c e => by rw [e, hq0]; exact fun z => by cases z
    have hEn : ∀ c, c = q 1 → c = a ∨ h c = none := fun c e => Or.inr (by rw [e]; exact hqn)
    refine J_iconst dX11_init_152 ?_
    refine j_istore_n 1 (L' := [(1, _), (0, _)]) dX11_init_153 rfl rfl rfl ?_
    refine j_iload_n 1 dX11_init_154 rfl rfl ?_
    refine J_iconst dX11_init_155 ?_
    refine J_icmp_ge 178 dX11_init_156 (by decide) (fun c => absurd c (by decide)) (fun _ => ?_) (by decide)
    refine j_aload_n 0 dX11_init_159 rfl rfl ?_
    refine j_get fX11_24 dX11_init_160 hP0.1 rfl ?_
    refine j_iload_n 1 dX11_init_163 rfl rfl ?_
    refine j_new (ck' := 19) (sk' := 283) nX11_22 dX11_init_164 (by decide) (by decide) (fun b0 hb0 _ => ?_)
    refine j_dup dX11_init_167 rfl ?_
    refine j_callIN (As := []) (ck' := 15) (sk' := 219) kX11_80 ciX10_init (c_X10_init (hset_s _ _ _)) (fun E h' hp => by cases hp.1) rfl rfl rfl rfl rfl rfl dX11_init_168 (by decide) (by decide) (fun v g0 hp => ?_)
    obtain ⟨ev, qq0, hA0, hB0⟩ := hp
    cases ev
    refine j_qast (t := 4) rfl rfl dX11_init_171 ((born.on hb0 hB0 _ (hE0 _ rfl)).trans hq0) hA0.1 (I_vpin (by decide) (by decide)) ?_
    obtain ⟨hX0, hN0, hS0, hU0, hq1⟩ := NO (E := fun c => c = q 1) hE0 rfl hb0 hA0 hB0 (y := aR G 4 4 (va_up (fun _ => none) 0 (some b0)))
    have hz := hz0.old (t' := 40) hS0
    have hP1 := hP0.stp hz0 hS0
    replace hz0 := hz
    have y0 : Zin a h (fun c => c = q 1) _ _ (zs h2 40 Z) 40 := Zin.new hO0 hE0 hN0
    have hO1 := hO0.step hS0 hEn
    have hZ1 : (zs h2 40 Z) (q 1) = 51 := (zs_old (hE0 _ rfl)).trans hZ0
    have hE1 : ∀ c, c = q 1 → hset g0 (q 1) (aR G 4 4 (va_up (fun _ => none) 0 (some b0))) c ≠ none := fun c e => by rw [e, hq1]; exact (fun z => by cases z)
    refine J_iinc (L' := [(1, _), (0, _)]) dX11_init_172 rfl rfl rfl ?_
    refine j_goto 154 dX11_init_175 (by decide) ?_
    refine j_iload_n 1 dX11_init_154 rfl rfl ?_
    refine J_iconst dX11_init_155 ?_
    refine J_icmp_ge 178 dX11_init_156 (by decide) (fun c => absurd c (by decide)) (fun _ => ?_) (by decide)
    refine j_aload_n 0 dX11_init_159 rfl rfl ?_
    refine j_get fX11_24 dX11_init_160 hP1.1 rfl ?_
    refine j_iload_n 1 dX11_init_163 rfl rfl ?_
    refine j_new (ck' := 14) (sk' := 210) nX11_22 dX11_init_164 (by decide) (by decide) (fun b1 hb1 _ => ?_)
    refine j_dup dX11_init_167 rfl ?_
    refine j_callIN (As := []) (ck' := 10) (sk' := 146) kX11_80 ciX10_init (c_X10_init (hset_s _ _ _)) (fun E h' hp => by cases hp.1) rfl rfl rfl rfl rfl rfl dX11_init_168 (by decide) (by decide) (fun v g1 hp => ?_)
    obtain ⟨ev, qq1, hA1, hB1⟩ := hp
    cases ev
    refine j_qast (t := 4) rfl rfl dX11_init_171 ((born.on hb1 hB1 _ (hE1 _ rfl)).trans hq1) hA1.1 (I_vpin (by decide) (by decide)) ?_
    obtain ⟨hX1, hN1, hS1, hU1, hq2⟩ := NO (E := fun c => c = q 1) hE1 rfl hb1 hA1 hB1 (y := aR G 4 4 (va_up (va_up (fun _ => none) 0 (some b0)) 1 (some b1)))
    have hz := hz0.old (t' := 41) hS1
    have hP2 := hP1.stp hz0 hS1
    replace hz0 := hz
    have hX0 := hX0.stp y0 hS1
    have y0 := y0.old (t' := 41) hS1
    have y1 : Zin a h (fun c => c = q 1) _ _ (zs (hset g0 (q 1) (aR G 4 4 (va_up (fun _ => none) 0 (some b0)))) 41 (zs h2 40 Z)) 41 := Zin.new hO1 hE1 hN1
    have hO2 := hO1.step hS1 hEn
    have hZ2 : (zs (hset g0 (q 1) (aR G 4 4 (va_up (fun _ => none) 0 (some b0)))) 41 (zs h2 40 Z)) (q 1) = 51 := (zs_old (hE1 _ rfl)).trans hZ1
    have hE2 : ∀ c, c = q 1 → hset g1 (q 1) (aR G 4 4 (va_up (va_up (fun _ => none) 0 (some b0)) 1 (some b1))) c ≠ none := fun c e => by rw [e, hq2]; exact (fun z => by cases z)
    refine J_iinc (L' := [(1, _), (0, _)]) dX11_init_172 rfl rfl rfl ?_
    refine j_goto 154 dX11_init_175 (by decide) ?_
    refine j_iload_n 1 dX11_init_154 rfl rfl ?_
    refine J_iconst dX11_init_155 ?_
    refine J_icmp_ge 178 dX11_init_156 (by decide) (fun c => absurd c (by decide)) (fun _ => ?_) (by decide)
    refine j_aload_n 0 dX11_init_159 rfl rfl ?_
    refine j_get fX11_24 dX11_init_160 hP2.1 rfl ?_
    refine j_iload_n 1 dX11_init_163 rfl rfl ?_
    refine j_new (ck' := 9) (sk' := 137) nX11_22 dX11_init_164 (by decide) (by decide) (fun b2 hb2 _ => ?_)
    refine j_dup dX11_init_167 rfl ?_
    refine j_callIN (As := []) (ck' := 5) (sk' := 73) kX11_80 ciX10_init (c_X10_init (hset_s _ _ _)) (fun E h' hp => by cases hp.1) rfl rfl rfl rfl rfl rfl dX11_init_168 (by decide) (by decide) (fun v g2 hp => ?_)
    obtain ⟨ev, qq2, hA2, hB2⟩ := hp
    cases ev
    refine j_qast (t := 4) rfl rfl dX11_init_171 ((born.on hb2 hB2 _ (hE2 _ rfl)).trans hq2) hA2.1 (I_vpin (by decide) (by decide)) ?_
    obtain ⟨hX2, hN2, hS2, hU2, hq3⟩ := NO (E := fun c => c = q 1) hE2 rfl hb2 hA2 hB2 (y := aR G 4 4 (va_up (va_up (va_up (fun _ => none) 0 (some b0)) 1 (some b1)) 2 (some b2)))
    have hz := hz0.old (t' := 42) hS2
    have hP3 := hP2.stp hz0 hS2
    replace hz0 := hz
    have hX0 := hX0.stp y0 hS2
    have y0 := y0.old (t' := 42) hS2
    have hX1 := hX1.stp y1 hS2
    have y1 := y1.old (t' := 42) hS2
    have y2 : Zin a h (fun c => c = q 1) _ _ (zs (hset g1 (q 1) (aR G 4 4 (va_up (va_up (fun _ => none) 0 (some b0)) 1 (some b1)))) 42 (zs (hset g0 (q 1) (aR G 4 4 (va_up (fun _ => none) 0 (some b0)))) 41 (zs h2 40 Z))) 42 := Zin.new hO2 hE2 hN2
    have hO3 := hO2.step hS2 hEn
    have hZ3 : (zs (hset g1 (q 1) (aR G 4 4 (va_up (va_up (fun _ => none) 0 (some b0)) 1 (some b1)))) 42 (zs (hset g0 (q 1) (aR G 4 4 (va_up (fun _ => none) 0 (some b0)))) 41 (zs h2 40 Z))) (q 1) = 51 := (zs_old (hE2 _ rfl)).trans hZ2
    have hE3 : ∀ c, c = q 1 → hset g2 (q 1) (aR G 4 4 (va_up (va_up (va_up (fun _ => none) 0 (some b0)) 1 (some b1)) 2 (some b2))) c ≠ none := fun c e => by rw [e, hq3]; exact (fun z => by cases z)
    refine J_iinc (L' := [(1, _), (0, _)]) dX11_init_172 rfl rfl rfl ?_
    refine j_goto 154 dX11_init_175 (by decide) ?_
    refine j_iload_n 1 dX11_init_154 rfl rfl ?_
    refine J_iconst dX11_init_155 ?_
    refine J_icmp_ge 178 dX11_init_156 (by decide) (fun c => absurd c (by decide)) (fun _ => ?_) (by decide)
    refine j_aload_n 0 dX11_init_159 rfl rfl ?_
    refine j_get fX11_24 dX11_init_160 hP3.1 rfl ?_
    refine j_iload_n 1 dX11_init_163 rfl rfl ?_
    refine j_new (ck' := 4) (sk' := 64) nX11_22 dX11_init_164 (by decide) (by decide) (fun b3 hb3 _ => ?_)
    refine j_dup dX11_init_167 rfl ?_
    refine j_callIN (As := []) (ck' := 0) (sk' := 0) kX11_80 ciX10_init (c_X10_init (hset_s _ _ _)) (fun E h' hp => by cases hp.1) rfl rfl rfl rfl rfl rfl dX11_init_168 (by decide) (by decide) (fun v g3 hp => ?_)
    obtain ⟨ev, qq3, hA3, hB3⟩ := hp
    cases ev
    refine j_qast (t := 4) rfl rfl dX11_init_171 ((born.on hb3 hB3 _ (hE3 _ rfl)).trans hq3) hA3.1 (I_vpin (by decide) (by decide)) ?_
    obtain ⟨hX3, hN3, hS3, hU3, hq4⟩ := NO (E := fun c => c = q 1) hE3 rfl hb3 hA3 hB3 (y := aR G 4 4 (va_up (va_up (va_up (va_up (fun _ => none) 0 (some b0)) 1 (some b1)) 2 (some b2)) 3 (some b3)))
    have hz := hz0.old (t' := 43) hS3
    have hP4 := hP3.stp hz0 hS3
    replace hz0 := hz
    have hX0 := hX0.stp y0 hS3
    have y0 := y0.old (t' := 43) hS3
    have hX1 := hX1.stp y1 hS3
    have y1 := y1.old (t' := 43) hS3
    have hX2 := hX2.stp y2 hS3
    have y2 := y2.old (t' := 43) hS3
    have y3 : Zin a h (fun c => c = q 1) _ _ (zs (hset g2 (q 1) (aR G 4 4 (va_up (va_up (va_up (fun _ => none) 0 (some b0)) 1 (some b1)) 2 (some b2)))) 43 (zs (hset g1 (q 1) (aR G 4 4 (va_up (va_up (fun _ => none) 0 (some b0)) 1 (some b1)))) 42 (zs (hset g0 (q 1) (aR G 4 4 (va_up (fun _ => none) 0 (some b0)))) 41 (zs h2 40 Z)))) 43 := Zin.new hO3 hE3 hN3
    have hO4 := hO3.step hS3 hEn
    have hZ4 : (zs (hset g2 (q 1) (aR G 4 4 (va_up (va_up (va_up (fun _ => none) 0 (some b0)) 1 (some b1)) 2 (some b2)))) 43 (zs (hset g1 (q 1) (aR G 4 4 (va_up (va_up (fun _ => none) 0 (some b0)) 1 (some b1)))) 42 (zs (hset g0 (q 1) (aR G 4 4 (va_up (fun _ => none) 0 (some b0)))) 41 (zs h2 40 Z)))) (q 1) = 51 := (zs_old (hE3 _ rfl)).trans hZ3
    have hE4 : ∀ c, c = q 1 → hset g3 (q 1) (aR G 4 4 (va_up (va_up (va_up (va_up (fun _ => none) 0 (some b0)) 1 (some b1)) 2 (some b2)) 3 (some b3))) c ≠ none := fun c e => by rw [e, hq4]; exact (fun z => by cases z)
    refine J_iinc (L' := [(1, _), (0, _)]) dX11_init_172 rfl rfl rfl ?_
    refine j_goto 154 dX11_init_175 (by decide) ?_
    refine j_iload_n 1 dX11_init_154 rfl rfl ?_
    refine J_iconst dX11_init_155 ?_
    refine J_icmp_ge 178 dX11_init_156 (by decide) (fun _ => ?_) (fun c => absurd c (by decide)) (by decide)
    have hM : Mod G (hset g3 (q 1) (aR G 4 4 (va_up (va_up (va_up (va_up (fun _ => none) 0 (some b0)) 1 (some b1)) 2 (some b2)) 3 (some b3)))) a (q, fun k => if k = 0 then b0 else if k = 1 then b1 else if k = 2 then b2 else b3, fun k => if k = 0 then qq0 else if k = 1 then qq1 else if k = 2 then qq2 else qq3, fun _ => 16) (fun _ => oU (oU zOS 5 1) 6 62) zOS := by
      refine ⟨hP4, ⟨_, hq4, fun k hk => ?_⟩, fun k hk => ?_⟩
      · rcases (by omega : k = 0 ∨ k = 1 ∨ k = 2 ∨ k = 3) with e | e | e | e <;> subst e <;> rfl
      · rcases (by omega : k = 0 ∨ k = 1 ∨ k = 2 ∨ k = 3) with e | e | e | e <;> subst e
        · exact hX0
        · exact hX1
        · exact hX2
        · exact hX3
    have hMz : Mz a (q, fun k => if k = 0 then b0 else if k = 1 then b1 else if k = 2 then b2 else b3, fun k => if k = 0 then qq0 else if k = 1 then qq1 else if k = 2 then qq2 else qq3, fun _ => 16) (zs (hset g2 (q 1) (aR G 4 4 (va_up (va_up (va_up (fun _ => none) 0 (some b0)) 1 (some b1)) 2 (some b2)))) 43 (zs (hset g1 (q 1) (aR G 4 4 (va_up (va_up (fun _ => none) 0 (some b0)) 1 (some b1)))) 42 (zs (hset g0 (q 1) (aR G 4 4 (va_up (fun _ => none) 0 (some b0)))) 41 (zs h2 40 Z)))) := by
      refine ⟨fun c hc => (hz0 c hc).2.2.1, hZ4, fun k hk c hc => ?_⟩
      rcases (by omega : k = 0 ∨ k = 1 ∨ k = 2 ∨ k = 3) with e | e | e | e <;> subst e
      · exact (y0 c hc).2.2.1
      · exact (y1 c hc).2.2.1
      · exact (y2 c hc).2.2.1
      · exact (y3 c hc).2.2.1
    have hFt : ∀ c, FtM a (q, fun k => if k = 0 then b0 else if k = 1 then b1 else if k = 2 then b2 else b3, fun k => if k = 0 then qq0 else if k = 1 then qq1 else if k = 2 then qq2 else qq3, fun _ => 16) c → c = a ∨ h c = none := fun c hc => by
      rcases hc with hc | hc | ⟨k, hk, hc⟩
      · exact (hz0 c hc).2.2.2
      · exact hEn c hc
      · rcases (by omega : k = 0 ∨ k = 1 ∨ k = 2 ∨ k = 3) with e | e | e | e <;> subst e
        · exact (y0 c hc).2.2.2
        · exact (y1 c hc).2.2.2
        · exact (y2 c hc).2.2.2
        · exact (y3 c hc).2.2.2
    refine j_aload_n 0 dX11_init_178 rfl rfl ?_
    refine j_get fX11_28 dX11_init_179 hP4.1 rfl ?_
    refine J_iconst dX11_init_182 ?_
    refine J_callSW0 kX11_81 csJ7_fill_53178 (c_J7_fill_53178 (N := 24) (hP4.2.1 2 rfl) (by decide)) rfl rfl rfl rfl rfl dX11_init_183 rfl rfl (fun g4 hp => ?_)
    have hP5 := hP4.arrw (k := 2) rfl (rng (zOS.2 2) 0 24 4) rfl
    have hF5 : Fr (ft AX11 a q) (hset g3 (q 1) (aR G 4 4 (va_up (va_up (va_up (va_up (fun _ => none) 0 (some b0)) 1 (some b1)) 2 (some b2)) 3 (some b3)))) g4 := by rw [hp]; exact Fr.set (Or.inr ⟨2, rfl, rfl⟩)
    replace hP5 : AtX11 G g4 a q (oA zOS 2 (rng (zOS.2 2) 0 24 4)) := by rw [hp]; exact hP5
    have hM5 := hM.w hMz hP5 hF5
    have hO5 := hO4.step (E := ft AX11 a q) (fun c hc _ => hF5 c hc) (fun c hc => (hz0 c hc).2.2.2)
    refine j_aload_n 0 dX11_init_186 rfl rfl ?_
    refine j_get fX11_31 dX11_init_187 hP5.1 rfl ?_
    refine J_iconst dX11_init_190 ?_
    refine J_callSW0 kX11_81 csJ7_fill_53178 (c_J7_fill_53178 (N := 24) (hP5.2.1 3 rfl) (by decide)) rfl rfl rfl rfl rfl dX11_init_191 rfl rfl (fun g5 hp2 => ?_)
    have hP6 := hP5.arrw (k := 3) rfl (rng (zOS.2 3) 0 24 4) rfl
    have hF6 : Fr (ft AX11 a q) g4 g5 := by rw [hp2]; exact Fr.set (Or.inr ⟨3, rfl, rfl⟩)
    replace hP6 : AtX11 G g5 a q (oA (oA zOS 2 (rng (zOS.2 2) 0 24 4)) 3 (rng (zOS.2 3) 0 24 4)) := by rw [hp2]; exact hP6
    have hM6 := hM5.w hMz hP6 hF6
    have hO6 := hO5.step (E := ft AX11 a q) (fun c hc _ => hF6 c hc) (fun c hc => (hz0 c hc).2.2.2)
    refine j_vret rfl dX11_init_194 ?_
    exact ⟨rfl, _, _, _, _, hM6, hMz, ⟨⟨sco00, by rw [evs00]; decide, cal00⟩, fun _ _ => mp00, fun b hb => ⟨rfl, rfl, rfl⟩⟩, rfl, hFt, hO6⟩
  refine j_body (by decide +kernel) ⟨rfl, rfl⟩ rfl ?_
  refine j_aload_n 0 dX11_init_0 rfl rfl ?_
  refine j_objInit kX11_16 dX11_init_1 rfl rfl ?_
  refine j_aload_n 0 dX11_init_4 rfl rfl ?_
  refine J_iconst dX11_init_5 ?_
  refine j_newq (t := 4) (ck' := 37) (sk' := 6113) 4 (wt 1250 (by decide +kernel) rfl) (by decide +kernel) rfl dX11_init_6 (by decide) (by decide) (by decide) (by decide) (by decide) (fun qp hqp _ => ?_)
  have hne : a ≠ qp := fun z => by rw [← z, ha] at hqp; cases hqp
  refine j_putF (fs' := [.int 0, .ref qp, .null, .null, .null, .int 0, .int 0, .null, .null, .null, .null, .null, .null, .null, .null, .int 0, .null, .null, .null, .int 0, .int 0, .int 0, .int 0, .int 0, .int 0, .int 0, .int 0, .null, .null, .null, .long 0]) fX11_24 tyX11_parts rfl ⟨_, _, rfl⟩ dX11_init_9 ((hset_n hne).trans ha) rfl rfl rfl rfl ?_
  have K1 : ∀ h1 : jH, h1 a = some (.inr (9, [.int 0, .ref qp, .null, .null, .null, .int 0, .int 0, .null, .null, .null, .null, .null, .null, .null, .null, .int 0, .null, .null, .null, .int 0, .int 0, .int 0, .int 0, .int 0, .int 0, .int 0, .int 0, .null, .null, .null, .long 0])) → h1 qp = some (aR G 4 4 (fun _ => none)) → Old a h h1 → J l G mX11_init (jQ G mX11_init (jW oN (fun h' => ∃ (d : MD) (mp : Nat → OS) (p : OS) (Z : Nat → Nat), Mod G h' a d mp p ∧ Mz a d Z ∧ MI d P00 p00 mp p.2 ∧ p.1 0 = 0 ∧ (∀ c, FtM a d c → c = a ∨ h c = none) ∧ Old a h h'))) 37 6113 12 [(0, .ref a)] [] h1 := by
    intro h1 ha1 hq hO
    have H0 : PB (caX11 G) (fun _ => false) h1 h1 a (fun _ => qp) _ := PB.zero _ ha1
    refine j_aload_n 0 dX11_init_12 rfl rfl ?_
    refine J_bipush dX11_init_13 (by decide) ?_
    refine j_newI (ck' := 36) (sk' := 6089) 24 acI dX11_init_15 (by decide) (by decide) (by decide) (by decide) (by decide) (fun q0 hq0 _ => ?_)
    refine j_putF (fs' := [.int 0, .ref qp, .ref q0, .null, .null, .int 0, .int 0, .null, .null, .null, .null, .null, .null, .null, .null, .int 0, .null, .null, .null, .int 0, .int 0, .int 0, .int 0, .int 0, .int 0, .int 0, .int 0, .null, .null, .null, .long 0]) fX11_28 tyX11_beats rfl ⟨_, _, rfl⟩ dX11_init_17 (H0.look hq0) rfl rfl rfl rfl ?_
    have H1 := H0.step 2 hq0 (.inr (9, [.int 0, .ref qp, .ref q0, .null, .null, .int 0, .int 0, .null, .null, .null, .null, .null, .null, .null, .null, .int 0, .null, .null, .null, .int 0, .int 0, .int 0, .int 0, .int 0, .int 0, .int 0, .int 0, .null, .null, .null, .long 0]))
    refine j_aload_n 0 dX11_init_20 rfl rfl ?_
    refine J_bipush dX11_init_21 (by decide) ?_
    refine j_newI (ck' := 35) (sk' := 6065) 24 acI dX11_init_23 (by decide) (by decide) (by decide) (by decide) (by decide) (fun q1 hq1 _ => ?_)
    refine j_putF (fs' := [.int 0, .ref qp, .ref q0, .ref q1, .null, .int 0, .int 0, .null, .null, .null, .null, .null, .null, .null, .null, .int 0, .null, .null, .null, .int 0, .int 0, .int 0, .int 0, .int 0, .int 0, .int 0, .int 0, .null, .null, .null, .long 0]) fX11_31 tyX11_unit rfl ⟨_, _, rfl⟩ dX11_init_25 (H1.look hq1) rfl rfl rfl rfl ?_
    have H2 := H1.step 3 hq1 (.inr (9, [.int 0, .ref qp, .ref q0, .ref q1, .null, .int 0, .int 0, .null, .null, .null, .null, .null, .null, .null, .null, .int 0, .null, .null, .null, .int 0, .int 0, .int 0, .int 0, .int 0, .int 0, .int 0, .int 0, .null, .null, .null, .long 0]))
    refine j_aload_n 0 dX11_init_28 rfl rfl ?_
    refine J_bipush dX11_init_29 (by decide) ?_
    refine j_newI (ck' := 34) (sk' := 6041) 24 acI dX11_init_31 (by decide) (by decide) (by decide) (by decide) (by decide) (fun q2 hq2 _ => ?_)
    refine j_putF (fs' := [.int 0, .ref qp, .ref q0, .ref q1, .ref q2, .int 0, .int 0, .null, .null, .null, .null, .null, .null, .null, .null, .int 0, .null, .null, .null, .int 0, .int 0, .int 0, .int 0, .int 0, .int 0, .int 0, .int 0, .null, .null, .null, .long 0]) fX11_34 tyX11_key rfl ⟨_, _, rfl⟩ dX11_init_33 (H2.look hq2) rfl rfl rfl rfl ?_
    have H3 := H2.step 4 hq2 (.inr (9, [.int 0, .ref qp, .ref q0, .ref q1, .ref q2, .int 0, .int 0, .null, .null, .null, .null, .null, .null, .null, .null, .int 0, .null, .null, .null, .int 0, .int 0, .int 0, .int 0, .int 0, .int 0, .int 0, .int 0, .null, .null, .null, .long 0]))
    refine j_aload_n 0 dX11_init_36 rfl rfl ?_
    refine J_sipush dX11_init_37 (by decide) ?_
    refine j_newI (ck' := 33) (sk' := 5241) 800 acI dX11_init_40 (by decide) (by decide) (by decide) (by decide) (by decide) (fun q3 hq3 _ => ?_)
    refine j_putF (fs' := [.int 0, .ref qp, .ref q0, .ref q1, .ref q2, .int 0, .int 0, .ref q3, .null, .null, .null, .null, .null, .null, .null, .int 0, .null, .null, .null, .int 0, .int 0, .int 0, .int 0, .int 0, .int 0, .int 0, .int 0, .null, .null, .null, .long 0]) fX11_37 tyX11_signEvent rfl ⟨_, _, rfl⟩ dX11_init_42 (H3.look hq3) rfl rfl rfl rfl ?_
    have H4 := H3.step 7 hq3 (.inr (9, [.int 0, .ref qp, .ref q0, .ref q1, .ref q2, .int 0, .int 0, .ref q3, .null, .null, .null, .null, .null, .null, .null, .int 0, .null, .null, .null, .int 0, .int 0, .int 0, .int 0, .int 0, .int 0, .int 0, .int 0, .null, .null, .null, .long 0]))
    refine j_aload_n 0 dX11_init_45 rfl rfl ?_
    refine J_sipush dX11_init_46 (by decide) ?_
    refine j_newI (ck' := 32) (sk' := 4441) 800 acI dX11_init_49 (by decide) (by decide) (by decide) (by decide) (by decide) (fun q4 hq4 _ => ?_)
    refine j_putF (fs' := [.int 0, .ref qp, .ref q0, .ref q1, .ref q2, .int 0, .int 0, .ref q3, .ref q4, .null, .null, .null, .null, .null, .null, .int 0, .null, .null, .null, .int 0, .int 0, .int 0, .int 0, .int 0, .int 0, .int 0, .int 0, .null, .null, .null, .long 0]) fX11_40 tyX11_signLength rfl ⟨_, _, rfl⟩ dX11_init_51 (H4.look hq4) rfl rfl rfl rfl ?_
    have H5 := H4.step 8 hq4 (.inr (9, [.int 0, .ref qp, .ref q0, .ref q1, .ref q2, .int 0, .int 0, .ref q3, .ref q4, .null, .null, .null, .null, .null, .null, .int 0, .null, .null, .null, .int 0, .int 0, .int 0, .int 0, .int 0, .int 0, .int 0, .int 0, .null, .null, .null, .long 0]))
    refine j_aload_n 0 dX11_init_54 rfl rfl ?_
    refine J_sipush dX11_init_55 (by decide) ?_
    refine j_newI (ck' := 31) (sk' := 3641) 800 acI dX11_init_58 (by decide) (by decide) (by decide) (by decide) (by decide) (fun q5 hq5 _ => ?_)
    refine j_putF (fs' := [.int 0, .ref qp, .ref q0, .ref q1, .ref q2, .int 0, .int 0, .ref q3, .ref q4, .ref q5, .null, .null, .null, .null, .null, .int 0, .null, .null, .null, .int 0, .int 0, .int 0, .int 0, .int 0, .int 0, .int 0, .int 0, .null, .null, .null, .long 0]) fX11_43 tyX11_signTick rfl ⟨_, _, rfl⟩ dX11_init_60 (H5.look hq5) rfl rfl rfl rfl ?_
    have H6 := H5.step 9 hq5 (.inr (9, [.int 0, .ref qp, .ref q0, .ref q1, .ref q2, .int 0, .int 0, .ref q3, .ref q4, .ref q5, .null, .null, .null, .null, .null, .int 0, .null, .null, .null, .int 0, .int 0, .int 0, .int 0, .int 0, .int 0, .int 0, .int 0, .null, .null, .null, .long 0]))
    refine j_aload_n 0 dX11_init_63 rfl rfl ?_
    refine J_sipush dX11_init_64 (by decide) ?_
    refine j_newZ (ck' := 30) (sk' := 2841) 800 acZ dX11_init_67 (by decide) (by decide) (by decide) (by decide) (by decide) (fun q6 hq6 _ => ?_)
    refine j_putF (fs' := [.int 0, .ref qp, .ref q0, .ref q1, .ref q2, .int 0, .int 0, .ref q3, .ref q4, .ref q5, .ref q6, .null, .null, .null, .null, .int 0, .null, .null, .null, .int 0, .int 0, .int 0, .int 0, .int 0, .int 0, .int 0, .int 0, .null, .null, .null, .long 0]) fX11_46 tyX11_signTied rfl ⟨_, _, rfl⟩ dX11_init_69 (H6.look hq6) rfl rfl rfl rfl ?_
    have H7 := H6.step 10 hq6 (.inr (9, [.int 0, .ref qp, .ref q0, .ref q1, .ref q2, .int 0, .int 0, .ref q3, .ref q4, .ref q5, .ref q6, .null, .null, .null, .null, .int 0, .null, .null, .null, .int 0, .int 0, .int 0, .int 0, .int 0, .int 0, .int 0, .int 0, .null, .null, .null, .long 0]))
    refine j_aload_n 0 dX11_init_72 rfl rfl ?_
    refine J_sipush dX11_init_73 (by decide) ?_
    refine j_newI (ck' := 29) (sk' := 2041) 800 acI dX11_init_76 (by decide) (by decide) (by decide) (by decide) (by decide) (fun q7 hq7 _ => ?_)
    refine j_putF (fs' := [.int 0, .ref qp, .ref q0, .ref q1, .ref q2, .int 0, .int 0, .ref q3, .ref q4, .ref q5, .ref q6, .ref q7, .null, .null, .null, .int 0, .null, .null, .null, .int 0, .int 0, .int 0, .int 0, .int 0, .int 0, .int 0, .int 0, .null, .null, .null, .long 0]) fX11_50 tyX11_signShown rfl ⟨_, _, rfl⟩ dX11_init_78 (H7.look hq7) rfl rfl rfl rfl ?_
    have H8 := H7.step 11 hq7 (.inr (9, [.int 0, .ref qp, .ref q0, .ref q1, .ref q2, .int 0, .int 0, .ref q3, .ref q4, .ref q5, .ref q6, .ref q7, .null, .null, .null, .int 0, .null, .null, .null, .int 0, .int 0, .int 0, .int 0, .int 0, .int 0, .int 0, .int 0, .null, .null, .null, .long 0]))
    refine j_aload_n 0 dX11_init_81 rfl rfl ?_
    refine J_sipush dX11_init_82 (by decide) ?_
    refine j_newI (ck' := 28) (sk' := 1241) 800 acI dX11_init_85 (by decide) (by decide) (by decide) (by decide) (by decide) (fun q8 hq8 _ => ?_)
    refine j_putF (fs' := [.int 0, .ref qp, .ref q0, .ref q1, .ref q2, .int 0, .int 0, .ref q3, .ref q4, .ref q5, .ref q6, .ref q7, .ref q8, .null, .null, .int 0, .null, .null, .null, .int 0, .int 0, .int 0, .int 0, .int 0, .int 0, .int 0, .int 0, .null, .null, .null, .long 0]) fX11_53 tyX11_signWritten rfl ⟨_, _, rfl⟩ dX11_init_87 (H8.look hq8) rfl rfl rfl rfl ?_
    have H9 := H8.step 12 hq8 (.inr (9, [.int 0, .ref qp, .ref q0, .ref q1, .ref q2, .int 0, .int 0, .ref q3, .ref q4, .ref q5, .ref q6, .ref q7, .ref q8, .null, .null, .int 0, .null, .null, .null, .int 0, .int 0, .int 0, .int 0, .int 0, .int 0, .int 0, .int 0, .null, .null, .null, .long 0]))
    refine j_aload_n 0 dX11_init_90 rfl rfl ?_
    refine J_sipush dX11_init_91 (by decide) ?_
    refine j_newI (ck' := 27) (sk' := 441) 800 acI dX11_init_94 (by decide) (by decide) (by decide) (by decide) (by decide) (fun q9 hq9 _ => ?_)
    refine j_putF (fs' := [.int 0, .ref qp, .ref q0, .ref q1, .ref q2, .int 0, .int 0, .ref q3, .ref q4, .ref q5, .ref q6, .ref q7, .ref q8, .ref q9, .null, .int 0, .null, .null, .null, .int 0, .int 0, .int 0, .int 0, .int 0, .int 0, .int 0, .int 0, .null, .null, .null, .long 0]) fX11_56 tyX11_signBeam rfl ⟨_, _, rfl⟩ dX11_init_96 (H9.look hq9) rfl rfl rfl rfl ?_
    have H10 := H9.step 13 hq9 (.inr (9, [.int 0, .ref qp, .ref q0, .ref q1, .ref q2, .int 0, .int 0, .ref q3, .ref q4, .ref q5, .ref q6, .ref q7, .ref q8, .ref q9, .null, .int 0, .null, .null, .null, .int 0, .int 0, .int 0, .int 0, .int 0, .int 0, .int 0, .int 0, .null, .null, .null, .long 0]))
    refine j_aload_n 0 dX11_init_99 rfl rfl ?_
    refine J_bipush dX11_init_100 (by decide) ?_
    refine j_newI (ck' := 26) (sk' := 378) 63 acI dX11_init_102 (by decide) (by decide) (by decide) (by decide) (by decide) (fun q10 hq10 _ => ?_)
    refine j_putF (fs' := [.int 0, .ref qp, .ref q0, .ref q1, .ref q2, .int 0, .int 0, .ref q3, .ref q4, .ref q5, .ref q6, .ref q7, .ref q8, .ref q9, .ref q10, .int 0, .null, .null, .null, .int 0, .int 0, .int 0, .int 0, .int 0, .int 0, .int 0, .int 0, .null, .null, .null, .long 0]) fX11_59 tyX11_force rfl ⟨_, _, rfl⟩ dX11_init_104 (H10.look hq10) rfl rfl rfl rfl ?_
    have H11 := H10.step 14 hq10 (.inr (9, [.int 0, .ref qp, .ref q0, .ref q1, .ref q2, .int 0, .int 0, .ref q3, .ref q4, .ref q5, .ref q6, .ref q7, .ref q8, .ref q9, .ref q10, .int 0, .null, .null, .null, .int 0, .int 0, .int 0, .int 0, .int 0, .int 0, .int 0, .int 0, .null, .null, .null, .long 0]))
    refine j_aload_n 0 dX11_init_107 rfl rfl ?_
    refine J_iconst dX11_init_108 ?_
    refine j_newI (ck' := 25) (sk' := 374) 4 acI dX11_init_109 (by decide) (by decide) (by decide) (by decide) (by decide) (fun q11 hq11 _ => ?_)
    refine j_putF (fs' := [.int 0, .ref qp, .ref q0, .ref q1, .ref q2, .int 0, .int 0, .ref q3, .ref q4, .ref q5, .ref q6, .ref q7, .ref q8, .ref q9, .ref q10, .int 0, .ref q11, .null, .null, .int 0, .int 0, .int 0, .int 0, .int 0, .int 0, .int 0, .int 0, .null, .null, .null, .long 0]) fX11_62 tyX11_here rfl ⟨_, _, rfl⟩ dX11_init_111 (H11.look hq11) rfl rfl rfl rfl ?_
    have H12 := H11.step 16 hq11 (.inr (9, [.int 0, .ref qp, .ref q0, .ref q1, .ref q2, .int 0, .int 0, .ref q3, .ref q4, .ref q5, .ref q6, .ref q7, .ref q8, .ref q9, .ref q10, .int 0, .ref q11, .null, .null, .int 0, .int 0, .int 0, .int 0, .int 0, .int 0, .int 0, .int 0, .null, .null, .null, .long 0]))
    refine j_aload_n 0 dX11_init_114 rfl rfl ?_
    refine J_iconst dX11_init_115 ?_
    refine j_newI (ck' := 24) (sk' := 370) 4 acI dX11_init_116 (by decide) (by decide) (by decide) (by decide) (by decide) (fun q12 hq12 _ => ?_)
    refine j_putF (fs' := [.int 0, .ref qp, .ref q0, .ref q1, .ref q2, .int 0, .int 0, .ref q3, .ref q4, .ref q5, .ref q6, .ref q7, .ref q8, .ref q9, .ref q10, .int 0, .ref q11, .ref q12, .null, .int 0, .int 0, .int 0, .int 0, .int 0, .int 0, .int 0, .int 0, .null, .null, .null, .long 0]) fX11_65 tyX11_next rfl ⟨_, _, rfl⟩ dX11_init_118 (H12.look hq12) rfl rfl rfl rfl ?_
    have H13 := H12.step 17 hq12 (.inr (9, [.int 0, .ref qp, .ref q0, .ref q1, .ref q2, .int 0, .int 0, .ref q3, .ref q4, .ref q5, .ref q6, .ref q7, .ref q8, .ref q9, .ref q10, .int 0, .ref q11, .ref q12, .null, .int 0, .int 0, .int 0, .int 0, .int 0, .int 0, .int 0, .int 0, .null, .null, .null, .long 0]))
    refine j_aload_n 0 dX11_init_121 rfl rfl ?_
    refine J_iconst dX11_init_122 ?_
    refine j_newI (ck' := 23) (sk' := 366) 4 acI dX11_init_123 (by decide) (by decide) (by decide) (by decide) (by decide) (fun q13 hq13 _ => ?_)
    refine j_putF (fs' := [.int 0, .ref qp, .ref q0, .ref q1, .ref q2, .int 0, .int 0, .ref q3, .ref q4, .ref q5, .ref q6, .ref q7, .ref q8, .ref q9, .ref q10, .int 0, .ref q11, .ref q12, .ref q13, .int 0, .int 0, .int 0, .int 0, .int 0, .int 0, .int 0, .int 0, .null, .null, .null, .long 0]) fX11_68 tyX11_ahead rfl ⟨_, _, rfl⟩ dX11_init_125 (H13.look hq13) rfl rfl rfl rfl ?_
    have H14 := H13.step 18 hq13 (.inr (9, [.int 0, .ref qp, .ref q0, .ref q1, .ref q2, .int 0, .int 0, .ref q3, .ref q4, .ref q5, .ref q6, .ref q7, .ref q8, .ref q9, .ref q10, .int 0, .ref q11, .ref q12, .ref q13, .int 0, .int 0, .int 0, .int 0, .int 0, .int 0, .int 0, .int 0, .null, .null, .null, .long 0]))
    refine j_aload_n 0 dX11_init_128 rfl rfl ?_
    refine J_bipush dX11_init_129 (by decide) ?_
    refine j_newI (ck' := 22) (sk' := 342) 24 acI dX11_init_131 (by decide) (by decide) (by decide) (by decide) (by decide) (fun q14 hq14 _ => ?_)
    refine j_putF (fs' := [.int 0, .ref qp, .ref q0, .ref q1, .ref q2, .int 0, .int 0, .ref q3, .ref q4, .ref q5, .ref q6, .ref q7, .ref q8, .ref q9, .ref q10, .int 0, .ref q11, .ref q12, .ref q13, .int 0, .int 0, .int 0, .int 0, .int 0, .int 0, .int 0, .int 0, .ref q14, .null, .null, .long 0]) fX11_71 tyX11_widths rfl ⟨_, _, rfl⟩ dX11_init_133 (H14.look hq14) rfl rfl rfl rfl ?_
    have H15 := H14.step 27 hq14 (.inr (9, [.int 0, .ref qp, .ref q0, .ref q1, .ref q2, .int 0, .int 0, .ref q3, .ref q4, .ref q5, .ref q6, .ref q7, .ref q8, .ref q9, .ref q10, .int 0, .ref q11, .ref q12, .ref q13, .int 0, .int 0, .int 0, .int 0, .int 0, .int 0, .int 0, .int 0, .ref q14, .null, .null, .long 0]))
    refine j_aload_n 0 dX11_init_136 rfl rfl ?_
    refine J_bipush dX11_init_137 (by decide) ?_
    refine j_newI (ck' := 21) (sk' := 317) 25 acI dX11_init_139 (by decide) (by decide) (by decide) (by decide) (by decide) (fun q15 hq15 _ => ?_)
    refine j_putF (fs' := [.int 0, .ref qp, .ref q0, .ref q1, .ref q2, .int 0, .int 0, .ref q3, .ref q4, .ref q5, .ref q6, .ref q7, .ref q8, .ref q9, .ref q10, .int 0, .ref q11, .ref q12, .ref q13, .int 0, .int 0, .int 0, .int 0, .int 0, .int 0, .int 0, .int 0, .ref q14, .ref q15, .null, .long 0]) fX11_74 tyX11_best rfl ⟨_, _, rfl⟩ dX11_init_141 (H15.look hq15) rfl rfl rfl rfl ?_
    have H16 := H15.step 28 hq15 (.inr (9, [.int 0, .ref qp, .ref q0, .ref q1, .ref q2, .int 0, .int 0, .ref q3, .ref q4, .ref q5, .ref q6, .ref q7, .ref q8, .ref q9, .ref q10, .int 0, .ref q11, .ref q12, .ref q13, .int 0, .int 0, .int 0, .int 0, .int 0, .int 0, .int 0, .int 0, .ref q14, .ref q15, .null, .long 0]))
    refine j_aload_n 0 dX11_init_144 rfl rfl ?_
    refine J_bipush dX11_init_145 (by decide) ?_
    refine j_newI (ck' := 20) (sk' := 292) 25 acI dX11_init_147 (by decide) (by decide) (by decide) (by decide) (by decide) (fun q16 hq16 _ => ?_)
    refine j_putF (fs' := [.int 0, .ref qp, .ref q0, .ref q1, .ref q2, .int 0, .int 0, .ref q3, .ref q4, .ref q5, .ref q6, .ref q7, .ref q8, .ref q9, .ref q10, .int 0, .ref q11, .ref q12, .ref q13, .int 0, .int 0, .int 0, .int 0, .int 0, .int 0, .int 0, .int 0, .ref q14, .ref q15, .ref q16, .long 0]) fX11_77 tyX11_end rfl ⟨_, _, rfl⟩ dX11_init_149 (H16.look hq16) rfl rfl rfl rfl ?_
    have H17 := H16.step 29 hq16 (.inr (9, [.int 0, .ref qp, .ref q0, .ref q1, .ref q2, .int 0, .int 0, .ref q3, .ref q4, .ref q5, .ref q6, .ref q7, .ref q8, .ref q9, .ref q10, .int 0, .ref q11, .ref q12, .ref q13, .int 0, .int 0, .int 0, .int 0, .int 0, .int 0, .int 0, .int 0, .ref q14, .ref q15, .ref q16, .long 0]))
    obtain ⟨hP, hB⟩ := PB.at (o := oX11) (p := zOS) (C := AX11) H17 (fun k hk => AX11_sub k hk) (fun _ => rfl)
    have hnq : h1 qp ≠ none := fun z => by rw [hq] at z; cases z
    have hna : h1 a ≠ none := fun z => by rw [ha1] at z; cases z
    refine K2 _ _ (zs h1 50 (zs h 51 (fun _ => 50))) hP (hB.2 qp _ (Ne.symm hne) hq) (fun c hc hn => ?_) hqp ((zs_old hnq).trans (zs_new hqp)) (fun c hc => ⟨fun z => ?_, hP.someN hc, ?_, ?_⟩)
    · have g := hO c hc hn
      cases e : h c with
      | none => exact absurd e hn
      | some x => exact hB.2 c x hc (g.trans e)
    · rcases hc with e | ⟨j, hj, e⟩
      · exact hne (e.symm.trans z)
      · have := hB.1 j hj
        rw [← e, z] at this
        exact hnq this
    · rcases hc with e | ⟨j, hj, e⟩
      · rw [e]; exact (zs_old hna).trans (zs_old (by rw [ha]; exact fun z => by cases z))
      · rw [e]; exact zs_new (hB.1 j hj)
    · rcases hc with e | ⟨j, hj, e⟩
      · exact Or.inl e
      · exact hO.new (by rw [e]; exact hB.1 j hj)
  exact K1 _ (hset_s _ _ _) (by rw [hset_n (Ne.symm hne), hset_s]) (fun c hc hn => by rw [hset_n hc, hset_n (fun z => hn (by rw [z]; exact hqp))])
