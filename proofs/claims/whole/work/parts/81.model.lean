/-! ChoraleDeskModel -/
abbrev oX11 : oO := fun q p => (9, [vI (p.1 0), .ref (q 1), .ref (q 2), .ref (q 3), .ref (q 4), vI (p.1 5), vI (p.1 6), .ref (q 7), .ref (q 8), .ref (q 9), .ref (q 10), .ref (q 11), .ref (q 12), .ref (q 13), .ref (q 14), vI (p.1 15), .ref (q 16), .ref (q 17), .ref (q 18), vI (p.1 19), vI (p.1 20), vI (p.1 21), vI (p.1 22), vI (p.1 23), vI (p.1 24), vI (p.1 25), vI (p.1 26), .ref (q 27), .ref (q 28), .ref (q 29), vL (p.1 30)])
def caX11 (G : jG) : oC := fun k F => match k with
  | 2 => ai G 24 F
  | 3 => ai G 24 F
  | 4 => ai G 24 F
  | 10 => az G 800 F
  | 14 => ai G 63 F
  | 16 => ai G 4 F
  | 17 => ai G 4 F
  | 18 => ai G 4 F
  | 27 => ai G 24 F
  | 28 => ai G 25 F
  | 29 => ai G 25 F
  | _ => ai G 800 F
abbrev AX11 : Nat → Bool := fun k => (Nat.blt 1 k && Nat.blt k 5) || (Nat.blt 6 k && Nat.blt k 15) || (Nat.blt 15 k && Nat.blt k 19) || (Nat.blt 26 k && Nat.blt k 30)
abbrev AtX11 (G : jG) (h : jH) (a : Nat) (q : Nat → Nat) (p : OS) : Prop := At oX11 (caX11 G) AX11 h a q p
/-- addresses: the arrays by field, the parts, their arrays, how long those are -/
abbrev MD : Type := (Nat → Nat) × (Nat → Nat) × (Nat → Nat → Nat) × (Nat → Nat)
abbrev MD.q (d : MD) : Nat → Nat := d.1
abbrev MD.pad (d : MD) : Nat → Nat := d.2.1
abbrev MD.pq (d : MD) : Nat → Nat → Nat := d.2.2.1
abbrev MD.n (d : MD) : Nat → Nat := d.2.2.2
def Mod (G : jG) (h : jH) (a : Nat) (d : MD) (mp : Nat → OS) (p : OS) : Prop := AtX11 G h a d.q p ∧ (∃ F : Nat → Option Nat, h (d.q 1) = some (aR G 4 4 F) ∧ ∀ k : Nat, k < 4 → F k = some (d.pad k)) ∧ ∀ k : Nat, k < 4 → AtX10 G (d.n k) h (d.pad k) (d.pq k) (mp k)
def Mz (a : Nat) (d : MD) (Z : Nat → Nat) : Prop := (∀ b, ft AX11 a d.q b → Z b = 50) ∧ Z (d.q 1) = 51 ∧ ∀ k : Nat, k < 4 → ∀ b, ft AX10 (d.pad k) (d.pq k) b → Z b = 40 + k
def FtM (a : Nat) (d : MD) : Nat → Prop := fun b => ft AX11 a d.q b ∨ b = d.q 1 ∨ ∃ k : Nat, k < 4 ∧ ft AX10 (d.pad k) (d.pq k) b
/-- the reference holds the score P over the calendar p0 -/
def MI (d : MD) (P : Nat → OS) (p0 : OS) (mp : Nat → OS) (F : Nat → Int → Int) : Prop := (scoOK P ∧ evs P ≤ 512 ∧ calOK p0) ∧ (∀ k : Nat, k < 4 → mpOK (d.n k) (mp k) (P k)) ∧ ∀ b : Int, isBar b → F 2 b = p0.2 0 b ∧ F 3 b = p0.2 1 b ∧ F 4 b = p0.2 3 b
section MW
variable {G : jG} {h h' : jH} {a : Nat} {d : MD} {mp P : Nat → OS} {p p' p0 : OS} {Z : Nat → Nat} {F F' : Nat → Int → Int}
theorem MI.arr (hI : MI d P p0 mp F) (e2 : F' 2 = F 2) (e3 : F' 3 = F 3) (e4 : F' 4 = F 4) : MI d P p0 mp F' := ⟨hI.1, hI.2.1, fun b hb => by rw [e2, e3, e4]; exact hI.2.2 b hb⟩
theorem Mod.w (hM : Mod G h a d mp p) (z : Mz a d Z) (hP : AtX11 G h' a d.q p') (hF : Fr (ft AX11 a d.q) h h') : Mod G h' a d mp p' := by
  obtain ⟨h1, ⟨F, h2, h3⟩, h4⟩ := hM
  refine ⟨hP, ⟨F, (hF _ (fun c => ?_)).trans h2, h3⟩, fun k hk => (h4 k hk).keep hF (fun b hb c => ?_)⟩
  · have := z.1 _ c
    have := z.2.1
    omega
  · have := z.1 _ c
    have := z.2.2 k hk b hb
    omega
theorem Mod.wk (hM : Mod G h a d mp p) (z : Mz a d Z) {k : Nat} (hk : k < 4) {m : OS} (hP : AtX10 G (d.n k) h' (d.pad k) (d.pq k) m) (hF : Fr (ft AX10 (d.pad k) (d.pq k)) h h') : Mod G h' a d (upN mp k m) p := by
  obtain ⟨h1, ⟨F, h2, h3⟩, h4⟩ := hM
  refine ⟨h1.keep hF (fun b hb c => ?_), ⟨F, (hF _ (fun c => ?_)).trans h2, h3⟩, fun j hj => ?_⟩
  · have := z.1 _ hb
    have := z.2.2 k hk b c
    omega
  · have := z.2.2 k hk _ c
    have := z.2.1
    omega
  · by_cases e : j = k
    · subst e
      rw [upN_s]
      exact hP
    · rw [upN_n e]
      refine (h4 j hj).keep hF (fun b hb c => ?_)
      have := z.2.2 k hk b c
      have := z.2.2 j hj b hb
      omega
theorem MI.len (hI : MI d P p0 mp F) {b : Int} (hb : isBar b) : F 2 b = p0.2 0 b ∧ F 3 b = p0.2 1 b ∧ p0.2 2 b = (p0.2 0 b * 64).tdiv (p0.2 1 b) ∧ (1 ≤ p0.2 0 b ∧ p0.2 0 b ≤ 12) ∧ (p0.2 1 b = 2 ∨ p0.2 1 b = 4 ∨ p0.2 1 b = 8) ∧ (8 ≤ p0.2 2 b ∧ p0.2 2 b ≤ 384) ∧ F 4 b = p0.2 3 b ∧ (-7 ≤ p0.2 3 b ∧ p0.2 3 b ≤ 7) :=
  ⟨(hI.2.2 b hb).1, (hI.2.2 b hb).2.1, hI.1.2.2.2.2 b hb, (hI.1.2.2.1.2.2 b hb).1.1, (hI.1.2.2.1.2.2 b hb).1.2, hI.1.2.2.1.1 b hb.1 hb.2, (hI.2.2 b hb).2.2, (hI.1.2.2.1.2.2 b hb).2⟩
theorem MI.sum (hI : MI d P p0 mp F) {n : Nat} (hn : n ≤ 24) : 0 ≤ sumN (p0.2 2) n ∧ sumN (p0.2 2) n ≤ 9216 := lenZ_sum hI.1.2.2.1.1 n hn
end MW
theorem alt_hit {k s j : Int} (hk : -7 ≤ k ∧ k ≤ 7) (hs : 0 ≤ s ∧ s < 7) (hj : 0 ≤ j ∧ j < k.natAbs) (e : lk [3, 0, 4, 1, 5, 2, 6] (if 0 < k then j else 6 - j) = s) : (if 0 < k then (1 : Int) else -1) = altK k s := by
  have h : ∀ (a : Fin 15) (s : Fin 7) (j : Fin 7), (j.val : Int) < (((a.val : Int) - 7).natAbs : Int) → lk [3, 0, 4, 1, 5, 2, 6] (if 0 < (a.val : Int) - 7 then (j.val : Int) else 6 - (j.val : Int)) = (s.val : Int) → (if 0 < (a.val : Int) - 7 then (1 : Int) else -1) = altK ((a.val : Int) - 7) (s.val : Int) := by decide +kernel
  have g := h ⟨(k + 7).toNat, by omega⟩ ⟨s.toNat, by omega⟩ ⟨j.toNat, by omega⟩
  simp only [] at g
  rw [show (((k + 7).toNat : Nat) : Int) - 7 = k by omega, show ((s.toNat : Nat) : Int) = s by omega, show ((j.toNat : Nat) : Int) = j by omega] at g
  exact g (by omega) e
theorem alt_none {k s : Int} (hk : -7 ≤ k ∧ k ≤ 7) (hs : 0 ≤ s ∧ s < 7) (hj : ∀ j : Int, 0 ≤ j → j < k.natAbs → lk [3, 0, 4, 1, 5, 2, 6] (if 0 < k then j else 6 - j) ≠ s) : (0 : Int) = altK k s := by
  have h : ∀ (a : Fin 15) (s : Fin 7), (∀ j : Fin 7, (j.val : Int) < (((a.val : Int) - 7).natAbs : Int) → lk [3, 0, 4, 1, 5, 2, 6] (if 0 < (a.val : Int) - 7 then (j.val : Int) else 6 - (j.val : Int)) ≠ (s.val : Int)) → (0 : Int) = altK ((a.val : Int) - 7) (s.val : Int) := by decide +kernel
  have g := h ⟨(k + 7).toNat, by omega⟩ ⟨s.toNat, by omega⟩
  simp only [] at g
  rw [show (((k + 7).toNat : Nat) : Int) - 7 = k by omega, show ((s.toNat : Nat) : Int) = s by omega] at g
  exact g (fun j hh => hj j.val (by omega) hh)
theorem bI_nar (c : Prop) [Decidable c] : narrow .boolean (vI (bI c)) = vI (bI c) := by
  show narrow .boolean (vI (if c then 1 else 0)) = vI (if c then 1 else 0)
  split <;> rfl
theorem lkS (s : Int) (h : 0 ≤ s ∧ s < 7) : 0 ≤ lk [3, 0, 4, 1, 5, 2, 6] s ∧ lk [3, 0, 4, 1, 5, 2, 6] s ≤ 6 := by
  rcases (by omega : s = 0 ∨ s = 1 ∨ s = 2 ∨ s = 3 ∨ s = 4 ∨ s = 5 ∨ s = 6) with e | e | e | e | e | e | e <;> subst e <;> decide
set_option maxRecDepth 100000 in
theorem c_X11_isPart {l : Launch} {G : jG} {h : jH} {v : Int} (hv : rg v) : jC l G yX11_isPart mX11_isPart [vI v] h (jE (oI (bI (0 ≤ v ∧ v < 4))) h) := by
  refine j_body (by decide +kernel) ⟨rfl, rfl⟩ rfl ?_
  refine j_iload_n 0 dX11_isPart_0 rfl rfl ?_
  refine J_iconst dX11_isPart_1 ?_
  refine J_iconst dX11_isPart_2 ?_
  refine J_callS1 kX11_91 csX11_is (c_X11_is hv (by decide) (by decide)) rfl rfl rfl rfl rfl dX11_isPart_3 rfl rfl ?_
  refine j_zret rfl (bI_nar _) dX11_isPart_6 ⟨oIe ?_, rfl⟩
  (simp only [bI]; (repeat' split) <;> omega)
set_option maxRecDepth 100000 in
theorem c_X11_isBar {l : Launch} {G : jG} {h : jH} {v : Int} (hv : rg v) : jC l G yX11_isBar mX11_isBar [vI v] h (jE (oI (bI (isBar v))) h) := by
  refine j_body (by decide +kernel) ⟨rfl, rfl⟩ rfl ?_
  refine j_iload_n 0 dX11_isBar_0 rfl rfl ?_
  refine J_iconst dX11_isBar_1 ?_
  refine J_bipush dX11_isBar_2 (by decide) ?_
  refine J_callS1 kX11_91 csX11_is (c_X11_is hv (by decide) (by decide)) rfl rfl rfl rfl rfl dX11_isBar_4 rfl rfl ?_
  refine j_zret rfl (bI_nar _) dX11_isBar_7 ⟨oIe ?_, rfl⟩
  (simp only [bI]; (repeat' split) <;> omega)
set_option maxRecDepth 100000 in
theorem c_X11_isPitch {l : Launch} {G : jG} {h : jH} {v w : Int} (hv : rg v) (hw : rg w) : jC l G yX11_isPitch mX11_isPitch [vI v, vI w] h (jE (oI (bI (isPit v w))) h) := by
  refine j_body (by decide +kernel) ⟨rfl, rfl⟩ rfl ?_
  refine j_iload_n 0 dX11_isPitch_0 rfl rfl ?_
  refine J_iconst dX11_isPitch_1 ?_
  refine J_bipush dX11_isPitch_2 (by decide) ?_
  refine J_callSZ kX11_91 csX11_is (c_X11_is hv (by decide) (by decide)) rfl rfl rfl rfl rfl dX11_isPitch_4 rfl rfl (fun z4 => ?_) (fun z4 => ?_)
  · refine J_if_eq 24 dX11_isPitch_7 (by decide) (fun c7 => absurd c7 (by decide)) (fun c7 => ?_) 
    refine j_iload_n 1 dX11_isPitch_10 rfl rfl ?_
    refine J_bipush dX11_isPitch_11 (by decide) ?_
    refine J_iconst dX11_isPitch_13 ?_
    refine J_callSZ kX11_91 csX11_is (c_X11_is hw (by decide) (by decide)) rfl rfl rfl rfl rfl dX11_isPitch_14 rfl rfl (fun z14 => ?_) (fun z14 => ?_)
    · refine J_if_eq 24 dX11_isPitch_17 (by decide) (fun c17 => absurd c17 (by decide)) (fun c17 => ?_) 
      refine J_iconst dX11_isPitch_20 ?_
      refine j_goto 25 dX11_isPitch_21 (by decide) ?_
      refine j_zret rfl rfl dX11_isPitch_25 ⟨oIe ?_, rfl⟩
      (first | omega | (simp only [bI]; (repeat' split) <;> omega))
    · refine J_if_eq 24 dX11_isPitch_17 (by decide) (fun c17 => ?_) (fun c17 => absurd c17 (by decide)) 
      refine J_iconst dX11_isPitch_24 ?_
      refine j_zret rfl rfl dX11_isPitch_25 ⟨oIe ?_, rfl⟩
      (first | omega | (simp only [bI]; (repeat' split) <;> omega))
  · refine J_if_eq 24 dX11_isPitch_7 (by decide) (fun c7 => ?_) (fun c7 => absurd c7 (by decide)) 
    refine J_iconst dX11_isPitch_24 ?_
    refine j_zret rfl rfl dX11_isPitch_25 ⟨oIe ?_, rfl⟩
    (first | omega | (simp only [bI]; (repeat' split) <;> omega))
section JIO
variable {l : Launch} {G : jG} {M : jM} {QF : jF} {ck sk pc : Nat} {L L' : List (Nat × Value)} {st : List Value} {h : jH}
theorem J_ior1 {x : Int} (hd : decode M.cc pc = .ok (.ior, 1)) (hx : x = 0 ∨ x = 1) (k : J l G M QF ck sk (pc + 1) L (vI 1 :: st) h) : J l G M QF ck sk pc L (vI 1 :: vI x :: st) h := by
  refine j_ior hd ?_
  rcases hx with e | e <;> subst e <;> exact k
theorem J_ior0 {x : Int} (hd : decode M.cc pc = .ok (.ior, 1)) (hx : x = 0 ∨ x = 1) (k : J l G M QF ck sk (pc + 1) L (vI x :: st) h) : J l G M QF ck sk pc L (vI 0 :: vI x :: st) h := by
  refine j_ior hd ?_
  rcases hx with e | e <;> subst e <;> exact k
end JIO
set_option maxRecDepth 100000 in
theorem c_X11_isValue {l : Launch} {G : jG} {h : jH} {v : Int} (hv : rg v) : jC l G yX11_isValue mX11_isValue [vI v] h (jE (oI (bI (isVal v))) h) := by
  have loop : ∀ (n : Nat) (i b : Int), i + n = 10 → 0 ≤ i → (b = 0 ∨ b = 1) → (b = 1 → isVal v) → (b = 0 → ∀ j : Int, 0 ≤ j → j < i → lk vals j ≠ v) → J l G mX11_isValue (jQ G mX11_isValue (jE (oI (bI (isVal v))) h)) 0 0 12 [(4, vI i), (3, vI (10 : Nat)), (2, .ref (jSa G 5)), (1, vI b), (0, vI v)] [] h := by
    intro n
    induction n with
    | zero =>
      intro i b hi h0 hb h1 h2
      obtain rfl : i = 10 := by omega
      refine j_iload dX11_isValue_12 rfl ?_
      refine j_iload_n 3 dX11_isValue_14 rfl rfl ?_
      refine J_icmp_ge 44 dX11_isValue_15 (by decide) (fun c15 => ?_) (fun c15 => absurd c15 (by omega)) 
      refine j_iload_n 1 dX11_isValue_44 rfl rfl ?_
      refine j_zret rfl (by rcases hb with e | e <;> subst e <;> rfl) dX11_isValue_45 ⟨oIe ?_, rfl⟩
      rcases hb with e | e
      · subst e; exact (if_neg (vals_no (h2 rfl))).symm
      · subst e; exact (if_pos (h1 rfl)).symm
    | succ n ih =>
      intro i b hi h0 hb h1 h2
      have hV := lkV i ⟨h0, by omega⟩
      refine j_iload dX11_isValue_12 rfl ?_
      refine j_iload_n 3 dX11_isValue_14 rfl rfl ?_
      refine J_icmp_ge 44 dX11_isValue_15 (by decide) (fun c15 => absurd c15 (by omega)) (fun c15 => ?_) 
      refine j_aload_n 2 dX11_isValue_18 rfl rfl ?_
      refine j_iload dX11_isValue_19 rfl ?_
      refine J_siald 5 vals rfl rfl dX11_isValue_21 ?_ 
      refine j_istore (L' := [(5, _), (4, _), (3, _), (2, _), (1, _), (0, _)]) dX11_isValue_22 rfl rfl ?_
      refine j_iload_n 1 dX11_isValue_24 rfl rfl ?_
      refine j_iload dX11_isValue_25 rfl ?_
      refine j_iload_n 0 dX11_isValue_27 rfl rfl ?_
      refine J_icmp_ne 35 dX11_isValue_28 (by decide) (fun c28 => ?_) (fun c28 => ?_) 
      · refine J_iconst dX11_isValue_35 ?_
        refine J_ior0 dX11_isValue_36 hb ?_
        refine j_istore_n 1 (L' := [(1, _), (5, _), (4, _), (3, _), (2, _), (0, _)]) dX11_isValue_37 rfl rfl rfl ?_
        refine J_iinc (L' := [(4, _), (1, _), (5, _), (3, _), (2, _), (0, _)]) dX11_isValue_38 rfl rfl rfl ?_
        refine j_goto 12 dX11_isValue_41 (by decide) ?_
        have h3 : b = 0 → ∀ j : Int, 0 ≤ j → j < i + 1 → lk vals j ≠ v := fun z j a c => by
          by_cases e : j = i
          · subst e; exact c28
          · exact h2 z j a (by omega)
        exact j_locR (ih (i + 1) b (by omega) (by omega) hb h1 h3) (by repeat' (first | exact True.intro | refine And.intro rfl ?_))
      · refine J_iconst dX11_isValue_31 ?_
        refine j_goto 36 dX11_isValue_32 (by decide) ?_
        refine J_ior1 dX11_isValue_36 hb ?_
        refine j_istore_n 1 (L' := [(1, _), (5, _), (4, _), (3, _), (2, _), (0, _)]) dX11_isValue_37 rfl rfl rfl ?_
        refine J_iinc (L' := [(4, _), (1, _), (5, _), (3, _), (2, _), (0, _)]) dX11_isValue_38 rfl rfl rfl ?_
        refine j_goto 12 dX11_isValue_41 (by decide) ?_
        have hv2 := hV.2.2
        rw [c28] at hv2
        exact j_locR (ih (i + 1) 1 (by omega) (by omega) (Or.inr rfl) (fun _ => hv2) (fun z => absurd z (by decide))) (by repeat' (first | exact True.intro | refine And.intro rfl ?_))
  refine j_body (by decide +kernel) ⟨rfl, rfl⟩ rfl ?_
  refine J_iconst dX11_isValue_0 ?_
  refine j_istore_n 1 (L' := [(1, _), (0, _)]) dX11_isValue_1 rfl rfl rfl ?_
  refine j_gets 5 rfl fX11_102 dX11_isValue_2 ?_
  refine j_astore_n 2 (L' := [(2, _), (1, _), (0, _)]) dX11_isValue_5 rfl rfl rfl ?_
  refine j_aload_n 2 dX11_isValue_6 rfl rfl ?_
  refine J_salen 5 rfl dX11_isValue_7 ?_
  refine j_istore_n 3 (L' := [(3, _), (2, _), (1, _), (0, _)]) dX11_isValue_8 rfl rfl rfl ?_
  refine J_iconst dX11_isValue_9 ?_
  refine j_istore (L' := [(4, _), (3, _), (2, _), (1, _), (0, _)]) dX11_isValue_10 rfl rfl ?_
  exact j_locR (loop 10 0 0 (by omega) (by omega) (Or.inl rfl) (fun z => absurd z (by decide)) (fun _ j a c => absurd c (by omega))) (by repeat' (first | exact True.intro | refine And.intro rfl ?_))
