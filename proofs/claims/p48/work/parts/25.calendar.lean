/-! ChoraleDesk.Calendar: 0 beats, 1 units, 2 lengths, 3 keys; 4 end -/
abbrev oX0 : oO := fun q p => (0, [.ref (q 0), .ref (q 1), .ref (q 2), .ref (q 3), vI (p.1 4)])
abbrev caX0 (G : jG) : oC := fun _ F => ai G 24 F
abbrev AX0 : Nat → Bool := fun k => Nat.blt k 4
abbrev AtX0 (G : jG) (h : jH) (a : Nat) (q : Nat → Nat) (p : OS) : Prop := At oX0 (caX0 G) AX0 h a q p
def rng (F : Int → Int) (a b v : Int) : Int → Int := fun j => if a ≤ j ∧ j < b then v else F j
theorem rng_0 (F : Int → Int) (a v : Int) : rng F a a v = F := by
  funext j
  unfold rng
  rw [if_neg (by omega)]
theorem rng_s (F : Int → Int) {a i v : Int} (h : a ≤ i) : upI (rng F a i v) i v = rng F a (i + 1) v := by
  funext j
  unfold upI rng
  by_cases e : j = i
  · subst e; rw [if_pos rfl, if_pos (by omega)]
  · rw [if_neg e]
    by_cases e2 : a ≤ j ∧ j < i
    · rw [if_pos e2, if_pos (by omega)]
    · rw [if_neg e2, if_neg (by omega)]
def metP (p : OS) (bar nb nu : Int) : OS := oU (oA (oA (oA p 0 (rng (p.2 0) bar 24 nb)) 1 (rng (p.2 1) bar 24 nu)) 2 (rng (p.2 2) bar 24 ((nb * 64).tdiv nu))) 4 (sumN (rng (p.2 2) bar 24 ((nb * 64).tdiv nu)) 24)
def keyP (p : OS) (bar k : Int) : OS := oA p 3 (rng (p.2 3) bar 24 k)
theorem oA_id (p : OS) (k : Nat) : oA p k (p.2 k) = p := by
  unfold oA
  have e : (fun j => if j = k then p.2 k else p.2 j) = p.2 := by
    funext j
    by_cases e : j = k
    · subst e; simp
    · simp [e]
  rw [e]
theorem sumN_rg {f : Int → Int} {c : Int} : ∀ (n : Nat), (∀ i : Int, 0 ≤ i → i < n → 0 ≤ f i ∧ f i ≤ c) → 0 ≤ sumN f n ∧ sumN f n ≤ c * n
  | 0, _ => by simp [sumN]
  | n + 1, h => by
    have ih := sumN_rg n (fun i h0 h1 => h i h0 (by omega))
    have hn := h n (by omega) (by omega)
    have e : c * ((n + 1 : Nat) : Int) = c * n + c := by rw [Int.natCast_add, Int.mul_add]; simp
    rw [sumN, e]
    omega
/-- the bar of a tick, looked for from bar 24 - n on -/
def barF (L : Int → Int) (t : Int) : Nat → Int
  | 0 => -1
  | n + 1 => if t < sumN L (24 - n) then 24 - (n + 1) else barF L t n
def lenZ (L : Int → Int) : Prop := ∀ i : Int, 0 ≤ i → i < 24 → 8 ≤ L i ∧ L i ≤ 384
theorem lenZ_sum {L : Int → Int} (h : lenZ L) (n : Nat) (hn : n ≤ 24) : 0 ≤ sumN L n ∧ sumN L n ≤ 9216 := by
  have := sumN_rg (f := L) (c := 384) n (fun i h0 h1 => by have := h i h0 (by omega); omega)
  omega
abbrev isBar (b : Int) : Prop := 0 ≤ b ∧ b < 24
set_option maxRecDepth 100000 in
theorem c_X0_isBar {l : Launch} {G : jG} {h : jH} {b : Int} (hb : rg b) : jC l G yX0_isBar mX0_isBar [vI b] h (jE (oI (bI (isBar b))) h) := by
  refine j_body (by decide +kernel) ⟨rfl, rfl⟩ rfl ?_
  refine j_iload_n 0 dX0_isBar_0 rfl rfl ?_
  refine J_if_lt 14 dX0_isBar_1 (by decide) (fun c1 => ?_) (fun c1 => ?_) 
  · refine J_iconst dX0_isBar_14 ?_
    refine j_zret rfl rfl dX0_isBar_15 ⟨oIe ?_, rfl⟩
    (first | omega | (simp only [bI]; (repeat' split) <;> omega))
  · refine j_iload_n 0 dX0_isBar_4 rfl rfl ?_
    refine J_bipush dX0_isBar_5 (by decide) ?_
    refine J_icmp_ge 14 dX0_isBar_7 (by decide) (fun c7 => ?_) (fun c7 => ?_) 
    · refine J_iconst dX0_isBar_14 ?_
      refine j_zret rfl rfl dX0_isBar_15 ⟨oIe ?_, rfl⟩
      (first | omega | (simp only [bI]; (repeat' split) <;> omega))
    · refine J_iconst dX0_isBar_10 ?_
      refine j_goto 15 dX0_isBar_11 (by decide) ?_
      refine j_zret rfl rfl dX0_isBar_15 ⟨oIe ?_, rfl⟩
      (first | omega | (simp only [bI]; (repeat' split) <;> omega))
set_option maxRecDepth 100000 in
theorem c_X0_end {l : Launch} {G : jG} {h : jH} {a : Nat} {q : Nat → Nat} {p : OS} (hP : AtX0 G h a q p) : jC l G yX0_end mX0_end [.ref a] h (jE (oI (p.1 4)) h) := by
  refine j_body (by decide +kernel) ⟨rfl, rfl⟩ rfl ?_
  refine j_aload_n 0 dX0_end_0 rfl rfl ?_
  refine j_get fX0_36 dX0_end_1 hP.1 rfl ?_
  refine j_iret rfl dX0_end_4 ⟨oIe ?_, rfl⟩
  (first | omega | (simp only [bI]; (repeat' split) <;> omega))
set_option maxRecDepth 100000 in
theorem c_X0_keyAt {l : Launch} {G : jG} {h : jH} {a : Nat} {q : Nat → Nat} {p : OS}{b : Int} (hP : AtX0 G h a q p) (hb : rg b) : jC l G yX0_keyAt mX0_keyAt [.ref a, vI b] h (jE (oI (if isBar b then p.2 3 b else 0)) h) := by
  refine j_body (by decide +kernel) ⟨rfl, rfl⟩ rfl ?_
  refine j_iload_n 1 dX0_keyAt_0 rfl rfl ?_
  refine J_callSZ kX0_28 csX0_isBar (c_X0_isBar hb) rfl rfl rfl rfl rfl dX0_keyAt_1 rfl rfl (fun z1 => ?_) (fun z1 => ?_)
  · refine J_if_eq 16 dX0_keyAt_4 (by decide) (fun c4 => absurd c4 (by decide)) (fun c4 => ?_) 
    refine j_aload_n 0 dX0_keyAt_7 rfl rfl ?_
    refine j_get fX0_21 dX0_keyAt_8 hP.1 rfl ?_
    refine j_iload_n 1 dX0_keyAt_11 rfl rfl ?_
    refine J_iald dX0_keyAt_12 (hP.2.1 3 rfl) ?_ 
    refine j_goto 17 dX0_keyAt_13 (by decide) ?_
    refine j_iret rfl dX0_keyAt_17 ⟨oIe ?_, rfl⟩
    (first | omega | (simp only [bI]; (repeat' split) <;> omega))
  · refine J_if_eq 16 dX0_keyAt_4 (by decide) (fun c4 => ?_) (fun c4 => absurd c4 (by decide)) 
    refine J_iconst dX0_keyAt_16 ?_
    refine j_iret rfl dX0_keyAt_17 ⟨oIe ?_, rfl⟩
    (first | omega | (simp only [bI]; (repeat' split) <;> omega))
set_option maxRecDepth 100000 in
theorem c_X0_lengthAt {l : Launch} {G : jG} {h : jH} {a : Nat} {q : Nat → Nat} {p : OS}{b : Int} (hP : AtX0 G h a q p) (hb : rg b) : jC l G yX0_lengthAt mX0_lengthAt [.ref a, vI b] h (jE (oI (if isBar b then p.2 2 b else 0)) h) := by
  refine j_body (by decide +kernel) ⟨rfl, rfl⟩ rfl ?_
  refine j_iload_n 1 dX0_lengthAt_0 rfl rfl ?_
  refine J_callSZ kX0_28 csX0_isBar (c_X0_isBar hb) rfl rfl rfl rfl rfl dX0_lengthAt_1 rfl rfl (fun z1 => ?_) (fun z1 => ?_)
  · refine J_if_eq 16 dX0_lengthAt_4 (by decide) (fun c4 => absurd c4 (by decide)) (fun c4 => ?_) 
    refine j_aload_n 0 dX0_lengthAt_7 rfl rfl ?_
    refine j_get fX0_18 dX0_lengthAt_8 hP.1 rfl ?_
    refine j_iload_n 1 dX0_lengthAt_11 rfl rfl ?_
    refine J_iald dX0_lengthAt_12 (hP.2.1 2 rfl) ?_ 
    refine j_goto 17 dX0_lengthAt_13 (by decide) ?_
    refine j_iret rfl dX0_lengthAt_17 ⟨oIe ?_, rfl⟩
    (first | omega | (simp only [bI]; (repeat' split) <;> omega))
  · refine J_if_eq 16 dX0_lengthAt_4 (by decide) (fun c4 => ?_) (fun c4 => absurd c4 (by decide)) 
    refine J_iconst dX0_lengthAt_16 ?_
    refine j_iret rfl dX0_lengthAt_17 ⟨oIe ?_, rfl⟩
    (first | omega | (simp only [bI]; (repeat' split) <;> omega))
set_option maxRecDepth 100000 in
theorem c_X0_groupLengthAt {l : Launch} {G : jG} {h : jH} {a : Nat} {q : Nat → Nat} {p : OS}{b : Int} (hP : AtX0 G h a q p) (hb : rg b) (hz : isBar b → (1 ≤ p.2 0 b ∧ p.2 0 b ≤ 12) ∧ (p.2 1 b = 2 ∨ p.2 1 b = 4 ∨ p.2 1 b = 8)) : jC l G yX0_groupLengthAt mX0_groupLengthAt [.ref a, vI b] h (jE (oI (if isBar b then (if p.2 1 b = 8 ∧ (p.2 0 b).tmod 3 = 0 then 24 else if p.2 1 b = 2 then 32 else 16) else 16)) h) := by
  refine j_body (by decide +kernel) ⟨rfl, rfl⟩ rfl ?_
  have hm := tmod_pos_rg (x := p.2 0 b) (y := 3) (by decide) (by decide)
  refine j_iload_n 1 dX0_groupLengthAt_0 rfl rfl ?_
  refine J_callSZ kX0_28 csX0_isBar (c_X0_isBar hb) rfl rfl rfl rfl rfl dX0_groupLengthAt_1 rfl rfl (fun z1 => ?_) (fun z1 => ?_)
  · refine J_if_ne 10 dX0_groupLengthAt_4 (by decide) (fun c4 => ?_) (fun c4 => absurd c4 (by decide)) 
    refine j_aload_n 0 dX0_groupLengthAt_10 rfl rfl ?_
    refine j_get fX0_15 dX0_groupLengthAt_11 hP.1 rfl ?_
    refine j_iload_n 1 dX0_groupLengthAt_14 rfl rfl ?_
    refine J_iald dX0_groupLengthAt_15 (hP.2.1 1 rfl) ?_ 
    refine J_bipush dX0_groupLengthAt_16 (by decide) ?_
    refine J_icmp_ne 35 dX0_groupLengthAt_18 (by decide) (fun c18 => ?_) (fun c18 => ?_) (by have := (hz z1).2; omega)
    · refine j_aload_n 0 dX0_groupLengthAt_35 rfl rfl ?_
      refine j_get fX0_15 dX0_groupLengthAt_36 hP.1 rfl ?_
      refine j_iload_n 1 dX0_groupLengthAt_39 rfl rfl ?_
      refine J_iald dX0_groupLengthAt_40 (hP.2.1 1 rfl) ?_ 
      refine J_iconst dX0_groupLengthAt_41 ?_
      refine J_icmp_ne 50 dX0_groupLengthAt_42 (by decide) (fun c42 => ?_) (fun c42 => ?_) (by have := (hz z1).2; omega)
      · refine J_bipush dX0_groupLengthAt_50 (by decide) ?_
        refine j_iret rfl dX0_groupLengthAt_52 ⟨oIe ?_, rfl⟩
        (first | omega | (simp only [bI]; (repeat' split) <;> omega))
      · refine J_bipush dX0_groupLengthAt_45 (by decide) ?_
        refine j_goto 52 dX0_groupLengthAt_47 (by decide) ?_
        refine j_iret rfl dX0_groupLengthAt_52 ⟨oIe ?_, rfl⟩
        (first | omega | (simp only [bI]; (repeat' split) <;> omega))
    · refine j_aload_n 0 dX0_groupLengthAt_21 rfl rfl ?_
      refine j_get fX0_9 dX0_groupLengthAt_22 hP.1 rfl ?_
      refine j_iload_n 1 dX0_groupLengthAt_25 rfl rfl ?_
      refine J_iald dX0_groupLengthAt_26 (hP.2.1 0 rfl) ?_ 
      refine J_iconst dX0_groupLengthAt_27 ?_
      refine J_irem dX0_groupLengthAt_28 ?_ (by have := (hz z1).1; omega)
      refine J_if_ne 35 dX0_groupLengthAt_29 (by decide) (fun c29 => ?_) (fun c29 => ?_) 
      · refine j_aload_n 0 dX0_groupLengthAt_35 rfl rfl ?_
        refine j_get fX0_15 dX0_groupLengthAt_36 hP.1 rfl ?_
        refine j_iload_n 1 dX0_groupLengthAt_39 rfl rfl ?_
        refine J_iald dX0_groupLengthAt_40 (hP.2.1 1 rfl) ?_ 
        refine J_iconst dX0_groupLengthAt_41 ?_
        refine J_icmp_ne 50 dX0_groupLengthAt_42 (by decide) (fun c42 => ?_) (fun c42 => ?_) (by have := (hz z1).2; omega)
        · refine J_bipush dX0_groupLengthAt_50 (by decide) ?_
          refine j_iret rfl dX0_groupLengthAt_52 ⟨oIe ?_, rfl⟩
          (first | omega | (simp only [bI]; (repeat' split) <;> omega))
        · refine J_bipush dX0_groupLengthAt_45 (by decide) ?_
          refine j_goto 52 dX0_groupLengthAt_47 (by decide) ?_
          refine j_iret rfl dX0_groupLengthAt_52 ⟨oIe ?_, rfl⟩
          (first | omega | (simp only [bI]; (repeat' split) <;> omega))
      · refine J_bipush dX0_groupLengthAt_32 (by decide) ?_
        refine j_iret rfl dX0_groupLengthAt_34 ⟨oIe ?_, rfl⟩
        (first | omega | (simp only [bI]; (repeat' split) <;> omega))
  · refine J_if_ne 10 dX0_groupLengthAt_4 (by decide) (fun c4 => absurd c4 (by decide)) (fun c4 => ?_) 
    refine J_bipush dX0_groupLengthAt_7 (by decide) ?_
    refine j_iret rfl dX0_groupLengthAt_9 ⟨oIe ?_, rfl⟩
    (first | omega | (simp only [bI]; (repeat' split) <;> omega))
set_option maxRecDepth 100000 in
theorem c_X0_beginAt {l : Launch} {G : jG} {h : jH} {a : Nat} {q : Nat → Nat} {p : OS} {b : Int} (hP : AtX0 G h a q p) (hb : rg b) : jC l G yX0_beginAt mX0_beginAt [.ref a, vI b] h (jE (oI (sumN (p.2 2) (min b 24).toNat)) h) := by
  have loop : ∀ (n : Nat) (i : Int), i + n = max 0 (min b 24) → 0 ≤ i → J l G mX0_beginAt (jQ G mX0_beginAt (jE (oI (sumN (p.2 2) (min b 24).toNat)) h)) 0 0 4 [(3, vI i), (2, vI (sumN (p.2 2) i.toNat)), (0, .ref a), (1, vI b)] [] h := by
    intro n
    induction n with
    | zero =>
      intro i hi h0
      refine j_iload_n 3 dX0_beginAt_4 rfl rfl ?_
      refine j_iload_n 1 dX0_beginAt_5 rfl rfl ?_
      refine J_icmp_ge 30 dX0_beginAt_6 (by decide) (fun c6 => ?_) (fun c6 => ?_) 
      · refine j_iload_n 2 dX0_beginAt_30 rfl rfl ?_
        refine j_iret rfl dX0_beginAt_31 ⟨oIe ?_, rfl⟩
        rw [show i.toNat = (min b 24).toNat by omega]
      · refine j_iload_n 3 dX0_beginAt_9 rfl rfl ?_
        refine J_bipush dX0_beginAt_10 (by decide) ?_
        refine J_icmp_ge 30 dX0_beginAt_12 (by decide) (fun c12 => ?_) (fun c12 => absurd c12 (by omega)) 
        refine j_iload_n 2 dX0_beginAt_30 rfl rfl ?_
        refine j_iret rfl dX0_beginAt_31 ⟨oIe ?_, rfl⟩
        rw [show i.toNat = (min b 24).toNat by omega]
    | succ n ih =>
      intro i hi h0
      refine j_iload_n 3 dX0_beginAt_4 rfl rfl ?_
      refine j_iload_n 1 dX0_beginAt_5 rfl rfl ?_
      refine J_icmp_ge 30 dX0_beginAt_6 (by decide) (fun c6 => absurd c6 (by omega)) (fun c6 => ?_) 
      refine j_iload_n 3 dX0_beginAt_9 rfl rfl ?_
      refine J_bipush dX0_beginAt_10 (by decide) ?_
      refine J_icmp_ge 30 dX0_beginAt_12 (by decide) (fun c12 => absurd c12 (by omega)) (fun c12 => ?_) 
      refine j_iload_n 2 dX0_beginAt_15 rfl rfl ?_
      refine j_aload_n 0 dX0_beginAt_16 rfl rfl ?_
      refine j_get fX0_18 dX0_beginAt_17 hP.1 rfl ?_
      refine j_iload_n 3 dX0_beginAt_20 rfl rfl ?_
      refine J_iald dX0_beginAt_21 (hP.2.1 2 rfl) ?_ 
      refine J_iadd dX0_beginAt_22 ?_
      refine j_istore_n 2 (L' := [(2, _), (3, _), (0, _), (1, _)]) dX0_beginAt_23 rfl rfl rfl ?_
      refine J_iinc (L' := [(3, _), (2, _), (0, _), (1, _)]) dX0_beginAt_24 rfl rfl rfl ?_
      refine j_goto 4 dX0_beginAt_27 (by decide) ?_
      have := ih (i + 1) (by omega) (by omega)
      rw [sumN_succ h0] at this
      exact this
  refine j_body (by decide +kernel) ⟨rfl, rfl⟩ rfl ?_
  refine J_iconst dX0_beginAt_0 ?_
  refine j_istore_n 2 (L' := [(2, _), (0, _), (1, _)]) dX0_beginAt_1 rfl rfl rfl ?_
  refine J_iconst dX0_beginAt_2 ?_
  refine j_istore_n 3 (L' := [(3, _), (2, _), (0, _), (1, _)]) dX0_beginAt_3 rfl rfl rfl ?_
  exact loop (max 0 (min b 24)).toNat 0 (by omega) (by omega)
set_option maxRecDepth 100000 in
theorem c_X0_barAt {l : Launch} {G : jG} {h : jH} {a : Nat} {q : Nat → Nat} {p : OS} {t : Int} (hP : AtX0 G h a q p) (hL : lenZ (p.2 2)) (ht : rg t) : jC l G yX0_barAt mX0_barAt [.ref a, vI t] h (jE (oI (barF (p.2 2) t 24)) h) := by
  have loop : ∀ (n : Nat) (i : Int), i + n = 24 → 0 ≤ i → barF (p.2 2) t 24 = barF (p.2 2) t n → J l G mX0_barAt (jQ G mX0_barAt (jE (oI (barF (p.2 2) t 24)) h)) 0 0 4 [(3, vI i), (2, vI (sumN (p.2 2) i.toNat)), (0, .ref a), (1, vI t)] [] h := by
    intro n
    induction n with
    | zero =>
      intro i hi h0 hf
      refine j_iload_n 3 dX0_barAt_4 rfl rfl ?_
      refine J_bipush dX0_barAt_5 (by decide) ?_
      refine J_icmp_ge 32 dX0_barAt_7 (by decide) (fun c7 => ?_) (fun c7 => absurd c7 (by omega)) 
      refine J_iconst dX0_barAt_32 ?_
      refine j_iret rfl dX0_barAt_33 ⟨oIe ?_, rfl⟩
      (rw [hf]; rfl)
    | succ n ih =>
      intro i hi h0 hf
      have hS := lenZ_sum hL (i + 1).toNat (by omega)
      have e2 : (i + 1).toNat = 24 - n := by omega
      have e1 := sumN_succ (f := p.2 2) h0
      rw [e1] at hS
      rw [e2] at e1
      have hb2 : barF (p.2 2) t (n + 1) = if t < sumN (p.2 2) (24 - n) then 24 - ((n : Int) + 1) else barF (p.2 2) t n := rfl
      rw [hb2, e1] at hf
      refine j_iload_n 3 dX0_barAt_4 rfl rfl ?_
      refine J_bipush dX0_barAt_5 (by decide) ?_
      refine J_icmp_ge 32 dX0_barAt_7 (by decide) (fun c7 => absurd c7 (by omega)) (fun c7 => ?_) 
      refine j_iload_n 2 dX0_barAt_10 rfl rfl ?_
      refine j_aload_n 0 dX0_barAt_11 rfl rfl ?_
      refine j_get fX0_18 dX0_barAt_12 hP.1 rfl ?_
      refine j_iload_n 3 dX0_barAt_15 rfl rfl ?_
      refine J_iald dX0_barAt_16 (hP.2.1 2 rfl) ?_ 
      refine J_iadd dX0_barAt_17 ?_
      refine j_istore_n 2 (L' := [(2, _), (3, _), (0, _), (1, _)]) dX0_barAt_18 rfl rfl rfl ?_
      refine j_iload_n 1 dX0_barAt_19 rfl rfl ?_
      refine j_iload_n 2 dX0_barAt_20 rfl rfl ?_
      refine J_icmp_ge 26 dX0_barAt_21 (by decide) (fun c21 => ?_) (fun c21 => ?_) 
      · refine J_iinc (L' := [(3, _), (2, _), (0, _), (1, _)]) dX0_barAt_26 rfl rfl rfl ?_
        refine j_goto 4 dX0_barAt_29 (by decide) ?_
        rw [if_neg (by omega)] at hf
        have := ih (i + 1) (by omega) (by omega) hf
        rw [sumN_succ h0] at this
        exact this
      · refine j_iload_n 3 dX0_barAt_24 rfl rfl ?_
        refine j_iret rfl dX0_barAt_25 ⟨oIe ?_, rfl⟩
        (rw [hf, if_pos c21]; omega)
  refine j_body (by decide +kernel) ⟨rfl, rfl⟩ rfl ?_
  refine J_iconst dX0_barAt_0 ?_
  refine j_istore_n 2 (L' := [(2, _), (0, _), (1, _)]) dX0_barAt_1 rfl rfl rfl ?_
  refine J_iconst dX0_barAt_2 ?_
  refine j_istore_n 3 (L' := [(3, _), (2, _), (0, _), (1, _)]) dX0_barAt_3 rfl rfl rfl ?_
  exact loop 24 0 (by omega) (by omega) rfl
theorem barF_rg (L : Int → Int) (t : Int) : ∀ n : Nat, n ≤ 24 → -1 ≤ barF L t n ∧ barF L t n < 24
  | 0, _ => by simp [barF]
  | n + 1, h => by
    have ih := barF_rg L t n (by omega)
    unfold barF
    split
    · omega
    · exact ih
set_option maxRecDepth 100000 in
theorem c_X0_barsUpTo {l : Launch} {G : jG} {h : jH} {a : Nat} {q : Nat → Nat} {p : OS}{t : Int} (hP : AtX0 G h a q p) (hL : lenZ (p.2 2)) (he : rg (p.1 4)) (ht : rg t) : jC l G yX0_barsUpTo mX0_barsUpTo [.ref a, vI t] h (jE (oI (if t ≤ 0 then 0 else if t ≤ p.1 4 then barF (p.2 2) (t - 1) 24 + 1 else 24)) h) := by
  refine j_body (by decide +kernel) ⟨rfl, rfl⟩ rfl ?_
  refine j_iload_n 1 dX0_barsUpTo_0 rfl rfl ?_
  refine J_if_gt 6 dX0_barsUpTo_1 (by decide) (fun c1 => ?_) (fun c1 => ?_) 
  · refine j_iload_n 1 dX0_barsUpTo_6 rfl rfl ?_
    refine j_aload_n 0 dX0_barsUpTo_7 rfl rfl ?_
    refine j_get fX0_36 dX0_barsUpTo_8 hP.1 rfl ?_
    refine J_icmp_gt 26 dX0_barsUpTo_11 (by decide) (fun c11 => ?_) (fun c11 => ?_) 
    · refine J_bipush dX0_barsUpTo_26 (by decide) ?_
      refine j_iret rfl dX0_barsUpTo_28 ⟨oIe ?_, rfl⟩
      (first | omega | (simp only [bI]; (repeat' split) <;> omega))
    · refine j_aload_n 0 dX0_barsUpTo_14 rfl rfl ?_
      refine j_iload_n 1 dX0_barsUpTo_15 rfl rfl ?_
      refine J_iconst dX0_barsUpTo_16 ?_
      refine J_isub dX0_barsUpTo_17 ?_
      refine J_callV1 kX0_40 cvX0_barAt hP.1 (c_X0_barAt hP hL (by omega)) rfl rfl rfl rfl rfl dX0_barsUpTo_18 rfl rfl ?_
      refine J_iconst dX0_barsUpTo_21 ?_
      refine J_iadd dX0_barsUpTo_22 ?_
      refine j_goto 28 dX0_barsUpTo_23 (by decide) ?_
      refine j_iret rfl dX0_barsUpTo_28 ⟨oIe ?_, rfl⟩
      (first | omega | (simp only [bI]; (repeat' split) <;> omega))
  · refine J_iconst dX0_barsUpTo_4 ?_
    refine j_iret rfl dX0_barsUpTo_5 ⟨oIe ?_, rfl⟩
    (first | omega | (simp only [bI]; (repeat' split) <;> omega))
set_option maxRecDepth 100000 in
theorem c_X0_ticksBehind {l : Launch} {G : jG} {h : jH} {a : Nat} {q : Nat → Nat} {p : OS}{t b : Int} (hP : AtX0 G h a q p) (hL : lenZ (p.2 2)) (hb : isBar b) (ht : -1000000 ≤ t ∧ t ≤ 1000000) : jC l G yX0_ticksBehind mX0_ticksBehind [.ref a, vI t, vI b] h (jE (oI (max 0 (min (p.2 2 b) (sumN (p.2 2) b.toNat + p.2 2 b - t)))) h) := by
  refine j_body (by decide +kernel) ⟨rfl, rfl⟩ rfl ?_
  have hS := lenZ_sum hL b.toNat (by omega)
  have hl := hL b hb.1 hb.2
  have e24 : (min b 24).toNat = b.toNat := by omega
  refine j_aload_n 0 dX0_ticksBehind_0 rfl rfl ?_
  refine j_iload_n 2 dX0_ticksBehind_1 rfl rfl ?_
  refine J_callV1 kX0_32 cvX0_beginAt hP.1 (c_X0_beginAt hP (by omega)) rfl rfl rfl rfl rfl dX0_ticksBehind_2 rfl rfl ?_
  refine J_top (sumN (p.2 2) b.toNat) ?_ (by rw [e24])
  refine j_aload_n 0 dX0_ticksBehind_5 rfl rfl ?_
  refine j_iload_n 2 dX0_ticksBehind_6 rfl rfl ?_
  refine J_callV1 kX0_43 cvX0_lengthAt hP.1 (c_X0_lengthAt hP (by omega)) rfl rfl rfl rfl rfl dX0_ticksBehind_7 rfl rfl ?_
  refine J_top (p.2 2 b) ?_ (by rw [if_pos hb])
  refine J_iadd dX0_ticksBehind_10 ?_
  refine j_istore_n 3 (L' := [(3, _), (0, _), (1, _), (2, _)]) dX0_ticksBehind_11 rfl rfl rfl ?_
  refine J_iconst dX0_ticksBehind_12 ?_
  refine j_aload_n 0 dX0_ticksBehind_13 rfl rfl ?_
  refine j_iload_n 2 dX0_ticksBehind_14 rfl rfl ?_
  refine J_callV1 kX0_43 cvX0_lengthAt hP.1 (c_X0_lengthAt hP (by omega)) rfl rfl rfl rfl rfl dX0_ticksBehind_15 rfl rfl ?_
  refine J_top (p.2 2 b) ?_ (by rw [if_pos hb])
  refine j_iload_n 3 dX0_ticksBehind_18 rfl rfl ?_
  refine j_iload_n 1 dX0_ticksBehind_19 rfl rfl ?_
  refine J_isub dX0_ticksBehind_20 ?_
  refine J_mmin kX0_46 rfl rfl dX0_ticksBehind_21 ?_ 
  refine J_mmax kX0_52 rfl rfl dX0_ticksBehind_24 ?_ 
  refine j_iret rfl dX0_ticksBehind_27 ⟨oIe ?_, rfl⟩
  (first | omega | (simp only [bI]; (repeat' split) <;> omega))
theorem oA_oA (p : OS) (k : Nat) (F F' : Int → Int) : oA (oA p k F) k F' = oA p k F' := by
  unfold oA
  refine Prod.ext rfl ?_
  funext j
  by_cases e : j = k
  · simp [e]
  · simp [e]
theorem oA_A {o : oO} {ca : oC} {A : Nat → Bool} {h : jH} {a : Nat} {q : Nat → Nat} {p : OS} {k : Nat} {F F' : Int → Int} (hP : At o ca A h a q (oA (oA p k F) k F')) : At o ca A h a q (oA p k F') := by rw [oA_oA] at hP; exact hP
set_option maxRecDepth 100000 in
theorem c_X0_changeKey {l : Launch} {G : jG} {h : jH} {a : Nat} {q : Nat → Nat} {p : OS} {b k : Int} (hP : AtX0 G h a q p) (hb : isBar b) : jC l G yX0_changeKey mX0_changeKey [.ref a, vI b, vI k] h (jW oN (fun h' => AtX0 G h' a q (keyP p b k) ∧ Fr (ft AX0 a q) h h')) := by
  have loop : ∀ (n : Nat) (i : Int) (h2 : jH), i + n = 24 → b ≤ i → AtX0 G h2 a q (oA p 3 (rng (p.2 3) b i k)) → Fr (ft AX0 a q) h h2 → J l G mX0_changeKey (jQ G mX0_changeKey (jW oN (fun h' => AtX0 G h' a q (keyP p b k) ∧ Fr (ft AX0 a q) h h'))) 0 0 10 [(3, vI i), (0, .ref a), (1, vI b), (2, vI k)] [] h2 := by
    intro n
    induction n with
    | zero =>
      intro i h2 hi h0 hP hF
      obtain rfl : i = 24 := by omega
      refine j_iload_n 3 dX0_changeKey_10 rfl rfl ?_
      refine J_bipush dX0_changeKey_11 (by decide) ?_
      refine J_icmp_ge 29 dX0_changeKey_13 (by decide) (fun c13 => ?_) (fun c13 => absurd c13 (by omega)) 
      refine j_vret rfl dX0_changeKey_29 ?_
      exact ⟨rfl, hP, hF⟩
    | succ n ih =>
      intro i h2 hi h0 hP hF
      refine j_iload_n 3 dX0_changeKey_10 rfl rfl ?_
      refine J_bipush dX0_changeKey_11 (by decide) ?_
      refine J_icmp_ge 29 dX0_changeKey_13 (by decide) (fun c13 => absurd c13 (by omega)) (fun c13 => ?_) 
      refine j_aload_n 0 dX0_changeKey_16 rfl rfl ?_
      refine j_get fX0_21 dX0_changeKey_17 hP.1 rfl ?_
      refine j_iload_n 3 dX0_changeKey_20 rfl rfl ?_
      refine j_iload_n 2 dX0_changeKey_21 rfl rfl ?_
      refine J_iastA 3 hP rfl (fun _ => rfl) (fun _ => rfl) dX0_changeKey_22 (fun h hP hF22 => ?_) 
      have hF := hF.tr hF22
      refine J_iinc (L' := [(3, _), (0, _), (1, _), (2, _)]) dX0_changeKey_23 rfl rfl rfl ?_
      refine j_goto 10 dX0_changeKey_26 (by decide) ?_
      refine ih (i + 1) _ (by omega) (by omega) ?_ hF
      have e := rng_s (p.2 3) (v := k) h0
      rw [← e]
      rw [show (oA p 3 (rng (p.2 3) b i k)).2 3 = rng (p.2 3) b i k from rfl] at hP
      exact oA_A hP
  refine j_body (by decide +kernel) ⟨rfl, rfl⟩ rfl ?_
  refine j_iload_n 1 dX0_changeKey_0 rfl rfl ?_
  refine J_callSZ kX0_28 csX0_isBar (c_X0_isBar (by omega)) rfl rfl rfl rfl rfl dX0_changeKey_1 rfl rfl (fun z1 => ?_) (fun z1 => ?_)
  · refine J_if_ne 8 dX0_changeKey_4 (by decide) (fun c4 => ?_) (fun c4 => absurd c4 (by decide)) 
    refine j_iload_n 1 dX0_changeKey_8 rfl rfl ?_
    refine j_istore_n 3 (L' := [(3, _), (0, _), (1, _), (2, _)]) dX0_changeKey_9 rfl rfl rfl ?_
    exact loop (24 - b).toNat b h (by omega) (by omega) (by rw [rng_0, oA_id]; exact hP) Fr.rf
  · refine J_if_ne 8 dX0_changeKey_4 (by decide) (fun c4 => absurd c4 (by decide)) (fun c4 => ?_) 
    refine j_vret rfl dX0_changeKey_7 ?_
    exact absurd hb z1
theorem met3 (p : OS) (F0 F1 F2 F0' F1' F2' : Int → Int) : oA (oA (oA (oA (oA (oA p 0 F0) 1 F1) 2 F2) 0 F0') 1 F1') 2 F2' = oA (oA (oA p 0 F0') 1 F1') 2 F2' := by
  unfold oA
  refine Prod.ext rfl ?_
  funext j
  by_cases e : j = 0
  · subst e; rfl
  · by_cases e1 : j = 1
    · subst e1; rfl
    · by_cases e2 : j = 2
      · subst e2; rfl
      · simp [e, e1, e2]
set_option maxRecDepth 100000 in
theorem c_X0_changeMetre {l : Launch} {G : jG} {h : jH} {a : Nat} {q : Nat → Nat} {p : OS} {b nb nu : Int} (hP : AtX0 G h a q p) (hb : isBar b) (h1 : 1 ≤ nb ∧ nb ≤ 12) (h2 : nu = 2 ∨ nu = 4 ∨ nu = 8) : jC l G yX0_changeMetre mX0_changeMetre [.ref a, vI b, vI nb, vI nu] h (jW oN (fun h' => AtX0 G h' a q (metP p b nb nu) ∧ Fr (ft AX0 a q) h h')) := by
  have loop : ∀ (n : Nat) (i : Int) (h2 : jH), i + n = 24 → b ≤ i → AtX0 G h2 a q (oA (oA (oA p 0 (rng (p.2 0) b i nb)) 1 (rng (p.2 1) b i nu)) 2 (rng (p.2 2) b i ((nb * 64).tdiv nu))) → Fr (ft AX0 a q) h h2 → J l G mX0_changeMetre (jQ G mX0_changeMetre (jW oN (fun h' => AtX0 G h' a q (metP p b nb nu) ∧ Fr (ft AX0 a q) h h'))) 0 0 15 [(4, vI i), (0, .ref a), (1, vI b), (2, vI nb), (3, vI nu)] [] h2 := by
    intro n
    induction n with
    | zero =>
      intro i h2 hi h0 hP hF
      obtain rfl : i = 24 := by omega
      refine j_iload dX0_changeMetre_15 rfl ?_
      refine J_bipush dX0_changeMetre_17 (by decide) ?_
      refine J_icmp_ge 57 dX0_changeMetre_19 (by decide) (fun c19 => ?_) (fun c19 => absurd c19 (by omega)) 
      refine j_aload_n 0 dX0_changeMetre_57 rfl rfl ?_
      refine j_aload_n 0 dX0_changeMetre_58 rfl rfl ?_
      refine J_bipush dX0_changeMetre_59 (by decide) ?_
      refine J_callV1 kX0_32 cvX0_beginAt hP.1 (c_X0_beginAt hP (by decide)) rfl rfl rfl rfl rfl dX0_changeMetre_61 rfl rfl ?_
      refine J_putA hP fX0_36 tyX0_end dX0_changeMetre_64 rfl rfl (fun h hP hF64 => ?_)
      have hF := hF.tr hF64
      refine j_vret rfl dX0_changeMetre_67 ?_
      exact ⟨rfl, hP, hF⟩
    | succ n ih =>
      intro i h2 hi h0 hP hF
      refine j_iload dX0_changeMetre_15 rfl ?_
      refine J_bipush dX0_changeMetre_17 (by decide) ?_
      refine J_icmp_ge 57 dX0_changeMetre_19 (by decide) (fun c19 => absurd c19 (by omega)) (fun c19 => ?_) 
      refine j_aload_n 0 dX0_changeMetre_22 rfl rfl ?_
      refine j_get fX0_9 dX0_changeMetre_23 hP.1 rfl ?_
      refine j_iload dX0_changeMetre_26 rfl ?_
      refine j_iload_n 2 dX0_changeMetre_28 rfl rfl ?_
      refine J_iastA 0 hP rfl (fun _ => rfl) (fun _ => rfl) dX0_changeMetre_29 (fun h hP hF29 => ?_) 
      have hF := hF.tr hF29
      refine j_aload_n 0 dX0_changeMetre_30 rfl rfl ?_
      refine j_get fX0_15 dX0_changeMetre_31 hP.1 rfl ?_
      refine j_iload dX0_changeMetre_34 rfl ?_
      refine j_iload_n 3 dX0_changeMetre_36 rfl rfl ?_
      refine J_iastA 1 hP rfl (fun _ => rfl) (fun _ => rfl) dX0_changeMetre_37 (fun h hP hF37 => ?_) 
      have hF := hF.tr hF37
      refine j_aload_n 0 dX0_changeMetre_38 rfl rfl ?_
      refine j_get fX0_18 dX0_changeMetre_39 hP.1 rfl ?_
      refine j_iload dX0_changeMetre_42 rfl ?_
      refine j_iload_n 2 dX0_changeMetre_44 rfl rfl ?_
      refine J_bipush dX0_changeMetre_45 (by decide) ?_
      refine J_imul dX0_changeMetre_47 ?_
      refine j_iload_n 3 dX0_changeMetre_48 rfl rfl ?_
      refine J_idiv dX0_changeMetre_49 ?_ 
      refine J_iastA 2 hP rfl (fun _ => rfl) (fun _ => rfl) dX0_changeMetre_50 (fun h hP hF50 => ?_) 
      have hF := hF.tr hF50
      refine J_iinc (L' := [(4, _), (0, _), (1, _), (2, _), (3, _)]) dX0_changeMetre_51 rfl rfl rfl ?_
      refine j_goto 15 dX0_changeMetre_54 (by decide) ?_
      refine ih (i + 1) _ (by omega) (by omega) ?_ hF
      rw [← rng_s (p.2 0) (v := nb) h0, ← rng_s (p.2 1) (v := nu) h0, ← rng_s (p.2 2) (v := (nb * 64).tdiv nu) h0]
      rw [← met3]
      exact hP
  refine j_body (by decide +kernel) ⟨rfl, rfl⟩ rfl ?_
  refine j_iload_n 1 dX0_changeMetre_0 rfl rfl ?_
  refine J_callSZ kX0_28 csX0_isBar (c_X0_isBar (by omega)) rfl rfl rfl rfl rfl dX0_changeMetre_1 rfl rfl (fun z1 => ?_) (fun z1 => ?_)
  · refine J_if_eq 11 dX0_changeMetre_4 (by decide) (fun c4 => absurd c4 (by decide)) (fun c4 => ?_) 
    refine j_iload_n 3 dX0_changeMetre_7 rfl rfl ?_
    refine J_if_gt 12 dX0_changeMetre_8 (by decide) (fun c8 => ?_) (fun c8 => absurd c8 (by omega)) 
    refine j_iload_n 1 dX0_changeMetre_12 rfl rfl ?_
    refine j_istore (L' := [(4, _), (0, _), (1, _), (2, _), (3, _)]) dX0_changeMetre_13 rfl rfl ?_
    exact loop (24 - b).toNat b h (by omega) (by omega) (by rw [rng_0, rng_0, rng_0, oA_id, oA_id, oA_id]; exact hP) Fr.rf
  · refine J_if_eq 11 dX0_changeMetre_4 (by decide) (fun c4 => ?_) (fun c4 => absurd c4 (by decide)) 
    refine j_vret rfl dX0_changeMetre_11 ?_
    exact absurd hb z1
