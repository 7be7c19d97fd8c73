/-! Part.firstEndingBehind -/
def endF (p : OS) (i : Int) : Int := p.2 3 i + p.2 4 i
/-- how many of the first n end at t or ahead of it -/
def febF (E : Int → Int) (t : Int) : Nat → Int
  | 0 => 0
  | n + 1 => if E n ≤ t then (n : Int) + 1 else febF E t n
theorem febF_rg (E : Int → Int) (t : Int) : ∀ n : Nat, 0 ≤ febF E t n ∧ febF E t n ≤ n
  | 0 => ⟨Int.le_refl _, Int.le_refl _⟩
  | n + 1 => by
    have ih := febF_rg E t n
    unfold febF
    split <;> omega
def monE (E : Int → Int) (n : Int) : Prop := ∀ i j : Int, 0 ≤ i → i ≤ j → j < n → E i ≤ E j
theorem febF_iff {E : Int → Int} {t : Int} : ∀ n : Nat, monE E n → ∀ i : Int, 0 ≤ i → i < n → (i < febF E t n ↔ E i ≤ t)
  | 0, _ => fun i h0 h1 => absurd h1 (by simp; omega)
  | n + 1, hm => fun i h0 h1 => by
    have hr := febF_rg E t n
    unfold febF
    split
    · rename_i c
      have := hm i n h0 (by omega) (by omega)
      omega
    · rename_i c
      by_cases e : i = n
      · subst e; omega
      · exact febF_iff n (fun a b h2 h3 h4 => hm a b h2 h3 (by omega)) i h0 (by omega)
set_option maxRecDepth 100000 in
theorem c_X6_firstEndingBehind {l : Launch} {G : jG} {h : jH} {a : Nat} {q : Nat → Nat} {p : OS} {t : Int} (hP : AtX6 G h a q p) (hn : pN p) (hz : eA p) (hm : monE (endF p) (p.1 7)) (ht : rg t) : jC l G yX6_firstEndingBehind mX6_firstEndingBehind [.ref a, vI t] h (jE (oI (febF (endF p) t (p.1 7).toNat)) h) := by
  have hn2 : 0 ≤ p.1 7 ∧ p.1 7 ≤ 512 := hn
  have hff := febF_rg (endF p) t (p.1 7).toNat
  have hiff := febF_iff (E := endF p) (t := t) (p.1 7).toNat (by rw [Int.toNat_of_nonneg hn2.1]; exact hm)
  obtain ⟨f, hf⟩ : ∃ f, f = febF (endF p) t (p.1 7).toNat := ⟨_, rfl⟩
  rw [← hf] at hff hiff ⊢
  have loop : ∀ (n : Nat) (i lo hi : Int), i + n = 32 → 0 ≤ i → 0 ≤ lo → lo ≤ f → f ≤ hi → hi ≤ p.1 7 → hi - lo < 2 ^ n → J l G mX6_firstEndingBehind (jQ G mX6_firstEndingBehind (jE (oI f) h)) 0 0 10 [(4, vI i), (3, vI hi), (2, vI lo), (0, .ref a), (1, vI t)] [] h := by
    intro n
    induction n with
    | zero =>
      intro i lo hi hi32 h0 hlo h1 h2 h3 h4
      have e : lo = f := by simp at h4; omega
      refine j_iload dX6_firstEndingBehind_10 rfl ?_
      refine J_bipush dX6_firstEndingBehind_12 (by decide) ?_
      refine J_icmp_ge 56 dX6_firstEndingBehind_14 (by decide) (fun c14 => ?_) (fun c14 => absurd c14 (by omega)) 
      refine j_iload_n 2 dX6_firstEndingBehind_56 rfl rfl ?_
      refine j_iret rfl dX6_firstEndingBehind_57 ⟨oIe ?_, rfl⟩
      exact e
    | succ n ih =>
      intro i lo hi hi32 h0 hlo h1 h2 h3 h4
      have hp2 : (2 : Int) ^ (n + 1) = 2 * 2 ^ n := by rw [Int.pow_succ]; omega
      have hpp : (0 : Int) < 2 ^ n := Int.pow_pos (by decide)
      refine j_iload dX6_firstEndingBehind_10 rfl ?_
      refine J_bipush dX6_firstEndingBehind_12 (by decide) ?_
      refine J_icmp_ge 56 dX6_firstEndingBehind_14 (by decide) (fun c14 => absurd c14 (by omega)) (fun c14 => ?_) 
      refine j_iload_n 2 dX6_firstEndingBehind_17 rfl rfl ?_
      refine j_iload_n 3 dX6_firstEndingBehind_18 rfl rfl ?_
      refine J_icmp_ge 56 dX6_firstEndingBehind_19 (by decide) (fun c19 => ?_) (fun c19 => ?_) 
      · refine j_iload_n 2 dX6_firstEndingBehind_56 rfl rfl ?_
        refine j_iret rfl dX6_firstEndingBehind_57 ⟨oIe ?_, rfl⟩
        omega
      · refine j_iload_n 2 dX6_firstEndingBehind_22 rfl rfl ?_
        refine j_iload_n 3 dX6_firstEndingBehind_23 rfl rfl ?_
        refine J_iadd dX6_firstEndingBehind_24 ?_
        refine J_iconst dX6_firstEndingBehind_25 ?_
        refine J_idiv dX6_firstEndingBehind_26 ?_ 
        refine J_top ((lo + hi) / 2) ?_ (by exact Int.tdiv_eq_ediv_of_nonneg (by omega))
        refine j_istore (L' := [(5, _), (4, _), (3, _), (2, _), (0, _), (1, _)]) dX6_firstEndingBehind_27 rfl rfl ?_
        refine j_aload_n 0 dX6_firstEndingBehind_29 rfl rfl ?_
        refine j_iload dX6_firstEndingBehind_30 rfl ?_
        refine J_callV1 kX6_74 cvX6_endAt hP.1 (c_X6_endAt hP hn (by omega)) rfl rfl rfl rfl rfl dX6_firstEndingBehind_32 rfl rfl ?_
        refine J_top (endF p ((lo + hi) / 2)) ?_ (by exact if_pos ⟨by omega, by omega⟩)
        have hee := hz ((lo + hi) / 2) (by omega) (by omega)
        have he3 := hee.2.2.2.1
        have he4 := hee.2.2.2.2.1
        have hif := hiff ((lo + hi) / 2) (by omega) (by omega)
        have hre : endF p ((lo + hi) / 2) = p.2 3 ((lo + hi) / 2) + p.2 4 ((lo + hi) / 2) := rfl
        refine j_iload_n 1 dX6_firstEndingBehind_35 rfl rfl ?_
        refine J_icmp_le 45 dX6_firstEndingBehind_36 (by decide) (fun c36 => ?_) (fun c36 => ?_) 
        · refine j_iload dX6_firstEndingBehind_45 rfl ?_
          refine J_iconst dX6_firstEndingBehind_47 ?_
          refine J_iadd dX6_firstEndingBehind_48 ?_
          refine j_istore_n 2 (L' := [(2, _), (5, _), (4, _), (3, _), (0, _), (1, _)]) dX6_firstEndingBehind_49 rfl rfl rfl ?_
          refine J_iinc (L' := [(4, _), (2, _), (5, _), (3, _), (0, _), (1, _)]) dX6_firstEndingBehind_50 rfl rfl rfl ?_
          refine j_goto 10 dX6_firstEndingBehind_53 (by decide) ?_
          first | exact j_locR (ih (i + 1) lo ((lo + hi) / 2) (by omega) (by omega) (by omega) (by omega) (by omega) (by omega) (by omega)) (by repeat' (first | exact True.intro | refine And.intro rfl ?_)) | exact j_locR (ih (i + 1) ((lo + hi) / 2 + 1) hi (by omega) (by omega) (by omega) (by omega) (by omega) (by omega) (by omega)) (by repeat' (first | exact True.intro | refine And.intro rfl ?_))
        · refine j_iload dX6_firstEndingBehind_39 rfl ?_
          refine j_istore_n 3 (L' := [(3, _), (5, _), (4, _), (2, _), (0, _), (1, _)]) dX6_firstEndingBehind_41 rfl rfl rfl ?_
          refine j_goto 50 dX6_firstEndingBehind_42 (by decide) ?_
          refine J_iinc (L' := [(4, _), (3, _), (5, _), (2, _), (0, _), (1, _)]) dX6_firstEndingBehind_50 rfl rfl rfl ?_
          refine j_goto 10 dX6_firstEndingBehind_53 (by decide) ?_
          first | exact j_locR (ih (i + 1) lo ((lo + hi) / 2) (by omega) (by omega) (by omega) (by omega) (by omega) (by omega) (by omega)) (by repeat' (first | exact True.intro | refine And.intro rfl ?_)) | exact j_locR (ih (i + 1) ((lo + hi) / 2 + 1) hi (by omega) (by omega) (by omega) (by omega) (by omega) (by omega) (by omega)) (by repeat' (first | exact True.intro | refine And.intro rfl ?_))
  refine j_body (by decide +kernel) ⟨rfl, rfl⟩ rfl ?_
  refine J_iconst dX6_firstEndingBehind_0 ?_
  refine j_istore_n 2 (L' := [(2, _), (0, _), (1, _)]) dX6_firstEndingBehind_1 rfl rfl rfl ?_
  refine j_aload_n 0 dX6_firstEndingBehind_2 rfl rfl ?_
  refine j_get fX6_40 dX6_firstEndingBehind_3 hP.1 rfl ?_
  refine j_istore_n 3 (L' := [(3, _), (2, _), (0, _), (1, _)]) dX6_firstEndingBehind_6 rfl rfl rfl ?_
  refine J_iconst dX6_firstEndingBehind_7 ?_
  refine j_istore (L' := [(4, _), (3, _), (2, _), (0, _), (1, _)]) dX6_firstEndingBehind_8 rfl rfl ?_
  exact loop 32 0 0 (p.1 7) (by omega) (by omega) (by omega) (by omega) (by omega) (by omega) (by omega)
/-! ChoraleDesk.Measure: 0 signEvents, 1 ticks, 2 lengths, 3 firstOfNote, 4 tied, 5 shownAlters, 6 shownAltersAsWritten, 7 beamNumbers, 8 altersInForce; 9 count, 10 beamCount -/
abbrev oX5 : oO := fun q p => (5, [.ref (q 0), .ref (q 1), .ref (q 2), .ref (q 3), .ref (q 4), .ref (q 5), .ref (q 6), .ref (q 7), .ref (q 8), vI (p.1 9), vI (p.1 10)])
def caX5 (G : jG) : oC := fun k F => match k with
  | 3 => az G 128 F
  | 4 => az G 128 F
  | 8 => ai G 63 F
  | _ => ai G 128 F
abbrev AX5 : Nat → Bool := fun k => Nat.blt k 9
abbrev AtX5 (G : jG) (h : jH) (a : Nat) (q : Nat → Nat) (p : OS) : Prop := At oX5 (caX5 G) AX5 h a q p
def mN (p : OS) : Prop := 0 ≤ p.1 9 ∧ p.1 9 ≤ 128
abbrev inM (p : OS) (s : Int) : Prop := 0 ≤ s ∧ s < p.1 9
set_option maxRecDepth 100000 in
theorem c_X5_size {l : Launch} {G : jG} {h : jH} {a : Nat} {q : Nat → Nat} {p : OS} (hP : AtX5 G h a q p) : jC l G yX5_size mX5_size [.ref a] h (jE (oI (p.1 9)) h) := by
  refine j_body (by decide +kernel) ⟨rfl, rfl⟩ rfl ?_
  refine j_aload_n 0 dX5_size_0 rfl rfl ?_
  refine j_get fX5_40 dX5_size_1 hP.1 rfl ?_
  refine j_iret rfl dX5_size_4 ⟨oIe ?_, rfl⟩
  (first | omega | (simp only [bI]; (repeat' split) <;> omega))
set_option maxRecDepth 100000 in
theorem c_X5_beamTotal {l : Launch} {G : jG} {h : jH} {a : Nat} {q : Nat → Nat} {p : OS} (hP : AtX5 G h a q p) : jC l G yX5_beamTotal mX5_beamTotal [.ref a] h (jE (oI (p.1 10)) h) := by
  refine j_body (by decide +kernel) ⟨rfl, rfl⟩ rfl ?_
  refine j_aload_n 0 dX5_beamTotal_0 rfl rfl ?_
  refine j_get fX5_44 dX5_beamTotal_1 hP.1 rfl ?_
  refine j_iret rfl dX5_beamTotal_4 ⟨oIe ?_, rfl⟩
  (first | omega | (simp only [bI]; (repeat' split) <;> omega))
set_option maxRecDepth 100000 in
theorem c_X5_has {l : Launch} {G : jG} {h : jH} {a : Nat} {q : Nat → Nat} {p : OS}{s : Int} (hP : AtX5 G h a q p) (hn : mN p) (hs : rg s) : jC l G yX5_has mX5_has [.ref a, vI s] h (jE (oI (bI (inM p s))) h) := by
  refine j_body (by decide +kernel) ⟨rfl, rfl⟩ rfl ?_
  unfold mN at hn
  refine j_iload_n 1 dX5_has_0 rfl rfl ?_
  refine J_if_lt 23 dX5_has_1 (by decide) (fun c1 => ?_) (fun c1 => ?_) 
  · refine J_iconst dX5_has_23 ?_
    refine j_zret rfl rfl dX5_has_24 ⟨oIe ?_, rfl⟩
    (first | omega | (simp only [bI]; (repeat' split) <;> omega))
  · refine j_iload_n 1 dX5_has_4 rfl rfl ?_
    refine j_aload_n 0 dX5_has_5 rfl rfl ?_
    refine j_get fX5_40 dX5_has_6 hP.1 rfl ?_
    refine J_icmp_ge 23 dX5_has_9 (by decide) (fun c9 => ?_) (fun c9 => ?_) 
    · refine J_iconst dX5_has_23 ?_
      refine j_zret rfl rfl dX5_has_24 ⟨oIe ?_, rfl⟩
      (first | omega | (simp only [bI]; (repeat' split) <;> omega))
    · refine j_iload_n 1 dX5_has_12 rfl rfl ?_
      refine J_sipush dX5_has_13 (by decide) ?_
      refine J_icmp_ge 23 dX5_has_16 (by decide) (fun c16 => ?_) (fun c16 => ?_) 
      · refine J_iconst dX5_has_23 ?_
        refine j_zret rfl rfl dX5_has_24 ⟨oIe ?_, rfl⟩
        (first | omega | (simp only [bI]; (repeat' split) <;> omega))
      · refine J_iconst dX5_has_19 ?_
        refine j_goto 24 dX5_has_20 (by decide) ?_
        refine j_zret rfl rfl dX5_has_24 ⟨oIe ?_, rfl⟩
        (first | omega | (simp only [bI]; (repeat' split) <;> omega))
set_option maxRecDepth 100000 in
theorem c_X5_eventAt {l : Launch} {G : jG} {h : jH} {a : Nat} {q : Nat → Nat} {p : OS}{s : Int} (hP : AtX5 G h a q p) (hn : mN p) (hs : rg s) : jC l G yX5_eventAt mX5_eventAt [.ref a, vI s] h (jE (oI (if inM p s then p.2 0 s else -1)) h) := by
  refine j_body (by decide +kernel) ⟨rfl, rfl⟩ rfl ?_
  have hn2 : 0 ≤ p.1 9 ∧ p.1 9 ≤ 128 := hn
  refine j_aload_n 0 dX5_eventAt_0 rfl rfl ?_
  refine j_iload_n 1 dX5_eventAt_1 rfl rfl ?_
  refine J_callVZ kX5_47 cvX5_has hP.1 (c_X5_has hP hn hs) rfl rfl rfl rfl rfl dX5_eventAt_2 rfl rfl (fun z2 => ?_) (fun z2 => ?_)
  · refine J_if_eq 17 dX5_eventAt_5 (by decide) (fun c5 => absurd c5 (by decide)) (fun c5 => ?_) 
    refine j_aload_n 0 dX5_eventAt_8 rfl rfl ?_
    refine j_get fX5_9 dX5_eventAt_9 hP.1 rfl ?_
    refine j_iload_n 1 dX5_eventAt_12 rfl rfl ?_
    refine J_iald dX5_eventAt_13 (hP.2.1 0 rfl) ?_ 
    refine j_goto 18 dX5_eventAt_14 (by decide) ?_
    refine j_iret rfl dX5_eventAt_18 ⟨oIe ?_, rfl⟩
    (first | omega | (simp only [bI]; (repeat' split) <;> omega))
  · refine J_if_eq 17 dX5_eventAt_5 (by decide) (fun c5 => ?_) (fun c5 => absurd c5 (by decide)) 
    refine J_iconst dX5_eventAt_17 ?_
    refine j_iret rfl dX5_eventAt_18 ⟨oIe ?_, rfl⟩
    (first | omega | (simp only [bI]; (repeat' split) <;> omega))
set_option maxRecDepth 100000 in
theorem c_X5_lengthAt {l : Launch} {G : jG} {h : jH} {a : Nat} {q : Nat → Nat} {p : OS}{s : Int} (hP : AtX5 G h a q p) (hn : mN p) (hs : rg s) : jC l G yX5_lengthAt mX5_lengthAt [.ref a, vI s] h (jE (oI (if inM p s then p.2 2 s else 0)) h) := by
  refine j_body (by decide +kernel) ⟨rfl, rfl⟩ rfl ?_
  have hn2 : 0 ≤ p.1 9 ∧ p.1 9 ≤ 128 := hn
  refine j_aload_n 0 dX5_lengthAt_0 rfl rfl ?_
  refine j_iload_n 1 dX5_lengthAt_1 rfl rfl ?_
  refine J_callVZ kX5_47 cvX5_has hP.1 (c_X5_has hP hn hs) rfl rfl rfl rfl rfl dX5_lengthAt_2 rfl rfl (fun z2 => ?_) (fun z2 => ?_)
  · refine J_if_eq 17 dX5_lengthAt_5 (by decide) (fun c5 => absurd c5 (by decide)) (fun c5 => ?_) 
    refine j_aload_n 0 dX5_lengthAt_8 rfl rfl ?_
    refine j_get fX5_18 dX5_lengthAt_9 hP.1 rfl ?_
    refine j_iload_n 1 dX5_lengthAt_12 rfl rfl ?_
    refine J_iald dX5_lengthAt_13 (hP.2.1 2 rfl) ?_ 
    refine j_goto 18 dX5_lengthAt_14 (by decide) ?_
    refine j_iret rfl dX5_lengthAt_18 ⟨oIe ?_, rfl⟩
    (first | omega | (simp only [bI]; (repeat' split) <;> omega))
  · refine J_if_eq 17 dX5_lengthAt_5 (by decide) (fun c5 => ?_) (fun c5 => absurd c5 (by decide)) 
    refine J_iconst dX5_lengthAt_17 ?_
    refine j_iret rfl dX5_lengthAt_18 ⟨oIe ?_, rfl⟩
    (first | omega | (simp only [bI]; (repeat' split) <;> omega))
set_option maxRecDepth 100000 in
theorem c_X5_shownAt {l : Launch} {G : jG} {h : jH} {a : Nat} {q : Nat → Nat} {p : OS}{s : Int} (hP : AtX5 G h a q p) (hn : mN p) (hs : rg s) : jC l G yX5_shownAt mX5_shownAt [.ref a, vI s] h (jE (oI (if inM p s then p.2 5 s else -3)) h) := by
  refine j_body (by decide +kernel) ⟨rfl, rfl⟩ rfl ?_
  have hn2 : 0 ≤ p.1 9 ∧ p.1 9 ≤ 128 := hn
  refine j_aload_n 0 dX5_shownAt_0 rfl rfl ?_
  refine j_iload_n 1 dX5_shownAt_1 rfl rfl ?_
  refine J_callVZ kX5_47 cvX5_has hP.1 (c_X5_has hP hn hs) rfl rfl rfl rfl rfl dX5_shownAt_2 rfl rfl (fun z2 => ?_) (fun z2 => ?_)
  · refine J_if_eq 17 dX5_shownAt_5 (by decide) (fun c5 => absurd c5 (by decide)) (fun c5 => ?_) 
    refine j_aload_n 0 dX5_shownAt_8 rfl rfl ?_
    refine j_get fX5_28 dX5_shownAt_9 hP.1 rfl ?_
    refine j_iload_n 1 dX5_shownAt_12 rfl rfl ?_
    refine J_iald dX5_shownAt_13 (hP.2.1 5 rfl) ?_ 
    refine j_goto 19 dX5_shownAt_14 (by decide) ?_
    refine j_iret rfl dX5_shownAt_19 ⟨oIe ?_, rfl⟩
    (first | omega | (simp only [bI]; (repeat' split) <;> omega))
  · refine J_if_eq 17 dX5_shownAt_5 (by decide) (fun c5 => ?_) (fun c5 => absurd c5 (by decide)) 
    refine J_bipush dX5_shownAt_17 (by decide) ?_
    refine j_iret rfl dX5_shownAt_19 ⟨oIe ?_, rfl⟩
    (first | omega | (simp only [bI]; (repeat' split) <;> omega))
set_option maxRecDepth 100000 in
theorem c_X5_shownAsWrittenAt {l : Launch} {G : jG} {h : jH} {a : Nat} {q : Nat → Nat} {p : OS}{s : Int} (hP : AtX5 G h a q p) (hn : mN p) (hs : rg s) : jC l G yX5_shownAsWrittenAt mX5_shownAsWrittenAt [.ref a, vI s] h (jE (oI (if inM p s then p.2 6 s else -3)) h) := by
  refine j_body (by decide +kernel) ⟨rfl, rfl⟩ rfl ?_
  have hn2 : 0 ≤ p.1 9 ∧ p.1 9 ≤ 128 := hn
  refine j_aload_n 0 dX5_shownAsWrittenAt_0 rfl rfl ?_
  refine j_iload_n 1 dX5_shownAsWrittenAt_1 rfl rfl ?_
  refine J_callVZ kX5_47 cvX5_has hP.1 (c_X5_has hP hn hs) rfl rfl rfl rfl rfl dX5_shownAsWrittenAt_2 rfl rfl (fun z2 => ?_) (fun z2 => ?_)
  · refine J_if_eq 17 dX5_shownAsWrittenAt_5 (by decide) (fun c5 => absurd c5 (by decide)) (fun c5 => ?_) 
    refine j_aload_n 0 dX5_shownAsWrittenAt_8 rfl rfl ?_
    refine j_get fX5_31 dX5_shownAsWrittenAt_9 hP.1 rfl ?_
    refine j_iload_n 1 dX5_shownAsWrittenAt_12 rfl rfl ?_
    refine J_iald dX5_shownAsWrittenAt_13 (hP.2.1 6 rfl) ?_ 
    refine j_goto 19 dX5_shownAsWrittenAt_14 (by decide) ?_
    refine j_iret rfl dX5_shownAsWrittenAt_19 ⟨oIe ?_, rfl⟩
    (first | omega | (simp only [bI]; (repeat' split) <;> omega))
  · refine J_if_eq 17 dX5_shownAsWrittenAt_5 (by decide) (fun c5 => ?_) (fun c5 => absurd c5 (by decide)) 
    refine J_bipush dX5_shownAsWrittenAt_17 (by decide) ?_
    refine j_iret rfl dX5_shownAsWrittenAt_19 ⟨oIe ?_, rfl⟩
    (first | omega | (simp only [bI]; (repeat' split) <;> omega))
set_option maxRecDepth 100000 in
theorem c_X5_beamAt {l : Launch} {G : jG} {h : jH} {a : Nat} {q : Nat → Nat} {p : OS}{s : Int} (hP : AtX5 G h a q p) (hn : mN p) (hs : rg s) : jC l G yX5_beamAt mX5_beamAt [.ref a, vI s] h (jE (oI (if inM p s then p.2 7 s else -1)) h) := by
  refine j_body (by decide +kernel) ⟨rfl, rfl⟩ rfl ?_
  have hn2 : 0 ≤ p.1 9 ∧ p.1 9 ≤ 128 := hn
  refine j_aload_n 0 dX5_beamAt_0 rfl rfl ?_
  refine j_iload_n 1 dX5_beamAt_1 rfl rfl ?_
  refine J_callVZ kX5_47 cvX5_has hP.1 (c_X5_has hP hn hs) rfl rfl rfl rfl rfl dX5_beamAt_2 rfl rfl (fun z2 => ?_) (fun z2 => ?_)
  · refine J_if_eq 17 dX5_beamAt_5 (by decide) (fun c5 => absurd c5 (by decide)) (fun c5 => ?_) 
    refine j_aload_n 0 dX5_beamAt_8 rfl rfl ?_
    refine j_get fX5_34 dX5_beamAt_9 hP.1 rfl ?_
    refine j_iload_n 1 dX5_beamAt_12 rfl rfl ?_
    refine J_iald dX5_beamAt_13 (hP.2.1 7 rfl) ?_ 
    refine j_goto 18 dX5_beamAt_14 (by decide) ?_
    refine j_iret rfl dX5_beamAt_18 ⟨oIe ?_, rfl⟩
    (first | omega | (simp only [bI]; (repeat' split) <;> omega))
  · refine J_if_eq 17 dX5_beamAt_5 (by decide) (fun c5 => ?_) (fun c5 => absurd c5 (by decide)) 
    refine J_iconst dX5_beamAt_17 ?_
    refine j_iret rfl dX5_beamAt_18 ⟨oIe ?_, rfl⟩
    (first | omega | (simp only [bI]; (repeat' split) <;> omega))
set_option maxRecDepth 100000 in
theorem c_X5_tiedAt {l : Launch} {G : jG} {h : jH} {a : Nat} {q : Nat → Nat} {p : OS}{s : Int} (hP : AtX5 G h a q p) (hn : mN p) (hs : rg s) (hz : inM p s → p.2 4 s = 0 ∨ p.2 4 s = 1) : jC l G yX5_tiedAt mX5_tiedAt [.ref a, vI s] h (jE (oI (bI (inM p s ∧ p.2 4 s ≠ 0))) h) := by
  refine j_body (by decide +kernel) ⟨rfl, rfl⟩ rfl ?_
  have hn2 : 0 ≤ p.1 9 ∧ p.1 9 ≤ 128 := hn
  refine j_aload_n 0 dX5_tiedAt_0 rfl rfl ?_
  refine j_iload_n 1 dX5_tiedAt_1 rfl rfl ?_
  refine J_callVZ kX5_47 cvX5_has hP.1 (c_X5_has hP hn hs) rfl rfl rfl rfl rfl dX5_tiedAt_2 rfl rfl (fun z2 => ?_) (fun z2 => ?_)
  · refine J_if_eq 21 dX5_tiedAt_5 (by decide) (fun c5 => absurd c5 (by decide)) (fun c5 => ?_) 
    refine j_aload_n 0 dX5_tiedAt_8 rfl rfl ?_
    refine j_get fX5_25 dX5_tiedAt_9 hP.1 rfl ?_
    refine j_iload_n 1 dX5_tiedAt_12 rfl rfl ?_
    refine J_zald dX5_tiedAt_13 (hP.2.1 4 rfl) ?_ 
    have hz1 := hz z2
    refine J_if_eq 21 dX5_tiedAt_14 (by decide) (fun c14 => ?_) (fun c14 => ?_) 
    · refine J_iconst dX5_tiedAt_21 ?_
      refine j_zret rfl rfl dX5_tiedAt_22 ⟨oIe ?_, rfl⟩
      (first | omega | (simp only [bI]; (repeat' split) <;> omega))
    · refine J_iconst dX5_tiedAt_17 ?_
      refine j_goto 22 dX5_tiedAt_18 (by decide) ?_
      refine j_zret rfl rfl dX5_tiedAt_22 ⟨oIe ?_, rfl⟩
      (first | omega | (simp only [bI]; (repeat' split) <;> omega))
  · refine J_if_eq 21 dX5_tiedAt_5 (by decide) (fun c5 => ?_) (fun c5 => absurd c5 (by decide)) 
    refine J_iconst dX5_tiedAt_21 ?_
    refine j_zret rfl rfl dX5_tiedAt_22 ⟨oIe ?_, rfl⟩
    (first | omega | (simp only [bI]; (repeat' split) <;> omega))
