def laN (P : Nat → OS) : Nat → Int
  | 0 => 0
  | k + 1 => max (laN P k) ((P k).1 8)
theorem laN_rg {P : Nat → OS} (hs : scoOK P) : ∀ k : Nat, k ≤ 4 → 0 ≤ laN P k ∧ laN P k ≤ 20000
  | 0, _ => by show 0 ≤ (0 : Int) ∧ (0 : Int) ≤ 20000; omega
  | k + 1, hk => by
    have ih := laN_rg hs k (by omega)
    have h8 := (hs k (by omega)).2.2.1.1
    unfold laN
    omega
set_option maxRecDepth 100000 in
theorem c_X11_barsNow {l : Launch} {G : jG} {h : jH} {a : Nat} {d : MD} {mp P : Nat → OS} {p p0 : OS} {Z : Nat → Nat} (hM : Mod G h a d mp p) (hZ : Mz a d Z) (hI : MI d P p0 mp p.2) : jC l G yX11_barsNow mX11_barsNow [.ref a] h (jE (oI (barsA P p0)) h) := by
  have hs := hI.1.1
  have hP := hM.1
  obtain ⟨Fa, hpa, hFa⟩ := hM.2.1
  have hbe := bars_eq (P := P) hI.1.2.2
  have hla : laN P 4 = lastE P := rfl
  have hlr := laN_rg hs 4 (by omega)
  have loop : ∀ (n j : Nat), j + n = 4 → J l G mX11_barsNow (jQ G mX11_barsNow (jE (oI (barsA P p0)) h)) 0 0 13 [(4, vI (j : Int)), (3, vI (4 : Nat)), (2, .ref (d.q 1)), (1, vI (laN P j)), (0, .ref a)] [] h := by
    intro n
    induction n with
    | zero =>
      intro j hj
      obtain rfl : j = 4 := by omega
      have hbr := barF_rg (p0.2 2) (lastE P - 1) 24 (by omega)
      refine j_iload dX11_barsNow_13 rfl ?_
      refine j_iload_n 3 dX11_barsNow_15 rfl rfl ?_
      refine J_icmp_ge 41 dX11_barsNow_16 (by decide) (fun c16 => ?_) (fun c16 => absurd c16 (by omega)) 
      rw [hla]
      refine j_iload_n 1 dX11_barsNow_41 rfl rfl ?_
      refine J_if_ne 47 dX11_barsNow_42 (by decide) (fun c42 => ?_) (fun c42 => ?_) 
      · refine j_aload_n 0 dX11_barsNow_47 rfl rfl ?_
        refine j_iload_n 1 dX11_barsNow_48 rfl rfl ?_
        refine J_iconst dX11_barsNow_49 ?_
        refine J_isub dX11_barsNow_50 ?_
        refine J_callV1 kX11_175 cvX11_barAt hP.1 (c_X11_barAt hM hZ hI (by omega)) rfl rfl rfl rfl rfl dX11_barsNow_51 rfl rfl ?_
        refine j_istore_n 2 (L' := [(2, _), (4, _), (3, _), (1, _), (0, _)]) dX11_barsNow_54 rfl rfl rfl ?_
        refine j_iload_n 2 dX11_barsNow_55 rfl rfl ?_
        refine J_iconst dX11_barsNow_56 ?_
        refine J_icmp_ne 65 dX11_barsNow_57 (by decide) (fun c57 => ?_) (fun c57 => ?_) 
        · refine j_iload_n 2 dX11_barsNow_65 rfl rfl ?_
          refine J_iconst dX11_barsNow_66 ?_
          refine J_iadd dX11_barsNow_67 ?_
          refine j_iret rfl dX11_barsNow_68 ⟨oIe ?_, rfl⟩
          (rw [← hbe]; first | (rw [if_pos c42]) | (rw [if_neg c42, if_pos c57]) | (rw [if_neg c42, if_neg c57]))
        · refine J_bipush dX11_barsNow_60 (by decide) ?_
          refine j_goto 68 dX11_barsNow_62 (by decide) ?_
          refine j_iret rfl dX11_barsNow_68 ⟨oIe ?_, rfl⟩
          (rw [← hbe]; first | (rw [if_pos c42]) | (rw [if_neg c42, if_pos c57]) | (rw [if_neg c42, if_neg c57]))
      · refine J_iconst dX11_barsNow_45 ?_
        refine j_iret rfl dX11_barsNow_46 ⟨oIe ?_, rfl⟩
        (rw [← hbe]; first | (rw [if_pos c42]) | (rw [if_neg c42, if_pos c57]) | (rw [if_neg c42, if_neg c57]))
    | succ n ih =>
      intro j hj
      have hj4 : j < 4 := by omega
      have hPk := hM.2.2 j hj4
      have hmk := hI.2.1 j hj4
      have hpk := hs j hj4
      have hlj := laN_rg hs j (by omega)
      have h8 := hpk.2.2.1.1
      refine j_iload dX11_barsNow_13 rfl ?_
      refine j_iload_n 3 dX11_barsNow_15 rfl rfl ?_
      refine J_icmp_ge 41 dX11_barsNow_16 (by decide) (fun c16 => absurd c16 (by omega)) (fun c16 => ?_) 
      refine j_aload_n 2 dX11_barsNow_19 rfl rfl ?_
      refine j_iload dX11_barsNow_20 rfl ?_
      refine J_qaldM dX11_barsNow_22 hpa (by rw [Int.toNat_natCast]; exact hFa j hj4) ?_ 
      refine j_astore (L' := [(5, _), (4, _), (3, _), (2, _), (1, _), (0, _)]) dX11_barsNow_23 rfl rfl ?_
      refine j_iload_n 1 dX11_barsNow_25 rfl rfl ?_
      refine j_aload dX11_barsNow_26 rfl ?_
      refine J_callV1 kX11_109 cvX10_end hPk.1 (c_X10_end hPk hmk hpk) rfl rfl rfl rfl rfl dX11_barsNow_28 rfl rfl ?_
      refine J_mmax kX11_205 rfl rfl dX11_barsNow_31 ?_ 
      refine j_istore_n 1 (L' := [(1, _), (5, _), (4, _), (3, _), (2, _), (0, _)]) dX11_barsNow_34 rfl rfl rfl ?_
      refine J_iinc (L' := [(4, _), (1, _), (5, _), (3, _), (2, _), (0, _)]) dX11_barsNow_35 rfl rfl rfl ?_
      refine j_goto 13 dX11_barsNow_38 (by decide) ?_
      exact j_locR (ih (j + 1) (by omega)) (by repeat' (first | exact True.intro | refine And.intro rfl ?_))
  refine j_body (by decide +kernel) ⟨rfl, rfl⟩ rfl ?_
  refine J_iconst dX11_barsNow_0 ?_
  refine j_istore_n 1 (L' := [(1, _), (0, _)]) dX11_barsNow_1 rfl rfl rfl ?_
  refine j_aload_n 0 dX11_barsNow_2 rfl rfl ?_
  refine j_get fX11_24 dX11_barsNow_3 hP.1 rfl ?_
  refine j_astore_n 2 (L' := [(2, _), (1, _), (0, _)]) dX11_barsNow_6 rfl rfl rfl ?_
  refine j_aload_n 2 dX11_barsNow_7 rfl rfl ?_
  refine J_alenq 4 dX11_barsNow_8 hpa rfl ?_
  refine j_istore_n 3 (L' := [(3, _), (2, _), (1, _), (0, _)]) dX11_barsNow_9 rfl rfl rfl ?_
  refine J_iconst dX11_barsNow_10 ?_
  refine j_istore (L' := [(4, _), (3, _), (2, _), (1, _), (0, _)]) dX11_barsNow_11 rfl rfl ?_
  exact j_locR (loop 4 0 (by omega)) (by repeat' (first | exact True.intro | refine And.intro rfl ?_))
/-- t is what is next among the parts that were looked at, and the first i events of part k -/
def thI (P : Nat → OS) (l e : Int) (k : Nat) (i t : Int) : Prop := (l < t ∧ t ≤ e) ∧ (t = e ∨ ∃ k : Nat, k < 4 ∧ ∃ i : Int, inP (P k) i ∧ (P k).2 3 i = t) ∧ (∀ k' : Nat, k' < 4 → k' < k → ∀ i' : Int, inP (P k') i' → l < (P k').2 3 i' → t ≤ (P k').2 3 i') ∧ ∀ i' : Int, 0 ≤ i' → i' < i → i' < (P k).1 7 → l < (P k).2 3 i' → t ≤ (P k).2 3 i'
theorem thI.next {P : Nat → OS} {l e t : Int} {k : Nat} {i : Int} (h : thI P l e k i t) (hd : ∀ i' : Int, i ≤ i' → i' < (P k).1 7 → l < (P k).2 3 i' → t ≤ (P k).2 3 i') : thI P l e (k + 1) 0 t :=
  ⟨h.1, h.2.1, fun k' h4 hk i' hi hl => by
    by_cases c : k' = k
    · subst c
      by_cases d : i' < i
      · exact h.2.2.2 i' hi.1 d hi.2 hl
      · exact hd i' (by omega) hi.2 hl
    · exact h.2.2.1 k' h4 (by omega) i' hi hl, fun i' a b => absurd b (by omega)⟩
theorem thI.low {P : Nat → OS} {l e t : Int} {k : Nat} {i : Int} (h : thI P l e k i t) (hl : ¬ l < (P k).2 3 i) : thI P l e k (i + 1) t :=
  ⟨h.1, h.2.1, h.2.2.1, fun i' a b c d => by
    by_cases e : i' = i
    · subst e; exact absurd d hl
    · exact h.2.2.2 i' a (by omega) c d⟩
theorem thI.take {P : Nat → OS} {l e t : Int} {k : Nat} {i : Int} (h : thI P l e k i t) (hk : k < 4) (hi : inP (P k) i) (hl : l < (P k).2 3 i) (ht : (P k).2 3 i < t) : thI P l e k (i + 1) ((P k).2 3 i) :=
  ⟨⟨hl, by have := h.1.2; omega⟩, Or.inr ⟨k, hk, i, hi, rfl⟩, fun k' h4 hk2 i' hi2 hl2 => by have := h.2.2.1 k' h4 hk2 i' hi2 hl2; omega, fun i' a b c d => by
    by_cases e : i' = i
    · subst e; exact Int.le_refl _
    · have := h.2.2.2 i' a (by omega) c d
      omega⟩
theorem partOK.bmono {p : OS} (h : partOK p) {i j : Int} (h0 : 0 ≤ i) (hij : i ≤ j) (hj : j < p.1 7) : p.2 3 i ≤ p.2 3 j := by
  rw [h.beg i h0 (by omega), h.beg j (by omega) hj]
  exact sumN_mono (n := p.1 7) (fun k a b => by have := isVal_rg (h.2.2.2.2.2.1 k a b); omega) _ _ (by omega) (by omega)
set_option maxRecDepth 100000 in
theorem c_X11_width {l : Launch} {G : jG} {h : jH} {a : Nat} {d : MD} {mp P : Nat → OS} {p p0 : OS} {Z : Nat → Nat} {b : Int} (hM : Mod G h a d mp p) (hZ : Mz a d Z) (hI : MI d P p0 mp p.2) (hb : isBar b) : jC l G yX11_width mX11_width [.ref a, vI b] h (jE (oI (widF P p0 b)) h) := by
  have hs := hI.1.1
  have hP := hM.1
  obtain ⟨Fa, hpa, hFa⟩ := hM.2.1
  obtain ⟨b0, b1⟩ := hb
  have hb : isBar b := ⟨b0, b1⟩
  obtain ⟨g1, g2, g3, g4, g5, g6, g7, g8⟩ := hI.len hb
  have hss := hI.sum (n := b.toNat) (by omega)
  obtain ⟨m0, hR0, hw0⟩ := wd_init hs hI.1.2.2.1 hb
  obtain ⟨fr, hfr⟩ : ∃ fr, fr = (sumN (p0.2 2) b.toNat) := ⟨_, rfl⟩
  obtain ⟨to, hto⟩ : ∃ to, to = fr + p0.2 2 b := ⟨_, rfl⟩
  rw [← hfr] at hR0 hw0
  rw [← hto] at hw0
  have hB : 3 ≤ msrB (p0.2 3) b ∧ msrB (p0.2 3) b ≤ 5 := by
    unfold msrB
    rw [Int.tdiv_eq_ediv_of_nonneg (by omega)]
    omega
  have outer : ∀ (n : Nat) (uu w : Int), to - uu ≤ n → fr ≤ uu → (0 ≤ w ∧ w ≤ 5 + 2 * (uu - fr)) → ((uu = to ∧ w = widF P p0 b) ∨ (uu < to ∧ ∃ m : Nat, MR P m uu ∧ widF P p0 b = wdR P to m w uu)) → J l G mX11_width (jQ G mX11_width (jE (oI (widF P p0 b)) h)) 0 0 34 [(5, vI uu), (4, vI w), (3, vI to), (2, vI fr), (1, vI b), (0, .ref a)] [] h := by
    intro n
    induction n with
    | zero =>
      intro uu w hn hf hw hst
      have hst2 : w = widF P p0 b := by
        rcases hst with z | z
        · exact z.2
        · have := z.1; omega
      refine j_iload dX11_width_34 rfl ?_
      refine j_iload_n 3 dX11_width_36 rfl rfl ?_
      refine J_icmp_ge 170 dX11_width_37 (by decide) (fun c37 => ?_) (fun c37 => absurd c37 (by omega)) 
      refine j_iload dX11_width_170 rfl ?_
      refine j_iret rfl dX11_width_172 ⟨oIe ?_, rfl⟩
      exact hst2
    | succ n ih =>
      intro uu w hn hf hw hst
      -- what is next has been found
      have found : uu < to → ∀ t : Int, thC P uu to t → (∃ m : Nat, MR P m uu ∧ widF P p0 b = wdR P to m w uu) → J l G mX11_width (jQ G mX11_width (jE (oI (widF P p0 b)) h)) 0 0 132 [(6, vI t), (5, vI uu), (4, vI w), (3, vI to), (2, vI fr), (1, vI b), (0, .ref a)] [] h := by
        intro hlt t ht hex
        obtain ⟨m, hR, hwd⟩ := hex
        obtain ⟨g, hg⟩ : ∃ g : Nat, t - uu = g := ⟨(t - uu).toNat, by have := ht.1.1; omega⟩
        have hg1 : 1 ≤ g ∧ g ≤ 400 := by have := ht.1; omega
        have hgw : gapW (t - uu) = 2 + (g.log2 : Int) := by unfold gapW; rw [hg, Int.toNat_natCast]
        have hgl := gapW_le (g := t - uu) (by omega)
        have hnx := wd_next hs hI.1.2.1 (w := w) hR ht
        have pow : ∀ (n2 j : Nat), j + n2 = 12 → 2 ^ j ≤ g → J l G mX11_width (jQ G mX11_width (jE (oI (widF P p0 b)) h)) 0 0 135 [(7, vI (j : Int)), (6, vI t), (5, vI uu), (4, vI w), (3, vI to), (2, vI fr), (1, vI b), (0, .ref a)] [] h := by
          intro n2
          induction n2 with
          | zero =>
            intro j hj h2
            exfalso
            obtain rfl : j = 12 := by omega
            have : 2 ^ 12 = 4096 := by decide
            omega
          | succ n2 ih2 =>
            intro j hj h2
            have e1 : ((j : Int) + 1) = ((j + 1 : Nat) : Int) := rfl
            refine j_iload dX11_width_135 rfl ?_
            refine j_iload dX11_width_137 rfl ?_
            refine J_isub dX11_width_139 ?_
            refine J_top ((g : Int)) ?_ (by exact hg)
            refine j_iload dX11_width_140 rfl ?_
            refine J_iconst dX11_width_142 ?_
            refine J_iadd dX11_width_143 ?_
            refine J_top (((j + 1 : Nat) : Int)) ?_ (by rfl)
            refine J_shr dX11_width_144 (x := j + 1) (m := g) (by omega) (by omega) ?_
            have hq0 : 0 ≤ ((g / 2 ^ (j + 1) : Nat) : Int) := Int.natCast_nonneg _
            have hq1 := Nat.div_le_self g (2 ^ (j + 1))
            refine J_if_le 154 dX11_width_145 (by decide) (fun c145 => ?_) (fun c145 => ?_) 
            · refine j_iload dX11_width_154 rfl ?_
              refine J_iconst dX11_width_156 ?_
              refine j_iload dX11_width_157 rfl ?_
              refine J_iadd dX11_width_159 ?_
              refine J_iadd dX11_width_160 ?_
              refine j_istore (L' := [(4, _), (7, _), (6, _), (5, _), (3, _), (2, _), (1, _), (0, _)]) dX11_width_161 rfl rfl ?_
              refine j_iload dX11_width_163 rfl ?_
              refine j_istore (L' := [(5, _), (4, _), (7, _), (6, _), (3, _), (2, _), (1, _), (0, _)]) dX11_width_165 rfl rfl ?_
              refine j_goto 34 dX11_width_167 (by decide) ?_
              have hlog : (g.log2 : Int) = j := by
                rw [(Nat.log2_eq_iff (by omega)).2 ⟨h2, Nat.lt_of_div_eq_zero (Nat.two_pow_pos (j + 1)) (by omega)⟩]
              have hv : w + (2 + (j : Int)) = w + gapW (t - uu) := by rw [hgw, hlog]
              rw [hv]
              refine j_locR (ih t (w + gapW (t - uu)) (by have := ht.1.1; omega) (by have := ht.1.1; omega) ⟨by omega, by omega⟩ ?_) (by repeat' (first | exact True.intro | refine And.intro rfl ?_))
              rcases hnx with ⟨q1, q2⟩ | ⟨q1, q2, q3, q4⟩
              · exact Or.inl ⟨q1, by rw [hwd, q2, q1]⟩
              · exact Or.inr ⟨q1, q2, q3, by rw [hwd, q4]⟩
            · refine J_iinc (L' := [(7, _), (6, _), (5, _), (4, _), (3, _), (2, _), (1, _), (0, _)]) dX11_width_148 rfl rfl rfl ?_
              refine j_goto 135 dX11_width_151 (by decide) ?_
              have h3 : 2 ^ (j + 1) ≤ g := (Nat.one_le_div_iff (Nat.two_pow_pos (j + 1))).mp (by omega)
              exact j_locR (ih2 (j + 1) (by omega) h3) (by repeat' (first | exact True.intro | refine And.intro rfl ?_))
        refine J_iconst dX11_width_132 ?_
        refine j_istore (L' := [(7, _), (6, _), (5, _), (4, _), (3, _), (2, _), (1, _), (0, _)]) dX11_width_133 rfl rfl ?_
        exact j_locR (pow 12 0 (by omega) (by show 2 ^ 0 ≤ g; omega)) (by repeat' (first | exact True.intro | refine And.intro rfl ?_))
      have parts : uu < to → (∃ m : Nat, MR P m uu ∧ widF P p0 b = wdR P to m w uu) → ∀ (n2 j : Nat) (t : Int), j + n2 = 4 → thI P uu to j 0 t → J l G mX11_width (jQ G mX11_width (jE (oI (widF P p0 b)) h)) 0 0 57 [(9, vI (j : Int)), (8, vI (4 : Nat)), (7, .ref (d.q 1)), (6, vI t), (5, vI uu), (4, vI w), (3, vI to), (2, vI fr), (1, vI b), (0, .ref a)] [] h := by
        intro hlt hex n2
        induction n2 with
        | zero =>
          intro j t hj ht
          obtain rfl : j = 4 := by omega
          refine j_iload dX11_width_57 rfl ?_
          refine j_iload dX11_width_59 rfl ?_
          refine J_icmp_ge 132 dX11_width_61 (by decide) (fun c61 => ?_) (fun c61 => absurd c61 (by omega)) 
          exact j_locR (found hlt t ⟨ht.1, ht.2.1, fun k' h4 i' hi hl => ht.2.2.1 k' h4 h4 i' hi hl⟩ hex) (by repeat' (first | exact True.intro | refine And.intro rfl ?_))
        | succ n2 ih2 =>
          intro j t hj ht
          have hj4 : j < 4 := by omega
          have hPk := hM.2.2 j hj4
          have hmk := hI.2.1 j hj4
          have hpk := hs j hj4
          have hn7 : 0 ≤ (P j).1 7 ∧ (P j).1 7 ≤ 512 := hpk.1
          have hen := hmk.2.2.1
          have hez := hmk.2.2.2
          have evs : ∀ (n3 : Nat) (i t : Int), i + n3 = (P j).1 7 → 0 ≤ i → thI P uu to j i t → J l G mX11_width (jQ G mX11_width (jE (oI (widF P p0 b)) h)) 0 0 74 [(11, vI i), (10, .ref (d.pad j)), (9, vI (j : Int)), (8, vI (4 : Nat)), (7, .ref (d.q 1)), (6, vI t), (5, vI uu), (4, vI w), (3, vI to), (2, vI fr), (1, vI b), (0, .ref a)] [] h := by
            intro n3
            induction n3 with
            | zero =>
              intro i t hi h0 ht
              refine j_iload dX11_width_74 rfl ?_
              refine j_aload dX11_width_76 rfl ?_
              refine j_getN fX11_99 dX11_width_78 hPk.1 rfl ?_
              refine J_top ((P j).1 7) ?_ (by exact hmk.1.1)
              refine J_icmp_ge 126 dX11_width_81 (by decide) (fun c81 => ?_) (fun c81 => absurd c81 (by omega)) 
              refine J_iinc (L' := [(9, _), (11, _), (10, _), (8, _), (7, _), (6, _), (5, _), (4, _), (3, _), (2, _), (1, _), (0, _)]) dX11_width_126 rfl rfl rfl ?_
              refine j_goto 57 dX11_width_129 (by decide) ?_
              exact j_locR (ih2 (j + 1) t (by omega) (ht.next (fun i' a c d => absurd c (by omega)))) (by repeat' (first | exact True.intro | refine And.intro rfl ?_))
            | succ n3 ih3 =>
              intro i t hi h0 ht
              have hin : inP (P j) i := ⟨h0, by omega⟩
              have hbg := (hmk.2.1 i h0 (by omega)).1
              have zb := (hpk.2.1 i h0 (by omega)).2.2.2.1
              have ht1 := ht.1
              refine j_iload dX11_width_74 rfl ?_
              refine j_aload dX11_width_76 rfl ?_
              refine j_getN fX11_99 dX11_width_78 hPk.1 rfl ?_
              refine J_top ((P j).1 7) ?_ (by exact hmk.1.1)
              refine J_icmp_ge 126 dX11_width_81 (by decide) (fun c81 => absurd c81 (by omega)) (fun c81 => ?_) 
              refine j_aload dX11_width_84 rfl ?_
              refine j_getN fX11_170 dX11_width_86 hPk.1 rfl ?_
              refine j_iload dX11_width_89 rfl ?_
              refine J_iald dX11_width_91 (hPk.2.1 1 rfl) ?_ 
              refine J_top ((P j).2 3 i) ?_ (by exact hbg)
              refine j_iload dX11_width_92 rfl ?_
              refine J_icmp_ge 126 dX11_width_94 (by decide) (fun c94 => ?_) (fun c94 => ?_) 
              · refine J_iinc (L' := [(9, _), (11, _), (10, _), (8, _), (7, _), (6, _), (5, _), (4, _), (3, _), (2, _), (1, _), (0, _)]) dX11_width_126 rfl rfl rfl ?_
                refine j_goto 57 dX11_width_129 (by decide) ?_
                exact j_locR (ih2 (j + 1) t (by omega) (ht.next (fun i' a c d => Int.le_trans c94 (hpk.bmono h0 a c)))) (by repeat' (first | exact True.intro | refine And.intro rfl ?_))
              · refine j_aload dX11_width_97 rfl ?_
                refine j_getN fX11_170 dX11_width_99 hPk.1 rfl ?_
                refine j_iload dX11_width_102 rfl ?_
                refine J_iald dX11_width_104 (hPk.2.1 1 rfl) ?_ 
                refine J_top ((P j).2 3 i) ?_ (by exact hbg)
                refine j_iload dX11_width_105 rfl ?_
                refine J_icmp_le 120 dX11_width_107 (by decide) (fun c107 => ?_) (fun c107 => ?_) 
                · refine J_iinc (L' := [(11, _), (10, _), (9, _), (8, _), (7, _), (6, _), (5, _), (4, _), (3, _), (2, _), (1, _), (0, _)]) dX11_width_120 rfl rfl rfl ?_
                  refine j_goto 74 dX11_width_123 (by decide) ?_
                  first
                  | exact j_locR (ih3 (i + 1) t (by omega) (by omega) (ht.low (Int.not_lt.mpr c107))) (by repeat' (first | exact True.intro | refine And.intro rfl ?_))
                  | exact j_locR (ih3 (i + 1) ((P j).2 3 i) (by omega) (by omega) (ht.take hj4 hin c107 c94)) (by repeat' (first | exact True.intro | refine And.intro rfl ?_))
                · refine j_aload dX11_width_110 rfl ?_
                  refine j_getN fX11_170 dX11_width_112 hPk.1 rfl ?_
                  refine j_iload dX11_width_115 rfl ?_
                  refine J_iald dX11_width_117 (hPk.2.1 1 rfl) ?_ 
                  refine J_top ((P j).2 3 i) ?_ (by exact hbg)
                  refine j_istore (L' := [(6, _), (11, _), (10, _), (9, _), (8, _), (7, _), (5, _), (4, _), (3, _), (2, _), (1, _), (0, _)]) dX11_width_118 rfl rfl ?_
                  refine J_iinc (L' := [(11, _), (6, _), (10, _), (9, _), (8, _), (7, _), (5, _), (4, _), (3, _), (2, _), (1, _), (0, _)]) dX11_width_120 rfl rfl rfl ?_
                  refine j_goto 74 dX11_width_123 (by decide) ?_
                  first
                  | exact j_locR (ih3 (i + 1) t (by omega) (by omega) (ht.low (Int.not_lt.mpr c107))) (by repeat' (first | exact True.intro | refine And.intro rfl ?_))
                  | exact j_locR (ih3 (i + 1) ((P j).2 3 i) (by omega) (by omega) (ht.take hj4 hin c107 c94)) (by repeat' (first | exact True.intro | refine And.intro rfl ?_))
          refine j_iload dX11_width_57 rfl ?_
          refine j_iload dX11_width_59 rfl ?_
          refine J_icmp_ge 132 dX11_width_61 (by decide) (fun c61 => absurd c61 (by omega)) (fun c61 => ?_) 
          refine j_aload dX11_width_64 rfl ?_
          refine j_iload dX11_width_66 rfl ?_
          refine J_qaldM dX11_width_68 hpa (by rw [Int.toNat_natCast]; exact hFa j hj4) ?_ 
          refine j_astore (L' := [(10, _), (9, _), (8, _), (7, _), (6, _), (5, _), (4, _), (3, _), (2, _), (1, _), (0, _)]) dX11_width_69 rfl rfl ?_
          refine J_iconst dX11_width_71 ?_
          refine j_istore (L' := [(11, _), (10, _), (9, _), (8, _), (7, _), (6, _), (5, _), (4, _), (3, _), (2, _), (1, _), (0, _)]) dX11_width_72 rfl rfl ?_
          exact j_locR (evs ((P j).1 7).toNat 0 t (by omega) (by omega) ht) (by repeat' (first | exact True.intro | refine And.intro rfl ?_))
      refine j_iload dX11_width_34 rfl ?_
      refine j_iload_n 3 dX11_width_36 rfl rfl ?_
      refine J_icmp_ge 170 dX11_width_37 (by decide) (fun c37 => ?_) (fun c37 => ?_) 
      · refine j_iload dX11_width_170 rfl ?_
        refine j_iret rfl dX11_width_172 ⟨oIe ?_, rfl⟩
        rcases hst with z | z
        · exact z.2
        · have := z.1; omega
      · refine j_iload_n 3 dX11_width_40 rfl rfl ?_
        refine j_istore (L' := [(6, _), (5, _), (4, _), (3, _), (2, _), (1, _), (0, _)]) dX11_width_41 rfl rfl ?_
        refine j_aload_n 0 dX11_width_43 rfl rfl ?_
        refine j_get fX11_24 dX11_width_44 hP.1 rfl ?_
        refine j_astore (L' := [(7, _), (6, _), (5, _), (4, _), (3, _), (2, _), (1, _), (0, _)]) dX11_width_47 rfl rfl ?_
        refine j_aload dX11_width_49 rfl ?_
        refine J_alenq 4 dX11_width_51 hpa rfl ?_
        refine j_istore (L' := [(8, _), (7, _), (6, _), (5, _), (4, _), (3, _), (2, _), (1, _), (0, _)]) dX11_width_52 rfl rfl ?_
        refine J_iconst dX11_width_54 ?_
        refine j_istore (L' := [(9, _), (8, _), (7, _), (6, _), (5, _), (4, _), (3, _), (2, _), (1, _), (0, _)]) dX11_width_55 rfl rfl ?_
        have hex : ∃ m : Nat, MR P m uu ∧ widF P p0 b = wdR P to m w uu := by
          rcases hst with z | z
          · have := z.1; omega
          · exact z.2
        exact j_locR (parts (by omega) hex 4 0 to (by omega) ⟨⟨by omega, Int.le_refl _⟩, Or.inl rfl, fun k' h4 hk => absurd hk (by omega), fun i' a c => absurd c (by omega)⟩) (by repeat' (first | exact True.intro | refine And.intro rfl ?_))
  refine j_body (by decide +kernel) ⟨rfl, rfl⟩ rfl ?_
  refine j_aload_n 0 dX11_width_0 rfl rfl ?_
  refine j_iload_n 1 dX11_width_1 rfl rfl ?_
  refine J_callV1 kX11_112 cvX11_begin hP.1 (c_X11_begin hM hZ hI ⟨by omega, by omega⟩) rfl rfl rfl rfl rfl dX11_width_2 rfl rfl ?_
  refine J_top (fr) ?_ (by exact hfr.symm)
  refine j_istore_n 2 (L' := [(2, _), (0, _), (1, _)]) dX11_width_5 rfl rfl rfl ?_
  refine j_iload_n 2 dX11_width_6 rfl rfl ?_
  refine j_aload_n 0 dX11_width_7 rfl rfl ?_
  refine j_iload_n 1 dX11_width_8 rfl rfl ?_
  refine J_callV1 kX11_105 cvX11_length hP.1 (c_X11_length hM hZ hI hb) rfl rfl rfl rfl rfl dX11_width_9 rfl rfl ?_
  refine J_iadd dX11_width_12 ?_
  refine J_top (to) ?_ (by exact hto.symm)
  refine j_istore_n 3 (L' := [(3, _), (2, _), (0, _), (1, _)]) dX11_width_13 rfl rfl rfl ?_
  refine J_iconst dX11_width_14 ?_
  refine j_aload_n 0 dX11_width_15 rfl rfl ?_
  refine j_get fX11_34 dX11_width_16 hP.1 rfl ?_
  refine j_iload_n 1 dX11_width_19 rfl rfl ?_
  refine J_iald dX11_width_20 (hP.2.1 4 rfl) ?_ 
  refine J_top (p0.2 3 b) ?_ (by exact g7)
  refine J_mabs kX11_190 rfl rfl dX11_width_21 ?_ 
  refine J_iconst dX11_width_24 ?_
  refine J_iadd dX11_width_25 ?_
  refine J_iconst dX11_width_26 ?_
  refine J_idiv dX11_width_27 ?_ 
  refine J_iadd dX11_width_28 ?_
  refine J_top (msrB (p0.2 3) b) ?_ (by rfl)
  refine j_istore (L' := [(4, _), (3, _), (2, _), (0, _), (1, _)]) dX11_width_29 rfl rfl ?_
  refine j_iload_n 2 dX11_width_31 rfl rfl ?_
  refine j_istore (L' := [(5, _), (4, _), (3, _), (2, _), (0, _), (1, _)]) dX11_width_32 rfl rfl ?_
  exact j_locR (outer (to - fr).toNat fr (msrB (p0.2 3) b) (by omega) (by omega) (by omega) (Or.inr ⟨by omega, m0, hR0, hw0⟩)) (by repeat' (first | exact True.intro | refine And.intro rfl ?_))
