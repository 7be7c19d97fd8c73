theorem oU_oU (p : OS) (k : Nat) (x y : Int) : oU (oU p k x) k y = oU p k y := by
  unfold oU
  congr 1
  funext j
  dsimp only
  split <;> rfl
theorem nl1 (p : OS) (F F' : Int → Int) (c : Int) : oA (oU (oA p 3 F) 4 c) 3 F' = oU (oA p 3 F') 4 c := congrArg (fun x => oU x 4 c) (oA_oA p 3 F F')
theorem nl2 (p : OS) (F F' : Int → Int) (c c' : Int) : oA (oU (oU (oA p 3 F) 4 c) 4 c') 3 F' = oU (oA p 3 F') 4 c' := by rw [oU_oU, nl1]
theorem numL_rg {nx : Int → Int} {s : Int} {F : Int → Int} (hx : ∀ i : Int, 0 ≤ i → i < s → rg (nx i)) : ∀ k : Nat, rg (numL nx s F k).2.1
  | 0 => by show rg 0; omega
  | k + 1 => by
    have ih := numL_rg (F := F) hx k
    rw [numL_s]
    show rg (if s ≤ k then _ else _ : Int × Int × (Int → Int)).2.1
    split
    · exact ih
    · split
      · exact hx k (by omega) (by omega)
      · exact ih
theorem dpP_n (p : OS) {s w : Int} (hw : 10 ≤ w ∧ w ≤ 400) (hW : wZ (p.2 0)) (hs : s ≤ 24) : ∀ k : Nat, (k : Int) ≤ s → ∀ i : Int, s - k ≤ i → i < s → i < (dpP p s w k).2 2 i ∧ (dpP p s w k).2 2 i ≤ s
  | 0, _ => fun i h1 h2 => by simp at h1; omega
  | k + 1, hk => by
    have ih := dpP_n p (w := w) hw hW hs k (by omega)
    have ic := dpP_c p (w := w) hw hW hs k (by omega)
    intro i h1 h2
    show i < upI ((dpP p s w k).2 2) (s - 1 - k) _ i ∧ upI ((dpP p s w k).2 2) (s - 1 - k) _ i ≤ _
    by_cases e : i = s - 1 - k
    · subst e
      rw [upI_s]
      have := chN_rg (W := (dpP p s w k).2 0) (C := (dpP p s w k).2 1) (first := s - 1 - k) (nx := (dpP p s w k).2 2 (s - 1 - k)) hw (by rw [dpP_w]; exact hW) (by rw [show s - 1 - (k : Int) + 1 = s - k by omega]; exact ic) (by omega) hs (s - (s - 1 - k)).toNat (by omega)
      have g := (this.2.2 (by omega)).2
      exact ⟨g.1, by omega⟩
    · rw [upI_n e]
      exact ih i (by omega) h2
set_option maxRecDepth 100000 in
theorem c_X4_numberLines {l : Launch} {G : jG} {h : jH} {a : Nat} {q : Nat → Nat} {p : OS} {s : Int} (hP : AtX4 G h a q p) (hs : 0 ≤ s ∧ s ≤ 24) (hx : ∀ i : Int, 0 ≤ i → i < s → rg (p.2 2 i)) : jC l G yX4_numberLines mX4_numberLines [.ref a, vI s] h (jW oN (fun h' => AtX4 G h' a q (numP p s) ∧ Fr (ft AX4 a q) h h')) := by
  have loop : ∀ (n k : Nat) (h2 : jH), k + n = 24 → AtX4 G h2 a q (oU (oA p 3 (numL (p.2 2) s (p.2 3) k).2.2) 4 (numL (p.2 2) s (p.2 3) k).1) → Fr (ft AX4 a q) h h2 → J l G mX4_numberLines (jQ G mX4_numberLines (jW oN (fun h' => AtX4 G h' a q (numP p s) ∧ Fr (ft AX4 a q) h h'))) 0 0 9 [(3, vI (k : Int)), (2, vI (numL (p.2 2) s (p.2 3) k).2.1), (0, .ref a), (1, vI s)] [] h2 := by
    intro n
    induction n with
    | zero =>
      intro k h2 hk hP hF
      obtain rfl : k = 24 := by omega
      refine j_iload_n 3 dX4_numberLines_9 rfl rfl ?_
      refine J_bipush dX4_numberLines_10 (by decide) ?_
      refine J_icmp_ge 70 dX4_numberLines_12 (by decide) (fun c12 => ?_) (fun c12 => absurd c12 (by omega)) 
      refine j_vret rfl dX4_numberLines_70 ?_
      exact ⟨rfl, hP, hF⟩
    | succ n ih =>
      intro k h2 hk hP hF
      have hr := numL_rg (F := p.2 3) hx k
      have hE := numL_s (p.2 2) s (p.2 3) k
      have back := ih (k + 1)
      rw [hE] at back
      obtain ⟨r, hrr⟩ : ∃ r, r = (numL (p.2 2) s (p.2 3) k) := ⟨_, rfl⟩
      rw [← hrr] at hr back hP ⊢
      have b1 : ∀ h3 r2, (if s ≤ k then (r.1, r.2.1, upI r.2.2 k (-1)) else if (k : Int) = r.2.1 then (r.1 + 1, p.2 2 k, upI r.2.2 k (r.1 + 1 - 1)) else (r.1, r.2.1, upI r.2.2 k (r.1 - 1))) = r2 → AtX4 G h3 a q (oU (oA p 3 r2.2.2) 4 r2.1) → Fr (ft AX4 a q) h h3 → J l G mX4_numberLines (jQ G mX4_numberLines (jW oN (fun h' => AtX4 G h' a q (numP p s) ∧ Fr (ft AX4 a q) h h'))) 0 0 9 [(3, vI ((k : Int) + 1)), (2, vI r2.2.1), (0, .ref a), (1, vI s)] [] h3 := by
        intro h3 r2 e g1 g2
        subst e
        exact back h3 (by omega) g1 g2
      refine j_iload_n 3 dX4_numberLines_9 rfl rfl ?_
      refine J_bipush dX4_numberLines_10 (by decide) ?_
      refine J_icmp_ge 70 dX4_numberLines_12 (by decide) (fun c12 => absurd c12 (by omega)) (fun c12 => ?_) 
      refine j_iload_n 3 dX4_numberLines_15 rfl rfl ?_
      refine j_iload_n 1 dX4_numberLines_16 rfl rfl ?_
      refine J_icmp_lt 30 dX4_numberLines_17 (by decide) (fun c17 => ?_) (fun c17 => ?_) 
      · refine j_iload_n 3 dX4_numberLines_30 rfl rfl ?_
        refine j_iload_n 2 dX4_numberLines_31 rfl rfl ?_
        refine J_icmp_ne 52 dX4_numberLines_32 (by decide) (fun c32 => ?_) (fun c32 => ?_) 
        · refine j_aload_n 0 dX4_numberLines_52 rfl rfl ?_
          refine j_get fX4_21 dX4_numberLines_53 hP.1 rfl ?_
          refine j_iload_n 3 dX4_numberLines_56 rfl rfl ?_
          refine j_aload_n 0 dX4_numberLines_57 rfl rfl ?_
          refine j_get fX4_24 dX4_numberLines_58 hP.1 rfl ?_
          refine J_iconst dX4_numberLines_61 ?_
          refine J_isub dX4_numberLines_62 ?_
          refine J_iastA 3 hP rfl (fun _ => rfl) (fun _ => rfl) dX4_numberLines_63 (fun h hP hF63 => ?_) 
          have hF := hF.tr hF63
          refine J_iinc (L' := [(3, _), (2, _), (0, _), (1, _)]) dX4_numberLines_64 rfl rfl rfl ?_
          refine j_goto 9 dX4_numberLines_67 (by decide) ?_
          first | exact j_locR (b1 _ (r.1, r.2.1, upI r.2.2 k (-1)) (if_pos c17) (by rw [nl1] at hP; exact hP) hF) (by repeat' (first | exact True.intro | refine And.intro rfl ?_)) | exact j_locR (b1 _ (r.1 + 1, p.2 2 k, upI r.2.2 k (r.1 + 1 - 1)) (by rw [if_neg (Int.not_le.2 c17), if_pos c32]) (by rw [nl2] at hP; exact hP) hF) (by repeat' (first | exact True.intro | refine And.intro rfl ?_)) | exact j_locR (b1 _ (r.1, r.2.1, upI r.2.2 k (r.1 - 1)) (by rw [if_neg (Int.not_le.2 c17), if_neg c32]) (by rw [nl1] at hP; exact hP) hF) (by repeat' (first | exact True.intro | refine And.intro rfl ?_))
        · refine j_aload_n 0 dX4_numberLines_35 rfl rfl ?_
          refine j_dup dX4_numberLines_36 rfl ?_
          refine j_get fX4_24 dX4_numberLines_37 hP.1 rfl ?_
          refine J_iconst dX4_numberLines_40 ?_
          refine J_iadd dX4_numberLines_41 ?_
          refine J_putA hP fX4_24 tyX4_lineCount dX4_numberLines_42 rfl rfl (fun h hP hF42 => ?_)
          have hF := hF.tr hF42
          refine j_aload_n 0 dX4_numberLines_45 rfl rfl ?_
          refine j_get fX4_18 dX4_numberLines_46 hP.1 rfl ?_
          refine j_iload_n 3 dX4_numberLines_49 rfl rfl ?_
          refine J_iald dX4_numberLines_50 (hP.2.1 2 rfl) ?_ 
          refine J_top (p.2 2 k) ?_ (by rfl)
          refine j_istore_n 2 (L' := [(2, _), (3, _), (0, _), (1, _)]) dX4_numberLines_51 rfl rfl rfl ?_
          refine j_aload_n 0 dX4_numberLines_52 rfl rfl ?_
          refine j_get fX4_21 dX4_numberLines_53 hP.1 rfl ?_
          refine j_iload_n 3 dX4_numberLines_56 rfl rfl ?_
          refine j_aload_n 0 dX4_numberLines_57 rfl rfl ?_
          refine j_get fX4_24 dX4_numberLines_58 hP.1 rfl ?_
          refine J_iconst dX4_numberLines_61 ?_
          refine J_isub dX4_numberLines_62 ?_
          refine J_iastA 3 hP rfl (fun _ => rfl) (fun _ => rfl) dX4_numberLines_63 (fun h hP hF63 => ?_) 
          have hF := hF.tr hF63
          refine J_iinc (L' := [(3, _), (2, _), (0, _), (1, _)]) dX4_numberLines_64 rfl rfl rfl ?_
          refine j_goto 9 dX4_numberLines_67 (by decide) ?_
          first | exact j_locR (b1 _ (r.1, r.2.1, upI r.2.2 k (-1)) (if_pos c17) (by rw [nl1] at hP; exact hP) hF) (by repeat' (first | exact True.intro | refine And.intro rfl ?_)) | exact j_locR (b1 _ (r.1 + 1, p.2 2 k, upI r.2.2 k (r.1 + 1 - 1)) (by rw [if_neg (Int.not_le.2 c17), if_pos c32]) (by rw [nl2] at hP; exact hP) hF) (by repeat' (first | exact True.intro | refine And.intro rfl ?_)) | exact j_locR (b1 _ (r.1, r.2.1, upI r.2.2 k (r.1 - 1)) (by rw [if_neg (Int.not_le.2 c17), if_neg c32]) (by rw [nl1] at hP; exact hP) hF) (by repeat' (first | exact True.intro | refine And.intro rfl ?_))
      · refine j_aload_n 0 dX4_numberLines_20 rfl rfl ?_
        refine j_get fX4_21 dX4_numberLines_21 hP.1 rfl ?_
        refine j_iload_n 3 dX4_numberLines_24 rfl rfl ?_
        refine J_iconst dX4_numberLines_25 ?_
        refine J_iastA 3 hP rfl (fun _ => rfl) (fun _ => rfl) dX4_numberLines_26 (fun h hP hF26 => ?_) 
        have hF := hF.tr hF26
        refine j_goto 64 dX4_numberLines_27 (by decide) ?_
        refine J_iinc (L' := [(3, _), (2, _), (0, _), (1, _)]) dX4_numberLines_64 rfl rfl rfl ?_
        refine j_goto 9 dX4_numberLines_67 (by decide) ?_
        first | exact j_locR (b1 _ (r.1, r.2.1, upI r.2.2 k (-1)) (if_pos c17) (by rw [nl1] at hP; exact hP) hF) (by repeat' (first | exact True.intro | refine And.intro rfl ?_)) | exact j_locR (b1 _ (r.1 + 1, p.2 2 k, upI r.2.2 k (r.1 + 1 - 1)) (by rw [if_neg (Int.not_le.2 c17), if_pos c32]) (by rw [nl2] at hP; exact hP) hF) (by repeat' (first | exact True.intro | refine And.intro rfl ?_)) | exact j_locR (b1 _ (r.1, r.2.1, upI r.2.2 k (r.1 - 1)) (by rw [if_neg (Int.not_le.2 c17), if_neg c32]) (by rw [nl1] at hP; exact hP) hF) (by repeat' (first | exact True.intro | refine And.intro rfl ?_))
  refine j_body (by decide +kernel) ⟨rfl, rfl⟩ rfl ?_
  have hF : Fr (ft AX4 a q) h h := Fr.rf
  refine j_aload_n 0 dX4_numberLines_0 rfl rfl ?_
  refine J_iconst dX4_numberLines_1 ?_
  refine J_putA hP fX4_24 tyX4_lineCount dX4_numberLines_2 rfl rfl (fun h hP hF2 => ?_)
  have hF := hF.tr hF2
  refine J_iconst dX4_numberLines_5 ?_
  refine j_istore_n 2 (L' := [(2, _), (0, _), (1, _)]) dX4_numberLines_6 rfl rfl rfl ?_
  refine J_iconst dX4_numberLines_7 ?_
  refine j_istore_n 3 (L' := [(3, _), (2, _), (0, _), (1, _)]) dX4_numberLines_8 rfl rfl rfl ?_
  exact loop 24 0 h (by omega) (by rw [show (numL (p.2 2) s (p.2 3) 0).2.2 = p.2 3 from rfl, oA_id]; exact hP) hF
set_option maxRecDepth 100000 in
theorem c_X4_breakUp {l : Launch} {G : jG} {h : jH} {a : Nat} {q : Nat → Nat} {p : OS} {s w : Int} (hP : AtX4 G h a q p) (hs : 0 ≤ s ∧ s ≤ 24) (hw : 10 ≤ w ∧ w ≤ 400) (hW : wZ (p.2 0)) : jC l G yX4_breakUp mX4_breakUp [.ref a, vI s, vI w] h (jW oN (fun h' => AtX4 G h' a q (brkP p s w) ∧ Fr (ft AX4 a q) h h')) := by
  have loop : ∀ (n k : Nat) (h2 : jH), k + n = s → AtX4 G h2 a q (dpP p s w k) → Fr (ft AX4 a q) h h2 → J l G mX4_breakUp (jQ G mX4_breakUp (jW oN (fun h' => AtX4 G h' a q (brkP p s w) ∧ Fr (ft AX4 a q) h h'))) 0 0 23 [(4, vI (s - 1 - k)), (3, vI s), (0, .ref a), (1, vI s), (2, vI w)] [] h2 := by
    intro n
    induction n with
    | zero =>
      intro k h2 hk hP hF
      obtain rfl : k = s.toNat := by omega
      have hn := dpP_n p (w := w) hw hW hs.2 s.toNat (by omega)
      refine j_iload dX4_breakUp_23 rfl ?_
      refine J_if_lt 42 dX4_breakUp_25 (by decide) (fun c25 => ?_) (fun c25 => absurd c25 (by omega)) 
      refine j_aload_n 0 dX4_breakUp_42 rfl rfl ?_
      refine j_iload_n 3 dX4_breakUp_43 rfl rfl ?_
      refine J_callVW0 kX4_68 cvX4_numberLines hP.1 (c_X4_numberLines hP hs (fun i h1 h2 => by have := hn i (by omega) h2; omega)) rfl rfl rfl rfl rfl dX4_breakUp_44 rfl rfl (fun h hp => ?_)
      refine j_vret rfl dX4_breakUp_47 ?_
      exact ⟨rfl, hp.1, hF.tr hp.2⟩
    | succ n ih =>
      intro k h2 hk hP hF
      have hc := dpP_c p (w := w) hw hW hs.2 k (by omega)
      have hWk : wZ ((dpP p s w k).2 0) := by rw [dpP_w]; exact hW
      refine j_iload dX4_breakUp_23 rfl ?_
      refine J_if_lt 42 dX4_breakUp_25 (by decide) (fun c25 => absurd c25 (by omega)) (fun c25 => ?_) 
      refine j_aload_n 0 dX4_breakUp_28 rfl rfl ?_
      refine j_iload dX4_breakUp_29 rfl ?_
      refine j_iload_n 3 dX4_breakUp_31 rfl rfl ?_
      refine j_iload_n 2 dX4_breakUp_32 rfl rfl ?_
      refine J_callVW0 kX4_64 cvX4_chooseLine hP.1 (c_X4_chooseLine hP hw hWk (by rw [show s - 1 - (k : Int) + 1 = s - k by omega]; exact hc) (by omega) hs.2 (by omega)) rfl rfl rfl rfl rfl dX4_breakUp_33 rfl rfl (fun h hp => ?_)
      refine J_iinc (L' := [(4, _), (3, _), (0, _), (1, _), (2, _)]) dX4_breakUp_36 rfl rfl rfl ?_
      refine j_goto 23 dX4_breakUp_39 (by decide) ?_
      have g := ih (k + 1) h (by omega) hp.1 (hF.tr hp.2)
      rw [show s - 1 - ((k + 1 : Nat) : Int) = s - 1 - k + -1 by omega] at g
      exact j_locR g (by repeat' (first | exact True.intro | refine And.intro rfl ?_))
  refine j_body (by decide +kernel) ⟨rfl, rfl⟩ rfl ?_
  have hF : Fr (ft AX4 a q) h h := Fr.rf
  refine J_iconst dX4_breakUp_0 ?_
  refine j_iload_n 1 dX4_breakUp_1 rfl rfl ?_
  refine J_bipush dX4_breakUp_2 (by decide) ?_
  refine J_mmin kX4_57 rfl rfl dX4_breakUp_4 ?_ 
  refine J_mmax kX4_61 rfl rfl dX4_breakUp_7 ?_ 
  refine J_top (s) ?_ (by omega)
  refine j_istore_n 3 (L' := [(3, _), (0, _), (1, _), (2, _)]) dX4_breakUp_10 rfl rfl rfl ?_
  refine j_aload_n 0 dX4_breakUp_11 rfl rfl ?_
  refine j_get fX4_15 dX4_breakUp_12 hP.1 rfl ?_
  refine j_iload_n 3 dX4_breakUp_15 rfl rfl ?_
  refine J_iconst dX4_breakUp_16 ?_
  refine J_iastA 1 hP rfl (fun _ => rfl) (fun _ => rfl) dX4_breakUp_17 (fun h hP hF17 => ?_) 
  have hF := hF.tr hF17
  refine j_iload_n 3 dX4_breakUp_18 rfl rfl ?_
  refine J_iconst dX4_breakUp_19 ?_
  refine J_isub dX4_breakUp_20 ?_
  refine j_istore (L' := [(4, _), (3, _), (0, _), (1, _), (2, _)]) dX4_breakUp_21 rfl rfl ?_
  have g := loop s.toNat 0 _ (by omega) hP hF
  rw [show s - 1 - ((0 : Nat) : Int) = s - 1 by omega] at g
  exact j_locR g (by repeat' (first | exact True.intro | refine And.intro rfl ?_))
