def sgZ (p6 p : OS) : Prop := ∀ j : Int, 0 ≤ j → j < p.1 9 → inP p6 (p.2 0 j) ∧ (0 ≤ p.2 1 j ∧ p.2 1 j ≤ 20000) ∧ (0 ≤ p.2 2 j ∧ p.2 2 j ≤ 96)
def mapI (F : Int → Int) (b : Int) (g : Int → Int) : Int → Int := fun j => if 0 ≤ j ∧ j < b then g j else F j
theorem mapI_0 (F : Int → Int) (g : Int → Int) : mapI F 0 g = F := by
  funext j
  unfold mapI
  rw [if_neg (by omega)]
theorem mapI_s {F : Int → Int} {k : Int} {g : Int → Int} (h : 0 ≤ k) : upI (mapI F k g) k (g k) = mapI F (k + 1) g := by
  funext j
  unfold upI mapI
  by_cases e : j = k
  · subst e; rw [if_pos rfl, if_pos (by omega)]
  · rw [if_neg e]
    by_cases e2 : 0 ≤ j ∧ j < k
    · rw [if_pos e2, if_pos (by omega)]
    · rw [if_neg e2, if_neg (by omega)]
def tieG (p6 p : OS) (se : Int) (j : Int) : Int := bI (p6.2 0 (p.2 0 j) ≠ 0 ∧ p.2 1 j + p.2 2 j < min (endF p6 (p.2 0 j)) se)
def fstG (p6 p : OS) (j : Int) : Int := bI (p6.2 0 (p.2 0 j) ≠ 0 ∧ p.2 1 j = p6.2 3 (p.2 0 j))
def mkP (p6 : OS) (se : Int) (p : OS) (k : Int) : OS := oA (oA p 4 (mapI (p.2 4) k (tieG p6 p se))) 3 (mapI (p.2 3) k (fstG p6 p))
theorem oA2 (p : OS) (T S T' S' : Int → Int) : oA (oA (oA (oA p 4 T) 3 S) 4 T') 3 S' = oA (oA p 4 T') 3 S' := by
  unfold oA
  congr 1
  funext j
  dsimp only
  repeat' split
  all_goals first | rfl | omega
theorem bI_01 (c : Prop) [Decidable c] : bI c = 0 ∨ bI c = 1 := by
  unfold bI
  split
  · exact Or.inr rfl
  · exact Or.inl rfl
set_option maxRecDepth 100000 in
theorem c_X5_markSigns {l : Launch} {G : jG} {h : jH} {a : Nat} {q : Nat → Nat} {p : OS} {a6 : Nat} {q6 : Nat → Nat} {p6 : OS} {se : Int} (hP : AtX5 G h a q p) (hn : mN p) (hs : sgZ p6 p) (hP6 : AtX6 G h a6 q6 p6) (hn6 : pN p6) (hz6 : eA p6) (hd : ∀ b, ft AX6 a6 q6 b → ¬ ft AX5 a q b) (hse : 0 ≤ se ∧ se ≤ 20000) : jC l G yX5_markSigns mX5_markSigns [.ref a, .ref a6, vI se] h (jW oN (fun h' => AtX5 G h' a q (mkP p6 se p (p.1 9)) ∧ Fr (ft AX5 a q) h h')) := by
  have hn2 : 0 ≤ p.1 9 ∧ p.1 9 ≤ 128 := hn
  have hn62 : 0 ≤ p6.1 7 ∧ p6.1 7 ≤ 512 := hn6
  have loop : ∀ (n : Nat) (k : Int) (h2 : jH), k + n = p.1 9 → 0 ≤ k → AtX5 G h2 a q (mkP p6 se p k) → Fr (ft AX5 a q) h h2 → AtX6 G h2 a6 q6 p6 → J l G mX5_markSigns (jQ G mX5_markSigns (jW oN (fun h' => AtX5 G h' a q (mkP p6 se p (p.1 9)) ∧ Fr (ft AX5 a q) h h'))) 0 0 2 [(3, vI k), (0, .ref a), (1, .ref a6), (2, vI se)] [] h2 := by
    intro n
    induction n with
    | zero =>
      intro k h2 hk h0 hP hF hP6
      obtain rfl : k = p.1 9 := by omega
      refine j_iload_n 3 dX5_markSigns_2 rfl rfl ?_
      refine j_aload_n 0 dX5_markSigns_3 rfl rfl ?_
      refine j_get fX5_40 dX5_markSigns_4 hP.1 rfl ?_
      refine J_top (p.1 9) ?_ (by rfl)
      refine J_icmp_ge 116 dX5_markSigns_7 (by decide) (fun c7 => ?_) (fun c7 => absurd c7 (by omega)) 
      refine j_vret rfl dX5_markSigns_116 ?_
      exact ⟨rfl, hP, hF⟩
    | succ n ih =>
      intro k h2 hk h0 hP hF hP6
      obtain ⟨hin, htk, hln⟩ := hs k h0 (by omega)
      obtain ⟨e, he⟩ : ∃ e, e = p.2 0 k := ⟨_, rfl⟩
      have hez := hz6 e (by rw [he]; exact hin.1) (by rw [he]; exact hin.2)
      have hb3 := hez.2.2.2.1
      have hb4 := hez.2.2.2.2.1
      rw [← he] at hin
      have hre : endF p6 e = p6.2 3 e + p6.2 4 e := rfl
      have K109 : ∀ (h3 : jH), AtX5 G h3 a q (oA (mkP p6 se p k) 4 (upI (mapI (p.2 4) k (tieG p6 p se)) k (tieG p6 p se k))) → Fr (ft AX5 a q) h h3 → AtX6 G h3 a6 q6 p6 → J l G mX5_markSigns (jQ G mX5_markSigns (jW oN (fun h' => AtX5 G h' a q (mkP p6 se p (p.1 9)) ∧ Fr (ft AX5 a q) h h'))) 0 0 109 [(5, vI (min (endF p6 e) se)), (4, vI e), (3, vI k), (0, .ref a), (1, .ref a6), (2, vI se)] [vI (fstG p6 p k), vI k, .ref (q 3)] h3 := by
        intro h3 hP hF hP6
        refine J_zastA 3 hP rfl (fun _ => rfl) (fun _ => rfl) dX5_markSigns_109 (fun h hP hF109 => ?_) (bI_01 _)
        have hF := hF.tr hF109
        have hP6 := hP6.keep hF109 hd
        refine J_iinc (L' := [(3, _), (5, _), (4, _), (0, _), (1, _), (2, _)]) dX5_markSigns_110 rfl rfl rfl ?_
        refine j_goto 2 dX5_markSigns_113 (by decide) ?_
        have g : AtX5 G h a q (mkP p6 se p (k + 1)) := by
          unfold mkP at hP ⊢
          rw [show (oA (oA (oA p 4 (mapI (p.2 4) k (tieG p6 p se))) 3 (mapI (p.2 3) k (fstG p6 p))) 4 (upI (mapI (p.2 4) k (tieG p6 p se)) k (tieG p6 p se k))).2 3 = mapI (p.2 3) k (fstG p6 p) from rfl, oA2, mapI_s h0, mapI_s h0] at hP
          exact hP
        exact j_locR (ih (k + 1) h (by omega) (by omega) g hF hP6) (by repeat' (first | exact True.intro | refine And.intro rfl ?_))
      have K74 : J l G mX5_markSigns (jQ G mX5_markSigns (jW oN (fun h' => AtX5 G h' a q (mkP p6 se p (p.1 9)) ∧ Fr (ft AX5 a q) h h'))) 0 0 74 [(5, vI (min (endF p6 e) se)), (4, vI e), (3, vI k), (0, .ref a), (1, .ref a6), (2, vI se)] [vI (tieG p6 p se k), vI k, .ref (q 4)] h2 := by
        refine J_zastA 4 hP rfl (fun _ => rfl) (fun _ => rfl) dX5_markSigns_74 (fun h hP hF74 => ?_) (bI_01 _)
        have hF := hF.tr hF74
        have hP6 := hP6.keep hF74 hd
        refine j_aload_n 0 dX5_markSigns_75 rfl rfl ?_
        refine j_get fX5_21 dX5_markSigns_76 hP.1 rfl ?_
        refine j_iload_n 3 dX5_markSigns_79 rfl rfl ?_
        refine j_aload_n 1 dX5_markSigns_80 rfl rfl ?_
        refine j_iload dX5_markSigns_81 rfl ?_
        refine J_callVZ kX5_120 cvX6_isNote hP6.1 (c_X6_isNote hP6 hn6 hz6 (by omega)) rfl rfl rfl rfl rfl dX5_markSigns_83 rfl rfl (fun z83 => ?_) (fun z83 => ?_)
        · refine J_if_eq 108 dX5_markSigns_86 (by decide) (fun c86 => absurd c86 (by decide)) (fun c86 => ?_) 
          refine j_aload_n 0 dX5_markSigns_89 rfl rfl ?_
          refine j_get fX5_15 dX5_markSigns_90 hP.1 rfl ?_
          refine j_iload_n 3 dX5_markSigns_93 rfl rfl ?_
          refine J_iald dX5_markSigns_94 (hP.2.1 1 rfl) ?_ 
          refine J_top (p.2 1 k) ?_ (by rfl)
          refine j_aload_n 1 dX5_markSigns_95 rfl rfl ?_
          refine j_iload dX5_markSigns_96 rfl ?_
          refine J_callV1 kX5_69 cvX6_beginAt hP6.1 (c_X6_beginAt hP6 hn6 (by omega)) rfl rfl rfl rfl rfl dX5_markSigns_98 rfl rfl ?_
          refine J_top (p6.2 3 e) ?_ (by exact if_pos hin)
          refine J_icmp_ne 108 dX5_markSigns_101 (by decide) (fun c101 => ?_) (fun c101 => ?_) 
          · refine J_iconst dX5_markSigns_108 ?_
            refine J_top (fstG p6 p k) (K109 _ hP hF hP6) ?_
            unfold fstG
            rw [← he]
            first | exact (if_pos ⟨z83.2, c101⟩).symm | exact (if_neg (fun z => c101 z.2)).symm | exact (if_neg (fun z => z83 ⟨hin, z.1⟩)).symm
          · refine J_iconst dX5_markSigns_104 ?_
            refine j_goto 109 dX5_markSigns_105 (by decide) ?_
            refine J_top (fstG p6 p k) (K109 _ hP hF hP6) ?_
            unfold fstG
            rw [← he]
            first | exact (if_pos ⟨z83.2, c101⟩).symm | exact (if_neg (fun z => c101 z.2)).symm | exact (if_neg (fun z => z83 ⟨hin, z.1⟩)).symm
        · refine J_if_eq 108 dX5_markSigns_86 (by decide) (fun c86 => ?_) (fun c86 => absurd c86 (by decide)) 
          refine J_iconst dX5_markSigns_108 ?_
          refine J_top (fstG p6 p k) (K109 _ hP hF hP6) ?_
          unfold fstG
          rw [← he]
          first | exact (if_pos ⟨z83.2, c101⟩).symm | exact (if_neg (fun z => c101 z.2)).symm | exact (if_neg (fun z => z83 ⟨hin, z.1⟩)).symm
      refine j_iload_n 3 dX5_markSigns_2 rfl rfl ?_
      refine j_aload_n 0 dX5_markSigns_3 rfl rfl ?_
      refine j_get fX5_40 dX5_markSigns_4 hP.1 rfl ?_
      refine J_top (p.1 9) ?_ (by rfl)
      refine J_icmp_ge 116 dX5_markSigns_7 (by decide) (fun c7 => absurd c7 (by omega)) (fun c7 => ?_) 
      refine j_iload_n 3 dX5_markSigns_10 rfl rfl ?_
      refine J_sipush dX5_markSigns_11 (by decide) ?_
      refine J_icmp_ge 116 dX5_markSigns_14 (by decide) (fun c14 => absurd c14 (by omega)) (fun c14 => ?_) 
      refine j_aload_n 0 dX5_markSigns_17 rfl rfl ?_
      refine j_get fX5_9 dX5_markSigns_18 hP.1 rfl ?_
      refine j_iload_n 3 dX5_markSigns_21 rfl rfl ?_
      refine J_iald dX5_markSigns_22 (hP.2.1 0 rfl) ?_ 
      refine J_top (e) ?_ (by exact he.symm)
      refine j_istore (L' := [(4, _), (3, _), (0, _), (1, _), (2, _)]) dX5_markSigns_23 rfl rfl ?_
      refine j_aload_n 1 dX5_markSigns_25 rfl rfl ?_
      refine j_iload dX5_markSigns_26 rfl ?_
      refine J_callV1 kX5_70 cvX6_endAt hP6.1 (c_X6_endAt hP6 hn6 (by omega)) rfl rfl rfl rfl rfl dX5_markSigns_28 rfl rfl ?_
      refine J_top (endF p6 e) ?_ (by exact if_pos hin)
      refine j_iload_n 2 dX5_markSigns_31 rfl rfl ?_
      refine J_mmin kX5_73 rfl rfl dX5_markSigns_32 ?_ 
      refine j_istore (L' := [(5, _), (4, _), (3, _), (0, _), (1, _), (2, _)]) dX5_markSigns_35 rfl rfl ?_
      refine j_aload_n 0 dX5_markSigns_37 rfl rfl ?_
      refine j_get fX5_25 dX5_markSigns_38 hP.1 rfl ?_
      refine j_iload_n 3 dX5_markSigns_41 rfl rfl ?_
      refine j_aload_n 1 dX5_markSigns_42 rfl rfl ?_
      refine j_iload dX5_markSigns_43 rfl ?_
      refine J_callVZ kX5_120 cvX6_isNote hP6.1 (c_X6_isNote hP6 hn6 hz6 (by omega)) rfl rfl rfl rfl rfl dX5_markSigns_45 rfl rfl (fun z45 => ?_) (fun z45 => ?_)
      · refine J_if_eq 73 dX5_markSigns_48 (by decide) (fun c48 => absurd c48 (by decide)) (fun c48 => ?_) 
        refine j_aload_n 0 dX5_markSigns_51 rfl rfl ?_
        refine j_get fX5_15 dX5_markSigns_52 hP.1 rfl ?_
        refine j_iload_n 3 dX5_markSigns_55 rfl rfl ?_
        refine J_iald dX5_markSigns_56 (hP.2.1 1 rfl) ?_ 
        refine J_top (p.2 1 k) ?_ (by rfl)
        refine j_aload_n 0 dX5_markSigns_57 rfl rfl ?_
        refine j_get fX5_18 dX5_markSigns_58 hP.1 rfl ?_
        refine j_iload_n 3 dX5_markSigns_61 rfl rfl ?_
        refine J_iald dX5_markSigns_62 (hP.2.1 2 rfl) ?_ 
        refine J_top (p.2 2 k) ?_ (by rfl)
        refine J_iadd dX5_markSigns_63 ?_
        refine j_iload dX5_markSigns_64 rfl ?_
        refine J_icmp_ge 73 dX5_markSigns_66 (by decide) (fun c66 => ?_) (fun c66 => ?_) 
        · refine J_iconst dX5_markSigns_73 ?_
          refine J_top (tieG p6 p se k) K74 ?_
          unfold tieG
          rw [← he]
          first | exact (if_pos ⟨z45.2, c66⟩).symm | exact (if_neg (fun z => absurd z.2 (Int.not_lt.2 c66))).symm | exact (if_neg (fun z => z45 ⟨hin, z.1⟩)).symm
        · refine J_iconst dX5_markSigns_69 ?_
          refine j_goto 74 dX5_markSigns_70 (by decide) ?_
          refine J_top (tieG p6 p se k) K74 ?_
          unfold tieG
          rw [← he]
          first | exact (if_pos ⟨z45.2, c66⟩).symm | exact (if_neg (fun z => absurd z.2 (Int.not_lt.2 c66))).symm | exact (if_neg (fun z => z45 ⟨hin, z.1⟩)).symm
      · refine J_if_eq 73 dX5_markSigns_48 (by decide) (fun c48 => ?_) (fun c48 => absurd c48 (by decide)) 
        refine J_iconst dX5_markSigns_73 ?_
        refine J_top (tieG p6 p se k) K74 ?_
        unfold tieG
        rw [← he]
        first | exact (if_pos ⟨z45.2, c66⟩).symm | exact (if_neg (fun z => absurd z.2 (Int.not_lt.2 c66))).symm | exact (if_neg (fun z => z45 ⟨hin, z.1⟩)).symm
  refine j_body (by decide +kernel) ⟨rfl, rfl⟩ rfl ?_
  refine J_iconst dX5_markSigns_0 ?_
  refine j_istore_n 3 (L' := [(3, _), (0, _), (1, _), (2, _)]) dX5_markSigns_1 rfl rfl rfl ?_
  exact loop (p.1 9).toNat 0 h (by omega) (by omega) (by unfold mkP; rw [mapI_0, mapI_0, oA_id]; rw [show p.2 3 = (p.2 3) from rfl, oA_id]; exact hP) Fr.rf hP6
def shN (first pl al : Int → Int) (key : Int) (F0 S0 : Int → Int) : Nat → (Int → Int) × (Int → Int)
  | 0 => (F0, S0)
  | k + 1 => if first k ≠ 0 then (atsF (shN first pl al key F0 S0 k).1 (pl k) (al k) key, upI (shN first pl al key F0 S0 k).2 k (atsV (shN first pl al key F0 S0 k).1 (pl k) (al k) key)) else ((shN first pl al key F0 S0 k).1, upI (shN first pl al key F0 S0 k).2 k (-3))
theorem atsF_rg {F : Int → Int} {pl al key : Int} (hF : ∀ i : Int, 0 ≤ i → i < 63 → -3 ≤ F i ∧ F i ≤ 2) (hal : -3 ≤ al ∧ al ≤ 2) : ∀ i : Int, 0 ≤ i → i < 63 → -3 ≤ atsF F pl al key i ∧ atsF F pl al key i ≤ 2 := by
  intro i h0 h1
  unfold atsF
  split
  · exact hF i h0 h1
  · split
    · exact hF i h0 h1
    · exact upI_rg (hF i h0 h1) hal
theorem shN_rg {first pl al : Int → Int} {key : Int} {F0 S0 : Int → Int} (hF : ∀ i : Int, 0 ≤ i → i < 63 → -3 ≤ F0 i ∧ F0 i ≤ 2) : ∀ k : Nat, (∀ j : Int, 0 ≤ j → j < k → -3 ≤ al j ∧ al j ≤ 2) → ∀ i : Int, 0 ≤ i → i < 63 → -3 ≤ (shN first pl al key F0 S0 k).1 i ∧ (shN first pl al key F0 S0 k).1 i ≤ 2
  | 0, _ => hF
  | k + 1, h => by
    have ih := shN_rg (first := first) (pl := pl) (al := al) (key := key) (S0 := S0) hF k (fun j h0 h1 => h j h0 (by omega))
    unfold shN
    split
    · exact atsF_rg ih (h k (by omega) (by omega))
    · exact ih
theorem oA85 (p : OS) (i : Nat) (hi : i = 5 ∨ i = 6) (F S F' S' : Int → Int) : oA (oA (oA (oA p 8 F) i S) 8 F') i S' = oA (oA p 8 F') i S' := by
  unfold oA
  congr 1
  funext j
  dsimp only
  repeat' split
  all_goals first | rfl | omega
theorem oA85b (p : OS) (i : Nat) (F S S' : Int → Int) : oA (oA (oA p 8 F) i S) i S' = oA (oA p 8 F) i S' := oA_oA _ _ _ _
abbrev F0X : (Int → Int) → Int → Int := fun F => rng F 0 63 (-3)
set_option maxRecDepth 100000 in
theorem c_X5_showAlters {l : Launch} {G : jG} {h : jH} {a : Nat} {q : Nat → Nat} {p : OS} {a6 : Nat} {q6 : Nat → Nat} {p6 : OS} {key : Int} (hP : AtX5 G h a q p) (hn : mN p) (hs : sgZ p6 p) (hb : ∀ j : Int, 0 ≤ j → j < p.1 9 → p.2 3 j = 0 ∨ p.2 3 j = 1) (hP6 : AtX6 G h a6 q6 p6) (hn6 : pN p6) (hz6 : eA p6) (hd : ∀ b, ft AX6 a6 q6 b → ¬ ft AX5 a q b) (hk : -7 ≤ key ∧ key ≤ 7) : jC l G yX5_showAlters mX5_showAlters [.ref a, .ref a6, vI key] h (jW oN (fun h' => AtX5 G h' a q (oA (oA p 8 (shN (p.2 3) (fun j => p6.2 0 (p.2 0 j)) (fun j => p6.2 1 (p.2 0 j)) key (F0X (p.2 8)) (p.2 5) (p.1 9).toNat).1) 5 (shN (p.2 3) (fun j => p6.2 0 (p.2 0 j)) (fun j => p6.2 1 (p.2 0 j)) key (F0X (p.2 8)) (p.2 5) (p.1 9).toNat).2) ∧ Fr (ft AX5 a q) h h')) := by
  have hn2 : 0 ≤ p.1 9 ∧ p.1 9 ≤ 128 := hn
  have hn62 : 0 ≤ p6.1 7 ∧ p6.1 7 ≤ 512 := hn6
  have hal : ∀ j : Int, 0 ≤ j → j < p.1 9 → -3 ≤ p6.2 1 (p.2 0 j) ∧ p6.2 1 (p.2 0 j) ≤ 2 := fun j h0 h1 => by
    have := hz6 (p.2 0 j) (hs j h0 h1).1.1 (hs j h0 h1).1.2
    have := this.2.1; have := (hz6 (p.2 0 j) (hs j h0 h1).1.1 (hs j h0 h1).1.2).2.2.2.2.2.2
    omega
  have hF0 : ∀ i : Int, 0 ≤ i → i < 63 → -3 ≤ F0X (p.2 8) i ∧ F0X (p.2 8) i ≤ 2 := fun i h0 h1 => by
    show -3 ≤ rng (p.2 8) 0 63 (-3) i ∧ rng (p.2 8) 0 63 (-3) i ≤ 2
    unfold rng
    rw [if_pos ⟨h0, h1⟩]
    omega
  have loop : ∀ (n k : Nat) (h2 : jH), (k : Int) + n = p.1 9 → AtX5 G h2 a q (oA (oA p 8 (shN (p.2 3) (fun j => p6.2 0 (p.2 0 j)) (fun j => p6.2 1 (p.2 0 j)) key (F0X (p.2 8)) (p.2 5) k).1) 5 (shN (p.2 3) (fun j => p6.2 0 (p.2 0 j)) (fun j => p6.2 1 (p.2 0 j)) key (F0X (p.2 8)) (p.2 5) k).2) → Fr (ft AX5 a q) h h2 → AtX6 G h2 a6 q6 p6 → J l G mX5_showAlters (jQ G mX5_showAlters (jW oN (fun h' => AtX5 G h' a q (oA (oA p 8 (shN (p.2 3) (fun j => p6.2 0 (p.2 0 j)) (fun j => p6.2 1 (p.2 0 j)) key (F0X (p.2 8)) (p.2 5) (p.1 9).toNat).1) 5 (shN (p.2 3) (fun j => p6.2 0 (p.2 0 j)) (fun j => p6.2 1 (p.2 0 j)) key (F0X (p.2 8)) (p.2 5) (p.1 9).toNat).2) ∧ Fr (ft AX5 a q) h h'))) 0 0 11 [(3, vI (k : Int)), (0, .ref a), (1, .ref a6), (2, vI key)] [] h2 := by
    intro n
    induction n with
    | zero =>
      intro k h2 hk hP hF hP6
      obtain rfl : k = (p.1 9).toNat := by omega
      refine j_iload_n 3 dX5_showAlters_11 rfl rfl ?_
      refine j_aload_n 0 dX5_showAlters_12 rfl rfl ?_
      refine j_get fX5_40 dX5_showAlters_13 hP.1 rfl ?_
      refine J_top (p.1 9) ?_ (by rfl)
      refine J_icmp_ge 77 dX5_showAlters_16 (by decide) (fun c16 => ?_) (fun c16 => absurd c16 (by omega)) 
      refine j_vret rfl dX5_showAlters_77 ?_
      exact ⟨rfl, hP, hF⟩
    | succ n ih =>
      intro k h2 hk2 hP hF hP6
      obtain ⟨hin, htk, hln⟩ := hs k (by omega) (by omega)
      have hbk := hb k (by omega) (by omega)
      have halk := hal k (by omega) (by omega)
      have hrg := shN_rg (first := p.2 3) (pl := fun j => p6.2 0 (p.2 0 j)) (al := fun j => p6.2 1 (p.2 0 j)) (key := key) (S0 := p.2 5) hF0 k (fun j h0 h1 => hal j h0 (by omega))
      obtain ⟨e, he⟩ : ∃ e, e = p.2 0 k := ⟨_, rfl⟩
      have hez := hz6 e (by rw [he]; exact hin.1) (by rw [he]; exact hin.2)
      have hpl0 := hez.1
      have hpl5 := hez.2.2.2.2.2.1
      rw [← he] at hin halk
      have back := ih (k + 1)
      rw [show (shN (p.2 3) (fun j => p6.2 0 (p.2 0 j)) (fun j => p6.2 1 (p.2 0 j)) key (F0X (p.2 8)) (p.2 5) (k + 1)) = if p.2 3 k ≠ 0 then (atsF (shN (p.2 3) (fun j => p6.2 0 (p.2 0 j)) (fun j => p6.2 1 (p.2 0 j)) key (F0X (p.2 8)) (p.2 5) k).1 (p6.2 0 (p.2 0 k)) (p6.2 1 (p.2 0 k)) key, upI (shN (p.2 3) (fun j => p6.2 0 (p.2 0 j)) (fun j => p6.2 1 (p.2 0 j)) key (F0X (p.2 8)) (p.2 5) k).2 k (atsV (shN (p.2 3) (fun j => p6.2 0 (p.2 0 j)) (fun j => p6.2 1 (p.2 0 j)) key (F0X (p.2 8)) (p.2 5) k).1 (p6.2 0 (p.2 0 k)) (p6.2 1 (p.2 0 k)) key)) else ((shN (p.2 3) (fun j => p6.2 0 (p.2 0 j)) (fun j => p6.2 1 (p.2 0 j)) key (F0X (p.2 8)) (p.2 5) k).1, upI (shN (p.2 3) (fun j => p6.2 0 (p.2 0 j)) (fun j => p6.2 1 (p.2 0 j)) key (F0X (p.2 8)) (p.2 5) k).2 k (-3)) from rfl, ← he] at back
      obtain ⟨s, hss⟩ : ∃ s, s = (shN (p.2 3) (fun j => p6.2 0 (p.2 0 j)) (fun j => p6.2 1 (p.2 0 j)) key (F0X (p.2 8)) (p.2 5) k) := ⟨_, rfl⟩
      rw [← hss] at hP hrg back
      refine j_iload_n 3 dX5_showAlters_11 rfl rfl ?_
      refine j_aload_n 0 dX5_showAlters_12 rfl rfl ?_
      refine j_get fX5_40 dX5_showAlters_13 hP.1 rfl ?_
      refine J_top (p.1 9) ?_ (by rfl)
      refine J_icmp_ge 77 dX5_showAlters_16 (by decide) (fun c16 => absurd c16 (by omega)) (fun c16 => ?_) 
      refine j_iload_n 3 dX5_showAlters_19 rfl rfl ?_
      refine J_sipush dX5_showAlters_20 (by decide) ?_
      refine J_icmp_ge 77 dX5_showAlters_23 (by decide) (fun c23 => absurd c23 (by omega)) (fun c23 => ?_) 
      refine j_aload_n 0 dX5_showAlters_26 rfl rfl ?_
      refine j_get fX5_9 dX5_showAlters_27 hP.1 rfl ?_
      refine j_iload_n 3 dX5_showAlters_30 rfl rfl ?_
      refine J_iald dX5_showAlters_31 (hP.2.1 0 rfl) ?_ 
      refine J_top (e) ?_ (by exact he.symm)
      refine j_istore (L' := [(4, _), (3, _), (0, _), (1, _), (2, _)]) dX5_showAlters_32 rfl rfl ?_
      refine j_aload_n 0 dX5_showAlters_34 rfl rfl ?_
      refine j_get fX5_28 dX5_showAlters_35 hP.1 rfl ?_
      refine j_iload_n 3 dX5_showAlters_38 rfl rfl ?_
      refine j_aload_n 0 dX5_showAlters_39 rfl rfl ?_
      refine j_get fX5_21 dX5_showAlters_40 hP.1 rfl ?_
      refine j_iload_n 3 dX5_showAlters_43 rfl rfl ?_
      refine J_zald dX5_showAlters_44 (hP.2.1 3 rfl) ?_ 
      refine J_top (p.2 3 k) ?_ (by rfl)
      refine J_if_eq 68 dX5_showAlters_45 (by decide) (fun c45 => ?_) (fun c45 => ?_) 
      · refine J_bipush dX5_showAlters_68 (by decide) ?_
        refine J_iastA 5 hP rfl (fun _ => rfl) (fun _ => rfl) dX5_showAlters_70 (fun h hP hF70 => ?_) 
        have hF := hF.tr hF70
        have hP6 := hP6.keep hF70 hd
        refine J_iinc (L' := [(3, _), (4, _), (0, _), (1, _), (2, _)]) dX5_showAlters_71 rfl rfl rfl ?_
        refine j_goto 11 dX5_showAlters_74 (by decide) ?_
        first | (rw [if_pos c45] at back; exact j_locR (back h (by omega) (by show AtX5 G h a q (oA (oA p 8 (atsF s.1 (p6.2 0 e) (p6.2 1 e) key)) 5 (upI s.2 k (atsV s.1 (p6.2 0 e) (p6.2 1 e) key))); rw [← oA85 p 5 (by decide) s.1 s.2]; exact hP) hF hP6) (by repeat' (first | exact True.intro | refine And.intro rfl ?_))) | (rw [if_neg (fun z => z c45)] at back; exact j_locR (back h (by omega) (by rw [oA85b] at hP; exact hP) hF hP6) (by repeat' (first | exact True.intro | refine And.intro rfl ?_)))
      · refine j_aload_n 0 dX5_showAlters_48 rfl rfl ?_
        refine j_aload_n 1 dX5_showAlters_49 rfl rfl ?_
        refine j_iload dX5_showAlters_50 rfl ?_
        refine J_callV1 kX5_133 cvX6_placeAt hP6.1 (c_X6_placeAt hP6 hn6 (by omega)) rfl rfl rfl rfl rfl dX5_showAlters_52 rfl rfl ?_
        refine J_top (p6.2 0 e) ?_ (by exact if_pos hin)
        refine j_aload_n 1 dX5_showAlters_55 rfl rfl ?_
        refine j_iload dX5_showAlters_56 rfl ?_
        refine J_callV1 kX5_136 cvX6_alterAt hP6.1 (c_X6_alterAt hP6 hn6 (by omega)) rfl rfl rfl rfl rfl dX5_showAlters_58 rfl rfl ?_
        refine J_top (p6.2 1 e) ?_ (by exact if_pos hin)
        refine j_iload_n 2 dX5_showAlters_61 rfl rfl ?_
        refine J_callVW1 kX5_139 cvX5_alterToShow hP.1 (c_X5_alterToShow hP hrg (by omega) (by omega) hk) rfl rfl rfl rfl rfl dX5_showAlters_62 rfl rfl (fun h hp => ?_)
        obtain ⟨hP, hF9⟩ := hp
        have hF := hF.tr hF9
        have hP6 := hP6.keep hF9 hd
        refine j_goto 70 dX5_showAlters_65 (by decide) ?_
        refine J_iastA 5 hP rfl (fun _ => rfl) (fun _ => rfl) dX5_showAlters_70 (fun h hP hF70 => ?_) 
        have hF := hF.tr hF70
        have hP6 := hP6.keep hF70 hd
        refine J_iinc (L' := [(3, _), (4, _), (0, _), (1, _), (2, _)]) dX5_showAlters_71 rfl rfl rfl ?_
        refine j_goto 11 dX5_showAlters_74 (by decide) ?_
        first | (rw [if_pos c45] at back; exact j_locR (back h (by omega) (by show AtX5 G h a q (oA (oA p 8 (atsF s.1 (p6.2 0 e) (p6.2 1 e) key)) 5 (upI s.2 k (atsV s.1 (p6.2 0 e) (p6.2 1 e) key))); rw [← oA85 p 5 (by decide) s.1 s.2]; exact hP) hF hP6) (by repeat' (first | exact True.intro | refine And.intro rfl ?_))) | (rw [if_neg (fun z => z c45)] at back; exact j_locR (back h (by omega) (by rw [oA85b] at hP; exact hP) hF hP6) (by repeat' (first | exact True.intro | refine And.intro rfl ?_)))
  refine j_body (by decide +kernel) ⟨rfl, rfl⟩ rfl ?_
  refine j_aload_n 0 dX5_showAlters_0 rfl rfl ?_
  refine j_get fX5_37 dX5_showAlters_1 hP.1 rfl ?_
  refine J_bipush dX5_showAlters_4 (by decide) ?_
  refine J_callSW0 kX5_127 csJ7_fill_53178 (c_J7_fill_53178 (hP.2.1 8 rfl) (by decide)) rfl rfl rfl rfl rfl dX5_showAlters_6 rfl rfl (fun h hp => ?_)
  subst hp
  have hF5 : Fr (ft AX5 a q) h (hset h (q 8) (ai G 63 (rng (p.2 8) 0 63 (-3)))) := Fr.set (Or.inr ⟨8, rfl, rfl⟩)
  have hP := hP.arrw (k := 8) rfl (rng (p.2 8) 0 63 (-3)) rfl
  have hP6 := hP6.keep hF5 hd
  refine J_iconst dX5_showAlters_9 ?_
  refine j_istore_n 3 (L' := [(3, _), (0, _), (1, _), (2, _)]) dX5_showAlters_10 rfl rfl rfl ?_
  exact j_locR (loop (p.1 9).toNat 0 _ (by omega) (by rw [show (shN (p.2 3) (fun j => p6.2 0 (p.2 0 j)) (fun j => p6.2 1 (p.2 0 j)) key (F0X (p.2 8)) (p.2 5) 0) = (F0X (p.2 8), p.2 5) from rfl]; show AtX5 G _ a q (oA (oA p 8 (rng (p.2 8) 0 63 (-3))) 5 (p.2 5)); rw [show p.2 5 = (oA p 8 (rng (p.2 8) 0 63 (-3))).2 5 from rfl, oA_id]; exact hP) hF5 hP6) (by repeat' (first | exact True.intro | refine And.intro rfl ?_))
set_option maxRecDepth 100000 in
theorem c_X5_showAltersAsWritten {l : Launch} {G : jG} {h : jH} {a : Nat} {q : Nat → Nat} {p : OS} {a6 : Nat} {q6 : Nat → Nat} {p6 : OS} {key : Int} (hP : AtX5 G h a q p) (hn : mN p) (hs : sgZ p6 p) (hb : ∀ j : Int, 0 ≤ j → j < p.1 9 → p.2 3 j = 0 ∨ p.2 3 j = 1) (hP6 : AtX6 G h a6 q6 p6) (hn6 : pN p6) (hz6 : eA p6) (hd : ∀ b, ft AX6 a6 q6 b → ¬ ft AX5 a q b) (hk : -7 ≤ key ∧ key ≤ 7) : jC l G yX5_showAltersAsWritten mX5_showAltersAsWritten [.ref a, .ref a6, vI key] h (jW oN (fun h' => AtX5 G h' a q (oA (oA p 8 (shN (p.2 3) (fun j => p6.2 5 (p.2 0 j)) (fun j => p6.2 6 (p.2 0 j)) key (F0X (p.2 8)) (p.2 6) (p.1 9).toNat).1) 6 (shN (p.2 3) (fun j => p6.2 5 (p.2 0 j)) (fun j => p6.2 6 (p.2 0 j)) key (F0X (p.2 8)) (p.2 6) (p.1 9).toNat).2) ∧ Fr (ft AX5 a q) h h')) := by
  have hn2 : 0 ≤ p.1 9 ∧ p.1 9 ≤ 128 := hn
  have hn62 : 0 ≤ p6.1 7 ∧ p6.1 7 ≤ 512 := hn6
  have hal : ∀ j : Int, 0 ≤ j → j < p.1 9 → -3 ≤ p6.2 6 (p.2 0 j) ∧ p6.2 6 (p.2 0 j) ≤ 2 := fun j h0 h1 => by
    have := hz6 (p.2 0 j) (hs j h0 h1).1.1 (hs j h0 h1).1.2
    have := this.2.1; have := (hz6 (p.2 0 j) (hs j h0 h1).1.1 (hs j h0 h1).1.2).2.2.2.2.2.2
    omega
  have hF0 : ∀ i : Int, 0 ≤ i → i < 63 → -3 ≤ F0X (p.2 8) i ∧ F0X (p.2 8) i ≤ 2 := fun i h0 h1 => by
    show -3 ≤ rng (p.2 8) 0 63 (-3) i ∧ rng (p.2 8) 0 63 (-3) i ≤ 2
    unfold rng
    rw [if_pos ⟨h0, h1⟩]
    omega
  have loop : ∀ (n k : Nat) (h2 : jH), (k : Int) + n = p.1 9 → AtX5 G h2 a q (oA (oA p 8 (shN (p.2 3) (fun j => p6.2 5 (p.2 0 j)) (fun j => p6.2 6 (p.2 0 j)) key (F0X (p.2 8)) (p.2 6) k).1) 6 (shN (p.2 3) (fun j => p6.2 5 (p.2 0 j)) (fun j => p6.2 6 (p.2 0 j)) key (F0X (p.2 8)) (p.2 6) k).2) → Fr (ft AX5 a q) h h2 → AtX6 G h2 a6 q6 p6 → J l G mX5_showAltersAsWritten (jQ G mX5_showAltersAsWritten (jW oN (fun h' => AtX5 G h' a q (oA (oA p 8 (shN (p.2 3) (fun j => p6.2 5 (p.2 0 j)) (fun j => p6.2 6 (p.2 0 j)) key (F0X (p.2 8)) (p.2 6) (p.1 9).toNat).1) 6 (shN (p.2 3) (fun j => p6.2 5 (p.2 0 j)) (fun j => p6.2 6 (p.2 0 j)) key (F0X (p.2 8)) (p.2 6) (p.1 9).toNat).2) ∧ Fr (ft AX5 a q) h h'))) 0 0 11 [(3, vI (k : Int)), (0, .ref a), (1, .ref a6), (2, vI key)] [] h2 := by
    intro n
    induction n with
    | zero =>
      intro k h2 hk hP hF hP6
      obtain rfl : k = (p.1 9).toNat := by omega
      refine j_iload_n 3 dX5_showAltersAsWritten_11 rfl rfl ?_
      refine j_aload_n 0 dX5_showAltersAsWritten_12 rfl rfl ?_
      refine j_get fX5_40 dX5_showAltersAsWritten_13 hP.1 rfl ?_
      refine J_top (p.1 9) ?_ (by rfl)
      refine J_icmp_ge 77 dX5_showAltersAsWritten_16 (by decide) (fun c16 => ?_) (fun c16 => absurd c16 (by omega)) 
      refine j_vret rfl dX5_showAltersAsWritten_77 ?_
      exact ⟨rfl, hP, hF⟩
    | succ n ih =>
      intro k h2 hk2 hP hF hP6
      obtain ⟨hin, htk, hln⟩ := hs k (by omega) (by omega)
      have hbk := hb k (by omega) (by omega)
      have halk := hal k (by omega) (by omega)
      have hrg := shN_rg (first := p.2 3) (pl := fun j => p6.2 5 (p.2 0 j)) (al := fun j => p6.2 6 (p.2 0 j)) (key := key) (S0 := p.2 6) hF0 k (fun j h0 h1 => hal j h0 (by omega))
      obtain ⟨e, he⟩ : ∃ e, e = p.2 0 k := ⟨_, rfl⟩
      have hez := hz6 e (by rw [he]; exact hin.1) (by rw [he]; exact hin.2)
      have hpl0 := hez.1
      have hpl5 := hez.2.2.2.2.2.1
      rw [← he] at hin halk
      have back := ih (k + 1)
      rw [show (shN (p.2 3) (fun j => p6.2 5 (p.2 0 j)) (fun j => p6.2 6 (p.2 0 j)) key (F0X (p.2 8)) (p.2 6) (k + 1)) = if p.2 3 k ≠ 0 then (atsF (shN (p.2 3) (fun j => p6.2 5 (p.2 0 j)) (fun j => p6.2 6 (p.2 0 j)) key (F0X (p.2 8)) (p.2 6) k).1 (p6.2 5 (p.2 0 k)) (p6.2 6 (p.2 0 k)) key, upI (shN (p.2 3) (fun j => p6.2 5 (p.2 0 j)) (fun j => p6.2 6 (p.2 0 j)) key (F0X (p.2 8)) (p.2 6) k).2 k (atsV (shN (p.2 3) (fun j => p6.2 5 (p.2 0 j)) (fun j => p6.2 6 (p.2 0 j)) key (F0X (p.2 8)) (p.2 6) k).1 (p6.2 5 (p.2 0 k)) (p6.2 6 (p.2 0 k)) key)) else ((shN (p.2 3) (fun j => p6.2 5 (p.2 0 j)) (fun j => p6.2 6 (p.2 0 j)) key (F0X (p.2 8)) (p.2 6) k).1, upI (shN (p.2 3) (fun j => p6.2 5 (p.2 0 j)) (fun j => p6.2 6 (p.2 0 j)) key (F0X (p.2 8)) (p.2 6) k).2 k (-3)) from rfl, ← he] at back
      obtain ⟨s, hss⟩ : ∃ s, s = (shN (p.2 3) (fun j => p6.2 5 (p.2 0 j)) (fun j => p6.2 6 (p.2 0 j)) key (F0X (p.2 8)) (p.2 6) k) := ⟨_, rfl⟩
      rw [← hss] at hP hrg back
      refine j_iload_n 3 dX5_showAltersAsWritten_11 rfl rfl ?_
      refine j_aload_n 0 dX5_showAltersAsWritten_12 rfl rfl ?_
      refine j_get fX5_40 dX5_showAltersAsWritten_13 hP.1 rfl ?_
      refine J_top (p.1 9) ?_ (by rfl)
      refine J_icmp_ge 77 dX5_showAltersAsWritten_16 (by decide) (fun c16 => absurd c16 (by omega)) (fun c16 => ?_) 
      refine j_iload_n 3 dX5_showAltersAsWritten_19 rfl rfl ?_
      refine J_sipush dX5_showAltersAsWritten_20 (by decide) ?_
      refine J_icmp_ge 77 dX5_showAltersAsWritten_23 (by decide) (fun c23 => absurd c23 (by omega)) (fun c23 => ?_) 
      refine j_aload_n 0 dX5_showAltersAsWritten_26 rfl rfl ?_
      refine j_get fX5_9 dX5_showAltersAsWritten_27 hP.1 rfl ?_
      refine j_iload_n 3 dX5_showAltersAsWritten_30 rfl rfl ?_
      refine J_iald dX5_showAltersAsWritten_31 (hP.2.1 0 rfl) ?_ 
      refine J_top (e) ?_ (by exact he.symm)
      refine j_istore (L' := [(4, _), (3, _), (0, _), (1, _), (2, _)]) dX5_showAltersAsWritten_32 rfl rfl ?_
      refine j_aload_n 0 dX5_showAltersAsWritten_34 rfl rfl ?_
      refine j_get fX5_31 dX5_showAltersAsWritten_35 hP.1 rfl ?_
      refine j_iload_n 3 dX5_showAltersAsWritten_38 rfl rfl ?_
      refine j_aload_n 0 dX5_showAltersAsWritten_39 rfl rfl ?_
      refine j_get fX5_21 dX5_showAltersAsWritten_40 hP.1 rfl ?_
      refine j_iload_n 3 dX5_showAltersAsWritten_43 rfl rfl ?_
      refine J_zald dX5_showAltersAsWritten_44 (hP.2.1 3 rfl) ?_ 
      refine J_top (p.2 3 k) ?_ (by rfl)
      refine J_if_eq 68 dX5_showAltersAsWritten_45 (by decide) (fun c45 => ?_) (fun c45 => ?_) 
      · refine J_bipush dX5_showAltersAsWritten_68 (by decide) ?_
        refine J_iastA 6 hP rfl (fun _ => rfl) (fun _ => rfl) dX5_showAltersAsWritten_70 (fun h hP hF70 => ?_) 
        have hF := hF.tr hF70
        have hP6 := hP6.keep hF70 hd
        refine J_iinc (L' := [(3, _), (4, _), (0, _), (1, _), (2, _)]) dX5_showAltersAsWritten_71 rfl rfl rfl ?_
        refine j_goto 11 dX5_showAltersAsWritten_74 (by decide) ?_
        first | (rw [if_pos c45] at back; exact j_locR (back h (by omega) (by show AtX5 G h a q (oA (oA p 8 (atsF s.1 (p6.2 5 e) (p6.2 6 e) key)) 6 (upI s.2 k (atsV s.1 (p6.2 5 e) (p6.2 6 e) key))); rw [← oA85 p 6 (by decide) s.1 s.2]; exact hP) hF hP6) (by repeat' (first | exact True.intro | refine And.intro rfl ?_))) | (rw [if_neg (fun z => z c45)] at back; exact j_locR (back h (by omega) (by rw [oA85b] at hP; exact hP) hF hP6) (by repeat' (first | exact True.intro | refine And.intro rfl ?_)))
      · refine j_aload_n 0 dX5_showAltersAsWritten_48 rfl rfl ?_
        refine j_aload_n 1 dX5_showAltersAsWritten_49 rfl rfl ?_
        refine j_iload dX5_showAltersAsWritten_50 rfl ?_
        refine J_callV1 kX5_143 cvX6_writtenPlaceAt hP6.1 (c_X6_writtenPlaceAt hP6 hn6 (by omega)) rfl rfl rfl rfl rfl dX5_showAltersAsWritten_52 rfl rfl ?_
        refine J_top (p6.2 5 e) ?_ (by exact if_pos hin)
        refine j_aload_n 1 dX5_showAltersAsWritten_55 rfl rfl ?_
        refine j_iload dX5_showAltersAsWritten_56 rfl ?_
        refine J_callV1 kX5_146 cvX6_writtenAlterAt hP6.1 (c_X6_writtenAlterAt hP6 hn6 (by omega)) rfl rfl rfl rfl rfl dX5_showAltersAsWritten_58 rfl rfl ?_
        refine J_top (p6.2 6 e) ?_ (by exact if_pos hin)
        refine j_iload_n 2 dX5_showAltersAsWritten_61 rfl rfl ?_
        refine J_callVW1 kX5_139 cvX5_alterToShow hP.1 (c_X5_alterToShow hP hrg (by omega) (by omega) hk) rfl rfl rfl rfl rfl dX5_showAltersAsWritten_62 rfl rfl (fun h hp => ?_)
        obtain ⟨hP, hF9⟩ := hp
        have hF := hF.tr hF9
        have hP6 := hP6.keep hF9 hd
        refine j_goto 70 dX5_showAltersAsWritten_65 (by decide) ?_
        refine J_iastA 6 hP rfl (fun _ => rfl) (fun _ => rfl) dX5_showAltersAsWritten_70 (fun h hP hF70 => ?_) 
        have hF := hF.tr hF70
        have hP6 := hP6.keep hF70 hd
        refine J_iinc (L' := [(3, _), (4, _), (0, _), (1, _), (2, _)]) dX5_showAltersAsWritten_71 rfl rfl rfl ?_
        refine j_goto 11 dX5_showAltersAsWritten_74 (by decide) ?_
        first | (rw [if_pos c45] at back; exact j_locR (back h (by omega) (by show AtX5 G h a q (oA (oA p 8 (atsF s.1 (p6.2 5 e) (p6.2 6 e) key)) 6 (upI s.2 k (atsV s.1 (p6.2 5 e) (p6.2 6 e) key))); rw [← oA85 p 6 (by decide) s.1 s.2]; exact hP) hF hP6) (by repeat' (first | exact True.intro | refine And.intro rfl ?_))) | (rw [if_neg (fun z => z c45)] at back; exact j_locR (back h (by omega) (by rw [oA85b] at hP; exact hP) hF hP6) (by repeat' (first | exact True.intro | refine And.intro rfl ?_)))
  refine j_body (by decide +kernel) ⟨rfl, rfl⟩ rfl ?_
  refine j_aload_n 0 dX5_showAltersAsWritten_0 rfl rfl ?_
  refine j_get fX5_37 dX5_showAltersAsWritten_1 hP.1 rfl ?_
  refine J_bipush dX5_showAltersAsWritten_4 (by decide) ?_
  refine J_callSW0 kX5_127 csJ7_fill_53178 (c_J7_fill_53178 (hP.2.1 8 rfl) (by decide)) rfl rfl rfl rfl rfl dX5_showAltersAsWritten_6 rfl rfl (fun h hp => ?_)
  subst hp
  have hF5 : Fr (ft AX5 a q) h (hset h (q 8) (ai G 63 (rng (p.2 8) 0 63 (-3)))) := Fr.set (Or.inr ⟨8, rfl, rfl⟩)
  have hP := hP.arrw (k := 8) rfl (rng (p.2 8) 0 63 (-3)) rfl
  have hP6 := hP6.keep hF5 hd
  refine J_iconst dX5_showAltersAsWritten_9 ?_
  refine j_istore_n 3 (L' := [(3, _), (0, _), (1, _), (2, _)]) dX5_showAltersAsWritten_10 rfl rfl rfl ?_
  exact j_locR (loop (p.1 9).toNat 0 _ (by omega) (by rw [show (shN (p.2 3) (fun j => p6.2 5 (p.2 0 j)) (fun j => p6.2 6 (p.2 0 j)) key (F0X (p.2 8)) (p.2 6) 0) = (F0X (p.2 8), p.2 6) from rfl]; show AtX5 G _ a q (oA (oA p 8 (rng (p.2 8) 0 63 (-3))) 6 (p.2 6)); rw [show p.2 6 = (oA p 8 (rng (p.2 8) 0 63 (-3))).2 6 from rfl, oA_id]; exact hP) hF5 hP6) (by repeat' (first | exact True.intro | refine And.intro rfl ?_))
