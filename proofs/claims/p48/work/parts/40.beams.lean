def grpG (p6 p : OS) (fr gl : Int) (j : Int) : Int := if p.2 2 j ≤ 12 ∧ p6.2 0 (p.2 0 j) ≠ 0 then (p.2 1 j - fr) / gl else -1
def bmS (g : Int → Int) (p : OS) (k : Int) : OS := if 0 < k ∧ g k ≠ -1 ∧ g k = g (k - 1) then joinP (oA p 7 (upI (p.2 7) k (-1))) k else oA p 7 (upI (p.2 7) k (-1))
def bmP (g : Int → Int) (p : OS) : Nat → OS
  | 0 => oU p 10 0
  | k + 1 => bmS g (bmP g p k) k
theorem joinP_f (p : OS) (k : Int) : (joinP p k).1 9 = p.1 9 ∧ ∀ i : Nat, i ≠ 7 → (joinP p k).2 i = p.2 i := by
  unfold joinP joiP
  split
  · exact ⟨rfl, fun i hi => by simp [oA, oU, hi]⟩
  · exact ⟨rfl, fun i hi => by simp [oA, hi]⟩
theorem bmP_f (g : Int → Int) (p : OS) : ∀ k : Nat, (bmP g p k).1 9 = p.1 9 ∧ ∀ i : Nat, i ≠ 7 → (bmP g p k).2 i = p.2 i
  | 0 => ⟨rfl, fun _ _ => rfl⟩
  | k + 1 => by
    have ih := bmP_f g p k
    have e : bmP g p (k + 1) = bmS g (bmP g p k) k := rfl
    rw [e]
    unfold bmS
    split
    · have j := joinP_f (oA (bmP g p k) 7 (upI ((bmP g p k).2 7) k (-1))) k
      exact ⟨j.1.trans ih.1, fun i hi => (j.2 i hi).trans ((oA_n hi).trans (ih.2 i hi))⟩
    · exact ⟨ih.1, fun i hi => (oA_n hi).trans (ih.2 i hi)⟩
def bmZ (p : OS) (k : Int) : Prop := (0 ≤ p.1 10 ∧ p.1 10 ≤ k) ∧ ∀ j : Int, 0 ≤ j → j < k → -1 ≤ p.2 7 j ∧ p.2 7 j ≤ 128
theorem bmZ_s {g : Int → Int} {p : OS} {k : Int} (h0 : 0 ≤ k) (hk : k < 128) (h : bmZ p k) : bmZ (bmS g p k) (k + 1) := by
  have hq : bmZ (oA p 7 (upI (p.2 7) k (-1))) (k + 1) := ⟨⟨h.1.1, by have := h.1.2; show p.1 10 ≤ k + 1; omega⟩, fun j h1 h2 => by
    show -1 ≤ upI (p.2 7) k (-1) j ∧ upI (p.2 7) k (-1) j ≤ 128
    by_cases e : j = k
    · subst e; rw [upI_s]; omega
    · rw [upI_n e]; exact h.2 j h1 (by omega)⟩
  unfold bmS
  split
  · rename_i c
    obtain ⟨q, hqe⟩ : ∃ q, q = oA p 7 (upI (p.2 7) k (-1)) := ⟨_, rfl⟩
    have hq10 : q.1 10 ≤ k := by rw [hqe]; exact h.1.2
    rw [← hqe] at hq ⊢
    unfold joinP joiP
    split
    · refine ⟨⟨by show 0 ≤ q.1 10 + 1; have := hq.1.1; omega, by show q.1 10 + 1 ≤ k + 1; omega⟩, fun j h1 h2 => ?_⟩
      show -1 ≤ upI (upI (q.2 7) (k - 1) (q.1 10)) k (upI (q.2 7) (k - 1) (q.1 10) (k - 1)) j ∧ upI (upI (q.2 7) (k - 1) (q.1 10)) k (upI (q.2 7) (k - 1) (q.1 10) (k - 1)) j ≤ 128
      have := hq.1
      rw [upI_s]
      exact upI_rg (upI_rg (hq.2 j h1 h2) ⟨by omega, by omega⟩) ⟨by omega, by omega⟩
    · refine ⟨hq.1, fun j h1 h2 => ?_⟩
      show -1 ≤ upI (q.2 7) k (q.2 7 (k - 1)) j ∧ upI (q.2 7) k (q.2 7 (k - 1)) j ≤ 128
      exact upI_rg (hq.2 j h1 h2) (hq.2 (k - 1) (by omega) (by omega))
  · exact hq
theorem bmZ_P (g : Int → Int) (p : OS) : ∀ k : Nat, k ≤ 128 → bmZ (bmP g p k) k
  | 0, _ => ⟨⟨Int.le_refl _, Int.le_refl _⟩, fun j h0 h1 => absurd h1 (by simp; omega)⟩
  | k + 1, h => bmZ_s (by omega) (by omega) (bmZ_P g p k (by omega))
theorem grpG_rg {p6 p : OS} {fr gl j : Int} (hgl : gl = 16 ∨ gl = 24 ∨ gl = 32) (h0 : fr ≤ p.2 1 j) (hf : 0 ≤ fr) (h : p.2 1 j ≤ 20000) : -1 ≤ grpG p6 p fr gl j ∧ grpG p6 p fr gl j ≤ 20000 := by
  unfold grpG
  rcases hgl with e | e | e <;> subst e <;> split <;> omega
set_option maxRecDepth 100000 in
theorem c_X5_beamSigns {l : Launch} {G : jG} {h : jH} {a : Nat} {q : Nat → Nat} {p : OS} {a6 : Nat} {q6 : Nat → Nat} {p6 : OS} {fr gl : Int} (hP : AtX5 G h a q p) (hn : mN p) (hs : sgZ p6 p) (hgl : gl = 16 ∨ gl = 24 ∨ gl = 32) (hfr : 0 ≤ fr) (hft : ∀ j : Int, 0 ≤ j → j < p.1 9 → fr ≤ p.2 1 j) (hP6 : AtX6 G h a6 q6 p6) (hn6 : pN p6) (hz6 : eA p6) (hd : ∀ b, ft AX6 a6 q6 b → ¬ ft AX5 a q b) : jC l G yX5_beamSigns mX5_beamSigns [.ref a, .ref a6, vI fr, vI gl] h (jW oN (fun h' => AtX5 G h' a q (bmP (grpG p6 p fr gl) p (p.1 9).toNat) ∧ Fr (ft AX5 a q) h h')) := by
  have hn2 : 0 ≤ p.1 9 ∧ p.1 9 ≤ 128 := hn
  have hn62 : 0 ≤ p6.1 7 ∧ p6.1 7 ≤ 512 := hn6
  have hgl0 : 16 ≤ gl ∧ gl ≤ 32 := by omega
  have loop : ∀ (n k : Nat) (ga : Int) (h2 : jH), (k : Int) + n = p.1 9 → rg ga → (0 < (k : Int) → ga = grpG p6 p fr gl (k - 1)) → AtX5 G h2 a q (bmP (grpG p6 p fr gl) p k) → Fr (ft AX5 a q) h h2 → AtX6 G h2 a6 q6 p6 → J l G mX5_beamSigns (jQ G mX5_beamSigns (jW oN (fun h' => AtX5 G h' a q (bmP (grpG p6 p fr gl) p (p.1 9).toNat) ∧ Fr (ft AX5 a q) h h'))) 0 0 11 [(5, vI (k : Int)), (4, vI ga), (0, .ref a), (1, .ref a6), (2, vI fr), (3, vI gl)] [] h2 := by
    intro n
    induction n with
    | zero =>
      intro k ga h2 hk hga hgk hP hF hP6
      obtain rfl : k = (p.1 9).toNat := by omega
      have hbf := bmP_f (grpG p6 p fr gl) p (p.1 9).toNat
      refine j_iload dX5_beamSigns_11 rfl ?_
      refine j_aload_n 0 dX5_beamSigns_13 rfl rfl ?_
      refine j_get fX5_40 dX5_beamSigns_14 hP.1 rfl ?_
      refine J_top (p.1 9) ?_ (by exact hbf.1)
      refine J_icmp_ge 116 dX5_beamSigns_17 (by decide) (fun c17 => ?_) (fun c17 => absurd c17 (by omega)) 
      refine j_vret rfl dX5_beamSigns_116 ?_
      exact ⟨rfl, hP, hF⟩
    | succ n ih =>
      intro k ga h2 hk hga hgk hP hF hP6
      obtain ⟨hin, htk, hln⟩ := hs k (by omega) (by omega)
      have hf2 := hft k (by omega) (by omega)
      have hbf := bmP_f (grpG p6 p fr gl) p k
      have hbz := bmZ_P (grpG p6 p fr gl) p k (by omega)
      have hgr := grpG_rg (p6 := p6) (p := p) hgl hf2 hfr htk.2
      have hgd : (p.2 1 k - fr).tdiv gl = (p.2 1 k - fr) / gl := Int.tdiv_eq_ediv_of_nonneg (by omega)
      obtain ⟨e, he⟩ : ∃ e, e = p.2 0 k := ⟨_, rfl⟩
      have hge : grpG p6 p fr gl k = if p.2 2 k ≤ 12 ∧ p6.2 0 e ≠ 0 then (p.2 1 k - fr) / gl else -1 := by rw [he]; rfl
      rw [← he] at hin
      have back := ih (k + 1) (grpG p6 p fr gl k)
      rw [show bmP (grpG p6 p fr gl) p (k + 1) = bmS (grpG p6 p fr gl) (bmP (grpG p6 p fr gl) p k) k from rfl] at back
      obtain ⟨r, hrr⟩ : ∃ r, r = bmP (grpG p6 p fr gl) p k := ⟨_, rfl⟩
      rw [← hrr] at hP hbf hbz back
      have fin : ∀ h3, AtX5 G h3 a q (bmS (grpG p6 p fr gl) r k) → Fr (ft AX5 a q) h h3 → AtX6 G h3 a6 q6 p6 → J l G mX5_beamSigns (jQ G mX5_beamSigns (jW oN (fun h' => AtX5 G h' a q (bmP (grpG p6 p fr gl) p (p.1 9).toNat) ∧ Fr (ft AX5 a q) h h'))) 0 0 11 [(5, vI ((k : Int) + 1)), (4, vI (grpG p6 p fr gl k)), (0, .ref a), (1, .ref a6), (2, vI fr), (3, vI gl)] [] h3 := fun h3 g1 g2 g3 => back h3 (by omega) (by omega) (fun _ => by rw [show (((k + 1 : Nat) : Int) - 1) = k by omega]) g1 g2 g3
      have K74 : ∀ v, grpG p6 p fr gl k = v → J l G mX5_beamSigns (jQ G mX5_beamSigns (jW oN (fun h' => AtX5 G h' a q (bmP (grpG p6 p fr gl) p (p.1 9).toNat) ∧ Fr (ft AX5 a q) h h'))) 0 0 74 [(6, vI v), (5, vI (k : Int)), (4, vI ga), (0, .ref a), (1, .ref a6), (2, vI fr), (3, vI gl)] [] h2 := by
        intro v hv
        subst hv
        refine j_aload_n 0 dX5_beamSigns_74 rfl rfl ?_
        refine j_get fX5_34 dX5_beamSigns_75 hP.1 rfl ?_
        refine j_iload dX5_beamSigns_78 rfl ?_
        refine J_iconst dX5_beamSigns_80 ?_
        refine J_iastA 7 hP rfl (fun _ => rfl) (fun _ => rfl) dX5_beamSigns_81 (fun h hP hF81 => ?_) 
        have hF := hF.tr hF81
        have hP6 := hP6.keep hF81 hd
        refine j_iload dX5_beamSigns_82 rfl ?_
        refine J_if_le 106 dX5_beamSigns_84 (by decide) (fun c84 => ?_) (fun c84 => ?_) 
        · refine j_iload dX5_beamSigns_106 rfl ?_
          refine j_istore (L' := [(4, _), (6, _), (5, _), (0, _), (1, _), (2, _), (3, _)]) dX5_beamSigns_108 rfl rfl ?_
          refine J_iinc (L' := [(5, _), (4, _), (6, _), (0, _), (1, _), (2, _), (3, _)]) dX5_beamSigns_110 rfl rfl rfl ?_
          refine j_goto 11 dX5_beamSigns_113 (by decide) ?_
          refine j_locR (fin _ ?_ hF hP6) (by repeat' (first | exact True.intro | refine And.intro rfl ?_))
          unfold bmS
          first | (rw [if_pos ⟨c84, c90, c97.trans hgk2⟩]; exact hP) | (rw [if_neg (fun z => absurd z.1 (by omega))]; exact hP) | (rw [if_neg (fun z => z.2.1 c90)]; exact hP) | (rw [if_neg (fun z => c97 (z.2.2.trans hgk2.symm))]; exact hP)
        · refine j_iload dX5_beamSigns_87 rfl ?_
          refine J_iconst dX5_beamSigns_89 ?_
          refine J_icmp_eq 106 dX5_beamSigns_90 (by decide) (fun c90 => ?_) (fun c90 => ?_) 
          · refine j_iload dX5_beamSigns_106 rfl ?_
            refine j_istore (L' := [(4, _), (6, _), (5, _), (0, _), (1, _), (2, _), (3, _)]) dX5_beamSigns_108 rfl rfl ?_
            refine J_iinc (L' := [(5, _), (4, _), (6, _), (0, _), (1, _), (2, _), (3, _)]) dX5_beamSigns_110 rfl rfl rfl ?_
            refine j_goto 11 dX5_beamSigns_113 (by decide) ?_
            refine j_locR (fin _ ?_ hF hP6) (by repeat' (first | exact True.intro | refine And.intro rfl ?_))
            unfold bmS
            first | (rw [if_pos ⟨c84, c90, c97.trans hgk2⟩]; exact hP) | (rw [if_neg (fun z => absurd z.1 (by omega))]; exact hP) | (rw [if_neg (fun z => z.2.1 c90)]; exact hP) | (rw [if_neg (fun z => c97 (z.2.2.trans hgk2.symm))]; exact hP)
          · refine j_iload dX5_beamSigns_93 rfl ?_
            refine j_iload dX5_beamSigns_95 rfl ?_
            have hgk2 := hgk c84
            refine J_icmp_ne 106 dX5_beamSigns_97 (by decide) (fun c97 => ?_) (fun c97 => ?_) 
            · refine j_iload dX5_beamSigns_106 rfl ?_
              refine j_istore (L' := [(4, _), (6, _), (5, _), (0, _), (1, _), (2, _), (3, _)]) dX5_beamSigns_108 rfl rfl ?_
              refine J_iinc (L' := [(5, _), (4, _), (6, _), (0, _), (1, _), (2, _), (3, _)]) dX5_beamSigns_110 rfl rfl rfl ?_
              refine j_goto 11 dX5_beamSigns_113 (by decide) ?_
              refine j_locR (fin _ ?_ hF hP6) (by repeat' (first | exact True.intro | refine And.intro rfl ?_))
              unfold bmS
              first | (rw [if_pos ⟨c84, c90, c97.trans hgk2⟩]; exact hP) | (rw [if_neg (fun z => absurd z.1 (by omega))]; exact hP) | (rw [if_neg (fun z => z.2.1 c90)]; exact hP) | (rw [if_neg (fun z => c97 (z.2.2.trans hgk2.symm))]; exact hP)
            · refine j_aload_n 0 dX5_beamSigns_100 rfl rfl ?_
              refine j_iload dX5_beamSigns_101 rfl ?_
              refine J_callVW0 kX5_123 cvX5_joinToSignAhead hP.1 (c_X5_joinToSignAhead hP (show 0 ≤ r.1 9 ∧ r.1 9 ≤ 128 by rw [hbf.1]; exact hn2) (show 1 ≤ (k : Int) ∧ (k : Int) < r.1 9 by rw [hbf.1]; omega) (show rg (upI (r.2 7) k (-1) ((k : Int) - 1)) by rw [upI_n (by omega)]; have := hbz.2 ((k : Int) - 1) (by omega) (by omega); omega)) rfl rfl rfl rfl rfl dX5_beamSigns_103 rfl rfl (fun h hp => ?_)
              obtain ⟨hP, hF9⟩ := hp
              have hF := hF.tr hF9
              have hP6 := hP6.keep hF9 hd
              refine j_iload dX5_beamSigns_106 rfl ?_
              refine j_istore (L' := [(4, _), (6, _), (5, _), (0, _), (1, _), (2, _), (3, _)]) dX5_beamSigns_108 rfl rfl ?_
              refine J_iinc (L' := [(5, _), (4, _), (6, _), (0, _), (1, _), (2, _), (3, _)]) dX5_beamSigns_110 rfl rfl rfl ?_
              refine j_goto 11 dX5_beamSigns_113 (by decide) ?_
              refine j_locR (fin _ ?_ hF hP6) (by repeat' (first | exact True.intro | refine And.intro rfl ?_))
              unfold bmS
              first | (rw [if_pos ⟨c84, c90, c97.trans hgk2⟩]; exact hP) | (rw [if_neg (fun z => absurd z.1 (by omega))]; exact hP) | (rw [if_neg (fun z => z.2.1 c90)]; exact hP) | (rw [if_neg (fun z => c97 (z.2.2.trans hgk2.symm))]; exact hP)
      have K1 := fun c => K74 _ (hge.trans (if_pos c))
      have K2 := fun c => K74 _ (hge.trans (if_neg c))
      refine j_iload dX5_beamSigns_11 rfl ?_
      refine j_aload_n 0 dX5_beamSigns_13 rfl rfl ?_
      refine j_get fX5_40 dX5_beamSigns_14 hP.1 rfl ?_
      refine J_top (p.1 9) ?_ (by exact hbf.1)
      refine J_icmp_ge 116 dX5_beamSigns_17 (by decide) (fun c17 => absurd c17 (by omega)) (fun c17 => ?_) 
      refine j_iload dX5_beamSigns_20 rfl ?_
      refine J_sipush dX5_beamSigns_22 (by decide) ?_
      refine J_icmp_ge 116 dX5_beamSigns_25 (by decide) (fun c25 => absurd c25 (by omega)) (fun c25 => ?_) 
      refine J_iconst dX5_beamSigns_28 ?_
      refine j_istore (L' := [(6, _), (5, _), (4, _), (0, _), (1, _), (2, _), (3, _)]) dX5_beamSigns_29 rfl rfl ?_
      refine j_iload_n 3 dX5_beamSigns_31 rfl rfl ?_
      refine J_if_le 74 dX5_beamSigns_32 (by decide) (fun c32 => absurd c32 (by omega)) (fun c32 => ?_) 
      refine j_aload_n 0 dX5_beamSigns_35 rfl rfl ?_
      refine j_get fX5_18 dX5_beamSigns_36 hP.1 rfl ?_
      refine j_iload dX5_beamSigns_39 rfl ?_
      refine J_iald dX5_beamSigns_41 (hP.2.1 2 rfl) ?_ 
      refine J_top (p.2 2 k) ?_ (by rw [hbf.2 2 (by decide)])
      refine J_bipush dX5_beamSigns_42 (by decide) ?_
      refine J_icmp_gt 74 dX5_beamSigns_44 (by decide) (fun c44 => ?_) (fun c44 => ?_) 
      · first | exact j_locR (K1 (by omega)) (by repeat' (first | exact True.intro | refine And.intro rfl ?_)) | exact j_locR (K2 (by omega)) (by repeat' (first | exact True.intro | refine And.intro rfl ?_))
      · refine j_aload_n 1 dX5_beamSigns_47 rfl rfl ?_
        refine j_aload_n 0 dX5_beamSigns_48 rfl rfl ?_
        refine j_get fX5_9 dX5_beamSigns_49 hP.1 rfl ?_
        refine j_iload dX5_beamSigns_52 rfl ?_
        refine J_iald dX5_beamSigns_54 (hP.2.1 0 rfl) ?_ 
        refine J_top (e) ?_ (by (rw [hbf.2 0 (by decide)]; exact he.symm))
        refine J_callVZ kX5_120 cvX6_isNote hP6.1 (c_X6_isNote hP6 hn6 hz6 (by omega)) rfl rfl rfl rfl rfl dX5_beamSigns_55 rfl rfl (fun z55 => ?_) (fun z55 => ?_)
        · refine J_if_eq 74 dX5_beamSigns_58 (by decide) (fun c58 => absurd c58 (by decide)) (fun c58 => ?_) 
          refine j_aload_n 0 dX5_beamSigns_61 rfl rfl ?_
          refine j_get fX5_15 dX5_beamSigns_62 hP.1 rfl ?_
          refine j_iload dX5_beamSigns_65 rfl ?_
          refine J_iald dX5_beamSigns_67 (hP.2.1 1 rfl) ?_ 
          refine J_top (p.2 1 k) ?_ (by rw [hbf.2 1 (by decide)])
          refine j_iload_n 2 dX5_beamSigns_68 rfl rfl ?_
          refine J_isub dX5_beamSigns_69 ?_
          refine j_iload_n 3 dX5_beamSigns_70 rfl rfl ?_
          refine J_idiv dX5_beamSigns_71 ?_ 
          refine J_top ((p.2 1 k - fr) / gl) ?_ (by exact hgd)
          refine j_istore (L' := [(6, _), (5, _), (4, _), (0, _), (1, _), (2, _), (3, _)]) dX5_beamSigns_72 rfl rfl ?_
          first | exact j_locR (K1 (by omega)) (by repeat' (first | exact True.intro | refine And.intro rfl ?_)) | exact j_locR (K2 (by omega)) (by repeat' (first | exact True.intro | refine And.intro rfl ?_))
        · refine J_if_eq 74 dX5_beamSigns_58 (by decide) (fun c58 => ?_) (fun c58 => absurd c58 (by decide)) 
          first | exact j_locR (K1 (by omega)) (by repeat' (first | exact True.intro | refine And.intro rfl ?_)) | exact j_locR (K2 (by omega)) (by repeat' (first | exact True.intro | refine And.intro rfl ?_))
  refine j_body (by decide +kernel) ⟨rfl, rfl⟩ rfl ?_
  have hF : Fr (ft AX5 a q) h h := Fr.rf
  refine j_aload_n 0 dX5_beamSigns_0 rfl rfl ?_
  refine J_iconst dX5_beamSigns_1 ?_
  refine J_putA hP fX5_44 tyX5_beamCount dX5_beamSigns_2 rfl rfl (fun h hP hF2 => ?_)
  have hF := hF.tr hF2
  have hP6 := hP6.keep hF2 hd
  refine J_iconst dX5_beamSigns_5 ?_
  refine j_istore (L' := [(4, _), (0, _), (1, _), (2, _), (3, _)]) dX5_beamSigns_6 rfl rfl ?_
  refine J_iconst dX5_beamSigns_8 ?_
  refine j_istore (L' := [(5, _), (4, _), (0, _), (1, _), (2, _), (3, _)]) dX5_beamSigns_9 rfl rfl ?_
  exact j_locR (loop (p.1 9).toNat 0 (-1) _ (by omega) (by omega) (fun z => absurd z (by decide)) hP hF hP6) (by repeat' (first | exact True.intro | refine And.intro rfl ?_))
