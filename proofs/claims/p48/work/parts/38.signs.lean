def sgnP (p : OS) (e t le : Int) : OS := if p.1 9 < 128 then oU (oA (oA (oA p 0 (upI (p.2 0) (p.1 9) e)) 1 (upI (p.2 1) (p.1 9) t)) 2 (upI (p.2 2) (p.1 9) le)) 9 (p.1 9 + 1) else p
def strP (e to : Int) : Nat → Int → OS → OS
  | 0, _, p => p
  | n + 1, t, p => if t < to then strP e to n (t + great (to - t)) (sgnP p e t (great (to - t))) else p
def atsI (F : Int → Int) (pl key : Int) : Int := if F pl = -3 then altK key (pl % 7) else F pl
def atsV (F : Int → Int) (pl al key : Int) : Int := if pl < 1 ∨ 63 ≤ pl then -3 else if al = atsI F pl key then -3 else al
def atsF (F : Int → Int) (pl al key : Int) : Int → Int := if pl < 1 ∨ 63 ≤ pl then F else if al = atsI F pl key then F else upI F pl al
def joiP (p : OS) (k : Int) : OS := oA p 7 (upI (p.2 7) k (p.2 7 (k - 1)))
def joinP (p : OS) (k : Int) : OS := joiP (if p.2 7 (k - 1) = -1 then oU (oA p 7 (upI (p.2 7) (k - 1) (p.1 10))) 10 (p.1 10 + 1) else p) k
theorem mN_sgn {p : OS} {e t le : Int} (h : mN p) : mN (sgnP p e t le) := by
  unfold mN at *
  unfold sgnP
  split
  · show 0 ≤ p.1 9 + 1 ∧ p.1 9 + 1 ≤ 128
    omega
  · exact h
theorem great_rg (t : Int) (h : 0 < t) : 0 < great t ∧ great t ≤ t ∧ great t ≤ 96 := by
  unfold great
  repeat' split
  all_goals omega
theorem altK_rg (k s : Int) : -1 ≤ altK k s ∧ altK k s ≤ 1 := by
  unfold altK
  repeat' split
  all_goals omega
set_option maxRecDepth 100000 in
theorem c_X5_addSign {l : Launch} {G : jG} {h : jH} {a : Nat} {q : Nat → Nat} {p : OS}{e t le : Int} (hP : AtX5 G h a q p) (hn : mN p) : jC l G yX5_addSign mX5_addSign [.ref a, vI e, vI t, vI le] h (jW oN (fun h' => AtX5 G h' a q (sgnP p e t le) ∧ Fr (ft AX5 a q) h h')) := by
  refine j_body (by decide +kernel) ⟨rfl, rfl⟩ rfl ?_
  have hn2 : 0 ≤ p.1 9 ∧ p.1 9 ≤ 128 := hn
  have hF : Fr (ft AX5 a q) h h := Fr.rf
  refine j_aload_n 0 dX5_addSign_0 rfl rfl ?_
  refine j_get fX5_40 dX5_addSign_1 hP.1 rfl ?_
  refine J_if_lt 17 dX5_addSign_4 (by decide) (fun c4 => absurd c4 (by omega)) (fun c4 => ?_) 
  refine j_aload_n 0 dX5_addSign_7 rfl rfl ?_
  refine j_get fX5_40 dX5_addSign_8 hP.1 rfl ?_
  refine J_sipush dX5_addSign_11 (by decide) ?_
  refine J_icmp_lt 18 dX5_addSign_14 (by decide) (fun c14 => ?_) (fun c14 => ?_) 
  · refine j_aload_n 0 dX5_addSign_18 rfl rfl ?_
    refine j_get fX5_9 dX5_addSign_19 hP.1 rfl ?_
    refine j_aload_n 0 dX5_addSign_22 rfl rfl ?_
    refine j_get fX5_40 dX5_addSign_23 hP.1 rfl ?_
    refine j_iload_n 1 dX5_addSign_26 rfl rfl ?_
    refine J_iastA 0 hP rfl (fun _ => rfl) (fun _ => rfl) dX5_addSign_27 (fun h hP hF27 => ?_) 
    have hF := hF.tr hF27
    refine j_aload_n 0 dX5_addSign_28 rfl rfl ?_
    refine j_get fX5_15 dX5_addSign_29 hP.1 rfl ?_
    refine j_aload_n 0 dX5_addSign_32 rfl rfl ?_
    refine j_get fX5_40 dX5_addSign_33 hP.1 rfl ?_
    refine J_top (p.1 9) ?_ (by rfl)
    refine j_iload_n 2 dX5_addSign_36 rfl rfl ?_
    refine J_iastA 1 hP rfl (fun _ => rfl) (fun _ => rfl) dX5_addSign_37 (fun h hP hF37 => ?_) 
    have hF := hF.tr hF37
    refine j_aload_n 0 dX5_addSign_38 rfl rfl ?_
    refine j_get fX5_18 dX5_addSign_39 hP.1 rfl ?_
    refine j_aload_n 0 dX5_addSign_42 rfl rfl ?_
    refine j_get fX5_40 dX5_addSign_43 hP.1 rfl ?_
    refine J_top (p.1 9) ?_ (by rfl)
    refine j_iload_n 3 dX5_addSign_46 rfl rfl ?_
    refine J_iastA 2 hP rfl (fun _ => rfl) (fun _ => rfl) dX5_addSign_47 (fun h hP hF47 => ?_) 
    have hF := hF.tr hF47
    refine j_aload_n 0 dX5_addSign_48 rfl rfl ?_
    refine j_dup dX5_addSign_49 rfl ?_
    refine j_get fX5_40 dX5_addSign_50 hP.1 rfl ?_
    refine J_top (p.1 9) ?_ (by rfl)
    refine J_iconst dX5_addSign_53 ?_
    refine J_iadd dX5_addSign_54 ?_
    refine J_putA hP fX5_40 tyX5_count dX5_addSign_55 rfl rfl (fun h hP hF55 => ?_)
    have hF := hF.tr hF55
    refine j_vret rfl dX5_addSign_58 ?_
    exact ⟨rfl, by unfold sgnP; rw [if_pos c14]; exact hP, hF⟩
  · refine j_vret rfl dX5_addSign_17 ?_
    exact ⟨rfl, by unfold sgnP; rw [if_neg (by omega)]; exact hP, hF⟩
set_option maxRecDepth 100000 in
theorem c_X5_writeStretch {l : Launch} {G : jG} {h : jH} {a : Nat} {q : Nat → Nat} {p : OS} {e fr to : Int} (hP : AtX5 G h a q p) (hn : mN p) (hfr : 0 ≤ fr ∧ fr ≤ 100000) (hto : 0 ≤ to ∧ to ≤ 100000) : jC l G yX5_writeStretch mX5_writeStretch [.ref a, vI e, vI fr, vI to] h (jW oN (fun h' => AtX5 G h' a q (strP e to 128 fr p) ∧ Fr (ft AX5 a q) h h')) := by
  obtain ⟨R, hR⟩ : ∃ R, R = strP e to 128 fr p := ⟨_, rfl⟩
  rw [← hR]
  have loop : ∀ (n : Nat) (i t : Int) (p : OS) (h2 : jH), i + n = 128 → 0 ≤ i → 0 ≤ t → t ≤ 100000 → mN p → AtX5 G h2 a q p → Fr (ft AX5 a q) h h2 → strP e to n t p = R → J l G mX5_writeStretch (jQ G mX5_writeStretch (jW oN (fun h' => AtX5 G h' a q R ∧ Fr (ft AX5 a q) h h'))) 0 0 6 [(5, vI i), (4, vI t), (0, .ref a), (1, vI e), (2, vI fr), (3, vI to)] [] h2 := by
    intro n
    induction n with
    | zero =>
      intro i t p h2 hi h0 ht0 ht hn hP hF hr
      refine j_iload dX5_writeStretch_6 rfl ?_
      refine J_sipush dX5_writeStretch_8 (by decide) ?_
      refine J_icmp_ge 51 dX5_writeStretch_11 (by decide) (fun c11 => ?_) (fun c11 => absurd c11 (by omega)) 
      refine j_vret rfl dX5_writeStretch_51 ?_
      exact ⟨rfl, hr ▸ hP, hF⟩
    | succ n ih =>
      intro i t p h2 hi h0 ht0 ht hn hP hF hr
      unfold strP at hr
      refine j_iload dX5_writeStretch_6 rfl ?_
      refine J_sipush dX5_writeStretch_8 (by decide) ?_
      refine J_icmp_ge 51 dX5_writeStretch_11 (by decide) (fun c11 => absurd c11 (by omega)) (fun c11 => ?_) 
      refine j_iload dX5_writeStretch_14 rfl ?_
      refine j_iload_n 3 dX5_writeStretch_16 rfl rfl ?_
      refine J_icmp_ge 51 dX5_writeStretch_17 (by decide) (fun c17 => ?_) (fun c17 => ?_) 
      · refine j_vret rfl dX5_writeStretch_51 ?_
        exact ⟨rfl, by rw [if_neg (by omega)] at hr; exact hr ▸ hP, hF⟩
      · refine j_iload_n 3 dX5_writeStretch_20 rfl rfl ?_
        refine j_iload dX5_writeStretch_21 rfl ?_
        refine J_isub dX5_writeStretch_23 ?_
        refine J_callS1 kX5_112 csX8_greatestIn (c_X8_greatestIn (by omega)) rfl rfl rfl rfl rfl dX5_writeStretch_24 rfl rfl ?_
        have hg := great_rg (to - t) (by omega)
        refine j_istore (L' := [(6, _), (5, _), (4, _), (0, _), (1, _), (2, _), (3, _)]) dX5_writeStretch_27 rfl rfl ?_
        refine j_aload_n 0 dX5_writeStretch_29 rfl rfl ?_
        refine j_iload_n 1 dX5_writeStretch_30 rfl rfl ?_
        refine j_iload dX5_writeStretch_31 rfl ?_
        refine j_iload dX5_writeStretch_33 rfl ?_
        refine J_callVW0 kX5_117 cvX5_addSign hP.1 (c_X5_addSign hP hn) rfl rfl rfl rfl rfl dX5_writeStretch_35 rfl rfl (fun h hp => ?_)
        refine j_iload dX5_writeStretch_38 rfl ?_
        refine j_iload dX5_writeStretch_40 rfl ?_
        refine J_iadd dX5_writeStretch_42 ?_
        refine j_istore (L' := [(4, _), (6, _), (5, _), (0, _), (1, _), (2, _), (3, _)]) dX5_writeStretch_43 rfl rfl ?_
        refine J_iinc (L' := [(5, _), (4, _), (6, _), (0, _), (1, _), (2, _), (3, _)]) dX5_writeStretch_45 rfl rfl rfl ?_
        refine j_goto 6 dX5_writeStretch_48 (by decide) ?_
        rw [if_pos c17] at hr
        exact j_locR (ih (i + 1) (t + great (to - t)) (sgnP p e t (great (to - t))) h (by omega) (by omega) (by omega) (by omega) (mN_sgn hn) hp.1 (hF.tr hp.2) hr) (by repeat' (first | exact True.intro | refine And.intro rfl ?_))
  refine j_body (by decide +kernel) ⟨rfl, rfl⟩ rfl ?_
  refine j_iload_n 2 dX5_writeStretch_0 rfl rfl ?_
  refine j_istore (L' := [(4, _), (0, _), (1, _), (2, _), (3, _)]) dX5_writeStretch_1 rfl rfl ?_
  refine J_iconst dX5_writeStretch_3 ?_
  refine j_istore (L' := [(5, _), (4, _), (0, _), (1, _), (2, _), (3, _)]) dX5_writeStretch_4 rfl rfl ?_
  exact j_locR (loop 128 0 fr p h (by omega) (by omega) (by omega) (by omega) hn hP Fr.rf hR.symm) (by repeat' (first | exact True.intro | refine And.intro rfl ?_))
set_option maxRecDepth 100000 in
theorem c_X5_alterToShow {l : Launch} {G : jG} {h : jH} {a : Nat} {q : Nat → Nat} {p : OS} {pl al key : Int} (hP : AtX5 G h a q p) (hf : ∀ i : Int, 0 ≤ i → i < 63 → -3 ≤ p.2 8 i ∧ p.2 8 i ≤ 2) (hpl : rg pl) (hal : -3 ≤ al ∧ al ≤ 2) (hk : -7 ≤ key ∧ key ≤ 7) : jC l G yX5_alterToShow mX5_alterToShow [.ref a, vI pl, vI al, vI key] h (jW (oI (atsV (p.2 8) pl al key)) (fun h' => AtX5 G h' a q (oA p 8 (atsF (p.2 8) pl al key)) ∧ Fr (ft AX5 a q) h h')) := by
  have hF : Fr (ft AX5 a q) h h := Fr.rf
  have K42 : ∀ v : Int, rg v → atsI (p.2 8) pl key = v → 1 ≤ pl → pl < 63 → J l G mX5_alterToShow (jQ G mX5_alterToShow (jW (oI (atsV (p.2 8) pl al key)) (fun h' => AtX5 G h' a q (oA p 8 (atsF (p.2 8) pl al key)) ∧ Fr (ft AX5 a q) h h'))) 0 0 42 [(4, vI v), (0, .ref a), (1, vI pl), (2, vI al), (3, vI key)] [] h := by
    intro v hv hvv h1 h2
    refine j_iload_n 2 dX5_alterToShow_42 rfl rfl ?_
    refine j_iload dX5_alterToShow_43 rfl ?_
    refine J_icmp_ne 51 dX5_alterToShow_45 (by decide) (fun c45 => ?_) (fun c45 => ?_) 
    · refine j_aload_n 0 dX5_alterToShow_51 rfl rfl ?_
      refine j_get fX5_37 dX5_alterToShow_52 hP.1 rfl ?_
      refine j_iload_n 1 dX5_alterToShow_55 rfl rfl ?_
      refine j_iload_n 2 dX5_alterToShow_56 rfl rfl ?_
      refine J_iastA 8 hP rfl (fun _ => rfl) (fun _ => rfl) dX5_alterToShow_57 (fun h hP hF57 => ?_) 
      have hF := hF.tr hF57
      refine j_iload_n 2 dX5_alterToShow_58 rfl rfl ?_
      refine j_iret rfl dX5_alterToShow_59 ?_
      exact ⟨by unfold atsV; rw [if_neg (by omega), if_neg (by omega)], by unfold atsF; rw [if_neg (by omega), if_neg (by omega)]; exact hP, hF⟩
    · refine J_bipush dX5_alterToShow_48 (by decide) ?_
      refine j_iret rfl dX5_alterToShow_50 ?_
      exact ⟨by unfold atsV; rw [if_neg (by omega), if_pos (by omega)], by unfold atsF; rw [if_neg (by omega), if_pos (by omega), oA_id]; exact hP, hF⟩
  refine j_body (by decide +kernel) ⟨rfl, rfl⟩ rfl ?_
  refine j_iload_n 1 dX5_alterToShow_0 rfl rfl ?_
  refine J_iconst dX5_alterToShow_1 ?_
  refine J_icmp_lt 14 dX5_alterToShow_2 (by decide) (fun c2 => ?_) (fun c2 => ?_) 
  · refine J_bipush dX5_alterToShow_14 (by decide) ?_
    refine j_iret rfl dX5_alterToShow_16 ?_
    exact ⟨by unfold atsV; rw [if_pos (by omega)], by unfold atsF; rw [if_pos (by omega), oA_id]; exact hP, hF⟩
  · refine j_iload_n 1 dX5_alterToShow_5 rfl rfl ?_
    refine j_aload_n 0 dX5_alterToShow_6 rfl rfl ?_
    refine j_get fX5_37 dX5_alterToShow_7 hP.1 rfl ?_
    refine J_alen dX5_alterToShow_10 (hP.2.1 8 rfl) ?_
    refine J_icmp_lt 17 dX5_alterToShow_11 (by decide) (fun c11 => ?_) (fun c11 => ?_) 
    · refine j_aload_n 0 dX5_alterToShow_17 rfl rfl ?_
      refine j_get fX5_37 dX5_alterToShow_18 hP.1 rfl ?_
      refine j_iload_n 1 dX5_alterToShow_21 rfl rfl ?_
      refine J_iald dX5_alterToShow_22 (hP.2.1 8 rfl) ?_ 
      have hfp := hf pl (by omega) (by omega)
      refine j_istore (L' := [(4, _), (0, _), (1, _), (2, _), (3, _)]) dX5_alterToShow_23 rfl rfl ?_
      refine j_iload dX5_alterToShow_25 rfl ?_
      refine J_bipush dX5_alterToShow_27 (by decide) ?_
      refine J_icmp_ne 42 dX5_alterToShow_29 (by decide) (fun c29 => ?_) (fun c29 => ?_) 
      · first | exact j_locR (K42 (altK key (pl % 7)) (by omega) (by unfold atsI; exact if_pos c29) (by omega) (by omega)) (by repeat' (first | exact True.intro | refine And.intro rfl ?_)) | exact j_locR (K42 (p.2 8 pl) (by omega) (by unfold atsI; exact if_neg c29) (by omega) (by omega)) (by repeat' (first | exact True.intro | refine And.intro rfl ?_))
      · refine j_iload_n 3 dX5_alterToShow_32 rfl rfl ?_
        refine j_iload_n 1 dX5_alterToShow_33 rfl rfl ?_
        refine J_bipush dX5_alterToShow_34 (by decide) ?_
        refine J_irem dX5_alterToShow_36 ?_ 
        refine J_top (pl % 7) ?_ (by exact Int.tmod_eq_emod_of_nonneg (by omega))
        refine J_callS1 kX5_149 csX7_alterByKey (c_X7_alterByKey hk (by omega)) rfl rfl rfl rfl rfl dX5_alterToShow_37 rfl rfl ?_
        have hal2 := altK_rg key (pl % 7)
        refine j_istore (L' := [(4, _), (0, _), (1, _), (2, _), (3, _)]) dX5_alterToShow_40 rfl rfl ?_
        first | exact j_locR (K42 (altK key (pl % 7)) (by omega) (by unfold atsI; exact if_pos c29) (by omega) (by omega)) (by repeat' (first | exact True.intro | refine And.intro rfl ?_)) | exact j_locR (K42 (p.2 8 pl) (by omega) (by unfold atsI; exact if_neg c29) (by omega) (by omega)) (by repeat' (first | exact True.intro | refine And.intro rfl ?_))
    · refine J_bipush dX5_alterToShow_14 (by decide) ?_
      refine j_iret rfl dX5_alterToShow_16 ?_
      exact ⟨by unfold atsV; rw [if_pos (by omega)], by unfold atsF; rw [if_pos (by omega), oA_id]; exact hP, hF⟩
set_option maxRecDepth 100000 in
theorem c_X5_joinToSignAhead {l : Launch} {G : jG} {h : jH} {a : Nat} {q : Nat → Nat} {p : OS} {k : Int} (hP : AtX5 G h a q p) (hn : mN p) (hk : 1 ≤ k ∧ k < p.1 9) (hb : rg (p.2 7 (k - 1))) : jC l G yX5_joinToSignAhead mX5_joinToSignAhead [.ref a, vI k] h (jW oN (fun h' => AtX5 G h' a q (joinP p k) ∧ Fr (ft AX5 a q) h h')) := by
  have hF : Fr (ft AX5 a q) h h := Fr.rf
  have hn2 : 0 ≤ p.1 9 ∧ p.1 9 ≤ 128 := hn
  have K53 : ∀ (h2 : jH) (p2 : OS), AtX5 G h2 a q p2 → Fr (ft AX5 a q) h h2 → (if p.2 7 (k - 1) = -1 then oU (oA p 7 (upI (p.2 7) (k - 1) (p.1 10))) 10 (p.1 10 + 1) else p) = p2 → J l G mX5_joinToSignAhead (jQ G mX5_joinToSignAhead (jW oN (fun h' => AtX5 G h' a q (joinP p k) ∧ Fr (ft AX5 a q) h h'))) 0 0 53 [(0, .ref a), (1, vI k)] [] h2 := by
    intro h2 p2 hP hF he
    refine j_aload_n 0 dX5_joinToSignAhead_53 rfl rfl ?_
    refine j_get fX5_34 dX5_joinToSignAhead_54 hP.1 rfl ?_
    refine j_iload_n 1 dX5_joinToSignAhead_57 rfl rfl ?_
    refine j_aload_n 0 dX5_joinToSignAhead_58 rfl rfl ?_
    refine j_get fX5_34 dX5_joinToSignAhead_59 hP.1 rfl ?_
    refine j_iload_n 1 dX5_joinToSignAhead_62 rfl rfl ?_
    refine J_iconst dX5_joinToSignAhead_63 ?_
    refine J_isub dX5_joinToSignAhead_64 ?_
    refine J_iald dX5_joinToSignAhead_65 (hP.2.1 7 rfl) ?_ 
    refine J_iastA 7 hP rfl (fun _ => rfl) (fun _ => rfl) dX5_joinToSignAhead_66 (fun h hP hF66 => ?_) 
    have hF := hF.tr hF66
    refine j_vret rfl dX5_joinToSignAhead_67 ?_
    exact ⟨rfl, by unfold joinP; rw [he]; exact hP, hF⟩
  refine j_body (by decide +kernel) ⟨rfl, rfl⟩ rfl ?_
  refine j_aload_n 0 dX5_joinToSignAhead_0 rfl rfl ?_
  refine j_iload_n 1 dX5_joinToSignAhead_1 rfl rfl ?_
  refine J_callVZ kX5_47 cvX5_has hP.1 (c_X5_has hP hn (by omega)) rfl rfl rfl rfl rfl dX5_joinToSignAhead_2 rfl rfl (fun z2 => ?_) (fun z2 => ?_)
  · refine J_if_eq 18 dX5_joinToSignAhead_5 (by decide) (fun c5 => absurd c5 (by decide)) (fun c5 => ?_) 
    refine j_aload_n 0 dX5_joinToSignAhead_8 rfl rfl ?_
    refine j_iload_n 1 dX5_joinToSignAhead_9 rfl rfl ?_
    refine J_iconst dX5_joinToSignAhead_10 ?_
    refine J_isub dX5_joinToSignAhead_11 ?_
    refine J_callVZ kX5_47 cvX5_has hP.1 (c_X5_has hP hn (by omega)) rfl rfl rfl rfl rfl dX5_joinToSignAhead_12 rfl rfl (fun z12 => ?_) (fun z12 => ?_)
    · refine J_if_ne 19 dX5_joinToSignAhead_15 (by decide) (fun c15 => ?_) (fun c15 => absurd c15 (by decide)) 
      refine j_aload_n 0 dX5_joinToSignAhead_19 rfl rfl ?_
      refine j_get fX5_34 dX5_joinToSignAhead_20 hP.1 rfl ?_
      refine j_iload_n 1 dX5_joinToSignAhead_23 rfl rfl ?_
      refine J_iconst dX5_joinToSignAhead_24 ?_
      refine J_isub dX5_joinToSignAhead_25 ?_
      refine J_iald dX5_joinToSignAhead_26 (hP.2.1 7 rfl) ?_ 
      refine J_iconst dX5_joinToSignAhead_27 ?_
      refine J_icmp_ne 53 dX5_joinToSignAhead_28 (by decide) (fun c28 => ?_) (fun c28 => ?_) 
      · first | exact K53 _ _ hP hF (if_pos c28) | exact K53 _ _ hP hF (if_neg c28)
      · refine j_aload_n 0 dX5_joinToSignAhead_31 rfl rfl ?_
        refine j_get fX5_34 dX5_joinToSignAhead_32 hP.1 rfl ?_
        refine j_iload_n 1 dX5_joinToSignAhead_35 rfl rfl ?_
        refine J_iconst dX5_joinToSignAhead_36 ?_
        refine J_isub dX5_joinToSignAhead_37 ?_
        refine j_aload_n 0 dX5_joinToSignAhead_38 rfl rfl ?_
        refine j_get fX5_44 dX5_joinToSignAhead_39 hP.1 rfl ?_
        refine J_iastA 7 hP rfl (fun _ => rfl) (fun _ => rfl) dX5_joinToSignAhead_42 (fun h hP hF42 => ?_) 
        have hF := hF.tr hF42
        refine j_aload_n 0 dX5_joinToSignAhead_43 rfl rfl ?_
        refine j_dup dX5_joinToSignAhead_44 rfl ?_
        refine j_get fX5_44 dX5_joinToSignAhead_45 hP.1 rfl ?_
        refine J_iconst dX5_joinToSignAhead_48 ?_
        refine J_iadd dX5_joinToSignAhead_49 ?_
        refine J_putA hP fX5_44 tyX5_beamCount dX5_joinToSignAhead_50 rfl rfl (fun h hP hF50 => ?_)
        have hF := hF.tr hF50
        first | exact K53 _ _ hP hF (if_pos c28) | exact K53 _ _ hP hF (if_neg c28)
    · refine J_if_ne 19 dX5_joinToSignAhead_15 (by decide) (fun c15 => absurd c15 (by decide)) (fun c15 => ?_) 
      refine j_vret rfl dX5_joinToSignAhead_18 ?_
      exact absurd (show inM p _ from ⟨by omega, by omega⟩) (by assumption)
  · refine J_if_eq 18 dX5_joinToSignAhead_5 (by decide) (fun c5 => ?_) (fun c5 => absurd c5 (by decide)) 
    refine j_vret rfl dX5_joinToSignAhead_18 ?_
    exact absurd (show inM p _ from ⟨by omega, by omega⟩) (by assumption)
