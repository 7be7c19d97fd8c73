def tkH (p3 : OS) (m : Int) : Int := if 0 ≤ m ∧ m < p3.1 3 then p3.2 0 m else -1
/-- one part goes on to moment m -/
def goS (P : Nat → OS) (p3 : OS) (m : Int) (p : OS) (k : Nat) : OS :=
  oA (oA (oA (oA p 3 (upI (p.2 3) k (p.2 4 k))) 4 (upI (p.2 4) k (htH P p3 m k)))
    5 (upI (p.2 5) k (if (inP (P k) (evH p3 m k) ∧ (P k).2 0 (evH p3 m k) ≠ 0) ∧ (P k).2 3 (evH p3 m k) = tkH p3 m then 1 else 0)))
    6 (upI (p.2 6) k (if ((inP (P k) (evH p3 m k) ∧ (P k).2 0 (evH p3 m k) ≠ 0) ∧ (P k).2 3 (evH p3 m k) = tkH p3 m) ∧ p.2 4 k ≠ -1 then (if htH P p3 m k < p.2 4 k then -1 else if htH P p3 m k = p.2 4 k then 0 else 1) else 0))
def goK (P : Nat → OS) (p3 : OS) (m : Int) (p : OS) : Nat → OS
  | 0 => p
  | k + 1 => goS P p3 m (goK P p3 m p k) k
theorem goK_s (P : Nat → OS) (p3 : OS) (m : Int) (p : OS) (k : Nat) : goK P p3 m p (k + 1) = goS P p3 m (goK P p3 m p k) k := rfl
theorem upI_rg {F : Int → Int} {k x j lo hi : Int} (h : lo ≤ F j ∧ F j ≤ hi) (hx : lo ≤ x ∧ x ≤ hi) : lo ≤ upI F k x j ∧ upI F k x j ≤ hi := by
  unfold upI
  split
  · exact hx
  · exact h
theorem fZ_go {P : Nat → OS} {p3 : OS} {m : Int} (hZ : PsZ P) {p : OS} {k : Nat} (hk : k < 4) (h : fZ p) : fZ (goS P p3 m p k) := by
  refine ⟨h.1, fun j h0 h4 => ?_⟩
  have hj := h.2 j h0 h4
  have hk2 := h.2 k (by omega) (by omega)
  have hh := htH_rg (p3 := p3) (m := m) hZ hk
  refine ⟨upI_rg hj.1 hk2.2.1, upI_rg hj.2.1 hh, ?_, upI_rg hj.2.2.2 (by (repeat' split) <;> omega)⟩
  show upI (p.2 5) k _ j = 0 ∨ upI (p.2 5) k _ j = 1
  unfold upI
  split
  · split
    · right; rfl
    · left; rfl
  · exact hj.2.2.1
theorem fZ_goK {P : Nat → OS} {p3 : OS} {m : Int} (hZ : PsZ P) {p : OS} (h : fZ p) : ∀ k : Nat, k ≤ 4 → fZ (goK P p3 m p k)
  | 0, _ => h
  | k + 1, hk => fZ_go hZ (by omega) (fZ_goK hZ h k (by omega))
set_option maxRecDepth 100000 in
theorem c_X2_goOn {l : Launch} {G : jG} {h : jH} {a : Nat} {q : Nat → Nat} {p : OS} {pa : Nat} {pad : Nat → Nat} {pq : Nat → Nat → Nat} {P : Nat → OS} {a3 : Nat} {q3 : Nat → Nat} {p3 : OS} {m : Int} (hP : AtX2 G h a q p) (hz : fZ p) (hPs : PartsAt G h pa pad pq P) (hZ : PsZ P) (hP3 : AtX3 G h a3 q3 p3) (hn3 : hN p3) (hm : rg m) (hE : ∀ k : Nat, k < 4 → rg (evH p3 m k)) (ht : rg (tkH p3 m)) (hdis : ∀ b, ftP pa pad pq b → ¬ ft AX2 a q b) (hdis3 : ∀ b, ft AX3 a3 q3 b → ¬ ft AX2 a q b) : jC l G yX2_goOn mX2_goOn [.ref a, .ref pa, .ref a3, vI m] h (jW oN (fun h' => AtX2 G h' a q (goK P p3 m p 4) ∧ Fr (ft AX2 a q) h h')) := by
  have loop : ∀ (n k : Nat) (h2 : jH), k + n = 4 → AtX2 G h2 a q (goK P p3 m p k) → Fr (ft AX2 a q) h h2 → PartsAt G h2 pa pad pq P → AtX3 G h2 a3 q3 p3 → fZ (goK P p3 m p k) → J l G mX2_goOn (jQ G mX2_goOn (jW oN (fun h' => AtX2 G h' a q (goK P p3 m p 4) ∧ Fr (ft AX2 a q) h h'))) 0 0 3 [(4, vI k), (0, .ref a), (1, .ref pa), (2, .ref a3), (3, vI m)] [] h2 := by
    intro n
    induction n with
    | zero =>
      intro k h2 hk hP hF hPs hP3 hz
      obtain rfl : k = 4 := by omega
      obtain ⟨F, hpa, hF4⟩ := hPs.1
      refine j_iload dX2_goOn_3 rfl ?_
      refine j_aload_n 1 dX2_goOn_5 rfl rfl ?_
      refine J_alenq 3 dX2_goOn_6 hpa rfl ?_
      refine J_icmp_ge 151 dX2_goOn_7 (by decide) (fun c7 => ?_) (fun c7 => absurd c7 (by omega)) 
      refine j_vret rfl dX2_goOn_151 ?_
      exact ⟨rfl, hP, hF⟩
    | succ n ih =>
      intro k h2 hk hP hF hPs hP3 hz
      have hk4 : k < 4 := by omega
      obtain ⟨F, hpa, hF4⟩ := hPs.1
      have hPk := hPs.2 k hk4
      have hZk := hZ k hk4
      have hFk : F ((k : Int)).toNat = some (pad k) := by rw [Int.toNat_natCast]; exact hF4 k hk4
      have hek := hE k hk4
      obtain ⟨r, hr⟩ : ∃ r, r = goK P p3 m p k := ⟨_, rfl⟩
      rw [← hr] at hP hz
      have hzk := hz.2 k (by omega) (by omega)
      have hht := htH_rg (p3 := p3) (m := m) hZ hk4
      have back : ∀ h9 : jH, AtX2 G h9 a q (goS P p3 m r k) → Fr (ft AX2 a q) h h9 → PartsAt G h9 pa pad pq P → AtX3 G h9 a3 q3 p3 → J l G mX2_goOn (jQ G mX2_goOn (jW oN (fun h' => AtX2 G h' a q (goK P p3 m p 4) ∧ Fr (ft AX2 a q) h h'))) 0 0 3 [(4, vI ((k : Int) + 1)), (0, .ref a), (1, .ref pa), (2, .ref a3), (3, vI m)] [] h9 := by
        intro h9 g1 g2 g3 g4
        have e : goK P p3 m p (k + 1) = goS P p3 m r k := by rw [goK_s, ← hr]
        refine ih (k + 1) h9 (by omega) (by rw [e]; exact g1) g2 g3 g4 (by rw [e]; exact fZ_go hZ hk4 hz)
      have K95 : ∀ (h9 : jH) (v : Int), v = (if ((inP (P k) (evH p3 m k) ∧ (P k).2 0 (evH p3 m k) ≠ 0) ∧ (P k).2 3 (evH p3 m k) = tkH p3 m) then 1 else 0) → AtX2 G h9 a q (oA (oA r 3 (upI (r.2 3) k (r.2 4 k))) 4 (upI (r.2 4) k (htH P p3 m k))) → Fr (ft AX2 a q) h h9 → PartsAt G h9 pa pad pq P → AtX3 G h9 a3 q3 p3 → J l G mX2_goOn (jQ G mX2_goOn (jW oN (fun h' => AtX2 G h' a q (goK P p3 m p 4) ∧ Fr (ft AX2 a q) h h'))) 0 0 95 [(5, vI (evH p3 m k)), (4, vI k), (0, .ref a), (1, .ref pa), (2, .ref a3), (3, vI m)] [vI v, vI k, .ref (q 5)] h9 := by
        intro h9 v hv hP hF hPs hP3
        have hv2 : v = 0 ∨ v = 1 := by rw [hv]; split <;> simp
        have hv0 : v = 0 → ¬ ((inP (P k) (evH p3 m k) ∧ (P k).2 0 (evH p3 m k) ≠ 0) ∧ (P k).2 3 (evH p3 m k) = tkH p3 m) := fun e c => by rw [hv, if_pos c] at e; exact absurd e (by decide)
        have hv1 : ¬ v = 0 → ((inP (P k) (evH p3 m k) ∧ (P k).2 0 (evH p3 m k) ≠ 0) ∧ (P k).2 3 (evH p3 m k) = tkH p3 m) := fun e => by
          by_cases c : ((inP (P k) (evH p3 m k) ∧ (P k).2 0 (evH p3 m k) ≠ 0) ∧ (P k).2 3 (evH p3 m k) = tkH p3 m)
          · exact c
          · exact absurd (by rw [hv, if_neg c]) e
        have fin : ∀ (h8 : jH) (w : Int), w = (if ((inP (P k) (evH p3 m k) ∧ (P k).2 0 (evH p3 m k) ≠ 0) ∧ (P k).2 3 (evH p3 m k) = tkH p3 m) ∧ r.2 4 k ≠ -1 then (if htH P p3 m k < r.2 4 k then -1 else if htH P p3 m k = r.2 4 k then 0 else 1) else 0) → AtX2 G h8 a q (oA (oA (oA (oA r 3 (upI (r.2 3) k (r.2 4 k))) 4 (upI (r.2 4) k (htH P p3 m k))) 5 (upI (r.2 5) k v)) 6 (upI (r.2 6) k w)) → AtX2 G h8 a q (goS P p3 m r k) := by
          intro h8 w hw hP
          subst hv; subst hw
          exact hP
        refine J_zastA 5 hP rfl (fun _ => rfl) (fun _ => rfl) dX2_goOn_95 (fun h hP hF95 => ?_) 
        have hF := hF.tr hF95
        have hPs := hPs.keep hF95 hdis
        have hP3 := hP3.keep hF95 hdis3
        obtain ⟨F, hpa, hF4⟩ := hPs.1
        have hFk : F ((k : Int)).toNat = some (pad k) := by rw [Int.toNat_natCast]; exact hF4 k hk4
        have hPk := hPs.2 k hk4
        refine j_aload_n 0 dX2_goOn_96 rfl rfl ?_
        refine j_get fX2_31 dX2_goOn_97 hP.1 rfl ?_
        refine j_iload dX2_goOn_100 rfl ?_
        refine j_aload_n 0 dX2_goOn_102 rfl rfl ?_
        refine j_get fX2_27 dX2_goOn_103 hP.1 rfl ?_
        refine j_iload dX2_goOn_106 rfl ?_
        refine J_zald dX2_goOn_108 (hP.2.1 5 rfl) ?_ 
        refine J_top (v) ?_ (by (show upI _ _ _ _ = _; rw [upI_s]))
        refine J_if_eq 143 dX2_goOn_109 (by decide) (fun c109 => ?_) (fun c109 => ?_) 
        · refine J_iconst dX2_goOn_143 ?_
          refine J_iastA 6 hP rfl (fun _ => rfl) (fun _ => rfl) dX2_goOn_144 (fun h hP hF144 => ?_) 
          have hF := hF.tr hF144
          have hPs := hPs.keep hF144 hdis
          have hP3 := hP3.keep hF144 hdis3
          obtain ⟨F, hpa, hF4⟩ := hPs.1
          have hFk : F ((k : Int)).toNat = some (pad k) := by rw [Int.toNat_natCast]; exact hF4 k hk4
          have hPk := hPs.2 k hk4
          refine J_iinc (L' := [(4, _), (5, _), (0, _), (1, _), (2, _), (3, _)]) dX2_goOn_145 rfl rfl rfl ?_
          refine j_goto 3 dX2_goOn_148 (by decide) ?_
          refine j_locR (back h (fin h _ ?_ hP) hF hPs hP3) (by repeat' (first | exact True.intro | refine And.intro rfl ?_))
          first | exact (if_neg (show ¬ (((inP (P k) (evH p3 m k) ∧ (P k).2 0 (evH p3 m k) ≠ 0) ∧ (P k).2 3 (evH p3 m k) = tkH p3 m) ∧ r.2 4 k ≠ -1) from fun z => hv0 c109 z.1)).symm | exact (if_neg (show ¬ (((inP (P k) (evH p3 m k) ∧ (P k).2 0 (evH p3 m k) ≠ 0) ∧ (P k).2 3 (evH p3 m k) = tkH p3 m) ∧ r.2 4 k ≠ -1) from fun z => z.2 c120)).symm | exact (if_pos (show ((inP (P k) (evH p3 m k) ∧ (P k).2 0 (evH p3 m k) ≠ 0) ∧ (P k).2 3 (evH p3 m k) = tkH p3 m) ∧ r.2 4 k ≠ -1 from ⟨hv1 c109, c120⟩)).symm
        · refine j_aload_n 0 dX2_goOn_112 rfl rfl ?_
          refine j_get fX2_21 dX2_goOn_113 hP.1 rfl ?_
          refine j_iload dX2_goOn_116 rfl ?_
          refine J_iald dX2_goOn_118 (hP.2.1 3 rfl) ?_ 
          refine J_top (r.2 4 k) ?_ (by (show upI _ _ _ _ = _; rw [upI_s]))
          refine J_iconst dX2_goOn_119 ?_
          refine J_icmp_eq 143 dX2_goOn_120 (by decide) (fun c120 => ?_) (fun c120 => ?_) 
          · refine J_iconst dX2_goOn_143 ?_
            refine J_iastA 6 hP rfl (fun _ => rfl) (fun _ => rfl) dX2_goOn_144 (fun h hP hF144 => ?_) 
            have hF := hF.tr hF144
            have hPs := hPs.keep hF144 hdis
            have hP3 := hP3.keep hF144 hdis3
            obtain ⟨F, hpa, hF4⟩ := hPs.1
            have hFk : F ((k : Int)).toNat = some (pad k) := by rw [Int.toNat_natCast]; exact hF4 k hk4
            have hPk := hPs.2 k hk4
            refine J_iinc (L' := [(4, _), (5, _), (0, _), (1, _), (2, _), (3, _)]) dX2_goOn_145 rfl rfl rfl ?_
            refine j_goto 3 dX2_goOn_148 (by decide) ?_
            refine j_locR (back h (fin h _ ?_ hP) hF hPs hP3) (by repeat' (first | exact True.intro | refine And.intro rfl ?_))
            first | exact (if_neg (show ¬ (((inP (P k) (evH p3 m k) ∧ (P k).2 0 (evH p3 m k) ≠ 0) ∧ (P k).2 3 (evH p3 m k) = tkH p3 m) ∧ r.2 4 k ≠ -1) from fun z => hv0 c109 z.1)).symm | exact (if_neg (show ¬ (((inP (P k) (evH p3 m k) ∧ (P k).2 0 (evH p3 m k) ≠ 0) ∧ (P k).2 3 (evH p3 m k) = tkH p3 m) ∧ r.2 4 k ≠ -1) from fun z => z.2 c120)).symm | exact (if_pos (show ((inP (P k) (evH p3 m k) ∧ (P k).2 0 (evH p3 m k) ≠ 0) ∧ (P k).2 3 (evH p3 m k) = tkH p3 m) ∧ r.2 4 k ≠ -1 from ⟨hv1 c109, c120⟩)).symm
          · refine j_aload_n 0 dX2_goOn_123 rfl rfl ?_
            refine j_get fX2_24 dX2_goOn_124 hP.1 rfl ?_
            refine j_iload dX2_goOn_127 rfl ?_
            refine J_iald dX2_goOn_129 (hP.2.1 4 rfl) ?_ 
            refine J_top (htH P p3 m k) ?_ (by (show upI _ _ _ _ = _; rw [upI_s]))
            refine j_aload_n 0 dX2_goOn_130 rfl rfl ?_
            refine j_get fX2_21 dX2_goOn_131 hP.1 rfl ?_
            refine j_iload dX2_goOn_134 rfl ?_
            refine J_iald dX2_goOn_136 (hP.2.1 3 rfl) ?_ 
            refine J_top (r.2 4 k) ?_ (by (show upI _ _ _ _ = _; rw [upI_s]))
            refine J_callS1 kX2_88 csJ6_compare_7cf53 (c_J6_compare_7cf53 (by omega) (by omega)) rfl rfl rfl rfl rfl dX2_goOn_137 rfl rfl ?_
            refine j_goto 144 dX2_goOn_140 (by decide) ?_
            refine J_iastA 6 hP rfl (fun _ => rfl) (fun _ => rfl) dX2_goOn_144 (fun h hP hF144 => ?_) 
            have hF := hF.tr hF144
            have hPs := hPs.keep hF144 hdis
            have hP3 := hP3.keep hF144 hdis3
            obtain ⟨F, hpa, hF4⟩ := hPs.1
            have hFk : F ((k : Int)).toNat = some (pad k) := by rw [Int.toNat_natCast]; exact hF4 k hk4
            have hPk := hPs.2 k hk4
            refine J_iinc (L' := [(4, _), (5, _), (0, _), (1, _), (2, _), (3, _)]) dX2_goOn_145 rfl rfl rfl ?_
            refine j_goto 3 dX2_goOn_148 (by decide) ?_
            refine j_locR (back h (fin h _ ?_ hP) hF hPs hP3) (by repeat' (first | exact True.intro | refine And.intro rfl ?_))
            first | exact (if_neg (show ¬ (((inP (P k) (evH p3 m k) ∧ (P k).2 0 (evH p3 m k) ≠ 0) ∧ (P k).2 3 (evH p3 m k) = tkH p3 m) ∧ r.2 4 k ≠ -1) from fun z => hv0 c109 z.1)).symm | exact (if_neg (show ¬ (((inP (P k) (evH p3 m k) ∧ (P k).2 0 (evH p3 m k) ≠ 0) ∧ (P k).2 3 (evH p3 m k) = tkH p3 m) ∧ r.2 4 k ≠ -1) from fun z => z.2 c120)).symm | exact (if_pos (show ((inP (P k) (evH p3 m k) ∧ (P k).2 0 (evH p3 m k) ≠ 0) ∧ (P k).2 3 (evH p3 m k) = tkH p3 m) ∧ r.2 4 k ≠ -1 from ⟨hv1 c109, c120⟩)).symm
      refine j_iload dX2_goOn_3 rfl ?_
      refine j_aload_n 1 dX2_goOn_5 rfl rfl ?_
      refine J_alenq 3 dX2_goOn_6 hpa rfl ?_
      refine J_icmp_ge 151 dX2_goOn_7 (by decide) (fun c7 => absurd c7 (by omega)) (fun c7 => ?_) 
      refine j_iload dX2_goOn_10 rfl ?_
      refine J_iconst dX2_goOn_12 ?_
      refine J_icmp_ge 151 dX2_goOn_13 (by decide) (fun c13 => absurd c13 (by omega)) (fun c13 => ?_) 
      refine j_aload_n 2 dX2_goOn_16 rfl rfl ?_
      refine j_iload_n 3 dX2_goOn_17 rfl rfl ?_
      refine j_iload dX2_goOn_18 rfl ?_
      refine J_callV1 kX2_69 cvX3_eventAt hP3.1 (c_X3_eventAt hP3 hn3 hm (by omega)) rfl rfl rfl rfl rfl dX2_goOn_20 rfl rfl ?_
      refine J_top (evH p3 m k) ?_ (by rfl)
      refine j_istore (L' := [(5, _), (4, _), (0, _), (1, _), (2, _), (3, _)]) dX2_goOn_23 rfl rfl ?_
      refine j_aload_n 0 dX2_goOn_25 rfl rfl ?_
      refine j_get fX2_21 dX2_goOn_26 hP.1 rfl ?_
      refine j_iload dX2_goOn_29 rfl ?_
      refine j_aload_n 0 dX2_goOn_31 rfl rfl ?_
      refine j_get fX2_24 dX2_goOn_32 hP.1 rfl ?_
      refine j_iload dX2_goOn_35 rfl ?_
      refine J_iald dX2_goOn_37 (hP.2.1 4 rfl) ?_ 
      refine J_iastA 3 hP rfl (fun _ => rfl) (fun _ => rfl) dX2_goOn_38 (fun h hP hF38 => ?_) 
      have hF := hF.tr hF38
      have hPs := hPs.keep hF38 hdis
      have hP3 := hP3.keep hF38 hdis3
      obtain ⟨F, hpa, hF4⟩ := hPs.1
      have hFk : F ((k : Int)).toNat = some (pad k) := by rw [Int.toNat_natCast]; exact hF4 k hk4
      have hPk := hPs.2 k hk4
      refine j_aload_n 0 dX2_goOn_39 rfl rfl ?_
      refine j_get fX2_24 dX2_goOn_40 hP.1 rfl ?_
      refine j_iload dX2_goOn_43 rfl ?_
      refine j_aload_n 1 dX2_goOn_45 rfl rfl ?_
      refine j_iload dX2_goOn_46 rfl ?_
      refine J_qald dX2_goOn_48 hpa hFk ?_ 
      refine j_iload dX2_goOn_49 rfl ?_
      refine J_callV1 kX2_77 cvX6_heightAt hPk.1 (c_X6_heightAt hPk hZk.1 hek) rfl rfl rfl rfl rfl dX2_goOn_51 rfl rfl ?_
      refine J_top (htH P p3 m k) ?_ (by rfl)
      refine J_iastA 4 hP rfl (fun _ => rfl) (fun _ => rfl) dX2_goOn_54 (fun h hP hF54 => ?_) 
      have hF := hF.tr hF54
      have hPs := hPs.keep hF54 hdis
      have hP3 := hP3.keep hF54 hdis3
      obtain ⟨F, hpa, hF4⟩ := hPs.1
      have hFk : F ((k : Int)).toNat = some (pad k) := by rw [Int.toNat_natCast]; exact hF4 k hk4
      have hPk := hPs.2 k hk4
      refine j_aload_n 0 dX2_goOn_55 rfl rfl ?_
      refine j_get fX2_27 dX2_goOn_56 hP.1 rfl ?_
      refine j_iload dX2_goOn_59 rfl ?_
      refine j_aload_n 1 dX2_goOn_61 rfl rfl ?_
      refine j_iload dX2_goOn_62 rfl ?_
      refine J_qald dX2_goOn_64 hpa hFk ?_ 
      refine j_iload dX2_goOn_65 rfl ?_
      refine J_callVZ kX2_82 cvX6_isNote hPk.1 (c_X6_isNote hPk hZk.1 hZk.2.1 hek) rfl rfl rfl rfl rfl dX2_goOn_67 rfl rfl (fun z67 => ?_) (fun z67 => ?_)
      · refine J_if_eq 94 dX2_goOn_70 (by decide) (fun c70 => absurd c70 (by decide)) (fun c70 => ?_) 
        refine j_aload_n 1 dX2_goOn_73 rfl rfl ?_
        refine j_iload dX2_goOn_74 rfl ?_
        refine J_qald dX2_goOn_76 hpa hFk ?_ 
        refine j_iload dX2_goOn_77 rfl ?_
        refine J_callV1 kX2_85 cvX6_beginAt hPk.1 (c_X6_beginAt hPk hZk.1 hek) rfl rfl rfl rfl rfl dX2_goOn_79 rfl rfl ?_
        refine J_top ((P k).2 3 (evH p3 m k)) ?_ (by rw [if_pos z67.1])
        have hz9 := (hZk.2.1 _ z67.1.1 z67.1.2).2.2.2.1
        refine j_aload_n 2 dX2_goOn_82 rfl rfl ?_
        refine j_iload_n 3 dX2_goOn_83 rfl rfl ?_
        refine J_callV1 kX2_54 cvX3_tickAt hP3.1 (c_X3_tickAt hP3 hn3 hm) rfl rfl rfl rfl rfl dX2_goOn_84 rfl rfl ?_
        refine J_top (tkH p3 m) ?_ (by rfl)
        refine J_icmp_ne 94 dX2_goOn_87 (by decide) (fun c87 => ?_) (fun c87 => ?_) 
        · refine J_iconst dX2_goOn_94 ?_
          first | exact K95 _ _ (if_pos (show ((inP (P k) (evH p3 m k) ∧ (P k).2 0 (evH p3 m k) ≠ 0) ∧ (P k).2 3 (evH p3 m k) = tkH p3 m) from ⟨z67, c87⟩)).symm hP hF hPs hP3 | exact K95 _ _ (if_neg (show ¬ ((inP (P k) (evH p3 m k) ∧ (P k).2 0 (evH p3 m k) ≠ 0) ∧ (P k).2 3 (evH p3 m k) = tkH p3 m) from fun z => c87 z.2)).symm hP hF hPs hP3 | exact K95 _ _ (if_neg (show ¬ ((inP (P k) (evH p3 m k) ∧ (P k).2 0 (evH p3 m k) ≠ 0) ∧ (P k).2 3 (evH p3 m k) = tkH p3 m) from fun z => z67 z.1)).symm hP hF hPs hP3
        · refine J_iconst dX2_goOn_90 ?_
          refine j_goto 95 dX2_goOn_91 (by decide) ?_
          first | exact K95 _ _ (if_pos (show ((inP (P k) (evH p3 m k) ∧ (P k).2 0 (evH p3 m k) ≠ 0) ∧ (P k).2 3 (evH p3 m k) = tkH p3 m) from ⟨z67, c87⟩)).symm hP hF hPs hP3 | exact K95 _ _ (if_neg (show ¬ ((inP (P k) (evH p3 m k) ∧ (P k).2 0 (evH p3 m k) ≠ 0) ∧ (P k).2 3 (evH p3 m k) = tkH p3 m) from fun z => c87 z.2)).symm hP hF hPs hP3 | exact K95 _ _ (if_neg (show ¬ ((inP (P k) (evH p3 m k) ∧ (P k).2 0 (evH p3 m k) ≠ 0) ∧ (P k).2 3 (evH p3 m k) = tkH p3 m) from fun z => z67 z.1)).symm hP hF hPs hP3
      · refine J_if_eq 94 dX2_goOn_70 (by decide) (fun c70 => ?_) (fun c70 => absurd c70 (by decide)) 
        refine J_iconst dX2_goOn_94 ?_
        first | exact K95 _ _ (if_pos (show ((inP (P k) (evH p3 m k) ∧ (P k).2 0 (evH p3 m k) ≠ 0) ∧ (P k).2 3 (evH p3 m k) = tkH p3 m) from ⟨z67, c87⟩)).symm hP hF hPs hP3 | exact K95 _ _ (if_neg (show ¬ ((inP (P k) (evH p3 m k) ∧ (P k).2 0 (evH p3 m k) ≠ 0) ∧ (P k).2 3 (evH p3 m k) = tkH p3 m) from fun z => c87 z.2)).symm hP hF hPs hP3 | exact K95 _ _ (if_neg (show ¬ ((inP (P k) (evH p3 m k) ∧ (P k).2 0 (evH p3 m k) ≠ 0) ∧ (P k).2 3 (evH p3 m k) = tkH p3 m) from fun z => z67 z.1)).symm hP hF hPs hP3
  refine j_body (by decide +kernel) ⟨rfl, rfl⟩ rfl ?_
  refine J_iconst dX2_goOn_0 ?_
  refine j_istore (L' := [(4, _), (0, _), (1, _), (2, _), (3, _)]) dX2_goOn_1 rfl rfl ?_
  exact loop 4 0 h (by omega) hP Fr.rf hPs hP3 hz
