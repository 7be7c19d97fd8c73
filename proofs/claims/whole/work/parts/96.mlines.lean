/-- the table of the best ways, the bars from the last one on -/
def lnD (P : Nat → OS) (p0 : OS) (w : Int) (k : Nat) : OS := dpP (oA zOS 0 (widF P p0)) (barsA P p0) w k
abbrev lnS (P : Nat → OS) (p0 : OS) (w : Int) : OS := lnD P p0 w (barsA P p0).toNat
def BU (p p' : OS) : Prop := p'.1 = p.1 ∧ ∀ i : Nat, i < 27 ∨ 29 < i → p'.2 i = p.2 i
theorem BU.ku {p p' : OS} (h : BU p p') : KU p p' := ⟨by rw [h.1], by rw [h.1], h.2 2 (Or.inl (by decide)), h.2 3 (Or.inl (by decide)), h.2 4 (Or.inl (by decide))⟩
theorem lnD_w (P : Nat → OS) (p0 : OS) (w : Int) (k : Nat) : (lnD P p0 w k).2 0 = widF P p0 := dpP_w _ _ _ _
/-- what the reference has found: the costs and the ends from bar a on -/
def BQ (P : Nat → OS) (p0 : OS) (w : Int) (k : Nat) (q : OS) : Prop := (∀ i : Int, barsA P p0 - k ≤ i → i ≤ barsA P p0 → q.2 28 i = (lnD P p0 w k).2 1 i) ∧ ∀ i : Int, barsA P p0 - k ≤ i → i < barsA P p0 → q.2 29 i = (lnD P p0 w k).2 2 i
def maxB (x : Int) : Int := if x = -1 then 2147483647 else x
theorem mb_le {c x : Int} (h0 : 0 ≤ c) (h : c ≤ maxB x) : x = -1 ∨ c ≤ x := by
  unfold maxB at h
  split at h
  · exact Or.inl (by assumption)
  · exact Or.inr h
theorem mb_gt {c x : Int} (h1 : c ≤ 370000000) (h : maxB x < c) : ¬ (x = -1 ∨ c ≤ x) := by
  unfold maxB at h
  split at h <;> omega
theorem mb_j {j : Nat} {c x : Int} (h0 : j = 0 → x = -1) (h1 : c ≤ 370000000) (h : maxB x < c) : 1 ≤ j := by
  by_cases z : j = 0
  · unfold maxB at h
    rw [if_pos (h0 z)] at h
    omega
  · omega
set_option maxRecDepth 100000 in
theorem c_X11_breakLines {l : Launch} {G : jG} {h : jH} {a : Nat} {d : MD} {mp P : Nat → OS} {p p0 : OS} {Z : Nat → Nat} {w : Int} (hM : Mod G h a d mp p) (hZ : Mz a d Z) (hI : MI d P p0 mp p.2) (hw : 10 ≤ w ∧ w ≤ 400) : jC l G yX11_breakLines mX11_breakLines [.ref a, vI w] h (jW (oI (barsA P p0)) (fun h' => ∃ p', Mod G h' a d mp p' ∧ BQ P p0 w (barsA P p0).toNat p' ∧ BU p p' ∧ Fr (FtM a d) h h')) := by
  have hs := hI.1.1
  have hbr := barsA_rg P p0
  have hWZ : wZ (widF P p0) := widF_Z hI.1.2.2.1
  obtain ⟨s, hsE⟩ : ∃ s, s = barsA P p0 := ⟨_, rfl⟩
  rw [← hsE] at hbr
  -- the table
  have table : ∀ (n c : Nat) (q : OS) (h2 : jH), (c : Int) + n = s → Mod G h2 a d mp q → BQ P p0 w c q → (∀ i : Int, 0 ≤ i → i < s → q.2 27 i = widF P p0 i) → BU p q → Fr (FtM a d) h h2 → J l G mX11_breakLines (jQ G mX11_breakLines (jW (oI (barsA P p0)) (fun h' => ∃ p', Mod G h' a d mp p' ∧ BQ P p0 w (barsA P p0).toNat p' ∧ BU p p' ∧ Fr (FtM a d) h h'))) 0 0 40 [(3, vI (s - 1 - c)), (2, vI s), (0, .ref a), (1, vI w)] [] h2 := by
    intro n
    induction n with
    | zero =>
      intro c q h2 hn hM hB hWd hU hF
      have ec : (barsA P p0).toNat = c := by rw [← hsE]; omega
      refine j_iload_n 3 dX11_breakLines_40 rfl rfl ?_
      refine J_if_lt 157 dX11_breakLines_41 (by decide) (fun c41 => ?_) (fun c41 => absurd c41 (by omega)) 
      refine j_iload_n 2 dX11_breakLines_157 rfl rfl ?_
      refine j_iret rfl dX11_breakLines_158 ?_
      exact ⟨oIe hsE, q, hM, by rw [ec]; exact hB, hU, hF⟩
    | succ n ih =>
      intro c q h2 hn hM hB hWd hU hF
      have hP := hM.1
      obtain ⟨f, hf⟩ : ∃ f, f = s - 1 - c := ⟨_, rfl⟩
      obtain ⟨D, hD⟩ : ∃ D, D = lnD P p0 w c := ⟨_, rfl⟩
      have hDw : D.2 0 = widF P p0 := by rw [hD]; exact lnD_w _ _ _ _
      have hCZ : cZ (D.2 1) (f + 1) s := by
        have g := dpP_c (oA zOS 0 (widF P p0)) (s := s) hw (by rw [oA_s]; exact hWZ) hbr.2 c (by omega)
        rw [hD, show f + 1 = s - c by omega]
        unfold lnD
        rw [← hsE]
        exact g
      have hB1 := hB.1
      have hB2 := hB.2
      rw [← hsE, ← hD] at hB1 hB2
      have hsc : lnD P p0 w (c + 1) = choP D s w f := by
        unfold lnD at hD ⊢
        rw [dpP_s, ← hD, ← hsE, hf]
      have hDW : wZ (D.2 0) := by rw [hDw]; exact hWZ
      rw [← hf]
      -- one bar's lines
      have row : ∀ (n2 j : Nat) (q2 : OS) (h3 : jH), f + j + n2 = s → Mod G h3 a d mp q2 → (q2.2 28 f = maxB (chN (D.2 0) (D.2 1) s w f (D.2 2 f) j).2.1) → (1 ≤ j → q2.2 29 f = (chN (D.2 0) (D.2 1) s w f (D.2 2 f) j).2.2) → (∀ i : Int, i ≠ f → q2.2 28 i = q.2 28 i ∧ q2.2 29 i = q.2 29 i) → (q2.1 = q.1 ∧ ∀ i : Nat, i ≠ 28 → i ≠ 29 → q2.2 i = q.2 i) → Fr (FtM a d) h h3 → J l G mX11_breakLines (jQ G mX11_breakLines (jW (oI (barsA P p0)) (fun h' => ∃ p', Mod G h' a d mp p' ∧ BQ P p0 w (barsA P p0).toNat p' ∧ BU p p' ∧ Fr (FtM a d) h h'))) 0 0 60 [(5, vI (f + j + 1)), (4, vI (chN (D.2 0) (D.2 1) s w f (D.2 2 f) j).1), (3, vI f), (2, vI s), (0, .ref a), (1, vI w)] [] h3 := by
        intro n2
        induction n2 with
        | zero =>
          intro j q2 h3 hj hM h28 h29 hoth hun hF
          have hP := hM.1
          have hjs : (s - f).toNat = j := by omega
          have e1 : (choP D s w f).2 1 = upI (D.2 1) f (chN (D.2 0) (D.2 1) s w f (D.2 2 f) j).2.1 := by unfold choP; rw [hjs]; rfl
          have e2 : (choP D s w f).2 2 = upI (D.2 2) f (chN (D.2 0) (D.2 1) s w f (D.2 2 f) j).2.2 := by unfold choP; rw [hjs]; rfl
          have hcr := chN_rg (nx := D.2 2 f) hw hDW hCZ (by omega) hbr.2 j (by omega)
          have hc1 := (hcr.2.2 (by omega)).1
          refine j_iload dX11_breakLines_60 rfl ?_
          refine j_iload_n 2 dX11_breakLines_62 rfl rfl ?_
          refine J_icmp_gt 151 dX11_breakLines_63 (by decide) (fun c63 => ?_) (fun c63 => absurd c63 (by omega)) 
          refine J_iinc (L' := [(3, vI (s - 1 - ((c + 1 : Nat) : Int))), (5, _), (4, _), (2, _), (0, _), (1, _)]) dX11_breakLines_151 rfl rfl (by show jput _ 3 (vI (f + (-1))) = _; rw [show f + (-1) = s - 1 - ((c + 1 : Nat) : Int) by omega]; rfl) ?_
          refine j_goto 40 dX11_breakLines_154 (by decide) ?_
          exact j_locR (ih (c + 1) q2 _ (by omega) hM ⟨fun i x y => by
            rw [← hsE] at x y
            rw [hsc, e1]
            by_cases z : i = f
            · subst z; rw [upI_s, h28]; unfold maxB; rw [if_neg (by omega)]
            · rw [upI_n z, (hoth i z).1]; exact hB1 i (by omega) y, fun i x y => by
            rw [← hsE] at x y
            rw [hsc, e2]
            by_cases z : i = f
            · subst z; rw [upI_s]; exact h29 (by omega)
            · rw [upI_n z, (hoth i z).2]; exact hB2 i (by omega) y⟩ (fun i x y => by rw [hun.2 27 (by decide) (by decide)]; exact hWd i x y) ⟨hun.1.trans hU.1, fun i x => (hun.2 i (by omega) (by omega)).trans (hU.2 i x)⟩ hF) (by repeat' (first | exact True.intro | refine And.intro rfl ?_))
        | succ n2 ih2 =>
          intro j q2 h3 hj hM h28 h29 hoth hun hF
          have hP := hM.1
          have hcr := chN_rg (nx := D.2 2 f) hw hDW hCZ (by omega) hbr.2 j (by omega)
          have hco := ch_cost (j := j) hw hDW hCZ (by omega) hbr.2 (by omega) hcr.1
          have hstep := chN_s (D.2 0) (D.2 1) s w f (D.2 2 f) j
          obtain ⟨r, hr⟩ : ∃ r, r = chN (D.2 0) (D.2 1) s w f (D.2 2 f) j := ⟨_, rfl⟩
          rw [← hr] at h28 h29 hcr hco hstep ⊢
          have hwd := hWZ (f + j) (by omega) (by omega)
          rw [← hDw] at hwd
          have hcn := hCZ (f + j + 1) (by omega) (by omega)
          have v27 : q2.2 27 (f + j + 1 - 1) = D.2 0 (f + j) := by
            rw [show f + (j : Int) + 1 - 1 = f + j by omega, hun.2 27 (by decide) (by decide), hDw]
            exact hWd _ (by omega) (by omega)
          have v28 : q2.2 28 (f + j + 1) = D.2 1 (f + j + 1) := by rw [(hoth _ (by omega)).1]; exact hB1 _ (by omega) (by omega)
          obtain ⟨co, hcoE⟩ : ∃ co, co = chCo (D.2 1) s w (r.1 + D.2 0 (f + j)) (f + j + 1) := ⟨_, rfl⟩
          rw [← hcoE] at hco hstep
          have hcoU : co = (if f + j + 1 = s ∧ 0 ≤ w - (r.1 + D.2 0 (f + j)) then 0 else (w - (r.1 + D.2 0 (f + j))) * (w - (r.1 + D.2 0 (f + j)))) + D.2 1 (f + j + 1) := hcoE
          have hmr : rg (maxB r.2.1) := by
            unfold maxB
            by_cases z : j = 0
            · rw [if_pos (hcr.2.1 z)]; omega
            · have := (hcr.2.2 (by omega)).1
              split <;> omega
          have hnxt := fun (q3 : OS) (h4 : jH) (hM4 : Mod G h4 a d mp q3) (a1 : q3.2 28 f = maxB (chT r (r.1 + D.2 0 (f + j)) co (f + j + 1)).2.1) (a2 : q3.2 29 f = (chT r (r.1 + D.2 0 (f + j)) co (f + j + 1)).2.2) (a3 : ∀ i : Int, i ≠ f → q3.2 28 i = q.2 28 i ∧ q3.2 29 i = q.2 29 i) (a4 : q3.1 = q.1 ∧ ∀ i : Nat, i ≠ 28 → i ≠ 29 → q3.2 i = q.2 i) (a5 : Fr (FtM a d) h h4) => ih2 (j + 1) q3 h4 (by omega) hM4 (by rw [hstep]; exact a1) (fun _ => by rw [hstep]; exact a2) a3 a4 a5
          rw [hstep] at hnxt
          have h9 : (chT r (r.1 + D.2 0 (f + j)) co (f + j + 1)).1 = r.1 + D.2 0 (f + j) := by unfold chT; split <;> rfl
          rw [h9] at hnxt
          have e8 : f + ((j + 1 : Nat) : Int) + 1 = f + j + 1 + 1 := by omega
          rw [e8] at hnxt
          refine j_iload dX11_breakLines_60 rfl ?_
          refine j_iload_n 2 dX11_breakLines_62 rfl rfl ?_
          refine J_icmp_gt 151 dX11_breakLines_63 (by decide) (fun c63 => absurd c63 (by omega)) (fun c63 => ?_) 
          refine j_iload dX11_breakLines_66 rfl ?_
          refine j_aload_n 0 dX11_breakLines_68 rfl rfl ?_
          refine j_get fX11_71 dX11_breakLines_69 hP.1 rfl ?_
          refine j_iload dX11_breakLines_72 rfl ?_
          refine J_iconst dX11_breakLines_74 ?_
          refine J_isub dX11_breakLines_75 ?_
          refine J_iald dX11_breakLines_76 (hP.2.1 27 rfl) ?_ 
          refine J_top (D.2 0 (f + j)) ?_ (by exact v27)
          refine J_iadd dX11_breakLines_77 ?_
          refine j_istore (L' := [(4, _), (5, _), (3, _), (2, _), (0, _), (1, _)]) dX11_breakLines_78 rfl rfl ?_
          refine j_aload_n 0 dX11_breakLines_80 rfl rfl ?_
          refine j_get fX11_74 dX11_breakLines_81 hP.1 rfl ?_
          refine j_iload dX11_breakLines_84 rfl ?_
          refine J_iald dX11_breakLines_86 (hP.2.1 28 rfl) ?_ 
          refine J_top (D.2 1 (f + j + 1)) ?_ (by exact v28)
          refine j_iload dX11_breakLines_87 rfl ?_
          refine j_iload_n 2 dX11_breakLines_89 rfl rfl ?_
          refine J_icmp_ne 103 dX11_breakLines_90 (by decide) (fun c90 => ?_) (fun c90 => ?_) 
          · refine j_iload_n 1 dX11_breakLines_103 rfl rfl ?_
            refine j_iload dX11_breakLines_104 rfl ?_
            refine J_isub dX11_breakLines_106 ?_
            refine j_iload_n 1 dX11_breakLines_107 rfl rfl ?_
            refine j_iload dX11_breakLines_108 rfl ?_
            refine J_isub dX11_breakLines_110 ?_
            refine J_imul dX11_breakLines_111 ?_
            refine J_top (co - D.2 1 (f + j + 1)) ?_ (by rw [hcoU]; first | (rw [if_pos ⟨by omega, by omega⟩]; omega) | (rw [if_neg (fun z => by omega)]; omega))
            refine J_iadd dX11_breakLines_112 ?_
            refine J_top (co) ?_ (by omega)
            refine j_istore (L' := [(6, _), (4, _), (5, _), (3, _), (2, _), (0, _), (1, _)]) dX11_breakLines_113 rfl rfl ?_
            refine j_iload dX11_breakLines_115 rfl ?_
            refine j_aload_n 0 dX11_breakLines_117 rfl rfl ?_
            refine j_get fX11_74 dX11_breakLines_118 hP.1 rfl ?_
            refine j_iload_n 3 dX11_breakLines_121 rfl rfl ?_
            refine J_iald dX11_breakLines_122 (hP.2.1 28 rfl) ?_ 
            refine J_top (maxB r.2.1) ?_ (by exact h28)
            refine J_icmp_le 129 dX11_breakLines_123 (by decide) (fun c123 => ?_) (fun c123 => ?_) 
            · refine j_aload_n 0 dX11_breakLines_129 rfl rfl ?_
              refine j_get fX11_74 dX11_breakLines_130 hP.1 rfl ?_
              refine j_iload_n 3 dX11_breakLines_133 rfl rfl ?_
              refine j_iload dX11_breakLines_134 rfl ?_
              refine J_iastA 28 hP rfl (fun _ => rfl) (fun _ => rfl) dX11_breakLines_136 (fun h hP hF136 => ?_) 
              have hM := hM.w hZ hP hF136
              have hF := hF.tr (hF136.mono (fun _ q => Or.inl q))
              obtain ⟨Fa, hpa, hFa⟩ := hM.2.1
              refine j_aload_n 0 dX11_breakLines_137 rfl rfl ?_
              refine j_get fX11_77 dX11_breakLines_138 hP.1 rfl ?_
              refine j_iload_n 3 dX11_breakLines_141 rfl rfl ?_
              refine j_iload dX11_breakLines_142 rfl ?_
              refine J_iastA 29 hP rfl (fun _ => rfl) (fun _ => rfl) dX11_breakLines_144 (fun h hP hF144 => ?_) 
              have hM := hM.w hZ hP hF144
              have hF := hF.tr (hF144.mono (fun _ q => Or.inl q))
              obtain ⟨Fa, hpa, hFa⟩ := hM.2.1
              refine J_iinc (L' := [(5, _), (6, _), (4, _), (3, _), (2, _), (0, _), (1, _)]) dX11_breakLines_145 rfl rfl rfl ?_
              refine j_goto 60 dX11_breakLines_148 (by decide) ?_
              exact j_locR (hnxt _ _ hM (by rw [show chT r (r.1 + D.2 0 (f + j)) co (f + j + 1) = (r.1 + D.2 0 (f + j), co, f + j + 1) from if_pos (mb_le hco.2.2.1 c123)]; show upI _ f co f = maxB co; rw [upI_s]; unfold maxB; rw [if_neg (by omega)]) (by rw [show chT r (r.1 + D.2 0 (f + j)) co (f + j + 1) = (r.1 + D.2 0 (f + j), co, f + j + 1) from if_pos (mb_le hco.2.2.1 c123)]; show upI _ f (f + j + 1) f = f + j + 1; rw [upI_s]) (fun i z => ⟨(upI_n z).trans (hoth i z).1, (upI_n z).trans (hoth i z).2⟩) ⟨hun.1, fun i x y => by rw [oA_n y, oA_n x]; exact hun.2 i x y⟩ hF) (by repeat' (first | exact True.intro | refine And.intro rfl ?_))
            · refine j_goto 145 dX11_breakLines_126 (by decide) ?_
              refine J_iinc (L' := [(5, _), (6, _), (4, _), (3, _), (2, _), (0, _), (1, _)]) dX11_breakLines_145 rfl rfl rfl ?_
              refine j_goto 60 dX11_breakLines_148 (by decide) ?_
              exact j_locR (hnxt _ _ hM (by rw [show chT r (r.1 + D.2 0 (f + j)) co (f + j + 1) = (r.1 + D.2 0 (f + j), r.2.1, r.2.2) from if_neg (mb_gt hco.2.2.2 c123)]; exact h28) (by rw [show chT r (r.1 + D.2 0 (f + j)) co (f + j + 1) = (r.1 + D.2 0 (f + j), r.2.1, r.2.2) from if_neg (mb_gt hco.2.2.2 c123)]; exact h29 (mb_j hcr.2.1 hco.2.2.2 c123)) hoth hun hF) (by repeat' (first | exact True.intro | refine And.intro rfl ?_))
          · refine j_iload dX11_breakLines_93 rfl ?_
            refine j_iload_n 1 dX11_breakLines_95 rfl rfl ?_
            refine J_icmp_gt 103 dX11_breakLines_96 (by decide) (fun c96 => ?_) (fun c96 => ?_) 
            · refine j_iload_n 1 dX11_breakLines_103 rfl rfl ?_
              refine j_iload dX11_breakLines_104 rfl ?_
              refine J_isub dX11_breakLines_106 ?_
              refine j_iload_n 1 dX11_breakLines_107 rfl rfl ?_
              refine j_iload dX11_breakLines_108 rfl ?_
              refine J_isub dX11_breakLines_110 ?_
              refine J_imul dX11_breakLines_111 ?_
              refine J_top (co - D.2 1 (f + j + 1)) ?_ (by rw [hcoU]; first | (rw [if_pos ⟨by omega, by omega⟩]; omega) | (rw [if_neg (fun z => by omega)]; omega))
              refine J_iadd dX11_breakLines_112 ?_
              refine J_top (co) ?_ (by omega)
              refine j_istore (L' := [(6, _), (4, _), (5, _), (3, _), (2, _), (0, _), (1, _)]) dX11_breakLines_113 rfl rfl ?_
              refine j_iload dX11_breakLines_115 rfl ?_
              refine j_aload_n 0 dX11_breakLines_117 rfl rfl ?_
              refine j_get fX11_74 dX11_breakLines_118 hP.1 rfl ?_
              refine j_iload_n 3 dX11_breakLines_121 rfl rfl ?_
              refine J_iald dX11_breakLines_122 (hP.2.1 28 rfl) ?_ 
              refine J_top (maxB r.2.1) ?_ (by exact h28)
              refine J_icmp_le 129 dX11_breakLines_123 (by decide) (fun c123 => ?_) (fun c123 => ?_) 
              · refine j_aload_n 0 dX11_breakLines_129 rfl rfl ?_
                refine j_get fX11_74 dX11_breakLines_130 hP.1 rfl ?_
                refine j_iload_n 3 dX11_breakLines_133 rfl rfl ?_
                refine j_iload dX11_breakLines_134 rfl ?_
                refine J_iastA 28 hP rfl (fun _ => rfl) (fun _ => rfl) dX11_breakLines_136 (fun h hP hF136 => ?_) 
                have hM := hM.w hZ hP hF136
                have hF := hF.tr (hF136.mono (fun _ q => Or.inl q))
                obtain ⟨Fa, hpa, hFa⟩ := hM.2.1
                refine j_aload_n 0 dX11_breakLines_137 rfl rfl ?_
                refine j_get fX11_77 dX11_breakLines_138 hP.1 rfl ?_
                refine j_iload_n 3 dX11_breakLines_141 rfl rfl ?_
                refine j_iload dX11_breakLines_142 rfl ?_
                refine J_iastA 29 hP rfl (fun _ => rfl) (fun _ => rfl) dX11_breakLines_144 (fun h hP hF144 => ?_) 
                have hM := hM.w hZ hP hF144
                have hF := hF.tr (hF144.mono (fun _ q => Or.inl q))
                obtain ⟨Fa, hpa, hFa⟩ := hM.2.1
                refine J_iinc (L' := [(5, _), (6, _), (4, _), (3, _), (2, _), (0, _), (1, _)]) dX11_breakLines_145 rfl rfl rfl ?_
                refine j_goto 60 dX11_breakLines_148 (by decide) ?_
                exact j_locR (hnxt _ _ hM (by rw [show chT r (r.1 + D.2 0 (f + j)) co (f + j + 1) = (r.1 + D.2 0 (f + j), co, f + j + 1) from if_pos (mb_le hco.2.2.1 c123)]; show upI _ f co f = maxB co; rw [upI_s]; unfold maxB; rw [if_neg (by omega)]) (by rw [show chT r (r.1 + D.2 0 (f + j)) co (f + j + 1) = (r.1 + D.2 0 (f + j), co, f + j + 1) from if_pos (mb_le hco.2.2.1 c123)]; show upI _ f (f + j + 1) f = f + j + 1; rw [upI_s]) (fun i z => ⟨(upI_n z).trans (hoth i z).1, (upI_n z).trans (hoth i z).2⟩) ⟨hun.1, fun i x y => by rw [oA_n y, oA_n x]; exact hun.2 i x y⟩ hF) (by repeat' (first | exact True.intro | refine And.intro rfl ?_))
              · refine j_goto 145 dX11_breakLines_126 (by decide) ?_
                refine J_iinc (L' := [(5, _), (6, _), (4, _), (3, _), (2, _), (0, _), (1, _)]) dX11_breakLines_145 rfl rfl rfl ?_
                refine j_goto 60 dX11_breakLines_148 (by decide) ?_
                exact j_locR (hnxt _ _ hM (by rw [show chT r (r.1 + D.2 0 (f + j)) co (f + j + 1) = (r.1 + D.2 0 (f + j), r.2.1, r.2.2) from if_neg (mb_gt hco.2.2.2 c123)]; exact h28) (by rw [show chT r (r.1 + D.2 0 (f + j)) co (f + j + 1) = (r.1 + D.2 0 (f + j), r.2.1, r.2.2) from if_neg (mb_gt hco.2.2.2 c123)]; exact h29 (mb_j hcr.2.1 hco.2.2.2 c123)) hoth hun hF) (by repeat' (first | exact True.intro | refine And.intro rfl ?_))
            · refine J_iconst dX11_breakLines_99 ?_
              refine j_goto 112 dX11_breakLines_100 (by decide) ?_
              refine J_top (co - D.2 1 (f + j + 1)) ?_ (by rw [hcoU]; first | (rw [if_pos ⟨by omega, by omega⟩]; omega) | (rw [if_neg (fun z => by omega)]; omega))
              refine J_iadd dX11_breakLines_112 ?_
              refine J_top (co) ?_ (by omega)
              refine j_istore (L' := [(6, _), (4, _), (5, _), (3, _), (2, _), (0, _), (1, _)]) dX11_breakLines_113 rfl rfl ?_
              refine j_iload dX11_breakLines_115 rfl ?_
              refine j_aload_n 0 dX11_breakLines_117 rfl rfl ?_
              refine j_get fX11_74 dX11_breakLines_118 hP.1 rfl ?_
              refine j_iload_n 3 dX11_breakLines_121 rfl rfl ?_
              refine J_iald dX11_breakLines_122 (hP.2.1 28 rfl) ?_ 
              refine J_top (maxB r.2.1) ?_ (by exact h28)
              refine J_icmp_le 129 dX11_breakLines_123 (by decide) (fun c123 => ?_) (fun c123 => ?_) 
              · refine j_aload_n 0 dX11_breakLines_129 rfl rfl ?_
                refine j_get fX11_74 dX11_breakLines_130 hP.1 rfl ?_
                refine j_iload_n 3 dX11_breakLines_133 rfl rfl ?_
                refine j_iload dX11_breakLines_134 rfl ?_
                refine J_iastA 28 hP rfl (fun _ => rfl) (fun _ => rfl) dX11_breakLines_136 (fun h hP hF136 => ?_) 
                have hM := hM.w hZ hP hF136
                have hF := hF.tr (hF136.mono (fun _ q => Or.inl q))
                obtain ⟨Fa, hpa, hFa⟩ := hM.2.1
                refine j_aload_n 0 dX11_breakLines_137 rfl rfl ?_
                refine j_get fX11_77 dX11_breakLines_138 hP.1 rfl ?_
                refine j_iload_n 3 dX11_breakLines_141 rfl rfl ?_
                refine j_iload dX11_breakLines_142 rfl ?_
                refine J_iastA 29 hP rfl (fun _ => rfl) (fun _ => rfl) dX11_breakLines_144 (fun h hP hF144 => ?_) 
                have hM := hM.w hZ hP hF144
                have hF := hF.tr (hF144.mono (fun _ q => Or.inl q))
                obtain ⟨Fa, hpa, hFa⟩ := hM.2.1
                refine J_iinc (L' := [(5, _), (6, _), (4, _), (3, _), (2, _), (0, _), (1, _)]) dX11_breakLines_145 rfl rfl rfl ?_
                refine j_goto 60 dX11_breakLines_148 (by decide) ?_
                exact j_locR (hnxt _ _ hM (by rw [show chT r (r.1 + D.2 0 (f + j)) co (f + j + 1) = (r.1 + D.2 0 (f + j), co, f + j + 1) from if_pos (mb_le hco.2.2.1 c123)]; show upI _ f co f = maxB co; rw [upI_s]; unfold maxB; rw [if_neg (by omega)]) (by rw [show chT r (r.1 + D.2 0 (f + j)) co (f + j + 1) = (r.1 + D.2 0 (f + j), co, f + j + 1) from if_pos (mb_le hco.2.2.1 c123)]; show upI _ f (f + j + 1) f = f + j + 1; rw [upI_s]) (fun i z => ⟨(upI_n z).trans (hoth i z).1, (upI_n z).trans (hoth i z).2⟩) ⟨hun.1, fun i x y => by rw [oA_n y, oA_n x]; exact hun.2 i x y⟩ hF) (by repeat' (first | exact True.intro | refine And.intro rfl ?_))
              · refine j_goto 145 dX11_breakLines_126 (by decide) ?_
                refine J_iinc (L' := [(5, _), (6, _), (4, _), (3, _), (2, _), (0, _), (1, _)]) dX11_breakLines_145 rfl rfl rfl ?_
                refine j_goto 60 dX11_breakLines_148 (by decide) ?_
                exact j_locR (hnxt _ _ hM (by rw [show chT r (r.1 + D.2 0 (f + j)) co (f + j + 1) = (r.1 + D.2 0 (f + j), r.2.1, r.2.2) from if_neg (mb_gt hco.2.2.2 c123)]; exact h28) (by rw [show chT r (r.1 + D.2 0 (f + j)) co (f + j + 1) = (r.1 + D.2 0 (f + j), r.2.1, r.2.2) from if_neg (mb_gt hco.2.2.2 c123)]; exact h29 (mb_j hcr.2.1 hco.2.2.2 c123)) hoth hun hF) (by repeat' (first | exact True.intro | refine And.intro rfl ?_))
      refine j_iload_n 3 dX11_breakLines_40 rfl rfl ?_
      refine J_if_lt 157 dX11_breakLines_41 (by decide) (fun c41 => absurd c41 (by omega)) (fun c41 => ?_) 
      refine J_iconst dX11_breakLines_44 ?_
      refine j_istore (L' := [(4, _), (3, _), (2, _), (0, _), (1, _)]) dX11_breakLines_45 rfl rfl ?_
      refine j_aload_n 0 dX11_breakLines_47 rfl rfl ?_
      refine j_get fX11_74 dX11_breakLines_48 hP.1 rfl ?_
      refine j_iload_n 3 dX11_breakLines_51 rfl rfl ?_
      refine j_ldc _ dX11_breakLines_52 vX11_244 ?_
      rw [I32_max]
      refine J_iastA 28 hP rfl (fun _ => rfl) (fun _ => rfl) dX11_breakLines_54 (fun h hP hF54 => ?_) 
      have hM := hM.w hZ hP hF54
      have hF := hF.tr (hF54.mono (fun _ q => Or.inl q))
      obtain ⟨Fa, hpa, hFa⟩ := hM.2.1
      refine j_iload_n 3 dX11_breakLines_55 rfl rfl ?_
      refine J_iconst dX11_breakLines_56 ?_
      refine J_iadd dX11_breakLines_57 ?_
      refine j_istore (L' := [(5, _), (4, _), (3, _), (2, _), (0, _), (1, _)]) dX11_breakLines_58 rfl rfl ?_
      exact j_locR (row (c + 1) 0 _ _ (by omega) hM (by show upI _ f 2147483647 f = _; rw [upI_s]; rfl) (fun z => absurd z (by decide)) (fun i z => ⟨upI_n z, rfl⟩) ⟨rfl, fun i x y => oA_n x⟩ hF) (by repeat' (first | exact True.intro | refine And.intro rfl ?_ | refine And.intro (by show some (vI (f + 1)) = some (vI (f + ((0 : Nat) : Int) + 1)); rw [show f + ((0 : Nat) : Int) + 1 = f + 1 by omega]) ?_))
  have wid : ∀ (n c : Nat) (q : OS) (h2 : jH), (c : Int) + n = s → Mod G h2 a d mp q → (∀ i : Int, 0 ≤ i → i < c → q.2 27 i = widF P p0 i) → BU p q → Fr (FtM a d) h h2 → J l G mX11_breakLines (jQ G mX11_breakLines (jW (oI (barsA P p0)) (fun h' => ∃ p', Mod G h' a d mp p' ∧ BQ P p0 w (barsA P p0).toNat p' ∧ BU p p' ∧ Fr (FtM a d) h h'))) 0 0 7 [(3, vI (c : Int)), (2, vI s), (0, .ref a), (1, vI w)] [] h2 := by
    intro n
    induction n with
    | zero =>
      intro c q h2 hn hM hWd hU hF
      have hP := hM.1
      refine j_iload_n 3 dX11_breakLines_7 rfl rfl ?_
      refine j_iload_n 2 dX11_breakLines_8 rfl rfl ?_
      refine J_icmp_ge 29 dX11_breakLines_9 (by decide) (fun c9 => ?_) (fun c9 => absurd c9 (by omega)) 
      refine j_aload_n 0 dX11_breakLines_29 rfl rfl ?_
      refine j_get fX11_74 dX11_breakLines_30 hP.1 rfl ?_
      refine j_iload_n 2 dX11_breakLines_33 rfl rfl ?_
      refine J_iconst dX11_breakLines_34 ?_
      refine J_iastA 28 hP rfl (fun _ => rfl) (fun _ => rfl) dX11_breakLines_35 (fun h hP hF35 => ?_) 
      have hM := hM.w hZ hP hF35
      have hF := hF.tr (hF35.mono (fun _ q => Or.inl q))
      obtain ⟨Fa, hpa, hFa⟩ := hM.2.1
      refine j_iload_n 2 dX11_breakLines_36 rfl rfl ?_
      refine J_iconst dX11_breakLines_37 ?_
      refine J_isub dX11_breakLines_38 ?_
      refine j_istore_n 3 (L' := [(3, _), (2, _), (0, _), (1, _)]) dX11_breakLines_39 rfl rfl rfl ?_
      exact j_locR (table s.toNat 0 _ _ (by omega) hM ⟨fun i x y => by
          have z : i = s := by rw [← hsE] at x y; omega
          show upI _ s 0 i = upI _ (barsA P p0) 0 i
          rw [← hsE, z, upI_s, upI_s], fun i x y => absurd y (by omega)⟩ (fun i x y => by rw [oA_n (by decide)]; exact hWd i x (by omega)) ⟨hU.1, fun i x => by rw [oA_n (by omega)]; exact hU.2 i x⟩ hF) (by repeat' (first | exact True.intro | refine And.intro rfl ?_ | refine And.intro (by show some (vI (s - 1)) = some (vI (s - 1 - ((0 : Nat) : Int))); rw [show s - 1 - ((0 : Nat) : Int) = s - 1 by omega]) ?_))
    | succ n ih =>
      intro c q h2 hn hM hWd hU hF
      have hP := hM.1
      refine j_iload_n 3 dX11_breakLines_7 rfl rfl ?_
      refine j_iload_n 2 dX11_breakLines_8 rfl rfl ?_
      refine J_icmp_ge 29 dX11_breakLines_9 (by decide) (fun c9 => absurd c9 (by omega)) (fun c9 => ?_) 
      refine j_aload_n 0 dX11_breakLines_12 rfl rfl ?_
      refine j_get fX11_71 dX11_breakLines_13 hP.1 rfl ?_
      refine j_iload_n 3 dX11_breakLines_16 rfl rfl ?_
      refine j_aload_n 0 dX11_breakLines_17 rfl rfl ?_
      refine j_iload_n 3 dX11_breakLines_18 rfl rfl ?_
      refine J_callV1 kX11_310 cvX11_width hP.1 (c_X11_width hM hZ (hU.ku.mi hI) (b := (c : Int)) ⟨by omega, by omega⟩) rfl rfl rfl rfl rfl dX11_breakLines_19 rfl rfl ?_
      refine J_iastA 27 hP rfl (fun _ => rfl) (fun _ => rfl) dX11_breakLines_22 (fun h hP hF22 => ?_) 
      have hM := hM.w hZ hP hF22
      have hF := hF.tr (hF22.mono (fun _ q => Or.inl q))
      obtain ⟨Fa, hpa, hFa⟩ := hM.2.1
      refine J_iinc (L' := [(3, _), (2, _), (0, _), (1, _)]) dX11_breakLines_23 rfl rfl rfl ?_
      refine j_goto 7 dX11_breakLines_26 (by decide) ?_
      exact j_locR (ih (c + 1) _ _ (by omega) hM (fun i x y => by
          show upI _ c _ i = _
          by_cases z : i = c
          · subst z; rw [upI_s]
          · rw [upI_n z]; exact hWd i x (by omega)) ⟨hU.1, fun i x => by rw [oA_n (by omega)]; exact hU.2 i x⟩ hF) (by repeat' (first | exact True.intro | refine And.intro rfl ?_))
  refine j_body (by decide +kernel) ⟨rfl, rfl⟩ rfl ?_
  have hP := hM.1
  have hF : Fr (FtM a d) h h := Fr.rf
  obtain ⟨Fa, hpa, hFa⟩ := hM.2.1
  refine j_aload_n 0 dX11_breakLines_0 rfl rfl ?_
  refine J_callV1 kX11_307 cvX11_barsNow hP.1 (c_X11_barsNow hM hZ hI) rfl rfl rfl rfl rfl dX11_breakLines_1 rfl rfl ?_
  refine J_top (s) ?_ (by exact hsE.symm)
  refine j_istore_n 2 (L' := [(2, _), (0, _), (1, _)]) dX11_breakLines_4 rfl rfl rfl ?_
  refine J_iconst dX11_breakLines_5 ?_
  refine j_istore_n 3 (L' := [(3, _), (2, _), (0, _), (1, _)]) dX11_breakLines_6 rfl rfl rfl ?_
  exact j_locR (wid s.toNat 0 p _ (by omega) hM (fun i x y => absurd y (by omega)) ⟨rfl, fun _ _ => rfl⟩ hF) (by repeat' (first | exact True.intro | refine And.intro rfl ?_))
/-- along the lines -/
theorem num_run {nx : Int → Int} {s : Int} {F : Int → Int} {k : Nat} {c : Int} (h : (numL nx s F k).1 = c ∧ (numL nx s F k).2.1 = k) (hk : (k : Int) < s) : ∀ j : Nat, (k : Int) + j + 1 ≤ nx k → (k : Int) + j + 1 ≤ s → (numL nx s F (k + j + 1)).1 = c + 1 ∧ (numL nx s F (k + j + 1)).2.1 = nx k ∧ ∀ i : Int, (k : Int) ≤ i → i ≤ k + j → (numL nx s F (k + j + 1)).2.2 i = c
  | 0, hj, _ => by
    rw [Nat.add_zero, numL_s]
    dsimp only
    rw [h.1, h.2, if_neg (by omega), if_pos rfl]
    refine ⟨rfl, rfl, fun i a b => ?_⟩
    have : i = k := by omega
    subst this
    show upI _ (k : Int) (c + 1 - 1) k = c
    rw [upI_s]
    omega
  | j + 1, hj, hs => by
    obtain ⟨i1, i2, i3⟩ := num_run h hk j (by omega) (by omega)
    rw [show k + (j + 1) + 1 = (k + j + 1) + 1 by omega, numL_s]
    dsimp only
    rw [i1, i2, if_neg (by omega), if_neg (by omega)]
    refine ⟨rfl, rfl, fun i a b => ?_⟩
    show upI _ ((k + j + 1 : Nat) : Int) (c + 1 - 1) i = c
    by_cases z : i = ((k + j + 1 : Nat) : Int)
    · rw [z, upI_s]; omega
    · rw [upI_n z]; exact i3 i a (by omega)
theorem num_end {nx : Int → Int} {s : Int} {F : Int → Int} {k : Nat} (hk : s ≤ k) : ∀ j : Nat, (numL nx s F (k + j)).1 = (numL nx s F k).1 ∧ ∀ i : Int, (k : Int) ≤ i → i < k + j → (numL nx s F (k + j)).2.2 i = -1
  | 0 => ⟨rfl, fun i a b => absurd b (by simp; omega)⟩
  | j + 1 => by
    have ih := num_end (nx := nx) (F := F) hk j
    rw [show k + (j + 1) = k + j + 1 by omega, numL_s]
    dsimp only
    rw [if_pos (by omega)]
    refine ⟨ih.1, fun i a b => ?_⟩
    show upI _ ((k + j : Nat) : Int) (-1) i = -1
    by_cases z : i = ((k + j : Nat) : Int)
    · rw [z, upI_s]
    · rw [upI_n z]; exact ih.2 i a (by omega)
/-- what was told of a bar stays told -/
theorem num_keep {nx : Int → Int} {s : Int} {F : Int → Int} {i : Int} {k : Nat} (hi : i < k) : ∀ j : Nat, (numL nx s F (k + j)).2.2 i = (numL nx s F k).2.2 i
  | 0 => rfl
  | j + 1 => by
    have ih := num_keep (nx := nx) (s := s) (F := F) hi j
    rw [show k + (j + 1) = k + j + 1 by omega, numL_s]
    dsimp only
    split
    · show upI _ _ _ i = _
      rw [upI_n (by omega)]; exact ih
    · split
      · show upI _ _ _ i = _
        rw [upI_n (by omega)]; exact ih
      · show upI _ _ _ i = _
        rw [upI_n (by omega)]; exact ih
theorem ln_4 (P : Nat → OS) (p0 : OS) (w : Int) : (lnP P p0 (barsA P p0) w).1 4 = (numL ((lnS P p0 w).2 2) (barsA P p0) ((lnS P p0 w).2 3) 24).1 := rfl
theorem ln_3 (P : Nat → OS) (p0 : OS) (w : Int) : (lnP P p0 (barsA P p0) w).2 3 = (numL ((lnS P p0 w).2 2) (barsA P p0) ((lnS P p0 w).2 3) 24).2.2 := rfl
theorem ln_1 (P : Nat → OS) (p0 : OS) (w : Int) : (lnP P p0 (barsA P p0) w).2 1 0 = (lnS P p0 w).2 1 0 := rfl
theorem ln_nx {d : MD} {P mp : Nat → OS} {p0 : OS} {F : Nat → Int → Int} (hI : MI d P p0 mp F) {w : Int} (hw : 10 ≤ w ∧ w ≤ 400) : ∀ i : Int, 0 ≤ i → i < barsA P p0 → i < (lnS P p0 w).2 2 i ∧ (lnS P p0 w).2 2 i ≤ barsA P p0 := fun i a b => by
  have hbr := barsA_rg P p0
  exact dpP_n (oA zOS 0 (widF P p0)) (s := barsA P p0) hw (by rw [oA_s]; exact widF_Z hI.1.2.2.1) hbr.2 (barsA P p0).toNat (by omega) i (by omega) b
theorem BQ.nx {P : Nat → OS} {p0 q : OS} {w : Int} (h : BQ P p0 w (barsA P p0).toNat q) (i : Int) (a : 0 ≤ i) (b : i < barsA P p0) : q.2 29 i = (lnS P p0 w).2 2 i := h.2 i (by omega) b
set_option maxRecDepth 100000 in
theorem c_X11_linesNow {l : Launch} {G : jG} {h : jH} {a : Nat} {d : MD} {mp P : Nat → OS} {p p0 : OS} {Z : Nat → Nat} {w : Int} (hM : Mod G h a d mp p) (hZ : Mz a d Z) (hI : MI d P p0 mp p.2) (hw : 10 ≤ w ∧ w ≤ 400) : jC l G yX11_linesNow mX11_linesNow [.ref a, vI w] h (jW (oI ((lnP P p0 (barsA P p0) w).1 4)) (fun h' => ∃ p', Mod G h' a d mp p' ∧ KU p p' ∧ Fr (FtM a d) h h')) := by
  have hbr := barsA_rg P p0
  have hnx := ln_nx hI hw
  have chain : ∀ (n c : Nat) (z : Int) (q : OS) (h2 : jH), (barsA P p0) - c ≤ n → (c : Int) ≤ barsA P p0 → Mod G h2 a d mp q → BQ P p0 w (barsA P p0).toNat q → KU p q → (numL ((lnS P p0 w).2 2) (barsA P p0) ((lnS P p0 w).2 3) c).1 = z ∧ (numL ((lnS P p0 w).2 2) (barsA P p0) ((lnS P p0 w).2 3) c).2.1 = c → (0 ≤ z ∧ z ≤ c) → Fr (FtM a d) h h2 → J l G mX11_linesNow (jQ G mX11_linesNow (jW (oI ((lnP P p0 (barsA P p0) w).1 4)) (fun h' => ∃ p', Mod G h' a d mp p' ∧ KU p p' ∧ Fr (FtM a d) h h'))) 0 0 11 [(4, vI (c : Int)), (3, vI z), (2, vI (barsA P p0)), (0, .ref a), (1, vI w)] [] h2 := by
    intro n
    induction n with
    | zero =>
      intro c z q h2 hn hc hM hB hK hz hzr hF
      have ec : barsA P p0 = c := by omega
      have hend := num_end (nx := (lnS P p0 w).2 2) (s := barsA P p0) (F := (lnS P p0 w).2 3) (k := c) (by omega) (24 - c)
      rw [show c + (24 - c) = 24 by omega] at hend
      refine j_iload dX11_linesNow_11 rfl ?_
      refine j_iload_n 2 dX11_linesNow_13 rfl rfl ?_
      refine J_icmp_ge 32 dX11_linesNow_14 (by decide) (fun c14 => ?_) (fun c14 => absurd c14 (by omega)) 
      refine j_iload_n 3 dX11_linesNow_32 rfl rfl ?_
      refine j_iret rfl dX11_linesNow_33 ?_
      exact ⟨oIe (by rw [ln_4, hend.1, hz.1]), q, hM, hK, hF⟩
    | succ n ih =>
      intro c z q h2 hn hc hM hB hK hz hzr hF
      have hP := hM.1
      by_cases hcs : (c : Int) = barsA P p0
      · have hend := num_end (nx := (lnS P p0 w).2 2) (s := barsA P p0) (F := (lnS P p0 w).2 3) (k := c) (by omega) (24 - c)
        rw [show c + (24 - c) = 24 by omega] at hend
        refine j_iload dX11_linesNow_11 rfl ?_
        refine j_iload_n 2 dX11_linesNow_13 rfl rfl ?_
        refine J_icmp_ge 32 dX11_linesNow_14 (by decide) (fun c14 => ?_) (fun c14 => absurd c14 (by omega)) 
        refine j_iload_n 3 dX11_linesNow_32 rfl rfl ?_
        refine j_iret rfl dX11_linesNow_33 ?_
        exact ⟨oIe (by rw [ln_4, hend.1, hz.1]), q, hM, hK, hF⟩
      · have hn1 := hnx c (by omega) (by omega)
        obtain ⟨e, he⟩ : ∃ e : Nat, (lnS P p0 w).2 2 c = e := ⟨_, (Int.toNat_of_nonneg (by omega)).symm⟩
        rw [he] at hn1
        have hrun := num_run hz (by omega) (e - c - 1) (by rw [he]; omega) (by omega)
        rw [show c + (e - c - 1) + 1 = e by omega] at hrun
        refine j_iload dX11_linesNow_11 rfl ?_
        refine j_iload_n 2 dX11_linesNow_13 rfl rfl ?_
        refine J_icmp_ge 32 dX11_linesNow_14 (by decide) (fun c14 => absurd c14 (by omega)) (fun c14 => ?_) 
        refine J_iinc (L' := [(3, _), (4, _), (2, _), (0, _), (1, _)]) dX11_linesNow_17 rfl rfl rfl ?_
        refine j_aload_n 0 dX11_linesNow_20 rfl rfl ?_
        refine j_get fX11_77 dX11_linesNow_21 hP.1 rfl ?_
        refine j_iload dX11_linesNow_24 rfl ?_
        refine J_iald dX11_linesNow_26 (hP.2.1 29 rfl) ?_ 
        refine J_top ((e : Int)) ?_ (by exact (hB.nx c (by omega) (by omega)).trans he)
        refine j_istore (L' := [(4, _), (3, _), (2, _), (0, _), (1, _)]) dX11_linesNow_27 rfl rfl ?_
        refine j_goto 11 dX11_linesNow_29 (by decide) ?_
        exact j_locR (ih e (z + 1) q _ (by omega) (by omega) hM hB hK ⟨hrun.1, hrun.2.1.trans he⟩ (by omega) hF) (by repeat' (first | exact True.intro | refine And.intro rfl ?_))
  refine j_body (by decide +kernel) ⟨rfl, rfl⟩ rfl ?_
  have hP := hM.1
  have hF : Fr (FtM a d) h h := Fr.rf
  obtain ⟨Fa, hpa, hFa⟩ := hM.2.1
  refine j_aload_n 0 dX11_linesNow_0 rfl rfl ?_
  refine j_iload_n 1 dX11_linesNow_1 rfl rfl ?_
  refine J_callVW1 kX11_313 cvX11_breakLines hP.1 (c_X11_breakLines hM hZ hI hw) rfl rfl rfl rfl rfl dX11_linesNow_2 rfl rfl (fun h hp => ?_)
  obtain ⟨p1, hM, hB, hU, hF9⟩ := hp
  have hF := hF.tr hF9
  have hP := hM.1
  refine j_istore_n 2 (L' := [(2, _), (0, _), (1, _)]) dX11_linesNow_5 rfl rfl rfl ?_
  refine J_iconst dX11_linesNow_6 ?_
  refine j_istore_n 3 (L' := [(3, _), (2, _), (0, _), (1, _)]) dX11_linesNow_7 rfl rfl rfl ?_
  refine J_iconst dX11_linesNow_8 ?_
  refine j_istore (L' := [(4, _), (3, _), (2, _), (0, _), (1, _)]) dX11_linesNow_9 rfl rfl ?_
  exact j_locR (chain (barsA P p0).toNat 0 0 p1 _ (by omega) (by omega) hM hB hU.ku ⟨rfl, rfl⟩ (by omega) hF) (by repeat' (first | exact True.intro | refine And.intro rfl ?_))
theorem ln_c0 {P : Nat → OS} {p0 : OS} {w : Int} (h : barsA P p0 = 0) : 0 = (lnP P p0 (barsA P p0) w).2 1 0 := by
  rw [ln_1]
  unfold lnS lnD
  rw [h]
  exact (upI_s ((oA zOS 0 (widF P p0)).2 1) 0 0).symm
set_option maxRecDepth 100000 in
theorem c_X11_costNow {l : Launch} {G : jG} {h : jH} {a : Nat} {d : MD} {mp P : Nat → OS} {p p0 : OS} {Z : Nat → Nat} {w : Int} (hM : Mod G h a d mp p) (hZ : Mz a d Z) (hI : MI d P p0 mp p.2) (hw : 10 ≤ w ∧ w ≤ 400) : jC l G yX11_costNow mX11_costNow [.ref a, vI w] h (jW (oI ((lnP P p0 (barsA P p0) w).2 1 0)) (fun h' => ∃ p', Mod G h' a d mp p' ∧ KU p p' ∧ Fr (FtM a d) h h')) := by
  refine j_body (by decide +kernel) ⟨rfl, rfl⟩ rfl ?_
  have hP := hM.1
  have hF : Fr (FtM a d) h h := Fr.rf
  obtain ⟨Fa, hpa, hFa⟩ := hM.2.1
  have hbr := barsA_rg P p0
  refine j_aload_n 0 dX11_costNow_0 rfl rfl ?_
  refine j_iload_n 1 dX11_costNow_1 rfl rfl ?_
  refine J_callVW1 kX11_313 cvX11_breakLines hP.1 (c_X11_breakLines hM hZ hI hw) rfl rfl rfl rfl rfl dX11_costNow_2 rfl rfl (fun h hp => ?_)
  obtain ⟨p1, hM, hB, hU, hF9⟩ := hp
  have hF := hF.tr hF9
  have hP := hM.1
  refine J_if_ne 12 dX11_costNow_5 (by decide) (fun c5 => ?_) (fun c5 => ?_) 
  · refine j_aload_n 0 dX11_costNow_12 rfl rfl ?_
    refine j_get fX11_74 dX11_costNow_13 hP.1 rfl ?_
    refine J_iconst dX11_costNow_16 ?_
    refine J_iald dX11_costNow_17 (hP.2.1 28 rfl) ?_ 
    refine j_iret rfl dX11_costNow_18 ?_
    first | exact ⟨oIe (ln_c0 c5), p1, hM, hU.ku, hF⟩ | exact ⟨oIe (hB.1 0 (by omega) (by omega)), p1, hM, hU.ku, hF⟩
  · refine J_iconst dX11_costNow_8 ?_
    refine j_goto 18 dX11_costNow_9 (by decide) ?_
    refine j_iret rfl dX11_costNow_18 ?_
    first | exact ⟨oIe (ln_c0 c5), p1, hM, hU.ku, hF⟩ | exact ⟨oIe (hB.1 0 (by omega) (by omega)), p1, hM, hU.ku, hF⟩
set_option maxRecDepth 100000 in
theorem c_X11_lines {l : Launch} {G : jG} {h : jH} {a : Nat} {d : MD} {mp P : Nat → OS} {p p0 : OS} {Z : Nat → Nat} {w : Int} (hM : Mod G h a d mp p) (hZ : Mz a d Z) (hI : MI d P p0 mp p.2) (hw : rg w) : jC l G yX11_lines mX11_lines [.ref a, vI w] h (jW (oI (if 10 ≤ w ∧ w ≤ 400 then (lnP P p0 (barsA P p0) w).1 4 else 0)) (fun h' => ∃ p', Mod G h' a d mp p' ∧ MI d P p0 mp p'.2 ∧ p'.1 0 = (if 10 ≤ w ∧ w ≤ 400 then 0 else 1) ∧ Fr (FtM a d) h h')) := by
  refine j_body (by decide +kernel) ⟨rfl, rfl⟩ rfl ?_
  have hP := hM.1
  have hF : Fr (FtM a d) h h := Fr.rf
  obtain ⟨Fa, hpa, hFa⟩ := hM.2.1
  refine j_aload_n 0 dX11_lines_0 rfl rfl ?_
  refine J_iconst dX11_lines_1 ?_
  refine J_putA hP fX11_87 tyX11_thrown dX11_lines_2 rfl rfl (fun h hP hF2 => ?_)
  have hM := hM.w hZ hP hF2
  have hF := hF.tr (hF2.mono (fun _ q => Or.inl q))
  obtain ⟨Fa, hpa, hFa⟩ := hM.2.1
  refine j_iload_n 1 dX11_lines_5 rfl rfl ?_
  refine J_bipush dX11_lines_6 (by decide) ?_
  refine J_sipush dX11_lines_8 (by decide) ?_
  refine J_callSZ kX11_91 csX11_is (c_X11_is hw (by decide) (by decide)) rfl rfl rfl rfl rfl dX11_lines_11 rfl rfl (fun z11 => ?_) (fun z11 => ?_)
  · refine J_if_eq 25 dX11_lines_14 (by decide) (fun c14 => absurd c14 (by decide)) (fun c14 => ?_) 
    refine j_aload_n 0 dX11_lines_17 rfl rfl ?_
    refine j_iload_n 1 dX11_lines_18 rfl rfl ?_
    refine J_callVW1 kX11_316 cvX11_linesNow hP.1 (c_X11_linesNow hM hZ hI z11) rfl rfl rfl rfl rfl dX11_lines_19 rfl rfl (fun h hp => ?_)
    obtain ⟨p1, hM, hK, hF9⟩ := hp
    have hF := hF.tr hF9
    refine j_goto 30 dX11_lines_22 (by decide) ?_
    refine j_iret rfl dX11_lines_30 ?_
    first | exact ⟨oIe (if_pos z11).symm, p1, hM, hK.mi hI, hK.1.trans (if_pos z11).symm, hF⟩ | exact ⟨oIe (if_neg z11).symm, _, hM, hI, (if_neg z11).symm, hF⟩
  · refine J_if_eq 25 dX11_lines_14 (by decide) (fun c14 => ?_) (fun c14 => absurd c14 (by decide)) 
    refine j_aload_n 0 dX11_lines_25 rfl rfl ?_
    refine J_iconst dX11_lines_26 ?_
    refine J_callVW1 kX11_115 cvX11_refuse hP.1 (c_X11_refuse hM hZ hI) rfl rfl rfl rfl rfl dX11_lines_27 rfl rfl (fun h hp => ?_)
    obtain ⟨hM, hF9⟩ := hp
    have hF := hF.tr hF9
    refine j_iret rfl dX11_lines_30 ?_
    first | exact ⟨oIe (if_pos z11).symm, p1, hM, hK.mi hI, hK.1.trans (if_pos z11).symm, hF⟩ | exact ⟨oIe (if_neg z11).symm, _, hM, hI, (if_neg z11).symm, hF⟩
set_option maxRecDepth 100000 in
theorem c_X11_costOf {l : Launch} {G : jG} {h : jH} {a : Nat} {d : MD} {mp P : Nat → OS} {p p0 : OS} {Z : Nat → Nat} {w : Int} (hM : Mod G h a d mp p) (hZ : Mz a d Z) (hI : MI d P p0 mp p.2) (hw : rg w) : jC l G yX11_costOf mX11_costOf [.ref a, vI w] h (jW (oI (if 10 ≤ w ∧ w ≤ 400 then (lnP P p0 (barsA P p0) w).2 1 0 else 0)) (fun h' => ∃ p', Mod G h' a d mp p' ∧ MI d P p0 mp p'.2 ∧ p'.1 0 = (if 10 ≤ w ∧ w ≤ 400 then 0 else 1) ∧ Fr (FtM a d) h h')) := by
  refine j_body (by decide +kernel) ⟨rfl, rfl⟩ rfl ?_
  have hP := hM.1
  have hF : Fr (FtM a d) h h := Fr.rf
  obtain ⟨Fa, hpa, hFa⟩ := hM.2.1
  refine j_aload_n 0 dX11_costOf_0 rfl rfl ?_
  refine J_iconst dX11_costOf_1 ?_
  refine J_putA hP fX11_87 tyX11_thrown dX11_costOf_2 rfl rfl (fun h hP hF2 => ?_)
  have hM := hM.w hZ hP hF2
  have hF := hF.tr (hF2.mono (fun _ q => Or.inl q))
  obtain ⟨Fa, hpa, hFa⟩ := hM.2.1
  refine j_iload_n 1 dX11_costOf_5 rfl rfl ?_
  refine J_bipush dX11_costOf_6 (by decide) ?_
  refine J_sipush dX11_costOf_8 (by decide) ?_
  refine J_callSZ kX11_91 csX11_is (c_X11_is hw (by decide) (by decide)) rfl rfl rfl rfl rfl dX11_costOf_11 rfl rfl (fun z11 => ?_) (fun z11 => ?_)
  · refine J_if_eq 25 dX11_costOf_14 (by decide) (fun c14 => absurd c14 (by decide)) (fun c14 => ?_) 
    refine j_aload_n 0 dX11_costOf_17 rfl rfl ?_
    refine j_iload_n 1 dX11_costOf_18 rfl rfl ?_
    refine J_callVW1 kX11_319 cvX11_costNow hP.1 (c_X11_costNow hM hZ hI z11) rfl rfl rfl rfl rfl dX11_costOf_19 rfl rfl (fun h hp => ?_)
    obtain ⟨p1, hM, hK, hF9⟩ := hp
    have hF := hF.tr hF9
    refine j_goto 30 dX11_costOf_22 (by decide) ?_
    refine j_iret rfl dX11_costOf_30 ?_
    first | exact ⟨oIe (if_pos z11).symm, p1, hM, hK.mi hI, hK.1.trans (if_pos z11).symm, hF⟩ | exact ⟨oIe (if_neg z11).symm, _, hM, hI, (if_neg z11).symm, hF⟩
  · refine J_if_eq 25 dX11_costOf_14 (by decide) (fun c14 => ?_) (fun c14 => absurd c14 (by decide)) 
    refine j_aload_n 0 dX11_costOf_25 rfl rfl ?_
    refine J_iconst dX11_costOf_26 ?_
    refine J_callVW1 kX11_115 cvX11_refuse hP.1 (c_X11_refuse hM hZ hI) rfl rfl rfl rfl rfl dX11_costOf_27 rfl rfl (fun h hp => ?_)
    obtain ⟨hM, hF9⟩ := hp
    have hF := hF.tr hF9
    refine j_iret rfl dX11_costOf_30 ?_
    first | exact ⟨oIe (if_pos z11).symm, p1, hM, hK.mi hI, hK.1.trans (if_pos z11).symm, hF⟩ | exact ⟨oIe (if_neg z11).symm, _, hM, hI, (if_neg z11).symm, hF⟩
set_option maxRecDepth 100000 in
theorem c_X11_bars {l : Launch} {G : jG} {h : jH} {a : Nat} {d : MD} {mp P : Nat → OS} {p p0 : OS} {Z : Nat → Nat}  (hM : Mod G h a d mp p) (hZ : Mz a d Z) (hI : MI d P p0 mp p.2)  : jC l G yX11_bars mX11_bars [.ref a] h (jW (oI (barsA P p0)) (fun h' => ∃ p', Mod G h' a d mp p' ∧ MI d P p0 mp p'.2 ∧ p'.1 0 = 0 ∧ Fr (FtM a d) h h')) := by
  refine j_body (by decide +kernel) ⟨rfl, rfl⟩ rfl ?_
  have hP := hM.1
  have hF : Fr (FtM a d) h h := Fr.rf
  obtain ⟨Fa, hpa, hFa⟩ := hM.2.1
  refine j_aload_n 0 dX11_bars_0 rfl rfl ?_
  refine J_iconst dX11_bars_1 ?_
  refine J_putA hP fX11_87 tyX11_thrown dX11_bars_2 rfl rfl (fun h hP hF2 => ?_)
  have hM := hM.w hZ hP hF2
  have hF := hF.tr (hF2.mono (fun _ q => Or.inl q))
  obtain ⟨Fa, hpa, hFa⟩ := hM.2.1
  refine j_aload_n 0 dX11_bars_5 rfl rfl ?_
  refine J_callV1 kX11_307 cvX11_barsNow hP.1 (c_X11_barsNow hM hZ hI) rfl rfl rfl rfl rfl dX11_bars_6 rfl rfl ?_
  refine j_iret rfl dX11_bars_9 ?_
  exact ⟨rfl, _, hM, hI, rfl, hF⟩
set_option maxRecDepth 100000 in
theorem c_X11_widthOf {l : Launch} {G : jG} {h : jH} {a : Nat} {d : MD} {mp P : Nat → OS} {p p0 : OS} {Z : Nat → Nat} {b : Int} (hM : Mod G h a d mp p) (hZ : Mz a d Z) (hI : MI d P p0 mp p.2) (hb : rg b) : jC l G yX11_widthOf mX11_widthOf [.ref a, vI b] h (jW (oI (if isBar b then widF P p0 b else 0)) (fun h' => ∃ p', Mod G h' a d mp p' ∧ MI d P p0 mp p'.2 ∧ p'.1 0 = (if isBar b then 0 else 1) ∧ Fr (FtM a d) h h')) := by
  refine j_body (by decide +kernel) ⟨rfl, rfl⟩ rfl ?_
  have hP := hM.1
  have hF : Fr (FtM a d) h h := Fr.rf
  obtain ⟨Fa, hpa, hFa⟩ := hM.2.1
  refine j_aload_n 0 dX11_widthOf_0 rfl rfl ?_
  refine J_iconst dX11_widthOf_1 ?_
  refine J_putA hP fX11_87 tyX11_thrown dX11_widthOf_2 rfl rfl (fun h hP hF2 => ?_)
  have hM := hM.w hZ hP hF2
  have hF := hF.tr (hF2.mono (fun _ q => Or.inl q))
  obtain ⟨Fa, hpa, hFa⟩ := hM.2.1
  refine j_iload_n 1 dX11_widthOf_5 rfl rfl ?_
  refine J_callSZ kX11_149 csX11_isBar (c_X11_isBar hb) rfl rfl rfl rfl rfl dX11_widthOf_6 rfl rfl (fun z6 => ?_) (fun z6 => ?_)
  · refine J_if_eq 20 dX11_widthOf_9 (by decide) (fun c9 => absurd c9 (by decide)) (fun c9 => ?_) 
    refine j_aload_n 0 dX11_widthOf_12 rfl rfl ?_
    refine j_iload_n 1 dX11_widthOf_13 rfl rfl ?_
    refine J_callV1 kX11_310 cvX11_width hP.1 (c_X11_width hM hZ hI z6) rfl rfl rfl rfl rfl dX11_widthOf_14 rfl rfl ?_
    refine j_goto 25 dX11_widthOf_17 (by decide) ?_
    refine j_iret rfl dX11_widthOf_25 ?_
    first | exact ⟨oIe (if_pos z6).symm, _, hM, hI, (if_pos z6).symm, hF⟩ | exact ⟨oIe (if_neg z6).symm, _, hM, hI, (if_neg z6).symm, hF⟩
  · refine J_if_eq 20 dX11_widthOf_9 (by decide) (fun c9 => ?_) (fun c9 => absurd c9 (by decide)) 
    refine j_aload_n 0 dX11_widthOf_20 rfl rfl ?_
    refine J_iconst dX11_widthOf_21 ?_
    refine J_callVW1 kX11_115 cvX11_refuse hP.1 (c_X11_refuse hM hZ hI) rfl rfl rfl rfl rfl dX11_widthOf_22 rfl rfl (fun h hp => ?_)
    obtain ⟨hM, hF9⟩ := hp
    have hF := hF.tr hF9
    refine j_iret rfl dX11_widthOf_25 ?_
    first | exact ⟨oIe (if_pos z6).symm, _, hM, hI, (if_pos z6).symm, hF⟩ | exact ⟨oIe (if_neg z6).symm, _, hM, hI, (if_neg z6).symm, hF⟩
set_option maxRecDepth 100000 in
theorem c_X11_lineOf {l : Launch} {G : jG} {h : jH} {a : Nat} {d : MD} {mp P : Nat → OS} {p p0 : OS} {Z : Nat → Nat} {w b : Int} (hM : Mod G h a d mp p) (hZ : Mz a d Z) (hI : MI d P p0 mp p.2) (hw : rg w) (hb : rg b) : jC l G yX11_lineOf mX11_lineOf [.ref a, vI w, vI b] h (jW (oI (if isBar b then (if 10 ≤ w ∧ w ≤ 400 then (lnP P p0 (barsA P p0) w).2 3 b else 0) else 0)) (fun h' => ∃ p', Mod G h' a d mp p' ∧ MI d P p0 mp p'.2 ∧ p'.1 0 = (if isBar b then (if 10 ≤ w ∧ w ≤ 400 then 0 else 2) else 1) ∧ Fr (FtM a d) h h')) := by
  have hbr := barsA_rg P p0
  have chain : isBar b → 10 ≤ w ∧ w ≤ 400 → b < barsA P p0 → ∀ (n c : Nat) (z : Int) (q : OS) (h2 : jH), b - c ≤ n → (c : Int) ≤ b → Mod G h2 a d mp q → BQ P p0 w (barsA P p0).toNat q → MI d P p0 mp q.2 → q.1 0 = 0 → (numL ((lnS P p0 w).2 2) (barsA P p0) ((lnS P p0 w).2 3) c).1 = z ∧ (numL ((lnS P p0 w).2 2) (barsA P p0) ((lnS P p0 w).2 3) c).2.1 = c → (0 ≤ z ∧ z ≤ c) → Fr (FtM a d) h h2 → J l G mX11_lineOf (jQ G mX11_lineOf (jW (oI (if isBar b then (if 10 ≤ w ∧ w ≤ 400 then (lnP P p0 (barsA P p0) w).2 3 b else 0) else 0)) (fun h' => ∃ p', Mod G h' a d mp p' ∧ MI d P p0 mp p'.2 ∧ p'.1 0 = (if isBar b then (if 10 ≤ w ∧ w ≤ 400 then 0 else 2) else 1) ∧ Fr (FtM a d) h h'))) 0 0 52 [(4, vI (c : Int)), (3, vI z), (0, .ref a), (1, vI w), (2, vI b)] [] h2 := by
    intro hb hw hlt n
    have hnx := ln_nx hI hw
    induction n with
    | zero =>
      intro c z q h2 hn hc hM hB hI2 h0 hz hzr hF
      have hP := hM.1
      have hn1 := hnx c (by omega) (by omega)
      obtain ⟨e, he⟩ : ∃ e : Nat, (lnS P p0 w).2 2 c = e := ⟨_, (Int.toNat_of_nonneg (by omega)).symm⟩
      rw [he] at hn1
      have hrun := num_run hz (by omega) (e - c - 1) (by rw [he]; omega) (by omega)
      rw [show c + (e - c - 1) + 1 = e by omega] at hrun
      have hkp := num_keep (nx := (lnS P p0 w).2 2) (s := barsA P p0) (F := (lnS P p0 w).2 3) (i := b) (k := e) (by omega) (24 - e)
      rw [show e + (24 - e) = 24 by omega, hrun.2.2 b (by omega) (by omega)] at hkp
      refine j_aload_n 0 dX11_lineOf_52 rfl rfl ?_
      refine j_get fX11_77 dX11_lineOf_53 hP.1 rfl ?_
      refine j_iload dX11_lineOf_56 rfl ?_
      refine J_iald dX11_lineOf_58 (hP.2.1 29 rfl) ?_ 
      refine J_top ((e : Int)) ?_ (by exact (hB.nx c (by omega) (by omega)).trans he)
      refine j_iload_n 2 dX11_lineOf_59 rfl rfl ?_
      refine J_icmp_gt 78 dX11_lineOf_60 (by decide) (fun c60 => ?_) (fun c60 => absurd c60 (by omega)) 
      refine j_iload_n 3 dX11_lineOf_78 rfl rfl ?_
      refine j_iret rfl dX11_lineOf_79 ?_
      exact ⟨oIe (by rw [if_pos hb, if_pos hw, ln_3, hkp]), q, hM, hI2, by rw [if_pos hb, if_pos hw]; exact h0, hF⟩
    | succ n ih =>
      intro c z q h2 hn hc hM hB hI2 h0 hz hzr hF
      have hP := hM.1
      have hb24 : b < 24 := hb.2
      have hn1 := hnx c (by omega) (by omega)
      obtain ⟨e, he⟩ : ∃ e : Nat, (lnS P p0 w).2 2 c = e := ⟨_, (Int.toNat_of_nonneg (by omega)).symm⟩
      rw [he] at hn1
      have hrun := num_run hz (by omega) (e - c - 1) (by rw [he]; omega) (by omega)
      rw [show c + (e - c - 1) + 1 = e by omega] at hrun
      refine j_aload_n 0 dX11_lineOf_52 rfl rfl ?_
      refine j_get fX11_77 dX11_lineOf_53 hP.1 rfl ?_
      refine j_iload dX11_lineOf_56 rfl ?_
      refine J_iald dX11_lineOf_58 (hP.2.1 29 rfl) ?_ 
      refine J_top ((e : Int)) ?_ (by exact (hB.nx c (by omega) (by omega)).trans he)
      refine j_iload_n 2 dX11_lineOf_59 rfl rfl ?_
      refine J_icmp_gt 78 dX11_lineOf_60 (by decide) (fun c60 => ?_) (fun c60 => ?_) 
      · have hkp := num_keep (nx := (lnS P p0 w).2 2) (s := barsA P p0) (F := (lnS P p0 w).2 3) (i := b) (k := e) (by omega) (24 - e)
        rw [show e + (24 - e) = 24 by omega, hrun.2.2 b (by omega) (by omega)] at hkp
        refine j_iload_n 3 dX11_lineOf_78 rfl rfl ?_
        refine j_iret rfl dX11_lineOf_79 ?_
        exact ⟨oIe (by rw [if_pos hb, if_pos hw, ln_3, hkp]), q, hM, hI2, by rw [if_pos hb, if_pos hw]; exact h0, hF⟩
      · refine J_iinc (L' := [(3, _), (4, _), (0, _), (1, _), (2, _)]) dX11_lineOf_63 rfl rfl rfl ?_
        refine j_aload_n 0 dX11_lineOf_66 rfl rfl ?_
        refine j_get fX11_77 dX11_lineOf_67 hP.1 rfl ?_
        refine j_iload dX11_lineOf_70 rfl ?_
        refine J_iald dX11_lineOf_72 (hP.2.1 29 rfl) ?_ 
        refine J_top ((e : Int)) ?_ (by exact (hB.nx c (by omega) (by omega)).trans he)
        refine j_istore (L' := [(4, _), (3, _), (0, _), (1, _), (2, _)]) dX11_lineOf_73 rfl rfl ?_
        refine j_goto 52 dX11_lineOf_75 (by decide) ?_
        exact j_locR (ih e (z + 1) q _ (by omega) (by omega) hM hB hI2 h0 ⟨hrun.1, hrun.2.1.trans he⟩ (by omega) hF) (by repeat' (first | exact True.intro | refine And.intro rfl ?_))
  refine j_body (by decide +kernel) ⟨rfl, rfl⟩ rfl ?_
  have hP := hM.1
  have hF : Fr (FtM a d) h h := Fr.rf
  obtain ⟨Fa, hpa, hFa⟩ := hM.2.1
  refine j_aload_n 0 dX11_lineOf_0 rfl rfl ?_
  refine J_iconst dX11_lineOf_1 ?_
  refine J_putA hP fX11_87 tyX11_thrown dX11_lineOf_2 rfl rfl (fun h hP hF2 => ?_)
  have hM := hM.w hZ hP hF2
  have hF := hF.tr (hF2.mono (fun _ q => Or.inl q))
  obtain ⟨Fa, hpa, hFa⟩ := hM.2.1
  refine j_iload_n 2 dX11_lineOf_5 rfl rfl ?_
  refine J_callSZ kX11_149 csX11_isBar (c_X11_isBar hb) rfl rfl rfl rfl rfl dX11_lineOf_6 rfl rfl (fun z6 => ?_) (fun z6 => ?_)
  · refine J_if_ne 18 dX11_lineOf_9 (by decide) (fun c9 => ?_) (fun c9 => absurd c9 (by decide)) 
    refine j_iload_n 1 dX11_lineOf_18 rfl rfl ?_
    refine J_bipush dX11_lineOf_19 (by decide) ?_
    refine J_sipush dX11_lineOf_21 (by decide) ?_
    refine J_callSZ kX11_91 csX11_is (c_X11_is hw (by decide) (by decide)) rfl rfl rfl rfl rfl dX11_lineOf_24 rfl rfl (fun z24 => ?_) (fun z24 => ?_)
    · refine J_if_ne 36 dX11_lineOf_27 (by decide) (fun c27 => ?_) (fun c27 => absurd c27 (by decide)) 
      refine j_iload_n 2 dX11_lineOf_36 rfl rfl ?_
      refine j_aload_n 0 dX11_lineOf_37 rfl rfl ?_
      refine j_iload_n 1 dX11_lineOf_38 rfl rfl ?_
      refine J_callVW1 kX11_313 cvX11_breakLines hP.1 (c_X11_breakLines hM hZ hI z24) rfl rfl rfl rfl rfl dX11_lineOf_39 rfl rfl (fun h hp => ?_)
      obtain ⟨p1, hM, hB, hU, hF9⟩ := hp
      have hF := hF.tr hF9
      have hP := hM.1
      have hb23 : 0 ≤ b ∧ b < 24 := z6
      refine J_icmp_lt 47 dX11_lineOf_42 (by decide) (fun c42 => ?_) (fun c42 => ?_) 
      · refine J_iconst dX11_lineOf_47 ?_
        refine j_istore_n 3 (L' := [(3, _), (0, _), (1, _), (2, _)]) dX11_lineOf_48 rfl rfl rfl ?_
        refine J_iconst dX11_lineOf_49 ?_
        refine j_istore (L' := [(4, _), (3, _), (0, _), (1, _), (2, _)]) dX11_lineOf_50 rfl rfl ?_
        exact j_locR (chain z6 z24 (by omega) b.toNat 0 0 p1 _ (by omega) (by omega) hM hB (hU.ku.mi hI) hU.ku.1 ⟨rfl, rfl⟩ (by omega) hF) (by repeat' (first | exact True.intro | refine And.intro rfl ?_))
      · refine J_iconst dX11_lineOf_45 ?_
        refine j_iret rfl dX11_lineOf_46 ?_
        refine ⟨oIe ?_, p1, hM, hU.ku.mi hI, ?_, hF⟩
        · rw [if_pos z6, if_pos z24, ln_3]
          have hend := num_end (nx := (lnS P p0 w).2 2) (s := barsA P p0) (F := (lnS P p0 w).2 3) (k := (barsA P p0).toNat) (by omega) (24 - (barsA P p0).toNat)
          rw [show (barsA P p0).toNat + (24 - (barsA P p0).toNat) = 24 by omega] at hend
          exact (hend.2 b (by omega) (by omega)).symm
        · rw [if_pos z6, if_pos z24]; exact hU.ku.1
    · refine J_if_ne 36 dX11_lineOf_27 (by decide) (fun c27 => absurd c27 (by decide)) (fun c27 => ?_) 
      refine j_aload_n 0 dX11_lineOf_30 rfl rfl ?_
      refine J_iconst dX11_lineOf_31 ?_
      refine J_callVW1 kX11_115 cvX11_refuse hP.1 (c_X11_refuse hM hZ hI) rfl rfl rfl rfl rfl dX11_lineOf_32 rfl rfl (fun h hp => ?_)
      obtain ⟨hM, hF9⟩ := hp
      have hF := hF.tr hF9
      refine j_iret rfl dX11_lineOf_35 ?_
      exact ⟨oIe (by rw [if_pos z6, if_neg z24]), _, hM, hI, by rw [if_pos z6, if_neg z24]; rfl, hF⟩
  · refine J_if_ne 18 dX11_lineOf_9 (by decide) (fun c9 => absurd c9 (by decide)) (fun c9 => ?_) 
    refine j_aload_n 0 dX11_lineOf_12 rfl rfl ?_
    refine J_iconst dX11_lineOf_13 ?_
    refine J_callVW1 kX11_115 cvX11_refuse hP.1 (c_X11_refuse hM hZ hI) rfl rfl rfl rfl rfl dX11_lineOf_14 rfl rfl (fun h hp => ?_)
    obtain ⟨hM, hF9⟩ := hp
    have hF := hF.tr hF9
    refine j_iret rfl dX11_lineOf_17 ?_
    exact ⟨oIe (if_neg z6).symm, _, hM, hI, (if_neg z6).symm, hF⟩
