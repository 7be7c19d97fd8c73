section SHR
variable {first pl al : Int → Int} {key : Int}
abbrev shZ (first pl al : Int → Int) (key : Int) (i : Nat) : (Int → Int) × (Int → Int) := shN first pl al key (F0X (fun _ => 0)) (fun _ => 0) i
theorem shN_no {i : Nat} (h : first i = 0 ∨ (pl i < 1 ∨ 63 ≤ pl i) ∨ al i = atsI (shZ first pl al key i).1 (pl i) key) : shZ first pl al key (i + 1) = ((shZ first pl al key i).1, upI (shZ first pl al key i).2 i (-3)) := by
  show (if first i ≠ 0 then _ else _) = _
  by_cases c : first i ≠ 0
  · rw [if_pos c]
    unfold atsF atsV
    by_cases d : pl i < 1 ∨ 63 ≤ pl i
    · rw [if_pos d, if_pos d]
    · rcases h with h | h | h
      · exact absurd h c
      · exact absurd h d
      · rw [if_neg d, if_neg d, if_pos h, if_pos h]
  · rw [if_neg c]
theorem shN_yes {i : Nat} (h1 : first i ≠ 0) (h2 : ¬ (pl i < 1 ∨ 63 ≤ pl i)) (h3 : ¬ al i = atsI (shZ first pl al key i).1 (pl i) key) : shZ first pl al key (i + 1) = (upI (shZ first pl al key i).1 (pl i) (al i), upI (shZ first pl al key i).2 i (al i)) := by
  show (if first i ≠ 0 then _ else _) = _
  rw [if_pos h1]
  unfold atsF atsV
  rw [if_neg h2, if_neg h2, if_neg h3, if_neg h3]
/-- the reference's row and force after i signs -/
def SH (first pl al : Int → Int) (key : Int) (p : OS) (row : Nat) (i : Nat) (q : OS) : Prop := q.1 = p.1 ∧ (∀ k : Nat, k ≠ 14 → k ≠ row → q.2 k = p.2 k) ∧ (∀ j : Int, 0 ≤ j → j < 63 → q.2 14 j = atsI (shZ first pl al key i).1 j key) ∧ ∀ j : Int, 0 ≤ j → j < i → q.2 row j = (shZ first pl al key i).2 j
theorem SH.keep {p q : OS} {row i : Nat} (h : SH first pl al key p row i q) (hr : row ≠ 14) (hs : first i = 0 ∨ (pl i < 1 ∨ 63 ≤ pl i) ∨ al i = atsI (shZ first pl al key i).1 (pl i) key) : SH first pl al key p row (i + 1) (oA q row (upI (q.2 row) i (-3))) := by
  obtain ⟨h1, h2, h3, h4⟩ := h
  refine ⟨h1, fun k a b => (oA_n b).trans (h2 k a b), fun j a b => ?_, fun j a b => ?_⟩
  · rw [oA_n (Ne.symm hr), shN_no hs]
    exact h3 j a b
  · rw [oA_s, shN_no hs]
    show upI (q.2 row) i (-3) j = upI (shZ first pl al key i).2 i (-3) j
    by_cases e : j = i
    · subst e; rw [upI_s, upI_s]
    · rw [upI_n e, upI_n e]; exact h4 j a (by omega)
theorem SH.set {p q : OS} {row i : Nat} (h : SH first pl al key p row i q) (hr : row ≠ 14) (h1 : first i ≠ 0) (h2 : ¬ (pl i < 1 ∨ 63 ≤ pl i)) (h3 : ¬ al i = atsI (shZ first pl al key i).1 (pl i) key) (hal : al i ≠ -3) {F : Int → Int} {S : Int → Int} (hF : F = q.2 14) (hS : S = upI (q.2 row) i (-3)) {r1 r2 : OS} (hr1 : r1 = oA q row S) (hr2 : r2 = oA r1 14 (upI F (pl i) (al i))) : SH first pl al key p row (i + 1) (oA r2 row (upI (r2.2 row) i (al i))) := by
  obtain ⟨g1, g2, g3, g4⟩ := h
  subst hF hS hr1 hr2
  refine ⟨g1, fun k a b => by rw [oA_n b, oA_n a, oA_n b]; exact g2 k a b, fun j a b => ?_, fun j a b => ?_⟩
  · rw [oA_n (Ne.symm hr), oA_s, shN_yes h1 h2 h3]
    show upI (q.2 14) (pl i) (al i) j = if upI (shZ first pl al key i).1 (pl i) (al i) j = -3 then _ else upI (shZ first pl al key i).1 (pl i) (al i) j
    by_cases e : j = pl i
    · subst e; rw [upI_s, upI_s, if_neg hal]
    · rw [upI_n e, upI_n e]; exact g3 j a b
  · rw [oA_s, shN_yes h1 h2 h3, oA_n hr, oA_s]
    show upI (upI (q.2 row) i (-3)) i (al i) j = upI (shZ first pl al key i).2 i (al i) j
    by_cases e : j = i
    · subst e; rw [upI_s, upI_s]
    · rw [upI_n e, upI_n e, upI_n e]; exact g4 j a (by omega)
end SHR
theorem kwF_rg {p6 : OS} (h : partOK p6) {k : Int} (hk : -7 ≤ k ∧ k ≤ 7) : -7 ≤ kwF p6 k ∧ kwF p6 k ≤ 7 := by
  have := h.2.2.1.2.1
  unfold kwF
  (repeat' split) <;> omega
theorem fst_iff (p6 s : OS) (j : Int) : fstG p6 s j ≠ 0 ↔ (p6.2 0 (s.2 0 j) ≠ 0 ∧ s.2 1 j = p6.2 3 (s.2 0 j)) := by
  have e : fstG p6 s j = if p6.2 0 (s.2 0 j) ≠ 0 ∧ s.2 1 j = p6.2 3 (s.2 0 j) then 1 else 0 := rfl
  rw [e]
  by_cases c : p6.2 0 (s.2 0 j) ≠ 0 ∧ s.2 1 j = p6.2 3 (s.2 0 j)
  · rw [if_pos c]; exact ⟨fun _ => c, fun _ => by decide⟩
  · rw [if_neg c]; exact ⟨fun z => absurd rfl z, fun z => absurd z c⟩
/-- the signs that are laid are of events of the part, in the bar -/
def SE (p6 : OS) (fr to : Int) (s : OS) : Prop := sgQ p6 fr to s ∧ 0 ≤ fr ∧ to ≤ 20000
theorem atsI_rg {F : Int → Int} {pl key : Int} (h : -3 ≤ F pl ∧ F pl ≤ 2) : -3 ≤ atsI F pl key ∧ atsI F pl key ≤ 2 := by
  have := altK_rg key (pl % 7)
  unfold atsI
  split <;> omega
theorem shA_rg {p6 s : OS} {fr to key : Int} {fp fa : Nat} (hE : SE p6 fr to s) (h6 : partOK p6) (hf : fa = 1 ∨ fa = 6) (i : Nat) (hi : (i : Int) ≤ s.1 9) : ∀ j : Int, 0 ≤ j → j < 63 → -3 ≤ (shZ (fstG p6 s) (fun j => p6.2 fp (s.2 0 j)) (fun j => p6.2 fa (s.2 0 j)) key i).1 j ∧ (shZ (fstG p6 s) (fun j => p6.2 fp (s.2 0 j)) (fun j => p6.2 fa (s.2 0 j)) key i).1 j ≤ 2 := by
  refine shN_rg (fun j a c => ?_) i (fun j a c => ?_)
  · have e : rng (fun _ => (0 : Int)) 0 63 (-3) j = -3 := by unfold rng; exact if_pos ⟨a, c⟩
    show -3 ≤ rng (fun _ => (0 : Int)) 0 63 (-3) j ∧ rng (fun _ => (0 : Int)) 0 63 (-3) j ≤ 2
    rw [e]
    omega
  · have hin := (hE.1.2 j a (by omega)).1
    have z := h6.2.1 _ hin.1 hin.2
    rcases hf with e | e
    · subst e; have := z.2.1; show -3 ≤ p6.2 1 (s.2 0 j) ∧ p6.2 1 (s.2 0 j) ≤ 2; omega
    · subst e; have := z.2.2.2.2.2.2; show -3 ≤ p6.2 6 (s.2 0 j) ∧ p6.2 6 (s.2 0 j) ≤ 2; omega
set_option maxRecDepth 100000 in
theorem c0_X11_show {l : Launch} {G : jG} {h : jH} {a : Nat} {d : MD} {mp P : Nat → OS} {p p0 : OS} {Z : Nat → Nat} {k b fr to se : Int} {s : OS} (hM : Mod G h a d mp p) (hZ : Mz a d Z) (hI : MI d P p0 mp p.2) (hk : 0 ≤ k ∧ k < 4) (hb : isBar b) (hR : SR (P k.toNat) se p s) (hE : SE (P k.toNat) fr to s) : jC l G yX11_show mX11_show [.ref a, vI k, vI b, vI 0, .ref (d.q 11)] h (jW oN (fun h' => ∃ q, Mod G h' a d mp q ∧ q.1 = p.1 ∧ (∀ i : Nat, i ≠ 14 → i ≠ 11 → q.2 i = p.2 i) ∧ (∀ j : Int, 0 ≤ j → j < s.1 9 → q.2 11 j = (shZ (fstG (P k.toNat) s) (fun j => (P k.toNat).2 0 (s.2 0 j)) (fun j => (P k.toNat).2 1 (s.2 0 j)) (p0.2 3 b) (s.1 9).toNat).2 j) ∧ Fr (FtM a d) h h')) := by
  obtain ⟨b0, b1⟩ := hb
  have hb : isBar b := ⟨b0, b1⟩
  obtain ⟨g1, g2, g3, g4, g5, g6, g7, g8⟩ := hI.len hb
  have hpk := hI.1.1 k.toNat (by omega)
  have hmk := hI.2.1 k.toNat (by omega)
  have hn7 : 0 ≤ (P k.toNat).1 7 ∧ (P k.toNat).1 7 ≤ 512 := hpk.1
  have hen := hmk.2.2.1
  have hez := hmk.2.2.2
  have hky : -7 ≤ (p0.2 3 b) ∧ (p0.2 3 b) ≤ 7 := g8
  have hq := hE.1
  have hc := hq.1
  unfold mN at hc
  have hto := hE.2
  have signs : ∀ (n i : Nat) (q : OS) (h2 : jH), (i : Int) + n = s.1 9 → Mod G h2 a d mp q → SH (fstG (P k.toNat) s) (fun j => (P k.toNat).2 0 (s.2 0 j)) (fun j => (P k.toNat).2 1 (s.2 0 j)) (p0.2 3 b) p 11 i q → Fr (FtM a d) h h2 → J l G mX11_show (jQ G mX11_show (jW oN (fun h' => ∃ q, Mod G h' a d mp q ∧ q.1 = p.1 ∧ (∀ i : Nat, i ≠ 14 → i ≠ 11 → q.2 i = p.2 i) ∧ (∀ j : Int, 0 ≤ j → j < s.1 9 → q.2 11 j = (shZ (fstG (P k.toNat) s) (fun j => (P k.toNat).2 0 (s.2 0 j)) (fun j => (P k.toNat).2 1 (s.2 0 j)) (p0.2 3 b) (s.1 9).toNat).2 j) ∧ Fr (FtM a d) h h'))) 0 0 65 [(7, vI (i : Int)), (6, vI (p0.2 3 b)), (5, .ref (d.pad k.toNat)), (4, .ref (d.q 11)), (3, vI 0), (2, vI b), (1, vI k), (0, .ref a)] [] h2 := by
    intro n
    induction n with
    | zero =>
      intro i q h2 hi hM hSH hF
      have hP := hM.1
      have e5 : q.1 5 = s.1 9 := by rw [hSH.1]; exact hR.1
      refine j_iload dX11_show_65 rfl ?_
      refine j_aload_n 0 dX11_show_67 rfl rfl ?_
      refine j_get fX11_202 dX11_show_68 hP.1 rfl ?_
      refine J_top (s.1 9) ?_ (by exact e5)
      refine J_icmp_ge 223 dX11_show_71 (by decide) (fun c71 => ?_) (fun c71 => absurd c71 (by omega)) 
      refine j_vret rfl dX11_show_223 ?_
      have e9 : (s.1 9).toNat = i := by omega
      rw [e9]
      exact ⟨rfl, q, hM, hSH.1, hSH.2.1, fun j a c => hSH.2.2.2 j a (by omega), hF⟩
    | succ n ih =>
      intro i q h2 hi hM hSH hF
      have hP := hM.1
      have hPk := hM.2.2 k.toNat (by omega)
      have e5 : q.1 5 = s.1 9 := by rw [hSH.1]; exact hR.1
      obtain ⟨r7, r8, r9, r10⟩ := hR.2 i (by omega) (by omega)
      obtain ⟨hin, htk, hln⟩ := hq.2 i (by omega) (by omega)
      obtain ⟨i0, i1⟩ := hin
      have hin : inP (P k.toNat) (s.2 0 i) := ⟨i0, i1⟩
      obtain ⟨z0, z1, z2, z3, z4, z5, z6⟩ := hpk.2.1 _ i0 i1
      obtain ⟨m1, m2, m3, m4⟩ := hmk.2.1 _ i0 i1
      have s7 : q.2 7 i = s.2 0 i := by rw [hSH.2.1 7 (by decide) (by decide)]; exact r7
      have s9 : q.2 9 i = s.2 1 i := by rw [hSH.2.1 9 (by decide) (by decide)]; exact r9
      have hfst := fst_iff (P k.toNat) s i
      have hwr := hpk.2.2.2.2.2.2.2.1 _ i0 i1
      refine j_iload dX11_show_65 rfl ?_
      refine j_aload_n 0 dX11_show_67 rfl rfl ?_
      refine j_get fX11_202 dX11_show_68 hP.1 rfl ?_
      refine J_top (s.1 9) ?_ (by exact e5)
      refine J_icmp_ge 223 dX11_show_71 (by decide) (fun c71 => absurd c71 (by omega)) (fun c71 => ?_) 
      refine j_aload_n 0 dX11_show_74 rfl rfl ?_
      refine j_get fX11_37 dX11_show_75 hP.1 rfl ?_
      refine j_iload dX11_show_78 rfl ?_
      refine J_iald dX11_show_80 (hP.2.1 7 rfl) ?_ 
      refine J_top (s.2 0 i) ?_ (by exact s7)
      refine j_istore (L' := [(8, _), (7, _), (6, _), (5, _), (4, _), (3, _), (2, _), (1, _), (0, _)]) dX11_show_81 rfl rfl ?_
      refine j_aload dX11_show_83 rfl ?_
      refine j_iload dX11_show_85 rfl ?_
      refine J_bipush dX11_show_87 (by decide) ?_
      refine J_iastA 11 hP rfl (fun _ => rfl) (fun _ => rfl) dX11_show_89 (fun h hP hF89 => ?_) 
      have hM := hM.w hZ hP hF89
      have hF := hF.tr (hF89.mono (fun _ q => Or.inl q))
      obtain ⟨Fa, hpa, hFa⟩ := hM.2.1
      have hPk := hM.2.2 k.toNat (by omega)
      refine j_aload_n 0 dX11_show_90 rfl rfl ?_
      refine j_get fX11_43 dX11_show_91 hP.1 rfl ?_
      refine j_iload dX11_show_94 rfl ?_
      refine J_iald dX11_show_96 (hP.2.1 9 rfl) ?_ 
      refine J_top (s.2 1 i) ?_ (by exact s9)
      refine j_aload dX11_show_97 rfl ?_
      refine j_getN fX11_170 dX11_show_99 hPk.1 rfl ?_
      refine j_iload dX11_show_102 rfl ?_
      refine J_iald dX11_show_104 (hPk.2.1 1 rfl) ?_ 
      refine J_top ((P k.toNat).2 3 (s.2 0 i)) ?_ (by exact m1)
      refine J_icmp_ne 217 dX11_show_105 (by decide) (fun c105 => ?_) (fun c105 => ?_) 
      · refine J_iinc (L' := [(7, _), (8, _), (6, _), (5, _), (4, _), (3, _), (2, _), (1, _), (0, _)]) dX11_show_217 rfl rfl rfl ?_
        refine j_goto 65 dX11_show_220 (by decide) ?_
        exact j_locR (ih (i + 1) _ _ (by omega) hM (hSH.keep (by decide) (Or.inl (Classical.byContradiction (fun y => c105 (hfst.mp y).2)))) hF) (by repeat' (first | exact True.intro | refine And.intro rfl ?_))
      · refine j_iload_n 3 dX11_show_108 rfl rfl ?_
        refine J_if_eq 125 dX11_show_109 (by decide) (fun c109 => ?_) (fun c109 => absurd c109 (by decide)) 
        refine j_aload dX11_show_125 rfl ?_
        refine j_iload dX11_show_127 rfl ?_
        refine J_callVZ kX11_137 cvX10_isNote hPk.1 (c_X10_isNote hPk hmk hpk hin) rfl rfl rfl rfl rfl dX11_show_129 rfl rfl (fun z129 => ?_) (fun z129 => ?_)
        · refine J_if_ne 138 dX11_show_132 (by decide) (fun c132 => ?_) (fun c132 => absurd c132 (by decide)) 
          refine j_iload_n 3 dX11_show_138 rfl rfl ?_
          refine J_if_eq 152 dX11_show_139 (by decide) (fun c139 => ?_) (fun c139 => absurd c139 (by decide)) 
          have hpl1 : 1 ≤ (P k.toNat).2 0 (s.2 0 i) ∧ (P k.toNat).2 0 (s.2 0 i) ≤ 62 := by omega
          have hal1 := z1
          refine j_aload dX11_show_152 rfl ?_
          refine j_getN fX11_143 dX11_show_154 hPk.1 rfl ?_
          refine j_iload dX11_show_157 rfl ?_
          refine J_iald dX11_show_159 (hPk.2.1 3 rfl) ?_ 
          refine J_top ((P k.toNat).2 0 (s.2 0 i)) ?_ (by exact m3)
          refine j_istore (L' := [(9, _), (8, _), (7, _), (6, _), (5, _), (4, _), (3, _), (2, _), (1, _), (0, _)]) dX11_show_160 rfl rfl ?_
          refine j_iload_n 3 dX11_show_162 rfl rfl ?_
          refine J_if_eq 176 dX11_show_163 (by decide) (fun c163 => ?_) (fun c163 => absurd c163 (by decide)) 
          refine j_aload dX11_show_176 rfl ?_
          refine j_getN fX11_146 dX11_show_178 hPk.1 rfl ?_
          refine j_iload dX11_show_181 rfl ?_
          refine J_iald dX11_show_183 (hPk.2.1 4 rfl) ?_ 
          refine J_top ((P k.toNat).2 1 (s.2 0 i)) ?_ (by exact m4)
          refine j_istore (L' := [(10, _), (9, _), (8, _), (7, _), (6, _), (5, _), (4, _), (3, _), (2, _), (1, _), (0, _)]) dX11_show_184 rfl rfl ?_
          have hfo : q.2 14 ((P k.toNat).2 0 (s.2 0 i)) = atsI (shZ (fstG (P k.toNat) s) (fun j => (P k.toNat).2 0 (s.2 0 j)) (fun j => (P k.toNat).2 1 (s.2 0 j)) (p0.2 3 b) i).1 ((P k.toNat).2 0 (s.2 0 i)) (p0.2 3 b) := hSH.2.2.1 _ (by omega) (by omega)
          have hsr := shA_rg (p6 := P k.toNat) (s := s) (fp := 0) (fa := 1) (key := (p0.2 3 b)) hE hpk (by decide) i (by omega)
          have hat : -3 ≤ q.2 14 ((P k.toNat).2 0 (s.2 0 i)) ∧ q.2 14 ((P k.toNat).2 0 (s.2 0 i)) ≤ 2 := by rw [hfo]; exact atsI_rg (hsr _ (by omega) (by omega))
          refine j_iload dX11_show_186 rfl ?_
          refine j_aload_n 0 dX11_show_188 rfl rfl ?_
          refine j_get fX11_59 dX11_show_189 hP.1 rfl ?_
          refine j_iload dX11_show_192 rfl ?_
          refine J_iald dX11_show_194 (hP.2.1 14 rfl) ?_ 
          refine J_top (q.2 14 ((P k.toNat).2 0 (s.2 0 i))) ?_ (by rfl)
          refine J_icmp_ne 201 dX11_show_195 (by decide) (fun c195 => ?_) (fun c195 => ?_) 
          · refine j_aload_n 0 dX11_show_201 rfl rfl ?_
            refine j_get fX11_59 dX11_show_202 hP.1 rfl ?_
            refine j_iload dX11_show_205 rfl ?_
            refine j_iload dX11_show_207 rfl ?_
            refine J_iastA 14 hP rfl (fun _ => rfl) (fun _ => rfl) dX11_show_209 (fun h hP hF209 => ?_) 
            have hM := hM.w hZ hP hF209
            have hF := hF.tr (hF209.mono (fun _ q => Or.inl q))
            obtain ⟨Fa, hpa, hFa⟩ := hM.2.1
            have hPk := hM.2.2 k.toNat (by omega)
            refine j_aload dX11_show_210 rfl ?_
            refine j_iload dX11_show_212 rfl ?_
            refine j_iload dX11_show_214 rfl ?_
            refine J_iastA 11 hP rfl (fun _ => rfl) (fun _ => rfl) dX11_show_216 (fun h hP hF216 => ?_) 
            have hM := hM.w hZ hP hF216
            have hF := hF.tr (hF216.mono (fun _ q => Or.inl q))
            obtain ⟨Fa, hpa, hFa⟩ := hM.2.1
            have hPk := hM.2.2 k.toNat (by omega)
            refine J_iinc (L' := [(7, _), (10, _), (9, _), (8, _), (6, _), (5, _), (4, _), (3, _), (2, _), (1, _), (0, _)]) dX11_show_217 rfl rfl rfl ?_
            refine j_goto 65 dX11_show_220 (by decide) ?_
            have hne3 : (P k.toNat).2 1 (s.2 0 i) ≠ -3 := by omega
            have hpl2 : ¬ ((P k.toNat).2 0 (s.2 0 i) < 1 ∨ 63 ≤ (P k.toNat).2 0 (s.2 0 i)) := by omega
            exact j_locR (ih (i + 1) _ _ (by omega) hM (hSH.set (by decide) (hfst.mpr ⟨z129, c105⟩) hpl2 (fun y => c195 (y.trans hfo.symm)) hne3 rfl rfl rfl rfl) hF) (by repeat' (first | exact True.intro | refine And.intro rfl ?_))
          · refine j_goto 217 dX11_show_198 (by decide) ?_
            refine J_iinc (L' := [(7, _), (10, _), (9, _), (8, _), (6, _), (5, _), (4, _), (3, _), (2, _), (1, _), (0, _)]) dX11_show_217 rfl rfl rfl ?_
            refine j_goto 65 dX11_show_220 (by decide) ?_
            exact j_locR (ih (i + 1) _ _ (by omega) hM (hSH.keep (by decide) (Or.inr (Or.inr (c195.trans hfo)))) hF) (by repeat' (first | exact True.intro | refine And.intro rfl ?_))
        · refine J_if_ne 138 dX11_show_132 (by decide) (fun c132 => absurd c132 (by decide)) (fun c132 => ?_) 
          refine j_goto 217 dX11_show_135 (by decide) ?_
          refine J_iinc (L' := [(7, _), (8, _), (6, _), (5, _), (4, _), (3, _), (2, _), (1, _), (0, _)]) dX11_show_217 rfl rfl rfl ?_
          refine j_goto 65 dX11_show_220 (by decide) ?_
          exact j_locR (ih (i + 1) _ _ (by omega) hM (hSH.keep (by decide) (Or.inl (Classical.byContradiction (fun y => z129 (hfst.mp y).1)))) hF) (by repeat' (first | exact True.intro | refine And.intro rfl ?_))
  have force : ∀ (n j : Nat) (F : Int → Int) (h2 : jH), j + n = 63 → Mod G h2 a d mp (oA p 14 F) → (∀ i : Int, 0 ≤ i → i < j → F i = altK (p0.2 3 b) (i % 7)) → Fr (FtM a d) h h2 → J l G mX11_show (jQ G mX11_show (jW oN (fun h' => ∃ q, Mod G h' a d mp q ∧ q.1 = p.1 ∧ (∀ i : Nat, i ≠ 14 → i ≠ 11 → q.2 i = p.2 i) ∧ (∀ j : Int, 0 ≤ j → j < s.1 9 → q.2 11 j = (shZ (fstG (P k.toNat) s) (fun j => (P k.toNat).2 0 (s.2 0 j)) (fun j => (P k.toNat).2 1 (s.2 0 j)) (p0.2 3 b) (s.1 9).toNat).2 j) ∧ Fr (FtM a d) h h'))) 0 0 32 [(7, vI (j : Int)), (6, vI (p0.2 3 b)), (5, .ref (d.pad k.toNat)), (4, .ref (d.q 11)), (3, vI 0), (2, vI b), (1, vI k), (0, .ref a)] [] h2 := by
    intro n
    induction n with
    | zero =>
      intro j F h2 hj hM hFo hF
      obtain rfl : j = 63 := by omega
      have hP := hM.1
      refine j_iload dX11_show_32 rfl ?_
      refine J_bipush dX11_show_34 (by decide) ?_
      refine J_icmp_gt 62 dX11_show_36 (by decide) (fun c36 => ?_) (fun c36 => absurd c36 (by omega)) 
      refine J_iconst dX11_show_62 ?_
      refine j_istore (L' := [(7, _), (6, _), (5, _), (4, _), (3, _), (2, _), (1, _), (0, _)]) dX11_show_63 rfl rfl ?_
      exact j_locR (signs (s.1 9).toNat 0 _ _ (by omega) hM ⟨rfl, fun i e1 e2 => oA_n e1, fun i a c => by
          show F i = if F0X (fun _ => 0) i = -3 then altK (p0.2 3 b) (i % 7) else F0X (fun _ => 0) i
          rw [if_pos (show rng (fun _ => (0 : Int)) 0 63 (-3) i = -3 by unfold rng; exact if_pos ⟨a, c⟩)]
          exact hFo i a c, fun i a c => absurd c (by omega)⟩ hF) (by repeat' (first | exact True.intro | refine And.intro rfl ?_))
    | succ n ih =>
      intro j F h2 hj hM hFo hF
      have hP := hM.1
      refine j_iload dX11_show_32 rfl ?_
      refine J_bipush dX11_show_34 (by decide) ?_
      refine J_icmp_gt 62 dX11_show_36 (by decide) (fun c36 => absurd c36 (by omega)) (fun c36 => ?_) 
      refine j_aload_n 0 dX11_show_39 rfl rfl ?_
      refine j_get fX11_59 dX11_show_40 hP.1 rfl ?_
      refine j_iload dX11_show_43 rfl ?_
      refine j_iload dX11_show_45 rfl ?_
      refine j_iload dX11_show_47 rfl ?_
      refine J_bipush dX11_show_49 (by decide) ?_
      refine J_irem dX11_show_51 ?_ 
      refine J_top ((j : Int) % 7) ?_ (by exact Int.tmod_eq_emod_of_nonneg (by omega))
      refine J_callS1 kX11_196 csX11_altered (c_X11_altered (s := (j : Int) % 7) hky ⟨by omega, by omega⟩) rfl rfl rfl rfl rfl dX11_show_52 rfl rfl ?_
      refine J_iastA 14 hP rfl (fun _ => rfl) (fun _ => rfl) dX11_show_55 (fun h hP hF55 => ?_) 
      have hP := oA_A hP
      have hM := hM.w hZ hP hF55
      have hF := hF.tr (hF55.mono (fun _ q => Or.inl q))
      refine J_iinc (L' := [(7, _), (6, _), (5, _), (4, _), (3, _), (2, _), (1, _), (0, _)]) dX11_show_56 rfl rfl rfl ?_
      refine j_goto 32 dX11_show_59 (by decide) ?_
      exact j_locR (ih (j + 1) _ _ (by omega) hM (fun i a c => by
          show upI F j (altK (p0.2 3 b) ((j : Int) % 7)) i = _
          by_cases e : i = j
          · subst e; rw [upI_s]
          · rw [upI_n e]; exact hFo i a (by omega)) hF) (by repeat' (first | exact True.intro | refine And.intro rfl ?_))
  refine j_body (by decide +kernel) ⟨rfl, rfl⟩ rfl ?_
  have hP := hM.1
  have hF : Fr (FtM a d) h h := Fr.rf
  obtain ⟨Fa, hpa, hFa⟩ := hM.2.1
  refine j_aload_n 0 dX11_show_0 rfl rfl ?_
  refine j_get fX11_24 dX11_show_1 hP.1 rfl ?_
  refine j_iload_n 1 dX11_show_4 rfl rfl ?_
  refine J_qaldM dX11_show_5 hpa (hFa _ (by omega)) ?_ 
  refine j_astore (L' := [(5, _), (0, _), (1, _), (2, _), (3, _), (4, _)]) dX11_show_6 rfl rfl ?_
  refine j_iload_n 3 dX11_show_8 rfl rfl ?_
  refine J_if_eq 21 dX11_show_9 (by decide) (fun c9 => ?_) (fun c9 => absurd c9 (by decide)) 
  refine j_aload_n 0 dX11_show_21 rfl rfl ?_
  refine j_get fX11_34 dX11_show_22 hP.1 rfl ?_
  refine j_iload_n 2 dX11_show_25 rfl rfl ?_
  refine J_iald dX11_show_26 (hP.2.1 4 rfl) ?_ 
  refine J_top (p0.2 3 b) ?_ (by exact g7)
  refine j_istore (L' := [(6, _), (5, _), (0, _), (1, _), (2, _), (3, _), (4, _)]) dX11_show_27 rfl rfl ?_
  refine J_iconst dX11_show_29 ?_
  refine j_istore (L' := [(7, _), (6, _), (5, _), (0, _), (1, _), (2, _), (3, _), (4, _)]) dX11_show_30 rfl rfl ?_
  exact j_locR (force 63 0 (p.2 14) _ (by omega) (by rw [oA_id]; exact hM) (fun i a c => absurd c (by omega)) hF) (by repeat' (first | exact True.intro | refine And.intro rfl ?_))
set_option maxRecDepth 100000 in
theorem c1_X11_show {l : Launch} {G : jG} {h : jH} {a : Nat} {d : MD} {mp P : Nat → OS} {p p0 : OS} {Z : Nat → Nat} {k b fr to se : Int} {s : OS} (hM : Mod G h a d mp p) (hZ : Mz a d Z) (hI : MI d P p0 mp p.2) (hk : 0 ≤ k ∧ k < 4) (hb : isBar b) (hR : SR (P k.toNat) se p s) (hE : SE (P k.toNat) fr to s) : jC l G yX11_show mX11_show [.ref a, vI k, vI b, vI 1, .ref (d.q 12)] h (jW oN (fun h' => ∃ q, Mod G h' a d mp q ∧ q.1 = p.1 ∧ (∀ i : Nat, i ≠ 14 → i ≠ 12 → q.2 i = p.2 i) ∧ (∀ j : Int, 0 ≤ j → j < s.1 9 → q.2 12 j = (shZ (fstG (P k.toNat) s) (fun j => (P k.toNat).2 5 (s.2 0 j)) (fun j => (P k.toNat).2 6 (s.2 0 j)) (kwF (P k.toNat) (p0.2 3 b)) (s.1 9).toNat).2 j) ∧ Fr (FtM a d) h h')) := by
  obtain ⟨b0, b1⟩ := hb
  have hb : isBar b := ⟨b0, b1⟩
  obtain ⟨g1, g2, g3, g4, g5, g6, g7, g8⟩ := hI.len hb
  have hpk := hI.1.1 k.toNat (by omega)
  have hmk := hI.2.1 k.toNat (by omega)
  have hn7 : 0 ≤ (P k.toNat).1 7 ∧ (P k.toNat).1 7 ≤ 512 := hpk.1
  have hen := hmk.2.2.1
  have hez := hmk.2.2.2
  have hky : -7 ≤ (kwF (P k.toNat) (p0.2 3 b)) ∧ (kwF (P k.toNat) (p0.2 3 b)) ≤ 7 := kwF_rg hpk g8
  have hq := hE.1
  have hc := hq.1
  unfold mN at hc
  have hto := hE.2
  have signs : ∀ (n i : Nat) (q : OS) (h2 : jH), (i : Int) + n = s.1 9 → Mod G h2 a d mp q → SH (fstG (P k.toNat) s) (fun j => (P k.toNat).2 5 (s.2 0 j)) (fun j => (P k.toNat).2 6 (s.2 0 j)) (kwF (P k.toNat) (p0.2 3 b)) p 12 i q → Fr (FtM a d) h h2 → J l G mX11_show (jQ G mX11_show (jW oN (fun h' => ∃ q, Mod G h' a d mp q ∧ q.1 = p.1 ∧ (∀ i : Nat, i ≠ 14 → i ≠ 12 → q.2 i = p.2 i) ∧ (∀ j : Int, 0 ≤ j → j < s.1 9 → q.2 12 j = (shZ (fstG (P k.toNat) s) (fun j => (P k.toNat).2 5 (s.2 0 j)) (fun j => (P k.toNat).2 6 (s.2 0 j)) (kwF (P k.toNat) (p0.2 3 b)) (s.1 9).toNat).2 j) ∧ Fr (FtM a d) h h'))) 0 0 65 [(7, vI (i : Int)), (6, vI (kwF (P k.toNat) (p0.2 3 b))), (5, .ref (d.pad k.toNat)), (4, .ref (d.q 12)), (3, vI 1), (2, vI b), (1, vI k), (0, .ref a)] [] h2 := by
    intro n
    induction n with
    | zero =>
      intro i q h2 hi hM hSH hF
      have hP := hM.1
      have e5 : q.1 5 = s.1 9 := by rw [hSH.1]; exact hR.1
      refine j_iload dX11_show_65 rfl ?_
      refine j_aload_n 0 dX11_show_67 rfl rfl ?_
      refine j_get fX11_202 dX11_show_68 hP.1 rfl ?_
      refine J_top (s.1 9) ?_ (by exact e5)
      refine J_icmp_ge 223 dX11_show_71 (by decide) (fun c71 => ?_) (fun c71 => absurd c71 (by omega)) 
      refine j_vret rfl dX11_show_223 ?_
      have e9 : (s.1 9).toNat = i := by omega
      rw [e9]
      exact ⟨rfl, q, hM, hSH.1, hSH.2.1, fun j a c => hSH.2.2.2 j a (by omega), hF⟩
    | succ n ih =>
      intro i q h2 hi hM hSH hF
      have hP := hM.1
      have hPk := hM.2.2 k.toNat (by omega)
      have e5 : q.1 5 = s.1 9 := by rw [hSH.1]; exact hR.1
      obtain ⟨r7, r8, r9, r10⟩ := hR.2 i (by omega) (by omega)
      obtain ⟨hin, htk, hln⟩ := hq.2 i (by omega) (by omega)
      obtain ⟨i0, i1⟩ := hin
      have hin : inP (P k.toNat) (s.2 0 i) := ⟨i0, i1⟩
      obtain ⟨z0, z1, z2, z3, z4, z5, z6⟩ := hpk.2.1 _ i0 i1
      obtain ⟨m1, m2, m3, m4⟩ := hmk.2.1 _ i0 i1
      have s7 : q.2 7 i = s.2 0 i := by rw [hSH.2.1 7 (by decide) (by decide)]; exact r7
      have s9 : q.2 9 i = s.2 1 i := by rw [hSH.2.1 9 (by decide) (by decide)]; exact r9
      have hfst := fst_iff (P k.toNat) s i
      have hwr := hpk.2.2.2.2.2.2.2.1 _ i0 i1
      refine j_iload dX11_show_65 rfl ?_
      refine j_aload_n 0 dX11_show_67 rfl rfl ?_
      refine j_get fX11_202 dX11_show_68 hP.1 rfl ?_
      refine J_top (s.1 9) ?_ (by exact e5)
      refine J_icmp_ge 223 dX11_show_71 (by decide) (fun c71 => absurd c71 (by omega)) (fun c71 => ?_) 
      refine j_aload_n 0 dX11_show_74 rfl rfl ?_
      refine j_get fX11_37 dX11_show_75 hP.1 rfl ?_
      refine j_iload dX11_show_78 rfl ?_
      refine J_iald dX11_show_80 (hP.2.1 7 rfl) ?_ 
      refine J_top (s.2 0 i) ?_ (by exact s7)
      refine j_istore (L' := [(8, _), (7, _), (6, _), (5, _), (4, _), (3, _), (2, _), (1, _), (0, _)]) dX11_show_81 rfl rfl ?_
      refine j_aload dX11_show_83 rfl ?_
      refine j_iload dX11_show_85 rfl ?_
      refine J_bipush dX11_show_87 (by decide) ?_
      refine J_iastA 12 hP rfl (fun _ => rfl) (fun _ => rfl) dX11_show_89 (fun h hP hF89 => ?_) 
      have hM := hM.w hZ hP hF89
      have hF := hF.tr (hF89.mono (fun _ q => Or.inl q))
      obtain ⟨Fa, hpa, hFa⟩ := hM.2.1
      have hPk := hM.2.2 k.toNat (by omega)
      refine j_aload_n 0 dX11_show_90 rfl rfl ?_
      refine j_get fX11_43 dX11_show_91 hP.1 rfl ?_
      refine j_iload dX11_show_94 rfl ?_
      refine J_iald dX11_show_96 (hP.2.1 9 rfl) ?_ 
      refine J_top (s.2 1 i) ?_ (by exact s9)
      refine j_aload dX11_show_97 rfl ?_
      refine j_getN fX11_170 dX11_show_99 hPk.1 rfl ?_
      refine j_iload dX11_show_102 rfl ?_
      refine J_iald dX11_show_104 (hPk.2.1 1 rfl) ?_ 
      refine J_top ((P k.toNat).2 3 (s.2 0 i)) ?_ (by exact m1)
      refine J_icmp_ne 217 dX11_show_105 (by decide) (fun c105 => ?_) (fun c105 => ?_) 
      · refine J_iinc (L' := [(7, _), (8, _), (6, _), (5, _), (4, _), (3, _), (2, _), (1, _), (0, _)]) dX11_show_217 rfl rfl rfl ?_
        refine j_goto 65 dX11_show_220 (by decide) ?_
        exact j_locR (ih (i + 1) _ _ (by omega) hM (hSH.keep (by decide) (Or.inl (Classical.byContradiction (fun y => c105 (hfst.mp y).2)))) hF) (by repeat' (first | exact True.intro | refine And.intro rfl ?_))
      · refine j_iload_n 3 dX11_show_108 rfl rfl ?_
        refine J_if_eq 125 dX11_show_109 (by decide) (fun c109 => absurd c109 (by decide)) (fun c109 => ?_) 
        refine j_aload dX11_show_112 rfl ?_
        refine j_iload dX11_show_114 rfl ?_
        refine J_callVZ kX11_167 cvX10_isWritten hPk.1 (c_X10_isWritten hPk hmk hpk hin) rfl rfl rfl rfl rfl dX11_show_116 rfl rfl (fun z116 => ?_) (fun z116 => ?_)
        · refine J_if_eq 217 dX11_show_119 (by decide) (fun c119 => absurd c119 (by decide)) (fun c119 => ?_) 
          refine j_goto 138 dX11_show_122 (by decide) ?_
          refine j_iload_n 3 dX11_show_138 rfl rfl ?_
          refine J_if_eq 152 dX11_show_139 (by decide) (fun c139 => absurd c139 (by decide)) (fun c139 => ?_) 
          refine j_aload dX11_show_142 rfl ?_
          refine j_iload dX11_show_144 rfl ?_
          have hpl : (P k.toNat).2 5 (s.2 0 i) = wPc (P k.toNat) (s.2 0 i) := hwr.1.trans (if_pos z116)
          have hal : (P k.toNat).2 6 (s.2 0 i) = wAc (P k.toNat) (s.2 0 i) := hwr.2.trans (if_pos z116)
          have hpit := z116.2
          have hpl1 : 1 ≤ (P k.toNat).2 5 (s.2 0 i) ∧ (P k.toNat).2 5 (s.2 0 i) ≤ 62 := by rw [hpl]; exact ⟨hpit.1, hpit.2.1⟩
          have hal1 : -2 ≤ (P k.toNat).2 6 (s.2 0 i) ∧ (P k.toNat).2 6 (s.2 0 i) ≤ 2 := by rw [hal]; exact ⟨hpit.2.2.1, hpit.2.2.2⟩
          refine J_callV1 kX11_178 cvX10_writtenPlace hPk.1 (c_X10_writtenPlace hPk hmk hpk hin) rfl rfl rfl rfl rfl dX11_show_146 rfl rfl ?_
          refine J_top ((P k.toNat).2 5 (s.2 0 i)) ?_ (by exact (hwr.1.trans (if_pos z116)).symm)
          refine j_goto 160 dX11_show_149 (by decide) ?_
          refine j_istore (L' := [(9, _), (8, _), (7, _), (6, _), (5, _), (4, _), (3, _), (2, _), (1, _), (0, _)]) dX11_show_160 rfl rfl ?_
          refine j_iload_n 3 dX11_show_162 rfl rfl ?_
          refine J_if_eq 176 dX11_show_163 (by decide) (fun c163 => absurd c163 (by decide)) (fun c163 => ?_) 
          refine j_aload dX11_show_166 rfl ?_
          refine j_iload dX11_show_168 rfl ?_
          refine J_callV1 kX11_181 cvX10_writtenAlter hPk.1 (c_X10_writtenAlter hPk hmk hpk hin z116.1) rfl rfl rfl rfl rfl dX11_show_170 rfl rfl ?_
          refine J_top ((P k.toNat).2 6 (s.2 0 i)) ?_ (by exact (hwr.2.trans (if_pos z116)).symm)
          refine j_goto 184 dX11_show_173 (by decide) ?_
          refine j_istore (L' := [(10, _), (9, _), (8, _), (7, _), (6, _), (5, _), (4, _), (3, _), (2, _), (1, _), (0, _)]) dX11_show_184 rfl rfl ?_
          have hfo : q.2 14 ((P k.toNat).2 5 (s.2 0 i)) = atsI (shZ (fstG (P k.toNat) s) (fun j => (P k.toNat).2 5 (s.2 0 j)) (fun j => (P k.toNat).2 6 (s.2 0 j)) (kwF (P k.toNat) (p0.2 3 b)) i).1 ((P k.toNat).2 5 (s.2 0 i)) (kwF (P k.toNat) (p0.2 3 b)) := hSH.2.2.1 _ (by omega) (by omega)
          have hsr := shA_rg (p6 := P k.toNat) (s := s) (fp := 5) (fa := 6) (key := (kwF (P k.toNat) (p0.2 3 b))) hE hpk (by decide) i (by omega)
          have hat : -3 ≤ q.2 14 ((P k.toNat).2 5 (s.2 0 i)) ∧ q.2 14 ((P k.toNat).2 5 (s.2 0 i)) ≤ 2 := by rw [hfo]; exact atsI_rg (hsr _ (by omega) (by omega))
          refine j_iload dX11_show_186 rfl ?_
          refine j_aload_n 0 dX11_show_188 rfl rfl ?_
          refine j_get fX11_59 dX11_show_189 hP.1 rfl ?_
          refine j_iload dX11_show_192 rfl ?_
          refine J_iald dX11_show_194 (hP.2.1 14 rfl) ?_ 
          refine J_top (q.2 14 ((P k.toNat).2 5 (s.2 0 i))) ?_ (by rfl)
          refine J_icmp_ne 201 dX11_show_195 (by decide) (fun c195 => ?_) (fun c195 => ?_) 
          · refine j_aload_n 0 dX11_show_201 rfl rfl ?_
            refine j_get fX11_59 dX11_show_202 hP.1 rfl ?_
            refine j_iload dX11_show_205 rfl ?_
            refine j_iload dX11_show_207 rfl ?_
            refine J_iastA 14 hP rfl (fun _ => rfl) (fun _ => rfl) dX11_show_209 (fun h hP hF209 => ?_) 
            have hM := hM.w hZ hP hF209
            have hF := hF.tr (hF209.mono (fun _ q => Or.inl q))
            obtain ⟨Fa, hpa, hFa⟩ := hM.2.1
            have hPk := hM.2.2 k.toNat (by omega)
            refine j_aload dX11_show_210 rfl ?_
            refine j_iload dX11_show_212 rfl ?_
            refine j_iload dX11_show_214 rfl ?_
            refine J_iastA 12 hP rfl (fun _ => rfl) (fun _ => rfl) dX11_show_216 (fun h hP hF216 => ?_) 
            have hM := hM.w hZ hP hF216
            have hF := hF.tr (hF216.mono (fun _ q => Or.inl q))
            obtain ⟨Fa, hpa, hFa⟩ := hM.2.1
            have hPk := hM.2.2 k.toNat (by omega)
            refine J_iinc (L' := [(7, _), (10, _), (9, _), (8, _), (6, _), (5, _), (4, _), (3, _), (2, _), (1, _), (0, _)]) dX11_show_217 rfl rfl rfl ?_
            refine j_goto 65 dX11_show_220 (by decide) ?_
            have hne3 : (P k.toNat).2 6 (s.2 0 i) ≠ -3 := by omega
            have hpl2 : ¬ ((P k.toNat).2 5 (s.2 0 i) < 1 ∨ 63 ≤ (P k.toNat).2 5 (s.2 0 i)) := by omega
            exact j_locR (ih (i + 1) _ _ (by omega) hM (hSH.set (by decide) (hfst.mpr ⟨z116.1, c105⟩) hpl2 (fun y => c195 (y.trans hfo.symm)) hne3 rfl rfl rfl rfl) hF) (by repeat' (first | exact True.intro | refine And.intro rfl ?_))
          · refine j_goto 217 dX11_show_198 (by decide) ?_
            refine J_iinc (L' := [(7, _), (10, _), (9, _), (8, _), (6, _), (5, _), (4, _), (3, _), (2, _), (1, _), (0, _)]) dX11_show_217 rfl rfl rfl ?_
            refine j_goto 65 dX11_show_220 (by decide) ?_
            exact j_locR (ih (i + 1) _ _ (by omega) hM (hSH.keep (by decide) (Or.inr (Or.inr (c195.trans hfo)))) hF) (by repeat' (first | exact True.intro | refine And.intro rfl ?_))
        · refine J_if_eq 217 dX11_show_119 (by decide) (fun c119 => ?_) (fun c119 => absurd c119 (by decide)) 
          refine J_iinc (L' := [(7, _), (8, _), (6, _), (5, _), (4, _), (3, _), (2, _), (1, _), (0, _)]) dX11_show_217 rfl rfl rfl ?_
          refine j_goto 65 dX11_show_220 (by decide) ?_
          exact j_locR (ih (i + 1) _ _ (by omega) hM (hSH.keep (by decide) (Or.inr (Or.inl (Or.inl (Int.lt_of_le_of_lt (Int.le_of_eq (hwr.1.trans (if_neg z116))) (by decide)))))) hF) (by repeat' (first | exact True.intro | refine And.intro rfl ?_))
  have force : ∀ (n j : Nat) (F : Int → Int) (h2 : jH), j + n = 63 → Mod G h2 a d mp (oA p 14 F) → (∀ i : Int, 0 ≤ i → i < j → F i = altK (kwF (P k.toNat) (p0.2 3 b)) (i % 7)) → Fr (FtM a d) h h2 → J l G mX11_show (jQ G mX11_show (jW oN (fun h' => ∃ q, Mod G h' a d mp q ∧ q.1 = p.1 ∧ (∀ i : Nat, i ≠ 14 → i ≠ 12 → q.2 i = p.2 i) ∧ (∀ j : Int, 0 ≤ j → j < s.1 9 → q.2 12 j = (shZ (fstG (P k.toNat) s) (fun j => (P k.toNat).2 5 (s.2 0 j)) (fun j => (P k.toNat).2 6 (s.2 0 j)) (kwF (P k.toNat) (p0.2 3 b)) (s.1 9).toNat).2 j) ∧ Fr (FtM a d) h h'))) 0 0 32 [(7, vI (j : Int)), (6, vI (kwF (P k.toNat) (p0.2 3 b))), (5, .ref (d.pad k.toNat)), (4, .ref (d.q 12)), (3, vI 1), (2, vI b), (1, vI k), (0, .ref a)] [] h2 := by
    intro n
    induction n with
    | zero =>
      intro j F h2 hj hM hFo hF
      obtain rfl : j = 63 := by omega
      have hP := hM.1
      refine j_iload dX11_show_32 rfl ?_
      refine J_bipush dX11_show_34 (by decide) ?_
      refine J_icmp_gt 62 dX11_show_36 (by decide) (fun c36 => ?_) (fun c36 => absurd c36 (by omega)) 
      refine J_iconst dX11_show_62 ?_
      refine j_istore (L' := [(7, _), (6, _), (5, _), (4, _), (3, _), (2, _), (1, _), (0, _)]) dX11_show_63 rfl rfl ?_
      exact j_locR (signs (s.1 9).toNat 0 _ _ (by omega) hM ⟨rfl, fun i e1 e2 => oA_n e1, fun i a c => by
          show F i = if F0X (fun _ => 0) i = -3 then altK (kwF (P k.toNat) (p0.2 3 b)) (i % 7) else F0X (fun _ => 0) i
          rw [if_pos (show rng (fun _ => (0 : Int)) 0 63 (-3) i = -3 by unfold rng; exact if_pos ⟨a, c⟩)]
          exact hFo i a c, fun i a c => absurd c (by omega)⟩ hF) (by repeat' (first | exact True.intro | refine And.intro rfl ?_))
    | succ n ih =>
      intro j F h2 hj hM hFo hF
      have hP := hM.1
      refine j_iload dX11_show_32 rfl ?_
      refine J_bipush dX11_show_34 (by decide) ?_
      refine J_icmp_gt 62 dX11_show_36 (by decide) (fun c36 => absurd c36 (by omega)) (fun c36 => ?_) 
      refine j_aload_n 0 dX11_show_39 rfl rfl ?_
      refine j_get fX11_59 dX11_show_40 hP.1 rfl ?_
      refine j_iload dX11_show_43 rfl ?_
      refine j_iload dX11_show_45 rfl ?_
      refine j_iload dX11_show_47 rfl ?_
      refine J_bipush dX11_show_49 (by decide) ?_
      refine J_irem dX11_show_51 ?_ 
      refine J_top ((j : Int) % 7) ?_ (by exact Int.tmod_eq_emod_of_nonneg (by omega))
      refine J_callS1 kX11_196 csX11_altered (c_X11_altered (s := (j : Int) % 7) hky ⟨by omega, by omega⟩) rfl rfl rfl rfl rfl dX11_show_52 rfl rfl ?_
      refine J_iastA 14 hP rfl (fun _ => rfl) (fun _ => rfl) dX11_show_55 (fun h hP hF55 => ?_) 
      have hP := oA_A hP
      have hM := hM.w hZ hP hF55
      have hF := hF.tr (hF55.mono (fun _ q => Or.inl q))
      refine J_iinc (L' := [(7, _), (6, _), (5, _), (4, _), (3, _), (2, _), (1, _), (0, _)]) dX11_show_56 rfl rfl rfl ?_
      refine j_goto 32 dX11_show_59 (by decide) ?_
      exact j_locR (ih (j + 1) _ _ (by omega) hM (fun i a c => by
          show upI F j (altK (kwF (P k.toNat) (p0.2 3 b)) ((j : Int) % 7)) i = _
          by_cases e : i = j
          · subst e; rw [upI_s]
          · rw [upI_n e]; exact hFo i a (by omega)) hF) (by repeat' (first | exact True.intro | refine And.intro rfl ?_))
  refine j_body (by decide +kernel) ⟨rfl, rfl⟩ rfl ?_
  have hP := hM.1
  have hF : Fr (FtM a d) h h := Fr.rf
  obtain ⟨Fa, hpa, hFa⟩ := hM.2.1
  refine j_aload_n 0 dX11_show_0 rfl rfl ?_
  refine j_get fX11_24 dX11_show_1 hP.1 rfl ?_
  refine j_iload_n 1 dX11_show_4 rfl rfl ?_
  refine J_qaldM dX11_show_5 hpa (hFa _ (by omega)) ?_ 
  refine j_astore (L' := [(5, _), (0, _), (1, _), (2, _), (3, _), (4, _)]) dX11_show_6 rfl rfl ?_
  refine j_iload_n 3 dX11_show_8 rfl rfl ?_
  refine J_if_eq 21 dX11_show_9 (by decide) (fun c9 => absurd c9 (by decide)) (fun c9 => ?_) 
  refine j_aload_n 0 dX11_show_12 rfl rfl ?_
  refine j_iload_n 1 dX11_show_13 rfl rfl ?_
  refine j_iload_n 2 dX11_show_14 rfl rfl ?_
  refine J_callV1 kX11_199 cvX11_keyWritten hP.1 (c_X11_keyWritten hM hZ hI hk hb) rfl rfl rfl rfl rfl dX11_show_15 rfl rfl ?_
  refine j_goto 27 dX11_show_18 (by decide) ?_
  refine j_istore (L' := [(6, _), (5, _), (0, _), (1, _), (2, _), (3, _), (4, _)]) dX11_show_27 rfl rfl ?_
  refine J_iconst dX11_show_29 ?_
  refine j_istore (L' := [(7, _), (6, _), (5, _), (0, _), (1, _), (2, _), (3, _), (4, _)]) dX11_show_30 rfl rfl ?_
  exact j_locR (force 63 0 (p.2 14) _ (by omega) (by rw [oA_id]; exact hM) (fun i a c => absurd c (by omega)) hF) (by repeat' (first | exact True.intro | refine And.intro rfl ?_))
