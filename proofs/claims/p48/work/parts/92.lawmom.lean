/-! moments and faults: what the law asks of them -/
def ChdOK (p : OS) : Prop := ((p.1 0 < 0 ∧ p.1 1 < 0 ∧ p.1 2 < 0) ∨ (0 ≤ p.1 0 ∧ 0 ≤ p.1 1 ∧ 0 ≤ p.1 2)) ∧ (p.1 1 = 3 → p.1 2 = 0) ∧ (-1 ≤ p.1 0 ∧ p.1 0 ≤ 11) ∧ (-1 ≤ p.1 1 ∧ p.1 1 ≤ 3) ∧ (-1 ≤ p.1 2 ∧ p.1 2 ≤ 2)
def MomOK (P : Nat → OS) : Prop := (∀ k : Nat, k < 4 → 0 ≤ (P k).1 7 ∧ (P k).1 7 ≤ cntM P) ∧ cntM P ≤ 512 ∧ (∀ m : Nat, m < cntM P → 0 ≤ momT P m ∧ momT P m ≤ 20000) ∧ (∀ i j : Nat, i < j → j < cntM P → momT P i < momT P j) ∧ ∀ m : Nat, m < cntM P → ChdOK (chdF P m)
abbrev fauE (P : Nat → OS) (m : Nat) : Int × Int × Int := (fauA P)[m]?.getD (0, 0, 0)
def pq6 (x : Int) : Prop := x = 1 ∨ x = 2 ∨ x = 3 ∨ x = 6 ∨ x = 7 ∨ x = 11
def FauLs (P : Nat → OS) : Prop := (fauA P).length ≤ 2560 ∧ (∀ m : Nat, m < (fauA P).length → (0 ≤ (fauE P m).1 ∧ (fauE P m).1 ≤ 4) ∧ (0 ≤ (fauE P m).2.1 ∧ (fauE P m).2.1 ≤ 20000) ∧ ((fauE P m).1 < 3 → pq6 (fauE P m).2.2) ∧ (3 ≤ (fauE P m).1 → 0 ≤ (fauE P m).2.2 ∧ (fauE P m).2.2 ≤ 3)) ∧ ∀ i j : Nat, i < j → j < (fauA P).length → (fauE P i).2.1 ≤ (fauE P j).2.1
theorem pq6_ok {x : Int} (h : pq6 x) : x.tdiv 4 < x.tmod 4 ∧ (0 ≤ x.tdiv 4 ∧ x.tdiv 4 ≤ 3) ∧ (0 ≤ x.tmod 4 ∧ x.tmod 4 ≤ 3) ∧ (0 ≤ x ∧ x ≤ 11) := by
  unfold pq6 at h
  rcases h with e | e | e | e | e | e <;> subst e <;> decide
abbrev momQ (G : jG) (a : Nat) (d : DA) (P : Nat → OS) (p0 : OS) : jF := jQ G zL_areMomentsSound (jW (oI 1) (DD G a d P p0))
set_option maxRecDepth 100000 in
theorem mom_l3 {l : Launch} {G : jG} {a : Nat} {d : DA} {P : Nat → OS} {p0 : OS} {Z : Nat → Nat} (hl0 : l.stackTraces = false) (hZ : Dz a d Z) (hF : FauLs P) {x1 x2 : Int} : ∀ (n i : Nat) (bf : Int) (h : jH), i + n = (fauA P).length → (-1 ≤ bf ∧ bf ≤ 20000) → (∀ j : Nat, i ≤ j → j < (fauA P).length → bf ≤ (fauE P j).2.1) → DD G a d P p0 h → J l G zL_areMomentsSound (momQ G a d P p0) (3 * n) (18 * n) 165 [(5, vI (i : Int)), (3, vI bf), (4, vI ((fauA P).length : Int)), (2, vI x2), (1, vI x1), (0, .ref a)] [] h := by
  obtain ⟨hF1, hF2, hF3⟩ := hF
  intro n
  induction n with
  | zero =>
    intro i bf h hi hbf hb hD
    refine j_iload dL_areMomentsSound_165 rfl ?_
    refine j_iload dL_areMomentsSound_167 rfl ?_
    refine J_icmp_ge 253 dL_areMomentsSound_169 (by decide) (fun c169 => ?_) (fun c169 => absurd c169 (by omega)) (by omega)
    refine J_iconst dL_areMomentsSound_253 ?_
    exact j_zret rfl rfl dL_areMomentsSound_254 ⟨rfl, hD⟩
  | succ n ih =>
    intro i bf h hi hbf hb hD
    obtain ⟨f1, f2, f3, f4⟩ := hF2 i (by omega)
    have f5 := hb i (Nat.le_refl _) (by omega)
    have f6 : (fauE P i).1 < 3 → _ := fun z => pq6_ok (f3 z)
    have f7 : 0 ≤ (fauE P i).2.2 ∧ (fauE P i).2.2 ≤ 11 := by
      by_cases z : (fauE P i).1 < 3
      · exact (f6 z).2.2.2
      · have := f4 (by omega); omega
    have f8 := fun j a b => hF3 i j a b
    have r1 := fun h (hD : DD G a d P p0 h) => r_tickOfFault (l := l) (m := (i : Int)) hl0 hZ hD (by omega) (by omega)
    have r2 := fun h (hD : DD G a d P p0 h) => r_kindOfFault (l := l) (m := (i : Int)) hl0 hZ hD (by omega) (by omega)
    have r3 := fun h (hD : DD G a d P p0 h) => r_partsOfFault (l := l) (m := (i : Int)) hl0 hZ hD (by omega) (by omega)
    rw [Int.toNat_natCast] at r1 r2 r3
    change ∀ h, _ → jC _ _ _ _ _ _ (jW (oI (fauE P i).2.1) _) at r1
    change ∀ h, _ → jC _ _ _ _ _ _ (jW (oI (fauE P i).1) _) at r2
    change ∀ h, _ → jC _ _ _ _ _ _ (jW (oI (fauE P i).2.2) _) at r3
    have f8 : ∀ j : Nat, i + 1 ≤ j → j < (fauA P).length → (fauE P i).2.1 ≤ (fauE P j).2.1 := fun j a b => hF3 i j (by omega) b
    generalize fauE P i = x at f1 f2 f3 f4 f5 f6 f7 f8 r1 r2 r3
    obtain ⟨kd, tk, pt⟩ := x
    simp only at f1 f2 f3 f4 f5 f6 f7 f8 r1 r2 r3
    refine j_iload dL_areMomentsSound_165 rfl ?_
    refine j_iload dL_areMomentsSound_167 rfl ?_
    refine J_icmp_ge 253 dL_areMomentsSound_169 (by decide) (fun c169 => absurd c169 (by omega)) (fun c169 => ?_) (by omega)
    refine j_aload_n 0 dL_areMomentsSound_172 rfl rfl ?_
    refine j_iload dL_areMomentsSound_173 rfl ?_
    refine J_rd (ck' := 3 * n + 2) (sk' := 18 * n + 12) kL_143 cvX9_tickOfFault hD (r1 h hD) rfl rfl rfl rfl rfl dL_areMomentsSound_175 (by show 1 + _ ≤ _; omega) (by show 6 + _ ≤ _; omega) (fun h hD => ?_)
    refine j_istore (L' := [(6, _), (5, _), (3, _), (4, _), (2, _), (1, _), (0, _)]) dL_areMomentsSound_178 rfl rfl ?_
    refine j_aload_n 0 dL_areMomentsSound_180 rfl rfl ?_
    refine j_iload dL_areMomentsSound_181 rfl ?_
    refine J_rd (ck' := 3 * n + 1) (sk' := 18 * n + 6) kL_146 cvX9_kindOfFault hD (r2 h hD) rfl rfl rfl rfl rfl dL_areMomentsSound_183 (by show 1 + _ ≤ _; omega) (by show 6 + _ ≤ _; omega) (fun h hD => ?_)
    refine j_istore (L' := [(7, _), (6, _), (5, _), (3, _), (4, _), (2, _), (1, _), (0, _)]) dL_areMomentsSound_186 rfl rfl ?_
    refine j_aload_n 0 dL_areMomentsSound_188 rfl rfl ?_
    refine j_iload dL_areMomentsSound_189 rfl ?_
    refine J_rd (ck' := 3 * n + 0) (sk' := 18 * n + 0) kL_149 cvX9_partsOfFault hD (r3 h hD) rfl rfl rfl rfl rfl dL_areMomentsSound_191 (by show 1 + _ ≤ _; omega) (by show 6 + _ ≤ _; omega) (fun h hD => ?_)
    refine j_istore (L' := [(8, _), (7, _), (6, _), (5, _), (3, _), (4, _), (2, _), (1, _), (0, _)]) dL_areMomentsSound_194 rfl rfl ?_
    refine j_iload dL_areMomentsSound_196 rfl ?_
    refine j_iload_n 3 dL_areMomentsSound_198 rfl rfl ?_
    refine J_icmp_lt 242 dL_areMomentsSound_199 (by decide) (fun c199 => absurd c199 (by omega)) (fun c199 => ?_) (by omega)
    refine j_iload dL_areMomentsSound_202 rfl ?_
    refine J_if_lt 242 dL_areMomentsSound_204 (by decide) (fun c204 => absurd c204 (by omega)) (fun c204 => ?_) (by omega)
    refine j_iload dL_areMomentsSound_207 rfl ?_
    refine J_iconst dL_areMomentsSound_209 ?_
    refine J_icmp_gt 242 dL_areMomentsSound_210 (by decide) (fun c210 => absurd c210 (by omega)) (fun c210 => ?_) (by omega)
    refine j_iload dL_areMomentsSound_213 rfl ?_
    refine J_iconst dL_areMomentsSound_215 ?_
    refine J_icmp_ge 230 dL_areMomentsSound_216 (by decide) (fun c216 => ?_) (fun c216 => ?_) (by omega)
    · refine j_iload dL_areMomentsSound_230 rfl ?_
      refine J_iconst dL_areMomentsSound_232 ?_
      refine J_icmp_lt 244 dL_areMomentsSound_233 (by decide) (fun c233 => ?_) (fun c233 => ?_) (by omega)
      · refine j_iload dL_areMomentsSound_244 rfl ?_
        refine j_istore_n 3 (L' := [(3, _), (8, _), (7, _), (6, _), (5, _), (4, _), (2, _), (1, _), (0, _)]) dL_areMomentsSound_246 rfl rfl rfl ?_
        refine J_iinc (L' := [(5, _), (3, _), (8, _), (7, _), (6, _), (4, _), (2, _), (1, _), (0, _)]) dL_areMomentsSound_247 rfl rfl rfl ?_
        refine j_goto 165 dL_areMomentsSound_250 (by decide) ?_
        refine j_locR (ih (i + 1) tk h (by omega) (by omega) f8 hD) ?_
        exact ⟨rfl, rfl, rfl, rfl, rfl, rfl, True.intro⟩
      · have f9 := f4 (by omega)
        refine j_iload dL_areMomentsSound_236 rfl ?_
        refine J_iconst dL_areMomentsSound_238 ?_
        refine J_icmp_le 244 dL_areMomentsSound_239 (by decide) (fun c239 => ?_) (fun c239 => absurd c239 (by omega)) (by omega)
        refine j_iload dL_areMomentsSound_244 rfl ?_
        refine j_istore_n 3 (L' := [(3, _), (8, _), (7, _), (6, _), (5, _), (4, _), (2, _), (1, _), (0, _)]) dL_areMomentsSound_246 rfl rfl rfl ?_
        refine J_iinc (L' := [(5, _), (3, _), (8, _), (7, _), (6, _), (4, _), (2, _), (1, _), (0, _)]) dL_areMomentsSound_247 rfl rfl rfl ?_
        refine j_goto 165 dL_areMomentsSound_250 (by decide) ?_
        refine j_locR (ih (i + 1) tk h (by omega) (by omega) f8 hD) ?_
        exact ⟨rfl, rfl, rfl, rfl, rfl, rfl, True.intro⟩
    · have f9 := f6 (by omega)
      refine j_iload dL_areMomentsSound_219 rfl ?_
      refine J_iconst dL_areMomentsSound_221 ?_
      refine J_idiv dL_areMomentsSound_222 ?_ (by omega)
      refine j_iload dL_areMomentsSound_223 rfl ?_
      refine J_iconst dL_areMomentsSound_225 ?_
      refine J_irem dL_areMomentsSound_226 ?_ (by omega)
      refine J_icmp_ge 242 dL_areMomentsSound_227 (by decide) (fun c227 => absurd c227 (by omega)) (fun c227 => ?_) (by omega)
      refine j_iload dL_areMomentsSound_230 rfl ?_
      refine J_iconst dL_areMomentsSound_232 ?_
      refine J_icmp_lt 244 dL_areMomentsSound_233 (by decide) (fun c233 => ?_) (fun c233 => ?_) (by omega)
      · refine j_iload dL_areMomentsSound_244 rfl ?_
        refine j_istore_n 3 (L' := [(3, _), (8, _), (7, _), (6, _), (5, _), (4, _), (2, _), (1, _), (0, _)]) dL_areMomentsSound_246 rfl rfl rfl ?_
        refine J_iinc (L' := [(5, _), (3, _), (8, _), (7, _), (6, _), (4, _), (2, _), (1, _), (0, _)]) dL_areMomentsSound_247 rfl rfl rfl ?_
        refine j_goto 165 dL_areMomentsSound_250 (by decide) ?_
        refine j_locR (ih (i + 1) tk h (by omega) (by omega) f8 hD) ?_
        exact ⟨rfl, rfl, rfl, rfl, rfl, rfl, True.intro⟩
      · have f9 := f4 (by omega)
        refine j_iload dL_areMomentsSound_236 rfl ?_
        refine J_iconst dL_areMomentsSound_238 ?_
        refine J_icmp_le 244 dL_areMomentsSound_239 (by decide) (fun c239 => ?_) (fun c239 => absurd c239 (by omega)) (by omega)
        refine j_iload dL_areMomentsSound_244 rfl ?_
        refine j_istore_n 3 (L' := [(3, _), (8, _), (7, _), (6, _), (5, _), (4, _), (2, _), (1, _), (0, _)]) dL_areMomentsSound_246 rfl rfl rfl ?_
        refine J_iinc (L' := [(5, _), (3, _), (8, _), (7, _), (6, _), (4, _), (2, _), (1, _), (0, _)]) dL_areMomentsSound_247 rfl rfl rfl ?_
        refine j_goto 165 dL_areMomentsSound_250 (by decide) ?_
        refine j_locR (ih (i + 1) tk h (by omega) (by omega) f8 hD) ?_
        exact ⟨rfl, rfl, rfl, rfl, rfl, rfl, True.intro⟩
set_option maxRecDepth 100000 in
theorem mom_l2 {l : Launch} {G : jG} {a : Nat} {d : DA} {P : Nat → OS} {p0 : OS} {Z : Nat → Nat} (hl0 : l.stackTraces = false) (hZ : Dz a d Z) (hM : MomOK P) (hF : FauLs P) {x1 : Int} : ∀ (n i : Nat) (bf : Int) (h : jH), i + n = cntM P → (-1 ≤ bf ∧ bf ≤ 20000) → (∀ j : Nat, i ≤ j → j < cntM P → bf < momT P j) → DD G a d P p0 h → J l G zL_areMomentsSound (momQ G a d P p0) (7 * n + 7680) (42 * n + 46080) 42 [(4, vI (i : Int)), (3, vI bf), (2, vI (cntM P : Int)), (1, vI x1), (0, .ref a)] [] h := by
  obtain ⟨hM1, hM2, hM3, hM4, hM5⟩ := hM
  have hl := hF.1
  intro n
  induction n with
  | zero =>
    intro i bf h hi hbf hb hD
    refine j_iload dL_areMomentsSound_42 rfl ?_
    refine j_iload_n 2 dL_areMomentsSound_44 rfl rfl ?_
    refine J_icmp_ge 154 dL_areMomentsSound_45 (by decide) (fun c45 => ?_) (fun c45 => absurd c45 (by omega)) (by omega)
    refine j_aload_n 0 dL_areMomentsSound_154 rfl rfl ?_
    refine J_rd (ck' := 7680) (sk' := 46080) kL_140 cvX9_faults hD (r_faults hl0 hZ hD) rfl rfl rfl rfl rfl dL_areMomentsSound_155 (by show 0 + _ ≤ _; omega) (by show 0 + _ ≤ _; omega) (fun h hD => ?_)
    refine j_istore (L' := [(4, _), (3, _), (2, _), (1, _), (0, _)]) dL_areMomentsSound_158 rfl rfl ?_
    refine J_iconst dL_areMomentsSound_160 ?_
    refine j_istore_n 3 (L' := [(3, _), (4, _), (2, _), (1, _), (0, _)]) dL_areMomentsSound_161 rfl rfl rfl ?_
    refine J_iconst dL_areMomentsSound_162 ?_
    refine j_istore (L' := [(5, _), (3, _), (4, _), (2, _), (1, _), (0, _)]) dL_areMomentsSound_163 rfl rfl ?_
    refine j_room (ck' := 3 * (fauA P).length) (sk' := 18 * (fauA P).length) (by omega) (by omega) ?_
    refine j_locR (mom_l3 (x1 := x1) (x2 := (cntM P : Int)) hl0 hZ hF (fauA P).length 0 (-1) h (by omega) (by omega) (fun j _ hj => by have := (hF.2.1 j hj).2.1; omega) hD) ?_
    exact ⟨rfl, rfl, rfl, rfl, rfl, rfl, True.intro⟩
  | succ n ih =>
    intro i bf h hi hbf hb hD
    obtain ⟨f1, f2, f3, f4, f5⟩ := hM5 i (by omega)
    have f6 := hM3 i (by omega)
    have f7 := hb i (Nat.le_refl _) (by omega)
    have f8 : ∀ j : Nat, i + 1 ≤ j → j < cntM P → momT P i < momT P j := fun j a b => hM4 i j (by omega) b
    have r1 := fun h (hD : DD G a d P p0 h) => r_tickOf (l := l) (m := (i : Int)) hl0 hZ hD (by omega) (by omega)
    have r2 := fun h (hD : DD G a d P p0 h) => r_root (l := l) (m := (i : Int)) hl0 hZ hD (by omega) (by omega)
    have r3 := fun h (hD : DD G a d P p0 h) => r_kind (l := l) (m := (i : Int)) hl0 hZ hD (by omega) (by omega)
    have r4 := fun h (hD : DD G a d P p0 h) => r_inversion (l := l) (m := (i : Int)) hl0 hZ hD (by omega) (by omega)
    rw [Int.toNat_natCast] at r1 r2 r3 r4
    generalize (chdF P i).1 0 = x at f1 f2 f3 f4 f5 r2
    generalize (chdF P i).1 1 = y at f1 f2 f3 f4 f5 r3
    generalize (chdF P i).1 2 = z at f1 f2 f3 f4 f5 r4
    generalize momT P i = t at f6 f7 f8 r1
    rcases f1 with f1 | f1
    · refine j_iload dL_areMomentsSound_42 rfl ?_
      refine j_iload_n 2 dL_areMomentsSound_44 rfl rfl ?_
      refine J_icmp_ge 154 dL_areMomentsSound_45 (by decide) (fun c45 => absurd c45 (by omega)) (fun c45 => ?_) (by omega)
      refine j_aload_n 0 dL_areMomentsSound_48 rfl rfl ?_
      refine j_iload dL_areMomentsSound_49 rfl ?_
      refine J_rd (ck' := 7 * n + 7680 + 6) (sk' := 42 * n + 46080 + 36) kL_128 cvX9_tickOf hD (r1 h hD) rfl rfl rfl rfl rfl dL_areMomentsSound_51 (by show 1 + _ ≤ _; omega) (by show 6 + _ ≤ _; omega) (fun h hD => ?_)
      refine j_istore (L' := [(5, _), (4, _), (3, _), (2, _), (1, _), (0, _)]) dL_areMomentsSound_54 rfl rfl ?_
      refine j_iload dL_areMomentsSound_56 rfl ?_
      refine j_iload_n 3 dL_areMomentsSound_58 rfl rfl ?_
      refine J_icmp_le 143 dL_areMomentsSound_59 (by decide) (fun c59 => absurd c59 (by omega)) (fun c59 => ?_) (by omega)
      refine j_aload_n 0 dL_areMomentsSound_62 rfl rfl ?_
      refine j_iload dL_areMomentsSound_63 rfl ?_
      refine J_rd (ck' := 7 * n + 7680 + 5) (sk' := 42 * n + 46080 + 30) kL_131 cvX9_root hD (r2 h hD) rfl rfl rfl rfl rfl dL_areMomentsSound_65 (by show 1 + _ ≤ _; omega) (by show 6 + _ ≤ _; omega) (fun h hD => ?_)
      refine J_if_ge 75 dL_areMomentsSound_68 (by decide) (fun c68 => absurd c68 (by omega)) (fun c68 => ?_) (by omega)
      refine J_iconst dL_areMomentsSound_71 ?_
      refine j_goto 76 dL_areMomentsSound_72 (by decide) ?_
      refine j_aload_n 0 dL_areMomentsSound_76 rfl rfl ?_
      refine j_iload dL_areMomentsSound_77 rfl ?_
      refine J_rd (ck' := 7 * n + 7680 + 4) (sk' := 42 * n + 46080 + 24) kL_134 cvX9_kind hD (r3 h hD) rfl rfl rfl rfl rfl dL_areMomentsSound_79 (by show 1 + _ ≤ _; omega) (by show 6 + _ ≤ _; omega) (fun h hD => ?_)
      refine J_if_ge 89 dL_areMomentsSound_82 (by decide) (fun c82 => absurd c82 (by omega)) (fun c82 => ?_) (by omega)
      refine J_iconst dL_areMomentsSound_85 ?_
      refine j_goto 90 dL_areMomentsSound_86 (by decide) ?_
      refine J_icmp_ne 143 dL_areMomentsSound_90 (by decide) (fun c90 => absurd c90 (by omega)) (fun c90 => ?_) (by omega)
      refine j_aload_n 0 dL_areMomentsSound_93 rfl rfl ?_
      refine j_iload dL_areMomentsSound_94 rfl ?_
      refine J_rd (ck' := 7 * n + 7680 + 3) (sk' := 42 * n + 46080 + 18) kL_134 cvX9_kind hD (r3 h hD) rfl rfl rfl rfl rfl dL_areMomentsSound_96 (by show 1 + _ ≤ _; omega) (by show 6 + _ ≤ _; omega) (fun h hD => ?_)
      refine J_if_ge 106 dL_areMomentsSound_99 (by decide) (fun c99 => absurd c99 (by omega)) (fun c99 => ?_) (by omega)
      refine J_iconst dL_areMomentsSound_102 ?_
      refine j_goto 107 dL_areMomentsSound_103 (by decide) ?_
      refine j_aload_n 0 dL_areMomentsSound_107 rfl rfl ?_
      refine j_iload dL_areMomentsSound_108 rfl ?_
      refine J_rd (ck' := 7 * n + 7680 + 2) (sk' := 42 * n + 46080 + 12) kL_137 cvX9_inversion hD (r4 h hD) rfl rfl rfl rfl rfl dL_areMomentsSound_110 (by show 1 + _ ≤ _; omega) (by show 6 + _ ≤ _; omega) (fun h hD => ?_)
      refine J_if_ge 120 dL_areMomentsSound_113 (by decide) (fun c113 => absurd c113 (by omega)) (fun c113 => ?_) (by omega)
      refine J_iconst dL_areMomentsSound_116 ?_
      refine j_goto 121 dL_areMomentsSound_117 (by decide) ?_
      refine J_icmp_ne 143 dL_areMomentsSound_121 (by decide) (fun c121 => absurd c121 (by omega)) (fun c121 => ?_) (by omega)
      refine j_aload_n 0 dL_areMomentsSound_124 rfl rfl ?_
      refine j_iload dL_areMomentsSound_125 rfl ?_
      refine J_rd (ck' := 7 * n + 7680 + 1) (sk' := 42 * n + 46080 + 6) kL_134 cvX9_kind hD (r3 h hD) rfl rfl rfl rfl rfl dL_areMomentsSound_127 (by show 1 + _ ≤ _; omega) (by show 6 + _ ≤ _; omega) (fun h hD => ?_)
      refine J_iconst dL_areMomentsSound_130 ?_
      refine J_icmp_ne 145 dL_areMomentsSound_131 (by decide) (fun c131 => ?_) (fun c131 => absurd c131 (by omega)) (by omega)
      refine j_iload dL_areMomentsSound_145 rfl ?_
      refine j_istore_n 3 (L' := [(3, _), (5, _), (4, _), (2, _), (1, _), (0, _)]) dL_areMomentsSound_147 rfl rfl rfl ?_
      refine J_iinc (L' := [(4, _), (3, _), (5, _), (2, _), (1, _), (0, _)]) dL_areMomentsSound_148 rfl rfl rfl ?_
      refine j_goto 42 dL_areMomentsSound_151 (by decide) ?_
      refine j_room (ck' := 7 * n + 7680) (sk' := 42 * n + 46080) (by omega) (by omega) ?_
      refine j_locR (ih (i + 1) t h (by omega) (by omega) f8 hD) ?_
      exact ⟨rfl, rfl, rfl, rfl, rfl, True.intro⟩
    · refine j_iload dL_areMomentsSound_42 rfl ?_
      refine j_iload_n 2 dL_areMomentsSound_44 rfl rfl ?_
      refine J_icmp_ge 154 dL_areMomentsSound_45 (by decide) (fun c45 => absurd c45 (by omega)) (fun c45 => ?_) (by omega)
      refine j_aload_n 0 dL_areMomentsSound_48 rfl rfl ?_
      refine j_iload dL_areMomentsSound_49 rfl ?_
      refine J_rd (ck' := 7 * n + 7680 + 6) (sk' := 42 * n + 46080 + 36) kL_128 cvX9_tickOf hD (r1 h hD) rfl rfl rfl rfl rfl dL_areMomentsSound_51 (by show 1 + _ ≤ _; omega) (by show 6 + _ ≤ _; omega) (fun h hD => ?_)
      refine j_istore (L' := [(5, _), (4, _), (3, _), (2, _), (1, _), (0, _)]) dL_areMomentsSound_54 rfl rfl ?_
      refine j_iload dL_areMomentsSound_56 rfl ?_
      refine j_iload_n 3 dL_areMomentsSound_58 rfl rfl ?_
      refine J_icmp_le 143 dL_areMomentsSound_59 (by decide) (fun c59 => absurd c59 (by omega)) (fun c59 => ?_) (by omega)
      refine j_aload_n 0 dL_areMomentsSound_62 rfl rfl ?_
      refine j_iload dL_areMomentsSound_63 rfl ?_
      refine J_rd (ck' := 7 * n + 7680 + 5) (sk' := 42 * n + 46080 + 30) kL_131 cvX9_root hD (r2 h hD) rfl rfl rfl rfl rfl dL_areMomentsSound_65 (by show 1 + _ ≤ _; omega) (by show 6 + _ ≤ _; omega) (fun h hD => ?_)
      refine J_if_ge 75 dL_areMomentsSound_68 (by decide) (fun c68 => ?_) (fun c68 => absurd c68 (by omega)) (by omega)
      refine J_iconst dL_areMomentsSound_75 ?_
      refine j_aload_n 0 dL_areMomentsSound_76 rfl rfl ?_
      refine j_iload dL_areMomentsSound_77 rfl ?_
      refine J_rd (ck' := 7 * n + 7680 + 4) (sk' := 42 * n + 46080 + 24) kL_134 cvX9_kind hD (r3 h hD) rfl rfl rfl rfl rfl dL_areMomentsSound_79 (by show 1 + _ ≤ _; omega) (by show 6 + _ ≤ _; omega) (fun h hD => ?_)
      refine J_if_ge 89 dL_areMomentsSound_82 (by decide) (fun c82 => ?_) (fun c82 => absurd c82 (by omega)) (by omega)
      refine J_iconst dL_areMomentsSound_89 ?_
      refine J_icmp_ne 143 dL_areMomentsSound_90 (by decide) (fun c90 => absurd c90 (by omega)) (fun c90 => ?_) (by omega)
      refine j_aload_n 0 dL_areMomentsSound_93 rfl rfl ?_
      refine j_iload dL_areMomentsSound_94 rfl ?_
      refine J_rd (ck' := 7 * n + 7680 + 3) (sk' := 42 * n + 46080 + 18) kL_134 cvX9_kind hD (r3 h hD) rfl rfl rfl rfl rfl dL_areMomentsSound_96 (by show 1 + _ ≤ _; omega) (by show 6 + _ ≤ _; omega) (fun h hD => ?_)
      refine J_if_ge 106 dL_areMomentsSound_99 (by decide) (fun c99 => ?_) (fun c99 => absurd c99 (by omega)) (by omega)
      refine J_iconst dL_areMomentsSound_106 ?_
      refine j_aload_n 0 dL_areMomentsSound_107 rfl rfl ?_
      refine j_iload dL_areMomentsSound_108 rfl ?_
      refine J_rd (ck' := 7 * n + 7680 + 2) (sk' := 42 * n + 46080 + 12) kL_137 cvX9_inversion hD (r4 h hD) rfl rfl rfl rfl rfl dL_areMomentsSound_110 (by show 1 + _ ≤ _; omega) (by show 6 + _ ≤ _; omega) (fun h hD => ?_)
      refine J_if_ge 120 dL_areMomentsSound_113 (by decide) (fun c113 => ?_) (fun c113 => absurd c113 (by omega)) (by omega)
      refine J_iconst dL_areMomentsSound_120 ?_
      refine J_icmp_ne 143 dL_areMomentsSound_121 (by decide) (fun c121 => absurd c121 (by omega)) (fun c121 => ?_) (by omega)
      refine j_aload_n 0 dL_areMomentsSound_124 rfl rfl ?_
      refine j_iload dL_areMomentsSound_125 rfl ?_
      refine J_rd (ck' := 7 * n + 7680 + 1) (sk' := 42 * n + 46080 + 6) kL_134 cvX9_kind hD (r3 h hD) rfl rfl rfl rfl rfl dL_areMomentsSound_127 (by show 1 + _ ≤ _; omega) (by show 6 + _ ≤ _; omega) (fun h hD => ?_)
      refine J_iconst dL_areMomentsSound_130 ?_
      refine J_icmp_ne 145 dL_areMomentsSound_131 (by decide) (fun c131 => ?_) (fun c131 => ?_) (by omega)
      · refine j_iload dL_areMomentsSound_145 rfl ?_
        refine j_istore_n 3 (L' := [(3, _), (5, _), (4, _), (2, _), (1, _), (0, _)]) dL_areMomentsSound_147 rfl rfl rfl ?_
        refine J_iinc (L' := [(4, _), (3, _), (5, _), (2, _), (1, _), (0, _)]) dL_areMomentsSound_148 rfl rfl rfl ?_
        refine j_goto 42 dL_areMomentsSound_151 (by decide) ?_
        refine j_room (ck' := 7 * n + 7680) (sk' := 42 * n + 46080) (by omega) (by omega) ?_
        refine j_locR (ih (i + 1) t h (by omega) (by omega) f8 hD) ?_
        exact ⟨rfl, rfl, rfl, rfl, rfl, True.intro⟩
      · refine j_aload_n 0 dL_areMomentsSound_134 rfl rfl ?_
        refine j_iload dL_areMomentsSound_135 rfl ?_
        refine J_rd (ck' := 7 * n + 7680 + 0) (sk' := 42 * n + 46080 + 0) kL_137 cvX9_inversion hD (r4 h hD) rfl rfl rfl rfl rfl dL_areMomentsSound_137 (by show 1 + _ ≤ _; omega) (by show 6 + _ ≤ _; omega) (fun h hD => ?_)
        refine J_if_eq 145 dL_areMomentsSound_140 (by decide) (fun c140 => ?_) (fun c140 => absurd c140 (by omega)) (by omega)
        refine j_iload dL_areMomentsSound_145 rfl ?_
        refine j_istore_n 3 (L' := [(3, _), (5, _), (4, _), (2, _), (1, _), (0, _)]) dL_areMomentsSound_147 rfl rfl rfl ?_
        refine J_iinc (L' := [(4, _), (3, _), (5, _), (2, _), (1, _), (0, _)]) dL_areMomentsSound_148 rfl rfl rfl ?_
        refine j_goto 42 dL_areMomentsSound_151 (by decide) ?_
        refine j_room (ck' := 7 * n + 7680) (sk' := 42 * n + 46080) (by omega) (by omega) ?_
        refine j_locR (ih (i + 1) t h (by omega) (by omega) f8 hD) ?_
        exact ⟨rfl, rfl, rfl, rfl, rfl, True.intro⟩
set_option maxRecDepth 100000 in
theorem c_L_areMomentsSound {l : Launch} {G : jG} {a : Nat} {d : DA} {P : Nat → OS} {p0 : OS} {Z : Nat → Nat} (hl0 : l.stackTraces = false) (hZ : Dz a d Z) (hM : MomOK P) (hF : FauLs P) {h : jH} (hD : DD G a d P p0 h) : jC l G yL_areMomentsSound zL_areMomentsSound [.ref a] h (jW (oI 1) (DD G a d P p0)) := by
  have n0 : 0 ≤ (P 0).1 7 ∧ (P 0).1 7 ≤ cntM P := hM.1 0 (by omega)
  have n1 : 0 ≤ (P 1).1 7 ∧ (P 1).1 7 ≤ cntM P := hM.1 1 (by omega)
  have n2 : 0 ≤ (P 2).1 7 ∧ (P 2).1 7 ≤ cntM P := hM.1 2 (by omega)
  have n3 : 0 ≤ (P 3).1 7 ∧ (P 3).1 7 ≤ cntM P := hM.1 3 (by omega)
  have nc := hM.2.1
  have r0 := fun h (hD : DD G a d P p0 h) => r_events (l := l) (k := 0) hl0 hZ hD (by omega)
  have r1 := fun h (hD : DD G a d P p0 h) => r_events (l := l) (k := 0 + 1) hl0 hZ hD (by omega)
  have r2 := fun h (hD : DD G a d P p0 h) => r_events (l := l) (k := 0 + 1 + 1) hl0 hZ hD (by omega)
  have r3 := fun h (hD : DD G a d P p0 h) => r_events (l := l) (k := 0 + 1 + 1 + 1) hl0 hZ hD (by omega)
  change ∀ h, _ → jC _ _ _ _ _ _ (jW (oI ((P 0).1 7)) _) at r0
  change ∀ h, _ → jC _ _ _ _ _ _ (jW (oI ((P 1).1 7)) _) at r1
  change ∀ h, _ → jC _ _ _ _ _ _ (jW (oI ((P 2).1 7)) _) at r2
  change ∀ h, _ → jC _ _ _ _ _ _ (jW (oI ((P 3).1 7)) _) at r3
  refine j_body (by decide +kernel) ⟨rfl, rfl⟩ rfl ?_
  refine j_room (ck' := 11272) (sk' := 67632) (Nat.le_refl _) (Nat.le_refl _) ?_
  refine J_iconst dL_areMomentsSound_0 ?_
  refine j_istore_n 1 (L' := [(1, _), (0, _)]) dL_areMomentsSound_1 rfl rfl rfl ?_
  refine J_iconst dL_areMomentsSound_2 ?_
  refine j_istore_n 2 (L' := [(2, _), (1, _), (0, _)]) dL_areMomentsSound_3 rfl rfl rfl ?_
  refine j_iload_n 2 dL_areMomentsSound_4 rfl rfl ?_
  refine J_iconst dL_areMomentsSound_5 ?_
  refine J_icmp_ge 25 dL_areMomentsSound_6 (by decide) (fun c6 => absurd c6 (by omega)) (fun c6 => ?_) (by omega)
  refine j_iload_n 1 dL_areMomentsSound_9 rfl rfl ?_
  refine j_aload_n 0 dL_areMomentsSound_10 rfl rfl ?_
  refine j_iload_n 2 dL_areMomentsSound_11 rfl rfl ?_
  refine J_rd (ck' := 11271) (sk' := 67626) kL_62 cvX9_events hD (r0 h hD) rfl rfl rfl rfl rfl dL_areMomentsSound_12 (by show 1 + _ ≤ _; omega) (by show 6 + _ ≤ _; omega) (fun h hD => ?_)
  refine J_mmax kL_65 rfl rfl dL_areMomentsSound_15 ?_ (by omega)
  refine j_istore_n 1 (L' := [(1, _), (2, _), (0, _)]) dL_areMomentsSound_18 rfl rfl rfl ?_
  refine J_iinc (L' := [(2, _), (1, _), (0, _)]) dL_areMomentsSound_19 rfl rfl rfl ?_
  refine j_goto 4 dL_areMomentsSound_22 (by decide) ?_
  refine j_iload_n 2 dL_areMomentsSound_4 rfl rfl ?_
  refine J_iconst dL_areMomentsSound_5 ?_
  refine J_icmp_ge 25 dL_areMomentsSound_6 (by decide) (fun c6 => absurd c6 (by omega)) (fun c6 => ?_) (by omega)
  refine j_iload_n 1 dL_areMomentsSound_9 rfl rfl ?_
  refine j_aload_n 0 dL_areMomentsSound_10 rfl rfl ?_
  refine j_iload_n 2 dL_areMomentsSound_11 rfl rfl ?_
  refine J_rd (ck' := 11270) (sk' := 67620) kL_62 cvX9_events hD (r1 h hD) rfl rfl rfl rfl rfl dL_areMomentsSound_12 (by show 1 + _ ≤ _; omega) (by show 6 + _ ≤ _; omega) (fun h hD => ?_)
  refine J_mmax kL_65 rfl rfl dL_areMomentsSound_15 ?_ (by omega)
  refine j_istore_n 1 (L' := [(1, _), (2, _), (0, _)]) dL_areMomentsSound_18 rfl rfl rfl ?_
  refine J_iinc (L' := [(2, _), (1, _), (0, _)]) dL_areMomentsSound_19 rfl rfl rfl ?_
  refine j_goto 4 dL_areMomentsSound_22 (by decide) ?_
  refine j_iload_n 2 dL_areMomentsSound_4 rfl rfl ?_
  refine J_iconst dL_areMomentsSound_5 ?_
  refine J_icmp_ge 25 dL_areMomentsSound_6 (by decide) (fun c6 => absurd c6 (by omega)) (fun c6 => ?_) (by omega)
  refine j_iload_n 1 dL_areMomentsSound_9 rfl rfl ?_
  refine j_aload_n 0 dL_areMomentsSound_10 rfl rfl ?_
  refine j_iload_n 2 dL_areMomentsSound_11 rfl rfl ?_
  refine J_rd (ck' := 11269) (sk' := 67614) kL_62 cvX9_events hD (r2 h hD) rfl rfl rfl rfl rfl dL_areMomentsSound_12 (by show 1 + _ ≤ _; omega) (by show 6 + _ ≤ _; omega) (fun h hD => ?_)
  refine J_mmax kL_65 rfl rfl dL_areMomentsSound_15 ?_ (by omega)
  refine j_istore_n 1 (L' := [(1, _), (2, _), (0, _)]) dL_areMomentsSound_18 rfl rfl rfl ?_
  refine J_iinc (L' := [(2, _), (1, _), (0, _)]) dL_areMomentsSound_19 rfl rfl rfl ?_
  refine j_goto 4 dL_areMomentsSound_22 (by decide) ?_
  refine j_iload_n 2 dL_areMomentsSound_4 rfl rfl ?_
  refine J_iconst dL_areMomentsSound_5 ?_
  refine J_icmp_ge 25 dL_areMomentsSound_6 (by decide) (fun c6 => absurd c6 (by omega)) (fun c6 => ?_) (by omega)
  refine j_iload_n 1 dL_areMomentsSound_9 rfl rfl ?_
  refine j_aload_n 0 dL_areMomentsSound_10 rfl rfl ?_
  refine j_iload_n 2 dL_areMomentsSound_11 rfl rfl ?_
  refine J_rd (ck' := 11268) (sk' := 67608) kL_62 cvX9_events hD (r3 h hD) rfl rfl rfl rfl rfl dL_areMomentsSound_12 (by show 1 + _ ≤ _; omega) (by show 6 + _ ≤ _; omega) (fun h hD => ?_)
  refine J_mmax kL_65 rfl rfl dL_areMomentsSound_15 ?_ (by omega)
  refine j_istore_n 1 (L' := [(1, _), (2, _), (0, _)]) dL_areMomentsSound_18 rfl rfl rfl ?_
  refine J_iinc (L' := [(2, _), (1, _), (0, _)]) dL_areMomentsSound_19 rfl rfl rfl ?_
  refine j_goto 4 dL_areMomentsSound_22 (by decide) ?_
  refine j_iload_n 2 dL_areMomentsSound_4 rfl rfl ?_
  refine J_iconst dL_areMomentsSound_5 ?_
  refine J_icmp_ge 25 dL_areMomentsSound_6 (by decide) (fun c6 => ?_) (fun c6 => absurd c6 (by omega)) (by omega)
  refine j_aload_n 0 dL_areMomentsSound_25 rfl rfl ?_
  refine J_rd (ck' := 11268) (sk' := 67608) kL_124 cvX9_moments hD (r_moments hl0 hZ hD) rfl rfl rfl rfl rfl dL_areMomentsSound_26 (by show 0 + _ ≤ _; omega) (by show 0 + _ ≤ _; omega) (fun h hD => ?_)
  refine j_istore_n 2 (L' := [(2, _), (1, _), (0, _)]) dL_areMomentsSound_29 rfl rfl rfl ?_
  refine j_iload_n 2 dL_areMomentsSound_30 rfl rfl ?_
  refine j_iload_n 1 dL_areMomentsSound_31 rfl rfl ?_
  refine J_icmp_ge 37 dL_areMomentsSound_32 (by decide) (fun c32 => ?_) (fun c32 => absurd c32 (by omega)) (by omega)
  refine J_iconst dL_areMomentsSound_37 ?_
  refine j_istore_n 3 (L' := [(3, _), (2, _), (1, _), (0, _)]) dL_areMomentsSound_38 rfl rfl rfl ?_
  refine J_iconst dL_areMomentsSound_39 ?_
  refine j_istore (L' := [(4, _), (3, _), (2, _), (1, _), (0, _)]) dL_areMomentsSound_40 rfl rfl ?_
  refine j_room (ck' := 7 * cntM P + 7680) (sk' := 42 * cntM P + 46080) (show _ ≤ 11268 by omega) (show _ ≤ 67608 by omega) ?_
  refine j_locR (mom_l2 (x1 := max (max (max (max 0 ((P 0).1 7)) ((P 1).1 7)) ((P 2).1 7)) ((P 3).1 7)) hl0 hZ hM hF (cntM P) 0 (-1) h (by omega) (by omega) (fun j _ hj => by have := hM.2.2.1 j hj; omega) hD) ?_
  exact ⟨rfl, rfl, rfl, rfl, rfl, True.intro⟩
