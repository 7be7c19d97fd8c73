/-! lines: what the law asks of them -/
def cstB (W : Int → Int) (s w b : Int) : Int := if b = s - 1 ∧ W b ≤ w then 0 else (w - W b) * (w - W b)
def LinOK (W O : Int → Int) (s w n c : Int) : Prop := (0 ≤ s ∧ s ≤ 24) ∧ (∀ b : Int, isBar b → 6 ≤ W b ∧ W b ≤ 774) ∧ (∀ b : Int, 0 ≤ b → b < s → 0 ≤ O b ∧ O b ≤ 23) ∧ (∀ b : Int, s ≤ b → b < 24 → O b = -1) ∧ (0 < s → O 0 = 0) ∧ (∀ b : Int, 0 ≤ b → b + 1 < s → O b ≤ O (b + 1) ∧ O (b + 1) ≤ O b + 1) ∧ (s = 0 → n = 0) ∧ (0 < s → n = O (s - 1) + 1) ∧ 0 ≤ c ∧ c ≤ sumN (cstB W s w) s.toNat
theorem sq_rg {x : Int} (h : -774 ≤ x ∧ x ≤ 774) : 0 ≤ x * x ∧ x * x ≤ 599076 := by
  have e : x * x = (x.natAbs : Int) * (x.natAbs : Int) := (Int.natAbs_mul_self (a := x)).symm
  have h2 : x.natAbs ≤ 774 := by omega
  have h3 : x.natAbs * x.natAbs ≤ 774 * 774 := Nat.mul_le_mul h2 h2
  have h4 : ((x.natAbs * x.natAbs : Nat) : Int) = (x.natAbs : Int) * (x.natAbs : Int) := by simp
  rw [e, ← h4]
  constructor
  · exact Int.natCast_nonneg _
  · have : ((x.natAbs * x.natAbs : Nat) : Int) ≤ ((774 * 774 : Nat) : Int) := Int.ofNat_le.mpr h3
    omega
theorem cstB_rg {W : Int → Int} {s w b : Int} (hW : 6 ≤ W b ∧ W b ≤ 774) (hw : 10 ≤ w ∧ w ≤ 400) : 0 ≤ cstB W s w b ∧ cstB W s w b ≤ 599076 := by
  unfold cstB
  split
  · omega
  · exact sq_rg (by omega)
abbrev linQ (G : jG) (a : Nat) (d : DA) (P : Nat → OS) (p0 : OS) : jF := jQ G zL_areLinesSound (jW (oI 1) (DD G a d P p0))
set_option maxRecDepth 100000 in
theorem lin_loop {l : Launch} {G : jG} {a : Nat} {d : DA} {P : Nat → OS} {p0 : OS} {W O : Int → Int} {s w n c : Int} (hw : 10 ≤ w ∧ w ≤ 400) (rO : ∀ (h : jH) (b : Int), DD G a d P p0 h → isBar b → jC l G yX9_lineOf mX9_lineOf [.ref a, vI w, vI b] h (jW (oI (O b)) (DD G a d P p0))) (rW : ∀ (h : jH) (b : Int), DD G a d P p0 h → isBar b → jC l G yX9_widthOf mX9_widthOf [.ref a, vI b] h (jW (oI (W b)) (DD G a d P p0))) (rN : ∀ h : jH, DD G a d P p0 h → jC l G yX9_lines mX9_lines [.ref a, vI w] h (jW (oI n) (DD G a d P p0))) (rC : ∀ h : jH, DD G a d P p0 h → jC l G yX9_costOf mX9_costOf [.ref a, vI w] h (jW (oI c) (DD G a d P p0))) (hL : LinOK W O s w n c) : ∀ (m : Nat) (i x y : Int) (h : jH), i + m = 24 → 0 ≤ i → (i = 0 ∨ s = 0 → x = -1) → (0 < i → 0 < s → x = O (min i s - 1)) → y = sumN (cstB W s w) (min i s).toNat → DD G a d P p0 h → J l G zL_areLinesSound (linQ G a d P p0) (3 * m + 2) (18 * m + 12) 13 [(5, vI i), (4, vI x), (3, vI y), (2, vI s), (0, .ref a), (1, vI w)] [] h := by
  obtain ⟨h1, h2, h3, h4, h5, h6, h7, h8, h9, h10⟩ := hL
  have hS : ∀ k : Nat, k ≤ 24 → 0 ≤ sumN (cstB W s w) k ∧ sumN (cstB W s w) k ≤ 14377824 := fun k hk => by
    have g := sumN_rg (f := cstB W s w) (c := 599076) k (fun j a b => cstB_rg (h2 j ⟨a, by omega⟩) hw)
    omega
  intro m
  induction m with
  | zero =>
    intro i x y h hi h0 hx1 hx2 hy hD
    obtain rfl : i = 24 := by omega
    have hSs := hS s.toNat (by omega)
    rw [show min 24 s = s by omega] at hy
    have hx : n = x + 1 ∧ -1 ≤ x ∧ x ≤ 23 := by
      by_cases z : s = 0
      · have := h7 z; have := hx1 (Or.inr z); omega
      · have a1 := h8 (by omega); have a2 := hx2 (by omega) (by omega); have a3 := h3 (s - 1) (by omega) (by omega)
        rw [show min 24 s - 1 = s - 1 by omega] at a2
        omega
    generalize sumN (cstB W s w) s.toNat = t at hy hSs h10
    subst hy
    refine j_iload dL_areLinesSound_13 rfl ?_
    refine J_bipush dL_areLinesSound_15 (by decide) ?_
    refine J_icmp_ge 146 dL_areLinesSound_17 (by decide) (fun c17 => ?_) (fun c17 => absurd c17 (by omega)) (by omega)
    refine j_aload_n 0 dL_areLinesSound_146 rfl rfl ?_
    refine j_iload_n 1 dL_areLinesSound_147 rfl rfl ?_
    refine J_rd (ck' := 1) (sk' := 6) kL_161 cvX9_lines hD (rN h hD) rfl rfl rfl rfl rfl dL_areLinesSound_148 (by show 1 + _ ≤ _; omega) (by show 6 + _ ≤ _; omega) (fun h hD => ?_)
    refine j_iload dL_areLinesSound_151 rfl ?_
    refine J_iconst dL_areLinesSound_153 ?_
    refine J_iadd dL_areLinesSound_154 ?_
    refine J_icmp_ne 171 dL_areLinesSound_155 (by decide) (fun c155 => absurd c155 (by omega)) (fun c155 => ?_) (by omega)
    refine j_aload_n 0 dL_areLinesSound_158 rfl rfl ?_
    refine j_iload_n 1 dL_areLinesSound_159 rfl rfl ?_
    refine J_rd (ck' := 0) (sk' := 0) kL_164 cvX9_costOf hD (rC h hD) rfl rfl rfl rfl rfl dL_areLinesSound_160 (by show 1 + _ ≤ _; omega) (by show 6 + _ ≤ _; omega) (fun h hD => ?_)
    refine j_iload_n 3 dL_areLinesSound_163 rfl rfl ?_
    refine J_icmp_gt 171 dL_areLinesSound_164 (by decide) (fun c164 => absurd c164 (by omega)) (fun c164 => ?_) (by omega)
    refine J_iconst dL_areLinesSound_167 ?_
    refine j_goto 172 dL_areLinesSound_168 (by decide) ?_
    exact j_zret rfl rfl dL_areLinesSound_172 ⟨rfl, hD⟩
  | succ m ih =>
    intro i x y h hi h0 hx1 hx2 hy hD
    have hb : isBar i := ⟨h0, by omega⟩
    have hWi := h2 i hb
    have hSi := hS (min i s).toNat (by omega)
    by_cases cs : i < s
    · have hO := h3 i h0 cs
      have hx : x ≤ O i ∧ O i ≤ x + 1 ∧ -1 ≤ x := by
        by_cases z : i = 0
        · have := hx1 (Or.inl z); have := h5 (by omega); subst z; omega
        · have a1 := hx2 (by omega) (by omega)
          have a2 := h6 (i - 1) (by omega) (by omega)
          have a3 := h3 (i - 1) (by omega) (by omega)
          rw [show min i s - 1 = i - 1 by omega] at a1
          rw [show i - 1 + 1 = i by omega] at a2
          omega
      have ey : sumN (cstB W s w) (min (i + 1) s).toNat = y + cstB W s w i := by
        rw [hy, show min (i + 1) s = i + 1 by omega, show min i s = i by omega]
        exact sumN_succ h0
      have eO : max x (O i) = O (min (i + 1) s - 1) := by rw [show min (i + 1) s - 1 = i by omega]; omega
      have K138 : ∀ (h : jH) (v : Int), v = cstB W s w i → DD G a d P p0 h → J l G zL_areLinesSound (linQ G a d P p0) (3 * m + 2) (18 * m + 12) 138 [(7, vI (W i)), (4, vI (max x (O i))), (6, vI (O i)), (5, vI i), (3, vI y), (2, vI s), (0, .ref a), (1, vI w)] [vI v, vI y] h := by
        intro h v hv hD
        refine J_iadd dL_areLinesSound_138 ?_
        refine j_istore_n 3 (L' := [(3, _), (7, _), (4, _), (6, _), (5, _), (2, _), (0, _), (1, _)]) dL_areLinesSound_139 rfl rfl rfl ?_
        refine J_iinc (L' := [(5, _), (3, _), (7, _), (4, _), (6, _), (2, _), (0, _), (1, _)]) dL_areLinesSound_140 rfl rfl rfl ?_
        refine j_goto 13 dL_areLinesSound_143 (by decide) ?_
        refine j_room (ck' := 3 * m + 2) (sk' := 18 * m + 12) (by omega) (by omega) ?_
        refine j_locR (ih (i + 1) (max x (O i)) (y + v) h (by omega) (by omega) (fun z => absurd z (by omega)) (fun _ _ => eO) (by rw [hv, ey]) hD) ?_
        repeat' (first | exact True.intro | refine And.intro rfl ?_)
      refine j_iload dL_areLinesSound_13 rfl ?_
      refine J_bipush dL_areLinesSound_15 (by decide) ?_
      refine J_icmp_ge 146 dL_areLinesSound_17 (by decide) (fun c17 => absurd c17 (by omega)) (fun c17 => ?_) (by omega)
      refine j_aload_n 0 dL_areLinesSound_20 rfl rfl ?_
      refine j_iload_n 1 dL_areLinesSound_21 rfl rfl ?_
      refine j_iload dL_areLinesSound_22 rfl ?_
      refine J_rd (ck' := 3 * m + 2 + 2) (sk' := 18 * m + 12 + 12) kL_155 cvX9_lineOf hD (rO h i hD hb) rfl rfl rfl rfl rfl dL_areLinesSound_24 (by show 1 + _ ≤ _; omega) (by show 6 + _ ≤ _; omega) (fun h hD => ?_)
      refine j_istore (L' := [(6, _), (5, _), (4, _), (3, _), (2, _), (0, _), (1, _)]) dL_areLinesSound_27 rfl rfl ?_
      refine j_iload dL_areLinesSound_29 rfl ?_
      refine J_if_lt 38 dL_areLinesSound_31 (by decide) (fun c31 => absurd c31 (by omega)) (fun c31 => ?_) (by omega)
      refine J_iconst dL_areLinesSound_34 ?_
      refine j_goto 39 dL_areLinesSound_35 (by decide) ?_
      refine j_iload dL_areLinesSound_39 rfl ?_
      refine j_iload_n 2 dL_areLinesSound_41 rfl rfl ?_
      refine J_icmp_ge 49 dL_areLinesSound_42 (by decide) (fun c42 => absurd c42 (by omega)) (fun c42 => ?_) (by omega)
      refine J_iconst dL_areLinesSound_45 ?_
      refine j_goto 50 dL_areLinesSound_46 (by decide) ?_
      refine J_icmp_ne 85 dL_areLinesSound_50 (by decide) (fun c50 => absurd c50 (by omega)) (fun c50 => ?_) (by omega)
      refine j_iload dL_areLinesSound_53 rfl ?_
      refine J_if_lt 74 dL_areLinesSound_55 (by decide) (fun c55 => absurd c55 (by omega)) (fun c55 => ?_) (by omega)
      refine j_iload dL_areLinesSound_58 rfl ?_
      refine j_iload dL_areLinesSound_60 rfl ?_
      refine J_icmp_lt 85 dL_areLinesSound_62 (by decide) (fun c62 => absurd c62 (by omega)) (fun c62 => ?_) (by omega)
      refine j_iload dL_areLinesSound_65 rfl ?_
      refine j_iload dL_areLinesSound_67 rfl ?_
      refine J_iconst dL_areLinesSound_69 ?_
      refine J_iadd dL_areLinesSound_70 ?_
      refine J_icmp_gt 85 dL_areLinesSound_71 (by decide) (fun c71 => absurd c71 (by omega)) (fun c71 => ?_) (by omega)
      refine j_aload_n 0 dL_areLinesSound_74 rfl rfl ?_
      refine j_iload dL_areLinesSound_75 rfl ?_
      refine J_rd (ck' := 3 * m + 2 + 1) (sk' := 18 * m + 12 + 6) kL_158 cvX9_widthOf hD (rW h i hD hb) rfl rfl rfl rfl rfl dL_areLinesSound_77 (by show 1 + _ ≤ _; omega) (by show 6 + _ ≤ _; omega) (fun h hD => ?_)
      refine J_bipush dL_areLinesSound_80 (by decide) ?_
      refine J_icmp_ge 87 dL_areLinesSound_82 (by decide) (fun c82 => ?_) (fun c82 => absurd c82 (by omega)) (by omega)
      refine j_iload dL_areLinesSound_87 rfl ?_
      refine j_iload dL_areLinesSound_89 rfl ?_
      refine J_mmax kL_65 rfl rfl dL_areLinesSound_91 ?_ (by omega)
      refine j_istore (L' := [(4, _), (6, _), (5, _), (3, _), (2, _), (0, _), (1, _)]) dL_areLinesSound_94 rfl rfl ?_
      refine j_aload_n 0 dL_areLinesSound_96 rfl rfl ?_
      refine j_iload dL_areLinesSound_97 rfl ?_
      refine J_rd (ck' := 3 * m + 2 + 0) (sk' := 18 * m + 12 + 0) kL_158 cvX9_widthOf hD (rW h i hD hb) rfl rfl rfl rfl rfl dL_areLinesSound_99 (by show 1 + _ ≤ _; omega) (by show 6 + _ ≤ _; omega) (fun h hD => ?_)
      refine j_istore (L' := [(7, _), (4, _), (6, _), (5, _), (3, _), (2, _), (0, _), (1, _)]) dL_areLinesSound_102 rfl rfl ?_
      refine j_iload dL_areLinesSound_104 rfl ?_
      refine j_iload_n 2 dL_areLinesSound_106 rfl rfl ?_
      refine J_icmp_ge 140 dL_areLinesSound_107 (by decide) (fun c107 => absurd c107 (by omega)) (fun c107 => ?_) (by omega)
      refine j_iload_n 3 dL_areLinesSound_110 rfl rfl ?_
      refine j_iload dL_areLinesSound_111 rfl ?_
      refine j_iload_n 2 dL_areLinesSound_113 rfl rfl ?_
      refine J_iconst dL_areLinesSound_114 ?_
      refine J_isub dL_areLinesSound_115 ?_
      refine J_icmp_ne 129 dL_areLinesSound_116 (by decide) (fun c116 => ?_) (fun c116 => ?_) (by omega)
      · refine j_iload_n 1 dL_areLinesSound_129 rfl rfl ?_
        refine j_iload dL_areLinesSound_130 rfl ?_
        refine J_isub dL_areLinesSound_132 ?_
        refine j_iload_n 1 dL_areLinesSound_133 rfl rfl ?_
        refine j_iload dL_areLinesSound_134 rfl ?_
        refine J_isub dL_areLinesSound_136 ?_
        refine J_imul dL_areLinesSound_137 ?_
        exact K138 h _ (by unfold cstB; rw [if_neg (fun z => c116 z.1)]) hD
      · refine j_iload dL_areLinesSound_119 rfl ?_
        refine j_iload_n 1 dL_areLinesSound_121 rfl rfl ?_
        refine J_icmp_gt 129 dL_areLinesSound_122 (by decide) (fun c122 => ?_) (fun c122 => ?_) (by omega)
        · refine j_iload_n 1 dL_areLinesSound_129 rfl rfl ?_
          refine j_iload dL_areLinesSound_130 rfl ?_
          refine J_isub dL_areLinesSound_132 ?_
          refine j_iload_n 1 dL_areLinesSound_133 rfl rfl ?_
          refine j_iload dL_areLinesSound_134 rfl ?_
          refine J_isub dL_areLinesSound_136 ?_
          refine J_imul dL_areLinesSound_137 ?_
          exact K138 h _ (by unfold cstB; rw [if_neg (fun z => absurd z.2 (by omega))]) hD
        · refine J_iconst dL_areLinesSound_125 ?_
          refine j_goto 138 dL_areLinesSound_126 (by decide) ?_
          exact K138 h _ (by unfold cstB; rw [if_pos ⟨c116, by omega⟩]) hD
    · have hO := h4 i (by omega) (by omega)
      have ey : sumN (cstB W s w) (min (i + 1) s).toNat = y := by rw [hy, show min (i + 1) s = min i s by omega]
      have hx : -1 ≤ x ∧ x ≤ 23 := by
        by_cases z : i = 0 ∨ s = 0
        · have := hx1 z; omega
        · have a1 := hx2 (by omega) (by omega); have a3 := h3 (min i s - 1) (by omega) (by omega); omega
      have eO : max x (O i) = x := by omega
      refine j_iload dL_areLinesSound_13 rfl ?_
      refine J_bipush dL_areLinesSound_15 (by decide) ?_
      refine J_icmp_ge 146 dL_areLinesSound_17 (by decide) (fun c17 => absurd c17 (by omega)) (fun c17 => ?_) (by omega)
      refine j_aload_n 0 dL_areLinesSound_20 rfl rfl ?_
      refine j_iload_n 1 dL_areLinesSound_21 rfl rfl ?_
      refine j_iload dL_areLinesSound_22 rfl ?_
      refine J_rd (ck' := 3 * m + 2 + 2) (sk' := 18 * m + 12 + 12) kL_155 cvX9_lineOf hD (rO h i hD hb) rfl rfl rfl rfl rfl dL_areLinesSound_24 (by show 1 + _ ≤ _; omega) (by show 6 + _ ≤ _; omega) (fun h hD => ?_)
      refine j_istore (L' := [(6, _), (5, _), (4, _), (3, _), (2, _), (0, _), (1, _)]) dL_areLinesSound_27 rfl rfl ?_
      refine j_iload dL_areLinesSound_29 rfl ?_
      refine J_if_lt 38 dL_areLinesSound_31 (by decide) (fun c31 => ?_) (fun c31 => absurd c31 (by omega)) (by omega)
      refine J_iconst dL_areLinesSound_38 ?_
      refine j_iload dL_areLinesSound_39 rfl ?_
      refine j_iload_n 2 dL_areLinesSound_41 rfl rfl ?_
      refine J_icmp_ge 49 dL_areLinesSound_42 (by decide) (fun c42 => ?_) (fun c42 => absurd c42 (by omega)) (by omega)
      refine J_iconst dL_areLinesSound_49 ?_
      refine J_icmp_ne 85 dL_areLinesSound_50 (by decide) (fun c50 => absurd c50 (by omega)) (fun c50 => ?_) (by omega)
      refine j_iload dL_areLinesSound_53 rfl ?_
      refine J_if_lt 74 dL_areLinesSound_55 (by decide) (fun c55 => ?_) (fun c55 => absurd c55 (by omega)) (by omega)
      refine j_aload_n 0 dL_areLinesSound_74 rfl rfl ?_
      refine j_iload dL_areLinesSound_75 rfl ?_
      refine J_rd (ck' := 3 * m + 2 + 1) (sk' := 18 * m + 12 + 6) kL_158 cvX9_widthOf hD (rW h i hD hb) rfl rfl rfl rfl rfl dL_areLinesSound_77 (by show 1 + _ ≤ _; omega) (by show 6 + _ ≤ _; omega) (fun h hD => ?_)
      refine J_bipush dL_areLinesSound_80 (by decide) ?_
      refine J_icmp_ge 87 dL_areLinesSound_82 (by decide) (fun c82 => ?_) (fun c82 => absurd c82 (by omega)) (by omega)
      refine j_iload dL_areLinesSound_87 rfl ?_
      refine j_iload dL_areLinesSound_89 rfl ?_
      refine J_mmax kL_65 rfl rfl dL_areLinesSound_91 ?_ (by omega)
      refine j_istore (L' := [(4, _), (6, _), (5, _), (3, _), (2, _), (0, _), (1, _)]) dL_areLinesSound_94 rfl rfl ?_
      refine j_aload_n 0 dL_areLinesSound_96 rfl rfl ?_
      refine j_iload dL_areLinesSound_97 rfl ?_
      refine J_rd (ck' := 3 * m + 2 + 0) (sk' := 18 * m + 12 + 0) kL_158 cvX9_widthOf hD (rW h i hD hb) rfl rfl rfl rfl rfl dL_areLinesSound_99 (by show 1 + _ ≤ _; omega) (by show 6 + _ ≤ _; omega) (fun h hD => ?_)
      refine j_istore (L' := [(7, _), (4, _), (6, _), (5, _), (3, _), (2, _), (0, _), (1, _)]) dL_areLinesSound_102 rfl rfl ?_
      refine j_iload dL_areLinesSound_104 rfl ?_
      refine j_iload_n 2 dL_areLinesSound_106 rfl rfl ?_
      refine J_icmp_ge 140 dL_areLinesSound_107 (by decide) (fun c107 => ?_) (fun c107 => absurd c107 (by omega)) (by omega)
      refine J_iinc (L' := [(5, _), (7, _), (4, _), (6, _), (3, _), (2, _), (0, _), (1, _)]) dL_areLinesSound_140 rfl rfl rfl ?_
      refine j_goto 13 dL_areLinesSound_143 (by decide) ?_
      refine j_room (ck' := 3 * m + 2) (sk' := 18 * m + 12) (by omega) (by omega) ?_
      refine j_locR (ih (i + 1) (max x (O i)) y h (by omega) (by omega) (fun z => by rw [eO]; exact hx1 (by omega)) (fun _ z => by rw [eO, show min (i + 1) s = min i s by omega]; exact hx2 (by omega) z) ey.symm hD) ?_
      repeat' (first | exact True.intro | refine And.intro rfl ?_)
set_option maxRecDepth 100000 in
theorem c_L_areLinesSound {l : Launch} {G : jG} {a : Nat} {d : DA} {P : Nat → OS} {p0 : OS} {Z : Nat → Nat} {w : Int} (hl0 : l.stackTraces = false) (hZ : Dz a d Z) (hw : 10 ≤ w ∧ w ≤ 400) (hL : LinOK (widF P p0) ((lnP P p0 (barsA P p0) w).2 3) (barsA P p0) w ((lnP P p0 (barsA P p0) w).1 4) ((lnP P p0 (barsA P p0) w).2 1 0)) {h : jH} (hD : DD G a d P p0 h) : jC l G yL_areLinesSound zL_areLinesSound [.ref a, vI w] h (jW (oI 1) (DD G a d P p0)) := by
  refine j_body (by decide +kernel) ⟨rfl, rfl⟩ rfl ?_
  refine j_room (ck' := 74) (sk' := 444) (Nat.le_of_ble_eq_true rfl) (Nat.le_of_ble_eq_true rfl) ?_
  refine j_aload_n 0 dL_areLinesSound_0 rfl rfl ?_
  refine J_rd (ck' := 74) (sk' := 444) kL_152 cvX9_bars hD (r_bars hl0 hZ hD) rfl rfl rfl rfl rfl dL_areLinesSound_1 (by show 0 + _ ≤ _; omega) (by show 0 + _ ≤ _; omega) (fun h hD => ?_)
  refine j_istore_n 2 (L' := [(2, _), (0, _), (1, _)]) dL_areLinesSound_4 rfl rfl rfl ?_
  refine J_iconst dL_areLinesSound_5 ?_
  refine j_istore_n 3 (L' := [(3, _), (2, _), (0, _), (1, _)]) dL_areLinesSound_6 rfl rfl rfl ?_
  refine J_iconst dL_areLinesSound_7 ?_
  refine j_istore (L' := [(4, _), (3, _), (2, _), (0, _), (1, _)]) dL_areLinesSound_8 rfl rfl ?_
  refine J_iconst dL_areLinesSound_10 ?_
  refine j_istore (L' := [(5, _), (4, _), (3, _), (2, _), (0, _), (1, _)]) dL_areLinesSound_11 rfl rfl ?_
  refine j_locR (lin_loop hw (fun h b hD hb => r_lineOf hl0 hZ hD hw hb) (fun h b hD hb => r_widthOf hl0 hZ hD hb) (fun h hD => r_lines hl0 hZ hD hw) (fun h hD => r_costOf hl0 hZ hD hw) hL 24 0 (-1) 0 h (by omega) (by omega) (fun _ => rfl) (fun z => absurd z (by omega)) (by have := hL.1; rw [show min 0 (barsA P p0) = 0 by omega]; rfl) hD) ?_
  repeat' (first | exact True.intro | refine And.intro rfl ?_)
