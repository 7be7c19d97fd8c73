def misF (p6 p0 : OS) (b : Int) : Int := max 0 (min (p0.2 2 b) (sumN (p0.2 2) b.toNat + p0.2 2 b - p6.1 8))
def brP (P : Nat → OS) (p0 : OS) (b : Int) (k : Nat) : List Int := [(wrP (P k) p0 b zOS).1 9, (wrP (P k) p0 b zOS).1 10, misF (P k) p0 b, kwF (P k) (p0.2 3 b)] ++ sgL (wrP (P k) p0 b zOS)
def brL (P : Nat → OS) (p0 : OS) (b : Nat) : List Int := [sumN (p0.2 2) b, p0.2 2 b, widF P p0 b] ++ rpt (brP P p0 b) 4
def moL1 (P : Nat → OS) (m : Nat) : List Int := [momT P m] ++ rpt (fun k => [hiM P m k]) 4 ++ [(chdF P m).1 0, (chdF P m).1 1, (chdF P m).1 2]
def moL (P : Nat → OS) : List Int := [(cntM P : Int)] ++ rpt (moL1 P) (cntM P)
def faL1 (P : Nat → OS) (i : Nat) : List Int := [((fauA P)[i]?.getD (0, 0, 0)).1, ((fauA P)[i]?.getD (0, 0, 0)).2.1, ((fauA P)[i]?.getD (0, 0, 0)).2.2]
def faL (P : Nat → OS) : List Int := [((fauA P).length : Int)] ++ rpt (faL1 P) (fauA P).length
def lnL (P : Nat → OS) (p0 : OS) (w : Int) : List Int := [(lnP P p0 (barsA P p0) w).1 4, (lnP P p0 (barsA P p0) w).2 1 0]
def digL (P : Nat → OS) (p0 : OS) : List Int := rpt (fun k => ptL (P k) p0) 4 ++ (rpt (brL P p0) 24 ++ (moL P ++ (faL P ++ ([barsA P p0] ++ (lnL P p0 40 ++ lnL P p0 100)))))
def digD (P : Nat → OS) (p0 : OS) : Int := mixL 2467 (digL P p0)
theorem chd_rg {P : Nat → OS} {m : Nat} : (-1 ≤ (chdF P m).1 0 ∧ (chdF P m).1 0 < 12) ∧ (-1 ≤ (chdF P m).1 1 ∧ (chdF P m).1 1 < 4) ∧ (-1 ≤ (chdF P m).1 2 ∧ (chdF P m).1 2 < 3) := by
  have hf : ∀ (cl : Nat) (r lc : Int) (p : OS) (k : Int), 0 ≤ r → r < 12 → 0 ≤ k → k < 4 → ((-1 ≤ p.1 0 ∧ p.1 0 < 12) ∧ (-1 ≤ p.1 1 ∧ p.1 1 < 4) ∧ (-1 ≤ p.1 2 ∧ p.1 2 < 3)) → ((-1 ≤ (fkS cl r lc p k).1 0 ∧ (fkS cl r lc p k).1 0 < 12) ∧ (-1 ≤ (fkS cl r lc p k).1 1 ∧ (fkS cl r lc p k).1 1 < 4) ∧ (-1 ≤ (fkS cl r lc p k).1 2 ∧ (fkS cl r lc p k).1 2 < 3)) := by
    intro cl r lc p k r0 r1 k0 k1 h
    unfold fkS
    split
    · refine ⟨by show -1 ≤ r ∧ r < 12; omega, by show -1 ≤ k ∧ k < 4; omega, ?_⟩
      show -1 ≤ (if lc = r then (0 : Int) else if lc = sec r k then 1 else 2) ∧ (if lc = r then (0 : Int) else if lc = sec r k then 1 else 2) < 3
      (repeat' split) <;> omega
    · exact h
  have hg : ∀ (cl : Nat) (lc : Int) (n : Nat) (p : OS), n ≤ 12 → ((-1 ≤ p.1 0 ∧ p.1 0 < 12) ∧ (-1 ≤ p.1 1 ∧ p.1 1 < 4) ∧ (-1 ≤ p.1 2 ∧ p.1 2 < 3)) → ((-1 ≤ (frM cl lc n p).1 0 ∧ (frM cl lc n p).1 0 < 12) ∧ (-1 ≤ (frM cl lc n p).1 1 ∧ (frM cl lc n p).1 1 < 4) ∧ (-1 ≤ (frM cl lc n p).1 2 ∧ (frM cl lc n p).1 2 < 3)) := by
    intro cl lc n
    induction n with
    | zero => intro p _ h; exact h
    | succ n ih =>
      intro p hn h
      unfold frM
      split
      · split
        · exact ih _ (by omega) (hf _ _ _ _ _ (by omega) (by omega) (by decide) (by decide) (hf _ _ _ _ _ (by omega) (by omega) (by decide) (by decide) (hf _ _ _ _ _ (by omega) (by omega) (by decide) (by decide) (hf _ _ _ _ _ (by omega) (by omega) (by decide) (by decide) h))))
        · exact ih _ (by omega) h
      · exact h
  have z : ((-1 ≤ (fgP zOS).1 0 ∧ (fgP zOS).1 0 < 12) ∧ (-1 ≤ (fgP zOS).1 1 ∧ (fgP zOS).1 1 < 4) ∧ (-1 ≤ (fgP zOS).1 2 ∧ (fgP zOS).1 2 < 3)) := by
    show ((-1 ≤ (-1 : Int) ∧ (-1 : Int) < 12) ∧ (-1 ≤ (-1 : Int) ∧ (-1 : Int) < 4) ∧ (-1 ≤ (-1 : Int) ∧ (-1 : Int) < 3))
    omega
  unfold chdF
  split
  · exact hg _ _ 12 _ (by omega) z
  · exact z
set_option maxRecDepth 100000 in
theorem c0_X9_mixBar {l : Launch} {G : jG} {h : jH} {a : Nat} {d : DA} {s : DS} {Z : Nat → Nat} {x : Int} {b : Nat} (hD : Desk G h a d s) (hI : DI s) (hZ : Dz a d Z) (hb : b < 24) (h9 : s.2.2 9 = 1) : jC l G yX9_mixBar z9_mixBar [.ref a, vL x, vI (b : Int)] h (jW (.inl (some (vL (mixL x (brL s.1 (s.2.1 0) b))))) (DP G a d s h (fun s' => ∀ j, j ≠ 10 → j ≠ 11 → s'.2.2 j = s.2.2 j))) := by
  have hbb : isBar (b : Int) := ⟨by omega, by omega⟩
  have hL := lenZ_sum hI.2.2.1.1.1 b (by omega)
  have hLb := hI.2.2.1.1.1 b (by omega) (by omega)
  have hCb := hI.2.2.1.1.2.2 b hbb
  have hW : WidOK s.1 (s.2.1 0) (s.2.1 4) := hI.wid (by omega)
  have hWb := widF_Z (P := s.1) hI.2.2.1.1 b (by omega) (by omega)
  have hF : Fr (FtD a d) h h := Fr.rf
  have hcal := hI.2.2.1
  have hsc := hI.1
  have loop : ∀ (n k : Nat) (s2 : DS) (h2 : jH), k + n = 4 → Desk G h2 a d s2 → DI s2 → s2.1 = s.1 → s2.2.1 0 = (s.2.1 0) → (∀ j, j ≠ 10 → j ≠ 11 → s2.2.2 j = s.2.2 j) → Fr (FtD a d) h h2 → J l G z9_mixBar (jQ G z9_mixBar (jW (.inl (some (vL (mixL x (brL s.1 (s.2.1 0) b))))) (DP G a d s h (fun s' => ∀ j, j ≠ 10 → j ≠ 11 → s'.2.2 j = s.2.2 j)))) 0 0 45 [(4, vI (k : Int)), (1, vL (mixL x ([sumN ((s.2.1 0).2 2) b, (s.2.1 0).2 2 b, widF s.1 (s.2.1 0) b] ++ rpt (brP s.1 (s.2.1 0) b) k))), (0, .ref a), (3, vI (b : Int))] [] h2 := by
    intro n
    induction n with
    | zero =>
      intro k s2 h2 hk hD hI q1 q2 q3 hF
      obtain rfl : k = 4 := by omega
      obtain ⟨F, hpa, hF4⟩ := hD.2.1.1
      refine j_iload dX9_mixBar_45 rfl ?_
      refine j_aload_n 0 dX9_mixBar_47 rfl rfl ?_
      refine j_get fX9_11 dX9_mixBar_48 hD.1 rfl ?_
      refine J_alenq 3 dX9_mixBar_51 hpa rfl ?_
      refine J_icmp_ge 148 dX9_mixBar_52 (by decide) (fun c52 => ?_) (fun c52 => absurd c52 (by omega)) 
      refine j_lload_n 1 dX9_mixBar_148 rfl rfl ?_
      refine j_lret rfl dX9_mixBar_149 ?_
      exact ⟨rfl, s2, hD, hI, q1, q2, q3, hF⟩
    | succ n ih =>
      intro k s2 h2 hk hD hI q1 q2 q3 hF
      have hk4 : k < 4 := by omega
      obtain ⟨F, hpa, hF4⟩ := hD.2.1.1
      have hPt := hsc k hk4
      have hwr := wrP_rg hPt hcal hbb zOS
      have hz8 := hPt.2.2.1.1
      have hzs := hPt.2.2.1.2.1
      have g := ih (k + 1)
      rw [rpt_s, ← List.append_assoc, mixL_app] at g
      refine j_iload dX9_mixBar_45 rfl ?_
      refine j_aload_n 0 dX9_mixBar_47 rfl rfl ?_
      refine j_get fX9_11 dX9_mixBar_48 hD.1 rfl ?_
      refine J_alenq 3 dX9_mixBar_51 hpa rfl ?_
      refine J_icmp_ge 148 dX9_mixBar_52 (by decide) (fun c52 => absurd c52 (by omega)) (fun c52 => ?_) 
      refine j_aload_n 0 dX9_mixBar_55 rfl rfl ?_
      refine j_iload dX9_mixBar_56 rfl ?_
      refine j_iload_n 3 dX9_mixBar_58 rfl rfl ?_
      have gm := c0_X9_measureAt (l := l) (k := (k : Int)) (b := (b : Int)) hD hI hZ ⟨⟨by omega, by omega⟩, hbb⟩
      rw [Int.toNat_natCast, q1, q2] at gm
      refine J_callVW1 (show jLk _ _ yX9_measureAt z9_measureAt _ from kX9_190) cvX9_measureAt hD.1 gm rfl rfl rfl rfl rfl dX9_mixBar_59 rfl rfl (fun h hp => ?_)
      obtain ⟨s3, hD, hI, e1, e2, ⟨e3, e4⟩, hF9⟩ := hp
      have hF := hF.tr hF9
      obtain ⟨F, hpa, hF4⟩ := hD.2.1.1
      have hPk : AtX6 G h (d.pad k) (d.pq k) (s.1 k) := by have g := hD.2.1.2 k hk4; rw [e1, q1] at g; exact g
      have hC : AtX0 G h (d.oa 0) (d.oq 0) (s.2.1 0) := by have g := (hD.2.2.1); rw [e2, q2] at g; exact g
      refine j_astore (L' := [(5, _), (4, _), (1, _), (0, _), (3, _)]) dX9_mixBar_62 rfl rfl ?_
      refine j_lload_n 1 dX9_mixBar_64 rfl rfl ?_
      refine j_aload dX9_mixBar_65 rfl ?_
      refine J_callV1 kX9_194 cvX5_size (hD.2.2.2.2.2.2.2).1 (c_X5_size (hD.2.2.2.2.2.2.2)) rfl rfl rfl rfl rfl dX9_mixBar_67 rfl rfl ?_
      refine J_top ((wrP (s.1 k) (s.2.1 0) b zOS).1 9) ?_ (by exact e4.2.2.1)
      refine J_i2l dX9_mixBar_70 ?_ 
      refine J_callS1 kX9_325 csX9_mix c_X9_mix rfl rfl rfl rfl rfl dX9_mixBar_71 rfl rfl ?_
      refine j_lstore_n 1 (L' := [(1, _), (5, _), (4, _), (0, _), (3, _)]) dX9_mixBar_74 rfl rfl rfl ?_
      refine j_lload_n 1 dX9_mixBar_75 rfl rfl ?_
      refine j_aload dX9_mixBar_76 rfl ?_
      refine J_callV1 kX9_213 cvX5_beamTotal (hD.2.2.2.2.2.2.2).1 (c_X5_beamTotal (hD.2.2.2.2.2.2.2)) rfl rfl rfl rfl rfl dX9_mixBar_78 rfl rfl ?_
      refine J_top ((wrP (s.1 k) (s.2.1 0) b zOS).1 10) ?_ (by exact e4.2.2.2.1)
      refine J_i2l dX9_mixBar_81 ?_ 
      refine J_callS1 kX9_325 csX9_mix c_X9_mix rfl rfl rfl rfl rfl dX9_mixBar_82 rfl rfl ?_
      refine j_lstore_n 1 (L' := [(1, _), (5, _), (4, _), (0, _), (3, _)]) dX9_mixBar_85 rfl rfl rfl ?_
      refine j_lload_n 1 dX9_mixBar_86 rfl rfl ?_
      refine j_aload_n 0 dX9_mixBar_87 rfl rfl ?_
      refine j_get fX9_19 dX9_mixBar_88 hD.1 rfl ?_
      refine j_aload_n 0 dX9_mixBar_91 rfl rfl ?_
      refine j_get fX9_11 dX9_mixBar_92 hD.1 rfl ?_
      refine j_iload dX9_mixBar_95 rfl ?_
      refine J_qald dX9_mixBar_97 hpa (by rw [Int.toNat_natCast]; exact hF4 k hk4) ?_ 
      refine J_callV1 kX9_219 cvX6_end hPk.1 (c_X6_end hPk) rfl rfl rfl rfl rfl dX9_mixBar_98 rfl rfl ?_
      refine j_iload_n 3 dX9_mixBar_101 rfl rfl ?_
      refine J_callV1 kX9_222 cvX0_ticksBehind hC.1 (c_X0_ticksBehind hC hcal.1.1 hbb (by omega)) rfl rfl rfl rfl rfl dX9_mixBar_102 rfl rfl ?_
      refine J_top (misF (s.1 k) (s.2.1 0) b) ?_ (by rfl)
      have hmi : 0 ≤ misF (s.1 k) (s.2.1 0) b ∧ misF (s.1 k) (s.2.1 0) b ≤ 384 := by unfold misF; omega
      refine J_i2l dX9_mixBar_105 ?_ 
      refine J_callS1 kX9_325 csX9_mix c_X9_mix rfl rfl rfl rfl rfl dX9_mixBar_106 rfl rfl ?_
      refine j_lstore_n 1 (L' := [(1, _), (5, _), (4, _), (0, _), (3, _)]) dX9_mixBar_109 rfl rfl rfl ?_
      refine j_lload_n 1 dX9_mixBar_110 rfl rfl ?_
      refine j_aload_n 0 dX9_mixBar_111 rfl rfl ?_
      refine j_get fX9_11 dX9_mixBar_112 hD.1 rfl ?_
      refine j_iload dX9_mixBar_115 rfl ?_
      refine J_qald dX9_mixBar_117 hpa (by rw [Int.toNat_natCast]; exact hF4 k hk4) ?_ 
      refine j_aload_n 0 dX9_mixBar_118 rfl rfl ?_
      refine j_get fX9_19 dX9_mixBar_119 hD.1 rfl ?_
      refine j_iload_n 3 dX9_mixBar_122 rfl rfl ?_
      refine J_callV1 kX9_144 cvX0_keyAt hC.1 (c_X0_keyAt hC (by omega)) rfl rfl rfl rfl rfl dX9_mixBar_123 rfl rfl ?_
      refine J_top ((s.2.1 0).2 3 b) ?_ (by exact if_pos hbb)
      refine J_callV1 kX9_186 cvX6_keyAsWritten hPk.1 (c_X6_keyAsWritten hPk hPt.2.2.1 hCb.2) rfl rfl rfl rfl rfl dX9_mixBar_126 rfl rfl ?_
      refine J_top (kwF (s.1 k) ((s.2.1 0).2 3 b)) ?_ (by rfl)
      have hkw : -7 ≤ kwF (s.1 k) ((s.2.1 0).2 3 b) ∧ kwF (s.1 k) ((s.2.1 0).2 3 b) ≤ 7 := by have := hCb.2; unfold kwF; (repeat' split) <;> omega
      refine J_i2l dX9_mixBar_129 ?_ 
      refine J_callS1 kX9_325 csX9_mix c_X9_mix rfl rfl rfl rfl rfl dX9_mixBar_130 rfl rfl ?_
      refine j_lstore_n 1 (L' := [(1, _), (5, _), (4, _), (0, _), (3, _)]) dX9_mixBar_133 rfl rfl rfl ?_
      refine j_aload_n 0 dX9_mixBar_134 rfl rfl ?_
      refine j_lload_n 1 dX9_mixBar_135 rfl rfl ?_
      refine j_aload dX9_mixBar_136 rfl ?_
      refine J_callV1 kX9_334 cvX9_mixSigns hD.1 (c_X9_mixSigns (hD.2.2.2.2.2.2.2) e4 hwr) rfl rfl rfl rfl rfl dX9_mixBar_138 rfl rfl ?_
      refine j_lstore_n 1 (L' := [(1, _), (5, _), (4, _), (0, _), (3, _)]) dX9_mixBar_141 rfl rfl rfl ?_
      refine J_iinc (L' := [(4, _), (1, _), (5, _), (0, _), (3, _)]) dX9_mixBar_142 rfl rfl rfl ?_
      refine j_goto 45 dX9_mixBar_145 (by decide) ?_
      have e9 : brP s.1 (s.2.1 0) b k = [(wrP (s.1 k) (s.2.1 0) b zOS).1 9, (wrP (s.1 k) (s.2.1 0) b zOS).1 10, misF (s.1 k) (s.2.1 0) b, kwF (s.1 k) ((s.2.1 0).2 3 b)] ++ sgL (wrP (s.1 k) (s.2.1 0) b zOS) := rfl
      rw [e9, mixL_app] at g
      exact j_locR (g s3 h (by omega) hD hI (e1.trans q1) (e2.trans q2) (fun j x y => (e3 j x y).trans (q3 j x y)) hF) (by repeat' (first | exact True.intro | refine And.intro rfl ?_))
  refine j_body (by decide +kernel) ⟨rfl, rfl⟩ rfl ?_
  refine j_lload_n 1 dX9_mixBar_0 rfl rfl ?_
  refine j_aload_n 0 dX9_mixBar_1 rfl rfl ?_
  refine j_get fX9_19 dX9_mixBar_2 hD.1 rfl ?_
  refine j_iload_n 3 dX9_mixBar_5 rfl rfl ?_
  refine J_callV1 kX9_189 cvX0_beginAt (hD.2.2.1).1 (c_X0_beginAt (hD.2.2.1) (by omega)) rfl rfl rfl rfl rfl dX9_mixBar_6 rfl rfl ?_
  refine J_top (sumN ((s.2.1 0).2 2) b) ?_ (by (rw [show (min (b : Int) 24).toNat = b by omega]))
  refine J_i2l dX9_mixBar_9 ?_ 
  refine J_callS1 kX9_325 csX9_mix c_X9_mix rfl rfl rfl rfl rfl dX9_mixBar_10 rfl rfl ?_
  refine j_lstore_n 1 (L' := [(1, _), (0, _), (3, _)]) dX9_mixBar_13 rfl rfl rfl ?_
  refine j_lload_n 1 dX9_mixBar_14 rfl rfl ?_
  refine j_aload_n 0 dX9_mixBar_15 rfl rfl ?_
  refine j_get fX9_19 dX9_mixBar_16 hD.1 rfl ?_
  refine j_iload_n 3 dX9_mixBar_19 rfl rfl ?_
  refine J_callV1 kX9_138 cvX0_lengthAt (hD.2.2.1).1 (c_X0_lengthAt (hD.2.2.1) (by omega)) rfl rfl rfl rfl rfl dX9_mixBar_20 rfl rfl ?_
  refine J_top ((s.2.1 0).2 2 b) ?_ (by exact if_pos hbb)
  refine J_i2l dX9_mixBar_23 ?_ 
  refine J_callS1 kX9_325 csX9_mix c_X9_mix rfl rfl rfl rfl rfl dX9_mixBar_24 rfl rfl ?_
  refine j_lstore_n 1 (L' := [(1, _), (0, _), (3, _)]) dX9_mixBar_27 rfl rfl rfl ?_
  refine j_lload_n 1 dX9_mixBar_28 rfl rfl ?_
  refine j_aload_n 0 dX9_mixBar_29 rfl rfl ?_
  refine j_get fX9_54 dX9_mixBar_30 hD.1 rfl ?_
  refine j_iload_n 3 dX9_mixBar_33 rfl rfl ?_
  refine J_callV1 kX9_283 cvX4_widthAt (hD.2.2.2.2.2.2.1).1 (c_X4_widthAt (hD.2.2.2.2.2.2.1) (by omega)) rfl rfl rfl rfl rfl dX9_mixBar_34 rfl rfl ?_
  refine J_top (widF s.1 (s.2.1 0) b) ?_ (by rw [if_pos hbb]; exact hW b (by omega) (by omega))
  refine J_i2l dX9_mixBar_37 ?_ 
  refine J_callS1 kX9_325 csX9_mix c_X9_mix rfl rfl rfl rfl rfl dX9_mixBar_38 rfl rfl ?_
  refine j_lstore_n 1 (L' := [(1, _), (0, _), (3, _)]) dX9_mixBar_41 rfl rfl rfl ?_
  refine J_iconst dX9_mixBar_42 ?_
  refine j_istore (L' := [(4, _), (1, _), (0, _), (3, _)]) dX9_mixBar_43 rfl rfl ?_
  exact j_locR (loop 4 0 s _ (by omega) hD hI rfl rfl (fun _ _ _ => rfl) hF) (by repeat' (first | exact True.intro | refine And.intro rfl ?_))
