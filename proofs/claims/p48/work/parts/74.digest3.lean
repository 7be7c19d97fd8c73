set_option maxRecDepth 100000 in
theorem c2_X9_bars {l : Launch} {G : jG} {h : jH} {a : Nat} {d : DA} {s : DS} {Z : Nat → Nat}  (hD : Desk G h a d s) (hI : DI s) (hZ : Dz a d Z)  : jC l G yX9_bars mX9_bars [.ref a] h (jE (oI (barsA s.1 (s.2.1 0))) h) := by
  refine j_body (by decide +kernel) ⟨rfl, rfl⟩ rfl ?_
  have hle := lastE_rg hI.1
  refine j_aload_n 0 dX9_bars_0 rfl rfl ?_
  refine j_get fX9_19 dX9_bars_1 hD.1 rfl ?_
  refine j_aload_n 0 dX9_bars_4 rfl rfl ?_
  refine J_callV1 kX9_274 cvX9_lastEnd hD.1 (c_X9_lastEnd hD hI hZ) rfl rfl rfl rfl rfl dX9_bars_5 rfl rfl ?_
  refine J_callV1 kX9_277 cvX0_barsUpTo (hD.2.2.1).1 (c_X0_barsUpTo (hD.2.2.1) hI.2.2.1.1.1 (by have := hI.2.2.1.1.2.1; omega) (by omega)) rfl rfl rfl rfl rfl dX9_bars_8 rfl rfl ?_
  refine J_top (barsA s.1 (s.2.1 0)) ?_ (by rfl)
  refine j_iret rfl dX9_bars_11 ?_
  exact ⟨rfl, rfl⟩
set_option maxRecDepth 100000 in
theorem c0_X9_digest {l : Launch} {G : jG} {h : jH} {a : Nat} {d : DA} {s : DS} {Z : Nat → Nat} (hD : Desk G h a d s) (hI : DI s) (hZ : Dz a d Z) : jC l G yX9_digest z9_digest [.ref a] h (jW (.inl (some (vL (digD s.1 (s.2.1 0))))) (DP G a d s h (fun _ => True))) := by
  have hsc := hI.1
  have hcal := hI.2.2.1
  have hbr := barsA_rg s.1 (s.2.1 0)
  have hF : Fr (FtD a d) h h := Fr.rf
  have K62 : ∀ (s2 : DS) (h2 : jH), Desk G h2 a d s2 → DI s2 → s2.1 = s.1 → s2.2.1 0 = (s.2.1 0) → (s2.2.2 7 = 1 ∧ s2.2.2 8 = 1 ∧ s2.2.2 9 = 1) → Fr (FtD a d) h h2 → J l G z9_digest (jQ G z9_digest (jW (.inl (some (vL (digD s.1 (s.2.1 0))))) (DP G a d s h (fun _ => True)))) 0 0 62 [(3, vI (24 : Nat)), (1, vL (mixL (mixL 2467 (rpt (fun k => ptL (s.1 k) (s.2.1 0)) 4)) (rpt (brL s.1 (s.2.1 0)) 24))), (0, .ref a)] [] h2 := by
    intro s2 h2 hD hI q1 q2 q3 hF
    obtain ⟨y, hy⟩ : ∃ y, y = mixL (mixL 2467 (rpt (fun k => ptL (s.1 k) (s.2.1 0)) 4)) (rpt (brL s.1 (s.2.1 0)) 24) := ⟨_, rfl⟩
    have hdig : digD s.1 (s.2.1 0) = mixL (mixL (mixL (mixL (mixL y (moL s.1)) (faL s.1)) [barsA s.1 (s.2.1 0)]) (lnL s.1 (s.2.1 0) 40)) (lnL s.1 (s.2.1 0) 100) := by
      rw [hy]
      unfold digD digL
      simp only [mixL_app]
    rw [← hy, hdig]
    have gmo := c_X9_mixMoments (l := l) (x := y) hD hI hZ q3.1
    rw [q1] at gmo
    refine j_aload_n 0 dX9_digest_62 rfl rfl ?_
    refine j_lload_n 1 dX9_digest_63 rfl rfl ?_
    refine J_callVW1 kX9_315 cvX9_mixMoments hD.1 gmo rfl rfl rfl rfl rfl dX9_digest_64 rfl rfl (fun h hp => ?_)
    obtain ⟨s3, hD, hI, e1, e2, e3, hF9⟩ := hp
    have hF := hF.tr hF9
    have q1 := e1.trans q1
    have q2 := e2.trans q2
    have q3 : s3.2.2 7 = 1 ∧ s3.2.2 8 = 1 ∧ s3.2.2 9 = 1 := ⟨(e3 7).trans q3.1, (e3 8).trans q3.2.1, (e3 9).trans q3.2.2⟩
    have gfa := c_X9_mixFaults (l := l) (x := mixL y (moL s.1)) hD hI hZ q3.2.1
    rw [q1] at gfa
    have gba := c2_X9_bars (l := l) hD hI hZ
    rw [q1, q2] at gba
    have gl1 := c_X9_mixLines (l := l) (x := mixL (mixL (mixL y (moL s.1)) (faL s.1)) [barsA s.1 (s.2.1 0)]) (w := 40) hD hI hZ (by omega) q3.2.2
    rw [q1, q2] at gl1
    refine j_lstore_n 1 (L' := [(1, _), (3, _), (0, _)]) dX9_digest_67 rfl rfl rfl ?_
    refine j_aload_n 0 dX9_digest_68 rfl rfl ?_
    refine j_lload_n 1 dX9_digest_69 rfl rfl ?_
    refine J_callV1 kX9_319 cvX9_mixFaults hD.1 gfa rfl rfl rfl rfl rfl dX9_digest_70 rfl rfl ?_
    refine j_lstore_n 1 (L' := [(1, _), (3, _), (0, _)]) dX9_digest_73 rfl rfl rfl ?_
    refine j_lload_n 1 dX9_digest_74 rfl rfl ?_
    refine j_aload_n 0 dX9_digest_75 rfl rfl ?_
    refine J_callV1 kX9_322 cvX9_bars hD.1 gba rfl rfl rfl rfl rfl dX9_digest_76 rfl rfl ?_
    refine J_i2l dX9_digest_79 ?_ 
    refine J_callS1 kX9_325 csX9_mix c_X9_mix rfl rfl rfl rfl rfl dX9_digest_80 rfl rfl ?_
    refine j_lstore_n 1 (L' := [(1, _), (3, _), (0, _)]) dX9_digest_83 rfl rfl rfl ?_
    refine j_aload_n 0 dX9_digest_84 rfl rfl ?_
    refine j_lload_n 1 dX9_digest_85 rfl rfl ?_
    refine J_bipush dX9_digest_86 (by decide) ?_
    refine J_callVW1 kX9_329 cvX9_mixLines hD.1 gl1 rfl rfl rfl rfl rfl dX9_digest_88 rfl rfl (fun h hp => ?_)
    obtain ⟨s4, hD, hI, e1, e2, e4, hF9⟩ := hp
    have hF := hF.tr hF9
    have q1 := e1.trans q1
    have q2 := e2.trans q2
    have gl2 := c_X9_mixLines (l := l) (x := mixL (mixL (mixL (mixL y (moL s.1)) (faL s.1)) [barsA s.1 (s.2.1 0)]) (lnL s.1 (s.2.1 0) 40)) (w := 100) hD hI hZ (by omega) ((e4 9).trans q3.2.2)
    rw [q1, q2] at gl2
    refine j_lstore_n 1 (L' := [(1, _), (3, _), (0, _)]) dX9_digest_91 rfl rfl rfl ?_
    refine j_aload_n 0 dX9_digest_92 rfl rfl ?_
    refine j_lload_n 1 dX9_digest_93 rfl rfl ?_
    refine J_bipush dX9_digest_94 (by decide) ?_
    refine J_callVW1 kX9_329 cvX9_mixLines hD.1 gl2 rfl rfl rfl rfl rfl dX9_digest_96 rfl rfl (fun h hp => ?_)
    obtain ⟨s5, hD, hI, e1, e2, e4, hF9⟩ := hp
    have hF := hF.tr hF9
    refine j_lret rfl dX9_digest_99 ?_
    exact ⟨rfl, s5, hD, hI, e1.trans q1, e2.trans q2, True.intro, hF⟩
  have bars : ∀ (n b : Nat) (s2 : DS) (h2 : jH), b + n = 24 → Desk G h2 a d s2 → DI s2 → s2.1 = s.1 → s2.2.1 0 = (s.2.1 0) → (s2.2.2 7 = 1 ∧ s2.2.2 8 = 1 ∧ s2.2.2 9 = 1) → Fr (FtD a d) h h2 → J l G z9_digest (jQ G z9_digest (jW (.inl (some (vL (digD s.1 (s.2.1 0))))) (DP G a d s h (fun _ => True)))) 0 0 43 [(3, vI (b : Int)), (1, vL (mixL (mixL 2467 (rpt (fun k => ptL (s.1 k) (s.2.1 0)) 4)) (rpt (brL s.1 (s.2.1 0)) b))), (0, .ref a)] [] h2 := by
    intro n
    induction n with
    | zero =>
      intro b s2 h2 hb hD hI q1 q2 q3 hF
      obtain rfl : b = 24 := by omega
      refine j_iload_n 3 dX9_digest_43 rfl rfl ?_
      refine J_bipush dX9_digest_44 (by decide) ?_
      refine J_icmp_ge 62 dX9_digest_46 (by decide) (fun c46 => ?_) (fun c46 => absurd c46 (by omega)) 
      exact K62 s2 h2 hD hI q1 q2 q3 hF
    | succ n ih =>
      intro b s2 h2 hb hD hI q1 q2 q3 hF
      have g := ih (b + 1)
      rw [rpt_s (brL s.1 (s.2.1 0)) b, mixL_app] at g
      have gb := c0_X9_mixBar (l := l) (x := mixL (mixL 2467 (rpt (fun k => ptL (s.1 k) (s.2.1 0)) 4)) (rpt (brL s.1 (s.2.1 0)) b)) (b := b) hD hI hZ (by omega) q3.2.2
      rw [q1, q2] at gb
      refine j_iload_n 3 dX9_digest_43 rfl rfl ?_
      refine J_bipush dX9_digest_44 (by decide) ?_
      refine J_icmp_ge 62 dX9_digest_46 (by decide) (fun c46 => absurd c46 (by omega)) (fun c46 => ?_) 
      refine j_aload_n 0 dX9_digest_49 rfl rfl ?_
      refine j_lload_n 1 dX9_digest_50 rfl rfl ?_
      refine j_iload_n 3 dX9_digest_51 rfl rfl ?_
      refine J_callVW1 (show jLk _ _ yX9_mixBar z9_mixBar _ from kX9_311) cvX9_mixBar hD.1 gb rfl rfl rfl rfl rfl dX9_digest_52 rfl rfl (fun h hp => ?_)
      obtain ⟨s3, hD, hI, e1, e2, e3, hF9⟩ := hp
      have hF := hF.tr hF9
      refine j_lstore_n 1 (L' := [(1, _), (3, _), (0, _)]) dX9_digest_55 rfl rfl rfl ?_
      refine J_iinc (L' := [(3, _), (1, _), (0, _)]) dX9_digest_56 rfl rfl rfl ?_
      refine j_goto 43 dX9_digest_59 (by decide) ?_
      exact j_locR (g s3 h (by omega) hD hI (e1.trans q1) (e2.trans q2) ⟨(e3 7 (by decide) (by decide)).trans q3.1, (e3 8 (by decide) (by decide)).trans q3.2.1, (e3 9 (by decide) (by decide)).trans q3.2.2⟩ hF) (by repeat' (first | exact True.intro | refine And.intro rfl ?_))
  have parts : ∀ (n k : Nat) (s2 : DS) (h2 : jH), k + n = 4 → Desk G h2 a d s2 → DI s2 → s2.1 = s.1 → s2.2.1 0 = (s.2.1 0) → (s2.2.2 7 = 1 ∧ s2.2.2 8 = 1 ∧ s2.2.2 9 = 1) → Fr (FtD a d) h h2 → J l G z9_digest (jQ G z9_digest (jW (.inl (some (vL (digD s.1 (s.2.1 0))))) (DP G a d s h (fun _ => True)))) 0 0 14 [(3, vI (k : Int)), (1, vL (mixL 2467 (rpt (fun k => ptL (s.1 k) (s.2.1 0)) k))), (0, .ref a)] [] h2 := by
    intro n
    induction n with
    | zero =>
      intro k s2 h2 hk hD hI q1 q2 q3 hF
      obtain rfl : k = 4 := by omega
      obtain ⟨F, hpa, hF4⟩ := hD.2.1.1
      refine j_iload_n 3 dX9_digest_14 rfl rfl ?_
      refine j_aload_n 0 dX9_digest_15 rfl rfl ?_
      refine j_get fX9_11 dX9_digest_16 hD.1 rfl ?_
      refine J_alenq 3 dX9_digest_19 hpa rfl ?_
      refine J_icmp_ge 41 dX9_digest_20 (by decide) (fun c20 => ?_) (fun c20 => absurd c20 (by omega)) 
      refine J_iconst dX9_digest_41 ?_
      refine j_istore_n 3 (L' := [(3, _), (1, _), (0, _)]) dX9_digest_42 rfl rfl rfl ?_
      exact j_locR (bars 24 0 s2 h2 (by omega) hD hI q1 q2 q3 hF) (by repeat' (first | exact True.intro | refine And.intro rfl ?_))
    | succ n ih =>
      intro k s2 h2 hk hD hI q1 q2 q3 hF
      have hk4 : k < 4 := by omega
      obtain ⟨F, hpa, hF4⟩ := hD.2.1.1
      have hPk := hD.2.1.2 k hk4
      have g := ih (k + 1) s2 h2
      rw [rpt_s, mixL_app] at g
      have gp := c_X9_mixPart (l := l) (x := mixL 2467 (rpt (fun k => ptL (s.1 k) (s.2.1 0)) k)) hD hI hZ hPk (hI.1 k hk4)
      rw [q1, q2] at gp
      refine j_iload_n 3 dX9_digest_14 rfl rfl ?_
      refine j_aload_n 0 dX9_digest_15 rfl rfl ?_
      refine j_get fX9_11 dX9_digest_16 hD.1 rfl ?_
      refine J_alenq 3 dX9_digest_19 hpa rfl ?_
      refine J_icmp_ge 41 dX9_digest_20 (by decide) (fun c20 => absurd c20 (by omega)) (fun c20 => ?_) 
      refine j_aload_n 0 dX9_digest_23 rfl rfl ?_
      refine j_lload_n 1 dX9_digest_24 rfl rfl ?_
      refine j_aload_n 0 dX9_digest_25 rfl rfl ?_
      refine j_get fX9_11 dX9_digest_26 hD.1 rfl ?_
      refine j_iload_n 3 dX9_digest_29 rfl rfl ?_
      refine J_qald dX9_digest_30 hpa (by rw [Int.toNat_natCast]; exact hF4 k hk4) ?_ 
      refine J_callV1 kX9_307 cvX9_mixPart hD.1 gp rfl rfl rfl rfl rfl dX9_digest_31 rfl rfl ?_
      refine j_lstore_n 1 (L' := [(1, _), (3, _), (0, _)]) dX9_digest_34 rfl rfl rfl ?_
      refine J_iinc (L' := [(3, _), (1, _), (0, _)]) dX9_digest_35 rfl rfl rfl ?_
      refine j_goto 14 dX9_digest_38 (by decide) ?_
      exact j_locR (g (by omega) hD hI q1 q2 q3 hF) (by repeat' (first | exact True.intro | refine And.intro rfl ?_))
  refine j_body (by decide +kernel) ⟨rfl, rfl⟩ rfl ?_
  refine j_aload_n 0 dX9_digest_0 rfl rfl ?_
  refine J_callVW0 kX9_280 cvX9_measureWidths hD.1 (c_X9_measureWidths hD hI hZ) rfl rfl rfl rfl rfl dX9_digest_1 rfl rfl (fun h hp => ?_)
  obtain ⟨s1, hD, hI, e1, e2, ⟨e3, e4, e5⟩, hF9⟩ := hp
  have hF := hF.tr hF9
  refine j_aload_n 0 dX9_digest_4 rfl rfl ?_
  refine J_callVW0 kX9_250 cvX9_searchFaults hD.1 (c_X9_searchFaults hD hI hZ) rfl rfl rfl rfl rfl dX9_digest_5 rfl rfl (fun h hp => ?_)
  obtain ⟨s2, hD, hI, q1, q2, ⟨q3, q4, q5⟩, hF9⟩ := hp
  have hF := hF.tr hF9
  refine j_ldc2 _ dX9_digest_8 vX9_305 ?_
  rw [I64_d]
  refine j_lstore_n 1 (L' := [(1, _), (0, _)]) dX9_digest_11 rfl rfl rfl ?_
  refine J_iconst dX9_digest_12 ?_
  refine j_istore_n 3 (L' := [(3, _), (1, _), (0, _)]) dX9_digest_13 rfl rfl rfl ?_
  exact j_locR (parts 4 0 s2 _ (by omega) hD hI (q1.trans e1) (q2.trans e2) ⟨q3, q4, (q5 9 (by decide) (by decide)).trans e4⟩ hF) (by repeat' (first | exact True.intro | refine And.intro rfl ?_))
