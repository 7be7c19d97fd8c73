def heN (P : Nat → OS) : Nat → Int
  | 0 => 0
  | k + 1 => heN P k + sumN (fHe (P k)) ((P k).1 7).toNat
def ntN (P : Nat → OS) : Nat → Int
  | 0 => 0
  | k + 1 => ntN P k + sumN (fNote (P k)) ((P k).1 7).toNat
set_option maxRecDepth 100000 in
theorem c_X11_meanHeight {l : Launch} {G : jG} {h : jH} {a : Nat} {d : MD} {mp P : Nat → OS} {p p0 : OS} {Z : Nat → Nat} (hM : Mod G h a d mp p) (hZ : Mz a d Z) (hI : MI d P p0 mp p.2) : jC l G yX11_meanHeight mX11_meanHeight [.ref a] h (jW (.inl (some (.double (meanD P)))) (fun h' => ∃ p', Mod G h' a d mp p' ∧ MI d P p0 mp p'.2 ∧ p'.1 0 = 0 ∧ Fr (FtM a d) h h')) := by
  have hs := hI.1.1
  have hnr := notS_rg hs
  have loop : ∀ (n j : Nat) (q : OS) (h2 : jH), j + n = 4 → Mod G h2 a d mp q → MI d P p0 mp q.2 → q.1 0 = 0 → Fr (FtM a d) h h2 → J l G mX11_meanHeight (jQ G mX11_meanHeight (jW (.inl (some (.double (meanD P)))) (fun h' => ∃ p', Mod G h' a d mp p' ∧ MI d P p0 mp p'.2 ∧ p'.1 0 = 0 ∧ Fr (FtM a d) h h'))) 0 0 21 [(5, vI (j : Int)), (4, vI (4 : Nat)), (3, .ref (d.q 1)), (2, vI (ntN P j)), (1, vI (heN P j)), (0, .ref a)] [] h2 := by
    intro n
    induction n with
    | zero =>
      intro j q h2 hj hM hI h0 hF
      obtain rfl : j = 4 := by omega
      have en : ntN P 4 = notS P := rfl
      have eh : heN P 4 = heiS P := rfl
      rw [en, eh]
      refine j_iload dX11_meanHeight_21 rfl ?_
      refine j_iload dX11_meanHeight_23 rfl ?_
      refine J_icmp_ge 85 dX11_meanHeight_25 (by decide) (fun c25 => ?_) (fun c25 => absurd c25 (by omega)) 
      refine j_iload_n 2 dX11_meanHeight_85 rfl rfl ?_
      refine J_if_ne 93 dX11_meanHeight_86 (by decide) (fun c86 => ?_) (fun c86 => ?_) 
      · refine j_iload_n 1 dX11_meanHeight_93 rfl rfl ?_
        refine j_i2d dX11_meanHeight_94 ?_
        refine j_iload_n 2 dX11_meanHeight_95 rfl rfl ?_
        refine j_i2d dX11_meanHeight_96 ?_
        refine j_ddiv dX11_meanHeight_97 (n64_ddiv _ _ (fun z => by rw [I_0, I_eq (by omega) (by decide)] at z; omega)) ?_
        refine j_dret rfl dX11_meanHeight_98 ?_
        exact ⟨by unfold meanD; rw [if_pos (by omega)], q, hM, hI, h0, hF⟩
      · refine j_dconst0 dX11_meanHeight_89 ?_
        refine j_goto 98 dX11_meanHeight_90 (by decide) ?_
        refine j_dret rfl dX11_meanHeight_98 ?_
        exact ⟨by unfold meanD; rw [if_neg (by omega)], q, hM, hI, h0, hF⟩
    | succ n ih =>
      intro j q h2 hj hM hI h0 hF
      have hP := hM.1
      obtain ⟨Fa, hpa, hFa⟩ := hM.2.1
      have hj4 : j < 4 := by omega
      have hPk := hM.2.2 j hj4
      have hmk := hI.2.1 j hj4
      have hpk := hs j hj4
      have hn7 : 0 ≤ (P j).1 7 ∧ (P j).1 7 ≤ 512 := hpk.1
      have hen := hmk.2.2.1
      have hez := hmk.2.2.2
      have evs : ∀ (n2 : Nat) (i : Int), i + n2 = (P j).1 7 → 0 ≤ i → J l G mX11_meanHeight (jQ G mX11_meanHeight (jW (.inl (some (.double (meanD P)))) (fun h' => ∃ p', Mod G h' a d mp p' ∧ MI d P p0 mp p'.2 ∧ p'.1 0 = 0 ∧ Fr (FtM a d) h h'))) 0 0 37 [(7, vI i), (6, .ref (d.pad j)), (5, vI (j : Int)), (4, vI (4 : Nat)), (3, .ref (d.q 1)), (2, vI (ntN P j + sumN (fNote (P j)) i.toNat)), (1, vI (heN P j + sumN (fHe (P j)) i.toNat)), (0, .ref a)] [] h2 := by
        intro n2
        induction n2 with
        | zero =>
          intro i hi h00
          obtain rfl : i = (P j).1 7 := by omega
          refine j_iload dX11_meanHeight_37 rfl ?_
          refine j_aload dX11_meanHeight_39 rfl ?_
          refine j_getN fX11_99 dX11_meanHeight_41 hPk.1 rfl ?_
          refine J_top ((P j).1 7) ?_ (by exact hmk.1.1)
          refine J_icmp_ge 79 dX11_meanHeight_44 (by decide) (fun c44 => ?_) (fun c44 => absurd c44 (by omega)) 
          refine J_iinc (L' := [(5, _), (7, _), (6, _), (4, _), (3, _), (2, _), (1, _), (0, _)]) dX11_meanHeight_79 rfl rfl rfl ?_
          refine j_goto 21 dX11_meanHeight_82 (by decide) ?_
          exact j_locR (ih (j + 1) q h2 (by omega) hM hI h0 hF) (by repeat' (first | exact True.intro | refine And.intro rfl ?_))
        | succ n2 ih2 =>
          intro i hi h00
          have hin : inP (P j) i := ⟨h00, by omega⟩
          have g := ih2 (i + 1) (by omega) (by omega)
          rw [sumN_succ h00, sumN_succ h00] at g
          refine j_iload dX11_meanHeight_37 rfl ?_
          refine j_aload dX11_meanHeight_39 rfl ?_
          refine j_getN fX11_99 dX11_meanHeight_41 hPk.1 rfl ?_
          refine J_top ((P j).1 7) ?_ (by exact hmk.1.1)
          refine J_icmp_ge 79 dX11_meanHeight_44 (by decide) (fun c44 => absurd c44 (by omega)) (fun c44 => ?_) 
          refine j_aload dX11_meanHeight_47 rfl ?_
          refine j_iload dX11_meanHeight_49 rfl ?_
          refine J_callVZ kX11_137 cvX10_isNote hPk.1 (c_X10_isNote hPk hmk hpk hin) rfl rfl rfl rfl rfl dX11_meanHeight_51 rfl rfl (fun z51 => ?_) (fun z51 => ?_)
          · refine J_if_ne 60 dX11_meanHeight_54 (by decide) (fun c54 => ?_) (fun c54 => absurd c54 (by decide)) 
            refine j_iload_n 1 dX11_meanHeight_60 rfl rfl ?_
            refine j_aload dX11_meanHeight_61 rfl ?_
            refine j_iload dX11_meanHeight_63 rfl ?_
            refine J_callV1 kX11_140 cvX10_height hPk.1 (c_X10_height hPk hmk hpk hin z51) rfl rfl rfl rfl rfl dX11_meanHeight_65 rfl rfl ?_
            refine J_iadd dX11_meanHeight_68 ?_
            refine J_top (heN P j + (sumN (fHe (P j)) i.toNat + fHe (P j) i)) ?_ (by (have e : fHe (P j) i = (P j).2 2 i := if_pos z51); omega)
            refine j_istore_n 1 (L' := [(1, _), (7, _), (6, _), (5, _), (4, _), (3, _), (2, _), (0, _)]) dX11_meanHeight_69 rfl rfl rfl ?_
            have e2 : fNote (P j) i = 1 := if_pos z51
            refine J_iinc (L' := [(2, vI (ntN P j + (sumN (fNote (P j)) i.toNat + fNote (P j) i))), (1, _), (7, _), (6, _), (5, _), (4, _), (3, _), (0, _)]) dX11_meanHeight_70 rfl rfl (by show jput _ 2 (vI (ntN P j + sumN (fNote (P j)) i.toNat + 1)) = _; rw [show ntN P j + sumN (fNote (P j)) i.toNat + 1 = ntN P j + (sumN (fNote (P j)) i.toNat + fNote (P j) i) by omega]; rfl) ?_
            refine J_iinc (L' := [(7, _), (2, _), (1, _), (6, _), (5, _), (4, _), (3, _), (0, _)]) dX11_meanHeight_73 rfl rfl rfl ?_
            refine j_goto 37 dX11_meanHeight_76 (by decide) ?_
            exact j_locR g (by repeat' (first | exact True.intro | refine And.intro rfl ?_))
          · refine J_if_ne 60 dX11_meanHeight_54 (by decide) (fun c54 => absurd c54 (by decide)) (fun c54 => ?_) 
            refine j_goto 73 dX11_meanHeight_57 (by decide) ?_
            have e1 : fHe (P j) i = 0 := if_neg z51
            have e2 : fNote (P j) i = 0 := if_neg z51
            rw [e1, e2, Int.add_zero, Int.add_zero] at g
            refine J_iinc (L' := [(7, _), (6, _), (5, _), (4, _), (3, _), (2, _), (1, _), (0, _)]) dX11_meanHeight_73 rfl rfl rfl ?_
            refine j_goto 37 dX11_meanHeight_76 (by decide) ?_
            exact j_locR g (by repeat' (first | exact True.intro | refine And.intro rfl ?_))
      refine j_iload dX11_meanHeight_21 rfl ?_
      refine j_iload dX11_meanHeight_23 rfl ?_
      refine J_icmp_ge 85 dX11_meanHeight_25 (by decide) (fun c25 => absurd c25 (by omega)) (fun c25 => ?_) 
      refine j_aload_n 3 dX11_meanHeight_28 rfl rfl ?_
      refine j_iload dX11_meanHeight_29 rfl ?_
      refine J_qaldM dX11_meanHeight_31 hpa (by rw [Int.toNat_natCast]; exact hFa j hj4) ?_ 
      refine j_astore (L' := [(6, _), (5, _), (4, _), (3, _), (2, _), (1, _), (0, _)]) dX11_meanHeight_32 rfl rfl ?_
      refine J_iconst dX11_meanHeight_34 ?_
      refine j_istore (L' := [(7, _), (6, _), (5, _), (4, _), (3, _), (2, _), (1, _), (0, _)]) dX11_meanHeight_35 rfl rfl ?_
      exact j_locR (evs ((P j).1 7).toNat 0 (by omega) (by omega)) (by repeat' (first | exact True.intro | refine And.intro rfl ?_ | refine And.intro (by show some (vI (ntN P j)) = some (vI (ntN P j + 0)); rw [Int.add_zero]) ?_ | refine And.intro (by show some (vI (heN P j)) = some (vI (heN P j + 0)); rw [Int.add_zero]) ?_))
  refine j_body (by decide +kernel) ⟨rfl, rfl⟩ rfl ?_
  have hP := hM.1
  have hF : Fr (FtM a d) h h := Fr.rf
  obtain ⟨Fa, hpa, hFa⟩ := hM.2.1
  refine j_aload_n 0 dX11_meanHeight_0 rfl rfl ?_
  refine J_iconst dX11_meanHeight_1 ?_
  refine J_putA hP fX11_87 tyX11_thrown dX11_meanHeight_2 rfl rfl (fun h hP hF2 => ?_)
  have hM := hM.w hZ hP hF2
  have hF := hF.tr (hF2.mono (fun _ q => Or.inl q))
  obtain ⟨Fa, hpa, hFa⟩ := hM.2.1
  refine J_iconst dX11_meanHeight_5 ?_
  refine j_istore_n 1 (L' := [(1, _), (0, _)]) dX11_meanHeight_6 rfl rfl rfl ?_
  refine J_iconst dX11_meanHeight_7 ?_
  refine j_istore_n 2 (L' := [(2, _), (1, _), (0, _)]) dX11_meanHeight_8 rfl rfl rfl ?_
  refine j_aload_n 0 dX11_meanHeight_9 rfl rfl ?_
  refine j_get fX11_24 dX11_meanHeight_10 hP.1 rfl ?_
  refine j_astore_n 3 (L' := [(3, _), (2, _), (1, _), (0, _)]) dX11_meanHeight_13 rfl rfl rfl ?_
  refine j_aload_n 3 dX11_meanHeight_14 rfl rfl ?_
  refine J_alenq 4 dX11_meanHeight_15 hpa rfl ?_
  refine j_istore (L' := [(4, _), (3, _), (2, _), (1, _), (0, _)]) dX11_meanHeight_16 rfl rfl ?_
  refine J_iconst dX11_meanHeight_18 ?_
  refine j_istore (L' := [(5, _), (4, _), (3, _), (2, _), (1, _), (0, _)]) dX11_meanHeight_19 rfl rfl ?_
  exact j_locR (loop 4 0 _ _ (by omega) hM hI rfl hF) (by repeat' (first | exact True.intro | refine And.intro rfl ?_))
section JL
variable {l : Launch} {G : jG} {M : jM} {QF : jF} {ck sk pc : Nat} {L : List (Nat × Value)} {st : List Value} {h : jH} {o : oO} {ca : oC} {A : Nat → Bool} {a : Nat} {q : Nat → Nat} {p : OS}
theorem J_putLA {idx k : Nat} {x : Int} (hP : At o ca A h a q p) (F : jFl M.own idx (o q p).1 k) (Y : jTy (o q p).1 k .long false) (hd : decode M.cc pc = .ok (.putfield idx, 3)) (hl0 : Nat.blt k (o q p).2.length = true) (ho : o q (oU p k x) = ((o q p).1, (o q p).2.set k (vL x)))
    (kk : ∀ h', At o ca A h' a q (oU p k x) → Fr (ft A a q) h h' → J l G M QF ck sk (pc + 3) L st h') : J l G M QF ck sk pc L (vL x :: .ref a :: st) h := by
  refine j_put F Y hd hP.1 rfl rfl hl0 rfl ?_
  have h2 := hP.objw k x
  rw [ho] at h2
  exact kk _ h2 (Fr.set (Or.inl rfl))
end JL
theorem add30 {q : OS} {D x : Int} (h : q.1 30 = D) : (oU q 30 (q.1 30 * 31 + x)).1 30 = mixL D [x] := by
  show q.1 30 * 31 + x = D * 31 + x
  rw [h]
theorem add30M {G : jG} {hh : jH} {a : Nat} {d : MD} {mp : Nat → OS} {q : OS} {D x : Int} (h : q.1 30 = D) (hM : Mod G hh a d mp (oU q 30 (q.1 30 * 31 + x))) : (oU q 30 (q.1 30 * 31 + x)).1 30 = mixL D [x] := add30 h
theorem sum30 {q : OS} {D x : Int} (h : q.1 30 = D) {y : Int} (hx : x = y) : (oU q 30 (q.1 30 * 31 + x)).1 30 = mixL D [y] := by
  subst hx
  exact add30 h
set_option maxRecDepth 100000 in
theorem c_X11_add_ {l : Launch} {G : jG} {h : jH} {a : Nat} {d : MD} {mp P : Nat → OS} {p p0 : OS} {Z : Nat → Nat} {x : Int} (hM : Mod G h a d mp p) (hZ : Mz a d Z) (hI : MI d P p0 mp p.2) (hx : rg x) : jC l G yX11_add_ mX11_add_ [.ref a, vI x] h (jW oN (fun h' => Mod G h' a d mp (oU p 30 (p.1 30 * 31 + x)) ∧ Fr (FtM a d) h h')) := by
  refine j_body (by decide +kernel) ⟨rfl, rfl⟩ rfl ?_
  have hP := hM.1
  have hF : Fr (FtM a d) h h := Fr.rf
  obtain ⟨Fa, hpa, hFa⟩ := hM.2.1
  refine j_aload_n 0 dX11_add__0 rfl rfl ?_
  refine j_aload_n 0 dX11_add__1 rfl rfl ?_
  refine j_get fX11_322 dX11_add__2 hP.1 rfl ?_
  refine j_ldc2 _ dX11_add__5 vX11_326 ?_
  rw [I64_31]
  refine J_lmul dX11_add__8 ?_
  refine j_iload_n 1 dX11_add__9 rfl rfl ?_
  refine J_i2l dX11_add__10 ?_ 
  refine J_ladd dX11_add__11 ?_
  refine J_putLA hP fX11_322 tyX11_sum dX11_add__12 rfl rfl (fun h hP hF12 => ?_)
  have hM := hM.w hZ hP hF12
  have hF := hF.tr (hF12.mono (fun _ q => Or.inl q))
  refine j_vret rfl dX11_add__15 ?_
  exact ⟨rfl, hM, hF⟩
set_option maxRecDepth 100000 in
theorem c_X11_addSigns {l : Launch} {G : jG} {h : jH} {a : Nat} {d : MD} {mp P : Nat → OS} {p p0 : OS} {Z : Nat → Nat} {k b : Int} (hM : Mod G h a d mp p) (hZ : Mz a d Z) (hI : MI d P p0 mp p.2) (hk : 0 ≤ k ∧ k < 4) (hb : isBar b) : jC l G yX11_addSigns mX11_addSigns [.ref a, vI k, vI b] h (jW oN (fun h' => ∃ p', Mod G h' a d mp p' ∧ p'.1 30 = mixL (p.1 30) (brP P p0 b k.toNat) ∧ MI d P p0 mp p'.2 ∧ Fr (FtM a d) h h')) := by
  have hpk := hI.1.1 k.toNat (by omega)
  have hwr := wrP_rg hpk hI.1.2.2 hb zOS
  have hw4 := wW_rg hI hk hb
  have hwn : (wW P p0 k b).1 9 = (wrP (P k.toNat) p0 b zOS).1 9 := rfl
  have hw10 : (wW P p0 k b).1 10 = (wrP (P k.toNat) p0 b zOS).1 10 := rfl
  have loop : ∀ (n i : Nat) (q : OS) (h2 : jH), (i : Int) + n = (wW P p0 k b).1 9 → Mod G h2 a d mp q → LD (wW P p0 k b) q → MI d P p0 mp q.2 → q.1 30 = mixL (p.1 30) ([(wW P p0 k b).1 9, (wW P p0 k b).1 10, misF (P k.toNat) p0 b, kwF (P k.toNat) (p0.2 3 b)] ++ rpt (sgL1 (wW P p0 k b)) i) → Fr (FtM a d) h h2 → J l G mX11_addSigns (jQ G mX11_addSigns (jW oN (fun h' => ∃ p', Mod G h' a d mp p' ∧ p'.1 30 = mixL (p.1 30) (brP P p0 b k.toNat) ∧ MI d P p0 mp p'.2 ∧ Fr (FtM a d) h h'))) 0 0 44 [(3, vI (i : Int)), (0, .ref a), (1, vI k), (2, vI b)] [] h2 := by
    intro n
    induction n with
    | zero =>
      intro i q h2 hi hM hL hI hD hF
      have hP := hM.1
      have hL5 := hL.1
      have ei : ((wW P p0 k b).1 9).toNat = i := by omega
      refine j_iload_n 3 dX11_addSigns_44 rfl rfl ?_
      refine j_aload_n 0 dX11_addSigns_45 rfl rfl ?_
      refine j_get fX11_202 dX11_addSigns_46 hP.1 rfl ?_
      refine J_icmp_ge 126 dX11_addSigns_49 (by decide) (fun c49 => ?_) (fun c49 => absurd c49 (by omega)) 
      refine j_vret rfl dX11_addSigns_126 ?_
      refine ⟨rfl, q, hM, ?_, hI, hF⟩
      rw [hD, ← ei]
      rfl
    | succ n ih =>
      intro i q h2 hi hM hL hI hD hF
      have hP := hM.1
      have hL5 := hL.1
      have hv := hL.2.2 i (by omega) (by omega)
      obtain ⟨v0, v2, v4, v5, v6, v7⟩ := hv
      have hr := hwr.2 i (by omega) (by omega)
      obtain ⟨r0, r2, r5, r6, r7⟩ := hr
      have h40 := hw4.2.2 i (by omega) (by omega)
      refine j_iload_n 3 dX11_addSigns_44 rfl rfl ?_
      refine j_aload_n 0 dX11_addSigns_45 rfl rfl ?_
      refine j_get fX11_202 dX11_addSigns_46 hP.1 rfl ?_
      refine J_icmp_ge 126 dX11_addSigns_49 (by decide) (fun c49 => absurd c49 (by omega)) (fun c49 => ?_) 
      refine j_aload_n 0 dX11_addSigns_52 rfl rfl ?_
      refine j_aload_n 0 dX11_addSigns_53 rfl rfl ?_
      refine j_get fX11_37 dX11_addSigns_54 hP.1 rfl ?_
      refine j_iload_n 3 dX11_addSigns_57 rfl rfl ?_
      refine J_iald dX11_addSigns_58 (hP.2.1 7 rfl) ?_ 
      refine J_top ((wW P p0 k b).2 0 i) ?_ (by exact v0)
      refine J_callVW0 kX11_328 cvX11_add_ hP.1 (c_X11_add_ hM hZ hI (r0)) rfl rfl rfl rfl rfl dX11_addSigns_59 rfl rfl (fun h hp => ?_)
      obtain ⟨hM, hF9⟩ := hp
      have hF := hF.tr hF9
      have hP := hM.1
      have hD := add30M hD hM
      refine j_aload_n 0 dX11_addSigns_62 rfl rfl ?_
      refine j_aload_n 0 dX11_addSigns_63 rfl rfl ?_
      refine j_get fX11_40 dX11_addSigns_64 hP.1 rfl ?_
      refine j_iload_n 3 dX11_addSigns_67 rfl rfl ?_
      refine J_iald dX11_addSigns_68 (hP.2.1 8 rfl) ?_ 
      refine J_top ((wW P p0 k b).2 2 i) ?_ (by exact v2)
      refine J_callVW0 kX11_328 cvX11_add_ hP.1 (c_X11_add_ hM hZ hI (r2)) rfl rfl rfl rfl rfl dX11_addSigns_69 rfl rfl (fun h hp => ?_)
      obtain ⟨hM, hF9⟩ := hp
      have hF := hF.tr hF9
      have hP := hM.1
      have hD := add30M hD hM
      refine j_aload_n 0 dX11_addSigns_72 rfl rfl ?_
      refine j_aload_n 0 dX11_addSigns_73 rfl rfl ?_
      refine j_get fX11_46 dX11_addSigns_74 hP.1 rfl ?_
      refine j_iload_n 3 dX11_addSigns_77 rfl rfl ?_
      refine J_zald dX11_addSigns_78 (hP.2.1 10 rfl) ?_ 
      refine J_top ((wW P p0 k b).2 4 i) ?_ (by exact v4)
      refine J_if_eq 86 dX11_addSigns_79 (by decide) (fun c79 => ?_) (fun c79 => ?_) (by omega)
      · refine J_iconst dX11_addSigns_86 ?_
        have e4 : bI ((wW P p0 k b).2 4 i ≠ 0) = 0 := if_neg (fun z => z c79)
        refine J_callVW0 kX11_328 cvX11_add_ hP.1 (c_X11_add_ hM hZ hI (x := 0) (by decide)) rfl rfl rfl rfl rfl dX11_addSigns_87 rfl rfl (fun h hp => ?_)
        obtain ⟨hM, hF9⟩ := hp
        have hF := hF.tr hF9
        have hP := hM.1
        have hD := sum30 hD e4.symm
        refine j_aload_n 0 dX11_addSigns_90 rfl rfl ?_
        refine j_aload_n 0 dX11_addSigns_91 rfl rfl ?_
        refine j_get fX11_50 dX11_addSigns_92 hP.1 rfl ?_
        refine j_iload_n 3 dX11_addSigns_95 rfl rfl ?_
        refine J_iald dX11_addSigns_96 (hP.2.1 11 rfl) ?_ 
        refine J_top ((wW P p0 k b).2 5 i) ?_ (by exact v5)
        refine J_callVW0 kX11_328 cvX11_add_ hP.1 (c_X11_add_ hM hZ hI (r5)) rfl rfl rfl rfl rfl dX11_addSigns_97 rfl rfl (fun h hp => ?_)
        obtain ⟨hM, hF9⟩ := hp
        have hF := hF.tr hF9
        have hP := hM.1
        have hD := add30M hD hM
        refine j_aload_n 0 dX11_addSigns_100 rfl rfl ?_
        refine j_aload_n 0 dX11_addSigns_101 rfl rfl ?_
        refine j_get fX11_53 dX11_addSigns_102 hP.1 rfl ?_
        refine j_iload_n 3 dX11_addSigns_105 rfl rfl ?_
        refine J_iald dX11_addSigns_106 (hP.2.1 12 rfl) ?_ 
        refine J_top ((wW P p0 k b).2 6 i) ?_ (by exact v6)
        refine J_callVW0 kX11_328 cvX11_add_ hP.1 (c_X11_add_ hM hZ hI (r6)) rfl rfl rfl rfl rfl dX11_addSigns_107 rfl rfl (fun h hp => ?_)
        obtain ⟨hM, hF9⟩ := hp
        have hF := hF.tr hF9
        have hP := hM.1
        have hD := add30M hD hM
        refine j_aload_n 0 dX11_addSigns_110 rfl rfl ?_
        refine j_aload_n 0 dX11_addSigns_111 rfl rfl ?_
        refine j_get fX11_56 dX11_addSigns_112 hP.1 rfl ?_
        refine j_iload_n 3 dX11_addSigns_115 rfl rfl ?_
        refine J_iald dX11_addSigns_116 (hP.2.1 13 rfl) ?_ 
        refine J_top ((wW P p0 k b).2 7 i) ?_ (by exact v7)
        refine J_callVW0 kX11_328 cvX11_add_ hP.1 (c_X11_add_ hM hZ hI (r7)) rfl rfl rfl rfl rfl dX11_addSigns_117 rfl rfl (fun h hp => ?_)
        obtain ⟨hM, hF9⟩ := hp
        have hF := hF.tr hF9
        have hP := hM.1
        have hD := add30M hD hM
        refine J_iinc (L' := [(3, _), (0, _), (1, _), (2, _)]) dX11_addSigns_120 rfl rfl rfl ?_
        refine j_goto 44 dX11_addSigns_123 (by decide) ?_
        exact j_locR (ih (i + 1) _ _ (by omega) hM hL hI (hD.trans (by rw [rpt_s, ← List.append_assoc, mixL_app (p.1 30) ([(wW P p0 k b).1 9, (wW P p0 k b).1 10, misF (P k.toNat) p0 b, kwF (P k.toNat) (p0.2 3 b)] ++ rpt (sgL1 (wW P p0 k b)) i) (sgL1 (wW P p0 k b) i)]; rfl)) hF) (by repeat' (first | exact True.intro | refine And.intro rfl ?_))
      · refine J_iconst dX11_addSigns_82 ?_
        refine j_goto 87 dX11_addSigns_83 (by decide) ?_
        have e4 : bI ((wW P p0 k b).2 4 i ≠ 0) = 1 := if_pos c79
        refine J_callVW0 kX11_328 cvX11_add_ hP.1 (c_X11_add_ hM hZ hI (x := 1) (by decide)) rfl rfl rfl rfl rfl dX11_addSigns_87 rfl rfl (fun h hp => ?_)
        obtain ⟨hM, hF9⟩ := hp
        have hF := hF.tr hF9
        have hP := hM.1
        have hD := sum30 hD e4.symm
        refine j_aload_n 0 dX11_addSigns_90 rfl rfl ?_
        refine j_aload_n 0 dX11_addSigns_91 rfl rfl ?_
        refine j_get fX11_50 dX11_addSigns_92 hP.1 rfl ?_
        refine j_iload_n 3 dX11_addSigns_95 rfl rfl ?_
        refine J_iald dX11_addSigns_96 (hP.2.1 11 rfl) ?_ 
        refine J_top ((wW P p0 k b).2 5 i) ?_ (by exact v5)
        refine J_callVW0 kX11_328 cvX11_add_ hP.1 (c_X11_add_ hM hZ hI (r5)) rfl rfl rfl rfl rfl dX11_addSigns_97 rfl rfl (fun h hp => ?_)
        obtain ⟨hM, hF9⟩ := hp
        have hF := hF.tr hF9
        have hP := hM.1
        have hD := add30M hD hM
        refine j_aload_n 0 dX11_addSigns_100 rfl rfl ?_
        refine j_aload_n 0 dX11_addSigns_101 rfl rfl ?_
        refine j_get fX11_53 dX11_addSigns_102 hP.1 rfl ?_
        refine j_iload_n 3 dX11_addSigns_105 rfl rfl ?_
        refine J_iald dX11_addSigns_106 (hP.2.1 12 rfl) ?_ 
        refine J_top ((wW P p0 k b).2 6 i) ?_ (by exact v6)
        refine J_callVW0 kX11_328 cvX11_add_ hP.1 (c_X11_add_ hM hZ hI (r6)) rfl rfl rfl rfl rfl dX11_addSigns_107 rfl rfl (fun h hp => ?_)
        obtain ⟨hM, hF9⟩ := hp
        have hF := hF.tr hF9
        have hP := hM.1
        have hD := add30M hD hM
        refine j_aload_n 0 dX11_addSigns_110 rfl rfl ?_
        refine j_aload_n 0 dX11_addSigns_111 rfl rfl ?_
        refine j_get fX11_56 dX11_addSigns_112 hP.1 rfl ?_
        refine j_iload_n 3 dX11_addSigns_115 rfl rfl ?_
        refine J_iald dX11_addSigns_116 (hP.2.1 13 rfl) ?_ 
        refine J_top ((wW P p0 k b).2 7 i) ?_ (by exact v7)
        refine J_callVW0 kX11_328 cvX11_add_ hP.1 (c_X11_add_ hM hZ hI (r7)) rfl rfl rfl rfl rfl dX11_addSigns_117 rfl rfl (fun h hp => ?_)
        obtain ⟨hM, hF9⟩ := hp
        have hF := hF.tr hF9
        have hP := hM.1
        have hD := add30M hD hM
        refine J_iinc (L' := [(3, _), (0, _), (1, _), (2, _)]) dX11_addSigns_120 rfl rfl rfl ?_
        refine j_goto 44 dX11_addSigns_123 (by decide) ?_
        exact j_locR (ih (i + 1) _ _ (by omega) hM hL hI (hD.trans (by rw [rpt_s, ← List.append_assoc, mixL_app (p.1 30) ([(wW P p0 k b).1 9, (wW P p0 k b).1 10, misF (P k.toNat) p0 b, kwF (P k.toNat) (p0.2 3 b)] ++ rpt (sgL1 (wW P p0 k b)) i) (sgL1 (wW P p0 k b) i)]; rfl)) hF) (by repeat' (first | exact True.intro | refine And.intro rfl ?_))
  refine j_body (by decide +kernel) ⟨rfl, rfl⟩ rfl ?_
  have hP := hM.1
  have hF : Fr (FtM a d) h h := Fr.rf
  obtain ⟨Fa, hpa, hFa⟩ := hM.2.1
  refine j_aload_n 0 dX11_addSigns_0 rfl rfl ?_
  refine j_iload_n 1 dX11_addSigns_1 rfl rfl ?_
  refine j_iload_n 2 dX11_addSigns_2 rfl rfl ?_
  refine J_callVW0 kX11_227 cvX11_lay hP.1 (c_X11_lay hM hZ hI hk hb) rfl rfl rfl rfl rfl dX11_addSigns_3 rfl rfl (fun h hp => ?_)
  obtain ⟨p1, hM, hL, hU, hF9⟩ := hp
  have hF := hF.tr hF9
  have hP := hM.1
  have hI := hU.ku.mi hI
  have hD : p1.1 30 = mixL (p.1 30) [] := hU.1 30 (by decide) (by decide)
  have hb23 : 0 ≤ b ∧ b < 24 := hb
  have hmi : 0 ≤ misF (P k.toNat) p0 b ∧ misF (P k.toNat) p0 b ≤ 384 := by unfold misF; have := hI.1.2.2.1.1 b hb.1 hb.2; omega
  have hkw := kwF_rg hpk (hI.len hb).2.2.2.2.2.2.2
  refine j_aload_n 0 dX11_addSigns_6 rfl rfl ?_
  refine j_aload_n 0 dX11_addSigns_7 rfl rfl ?_
  refine j_get fX11_202 dX11_addSigns_8 hP.1 rfl ?_
  refine J_top ((wW P p0 k b).1 9) ?_ (by exact hL.1)
  refine J_callVW0 kX11_328 cvX11_add_ hP.1 (c_X11_add_ hM hZ hI (by omega)) rfl rfl rfl rfl rfl dX11_addSigns_11 rfl rfl (fun h hp => ?_)
  obtain ⟨hM, hF9⟩ := hp
  have hF := hF.tr hF9
  have hP := hM.1
  have hD := add30M hD hM
  refine j_aload_n 0 dX11_addSigns_14 rfl rfl ?_
  refine j_aload_n 0 dX11_addSigns_15 rfl rfl ?_
  refine j_get fX11_221 dX11_addSigns_16 hP.1 rfl ?_
  refine J_top ((wW P p0 k b).1 10) ?_ (by exact hL.2.1)
  refine J_callVW0 kX11_328 cvX11_add_ hP.1 (c_X11_add_ hM hZ hI (by omega)) rfl rfl rfl rfl rfl dX11_addSigns_19 rfl rfl (fun h hp => ?_)
  obtain ⟨hM, hF9⟩ := hp
  have hF := hF.tr hF9
  have hP := hM.1
  have hD := add30M hD hM
  refine j_aload_n 0 dX11_addSigns_22 rfl rfl ?_
  refine j_aload_n 0 dX11_addSigns_23 rfl rfl ?_
  refine j_iload_n 1 dX11_addSigns_24 rfl rfl ?_
  refine j_iload_n 2 dX11_addSigns_25 rfl rfl ?_
  refine J_callV1 kX11_236 cvX11_missingNow hP.1 (c_X11_missingNow hM hZ hI hk hb) rfl rfl rfl rfl rfl dX11_addSigns_26 rfl rfl ?_
  refine J_callVW0 kX11_328 cvX11_add_ hP.1 (c_X11_add_ hM hZ hI (by omega)) rfl rfl rfl rfl rfl dX11_addSigns_29 rfl rfl (fun h hp => ?_)
  obtain ⟨hM, hF9⟩ := hp
  have hF := hF.tr hF9
  have hP := hM.1
  have hD := add30M hD hM
  refine j_aload_n 0 dX11_addSigns_32 rfl rfl ?_
  refine j_aload_n 0 dX11_addSigns_33 rfl rfl ?_
  refine j_iload_n 1 dX11_addSigns_34 rfl rfl ?_
  refine j_iload_n 2 dX11_addSigns_35 rfl rfl ?_
  refine J_callV1 kX11_199 cvX11_keyWritten hP.1 (c_X11_keyWritten hM hZ hI hk hb) rfl rfl rfl rfl rfl dX11_addSigns_36 rfl rfl ?_
  refine J_callVW0 kX11_328 cvX11_add_ hP.1 (c_X11_add_ hM hZ hI (by omega)) rfl rfl rfl rfl rfl dX11_addSigns_39 rfl rfl (fun h hp => ?_)
  obtain ⟨hM, hF9⟩ := hp
  have hF := hF.tr hF9
  have hP := hM.1
  have hD := add30M hD hM
  refine J_iconst dX11_addSigns_42 ?_
  refine j_istore_n 3 (L' := [(3, _), (0, _), (1, _), (2, _)]) dX11_addSigns_43 rfl rfl rfl ?_
  exact j_locR (loop ((wW P p0 k b).1 9).toNat 0 _ _ (by omega) hM hL hI hD hF) (by repeat' (first | exact True.intro | refine And.intro rfl ?_))
