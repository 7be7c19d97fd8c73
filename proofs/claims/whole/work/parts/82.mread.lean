set_option maxRecDepth 100000 in
theorem c_X11_thrown {l : Launch} {G : jG} {h : jH} {a : Nat} {d : MD} {mp P : Nat → OS} {p p0 : OS} {Z : Nat → Nat}  (hM : Mod G h a d mp p) (hZ : Mz a d Z) (hI : MI d P p0 mp p.2)  : jC l G yX11_thrown mX11_thrown [.ref a] h (jE (oI (p.1 0)) h) := by
  refine j_body (by decide +kernel) ⟨rfl, rfl⟩ rfl ?_
  have hP := hM.1
  have hF : Fr (FtM a d) h h := Fr.rf
  obtain ⟨Fa, hpa, hFa⟩ := hM.2.1
  refine j_aload_n 0 dX11_thrown_0 rfl rfl ?_
  refine j_get fX11_87 dX11_thrown_1 hP.1 rfl ?_
  refine j_iret rfl dX11_thrown_4 ⟨oIe ?_, rfl⟩
  rfl
set_option maxRecDepth 100000 in
theorem c_X11_refuse {l : Launch} {G : jG} {h : jH} {a : Nat} {d : MD} {mp P : Nat → OS} {p p0 : OS} {Z : Nat → Nat} {t : Int} (hM : Mod G h a d mp p) (hZ : Mz a d Z) (hI : MI d P p0 mp p.2)  : jC l G yX11_refuse mX11_refuse [.ref a, vI t] h (jW (oI 0) (fun h' => Mod G h' a d mp (oU p 0 t) ∧ Fr (FtM a d) h h')) := by
  refine j_body (by decide +kernel) ⟨rfl, rfl⟩ rfl ?_
  have hP := hM.1
  have hF : Fr (FtM a d) h h := Fr.rf
  obtain ⟨Fa, hpa, hFa⟩ := hM.2.1
  refine j_aload_n 0 dX11_refuse_0 rfl rfl ?_
  refine j_iload_n 1 dX11_refuse_1 rfl rfl ?_
  refine J_putA hP fX11_87 tyX11_thrown dX11_refuse_2 rfl rfl (fun h hP hF2 => ?_)
  have hM := hM.w hZ hP hF2
  have hF := hF.tr (hF2.mono (fun _ q => Or.inl q))
  obtain ⟨Fa, hpa, hFa⟩ := hM.2.1
  refine J_iconst dX11_refuse_5 ?_
  refine j_iret rfl dX11_refuse_6 ?_
  exact ⟨rfl, hM, hF⟩
set_option maxRecDepth 100000 in
theorem c_X11_altered {l : Launch} {G : jG} {h : jH} {k s : Int} (hk : -7 ≤ k ∧ k ≤ 7) (hs : 0 ≤ s ∧ s < 7) : jC l G yX11_altered mX11_altered [vI k, vI s] h (jE (oI (altK k s)) h) := by
  have loop : ∀ (n : Nat) (i : Int), i + n = (k.natAbs : Int) → 0 ≤ i → (∀ j : Int, 0 ≤ j → j < i → lk [3, 0, 4, 1, 5, 2, 6] (if 0 < k then j else 6 - j) ≠ s) → J l G mX11_altered (jQ G mX11_altered (jE (oI (altK k s)) h)) 0 0 2 [(2, vI i), (0, vI k), (1, vI s)] [] h := by
    intro n
    induction n with
    | zero =>
      intro i hi h0 hj
      obtain rfl : i = (k.natAbs : Int) := by omega
      refine j_iload_n 2 dX11_altered_2 rfl rfl ?_
      refine j_iload_n 0 dX11_altered_3 rfl rfl ?_
      refine J_mabs kX11_190 rfl rfl dX11_altered_4 ?_ 
      refine J_icmp_ge 46 dX11_altered_7 (by decide) (fun c7 => ?_) (fun c7 => absurd c7 (by omega)) 
      refine J_iconst dX11_altered_46 ?_
      refine j_iret rfl dX11_altered_47 ⟨oIe ?_, rfl⟩
      exact alt_none hk hs hj
    | succ n ih =>
      intro i hi h0 hj
      refine j_iload_n 2 dX11_altered_2 rfl rfl ?_
      refine j_iload_n 0 dX11_altered_3 rfl rfl ?_
      refine J_mabs kX11_190 rfl rfl dX11_altered_4 ?_ 
      refine J_icmp_ge 46 dX11_altered_7 (by decide) (fun c7 => absurd c7 (by omega)) (fun c7 => ?_) 
      have hS := lkS i ⟨h0, by omega⟩
      have hS6 := lkS (6 - i) ⟨by omega, by omega⟩
      have hin : 0 ≤ i ∧ i < (k.natAbs : Int) := ⟨h0, by omega⟩
      refine j_gets 6 rfl fX11_193 dX11_altered_10 ?_
      refine j_iload_n 0 dX11_altered_13 rfl rfl ?_
      refine J_if_le 21 dX11_altered_14 (by decide) (fun c14 => ?_) (fun c14 => ?_) 
      · have hs0 : (if 0 < k then i else 6 - i) = 6 - i := if_neg (by omega)
        have hs1 : (if 0 < k then (1 : Int) else -1) = -1 := if_neg (by omega)
        refine J_bipush dX11_altered_21 (by decide) ?_
        refine j_iload_n 2 dX11_altered_23 rfl rfl ?_
        refine J_isub dX11_altered_24 ?_
        refine J_siald 6 [3, 0, 4, 1, 5, 2, 6] rfl rfl dX11_altered_25 ?_ 
        refine j_iload_n 1 dX11_altered_26 rfl rfl ?_
        refine J_icmp_ne 40 dX11_altered_27 (by decide) (fun c27 => ?_) (fun c27 => ?_) 
        · refine J_iinc (L' := [(2, _), (0, _), (1, _)]) dX11_altered_40 rfl rfl rfl ?_
          refine j_goto 2 dX11_altered_43 (by decide) ?_
          refine ih (i + 1) (by omega) (by omega) (fun j a c => ?_)
          by_cases e : j = i
          · subst e; rw [hs0]; exact c27
          · exact hj j a (by omega)
        · refine j_iload_n 0 dX11_altered_30 rfl rfl ?_
          refine J_if_le 38 dX11_altered_31 (by decide) (fun c31 => ?_) (fun c31 => ?_) 
          · refine J_iconst dX11_altered_38 ?_
            refine j_iret rfl dX11_altered_39 ⟨oIe ?_, rfl⟩
            first | omega | exact hs1.symm.trans (alt_hit hk hs hin ((congrArg (lk [3, 0, 4, 1, 5, 2, 6]) hs0).trans c27))
          · refine J_iconst dX11_altered_34 ?_
            refine j_goto 39 dX11_altered_35 (by decide) ?_
            refine j_iret rfl dX11_altered_39 ⟨oIe ?_, rfl⟩
            first | omega | exact hs1.symm.trans (alt_hit hk hs hin ((congrArg (lk [3, 0, 4, 1, 5, 2, 6]) hs0).trans c27))
      · have hs0 : (if 0 < k then i else 6 - i) = i := if_pos c14
        have hs1 : (if 0 < k then (1 : Int) else -1) = 1 := if_pos c14
        refine j_iload_n 2 dX11_altered_17 rfl rfl ?_
        refine j_goto 25 dX11_altered_18 (by decide) ?_
        refine J_siald 6 [3, 0, 4, 1, 5, 2, 6] rfl rfl dX11_altered_25 ?_ 
        refine j_iload_n 1 dX11_altered_26 rfl rfl ?_
        refine J_icmp_ne 40 dX11_altered_27 (by decide) (fun c27 => ?_) (fun c27 => ?_) 
        · refine J_iinc (L' := [(2, _), (0, _), (1, _)]) dX11_altered_40 rfl rfl rfl ?_
          refine j_goto 2 dX11_altered_43 (by decide) ?_
          refine ih (i + 1) (by omega) (by omega) (fun j a c => ?_)
          by_cases e : j = i
          · subst e; rw [hs0]; exact c27
          · exact hj j a (by omega)
        · refine j_iload_n 0 dX11_altered_30 rfl rfl ?_
          refine J_if_le 38 dX11_altered_31 (by decide) (fun c31 => ?_) (fun c31 => ?_) 
          · refine J_iconst dX11_altered_38 ?_
            refine j_iret rfl dX11_altered_39 ⟨oIe ?_, rfl⟩
            first | omega | exact hs1.symm.trans (alt_hit hk hs hin ((congrArg (lk [3, 0, 4, 1, 5, 2, 6]) hs0).trans c27))
          · refine J_iconst dX11_altered_34 ?_
            refine j_goto 39 dX11_altered_35 (by decide) ?_
            refine j_iret rfl dX11_altered_39 ⟨oIe ?_, rfl⟩
            first | omega | exact hs1.symm.trans (alt_hit hk hs hin ((congrArg (lk [3, 0, 4, 1, 5, 2, 6]) hs0).trans c27))
  refine j_body (by decide +kernel) ⟨rfl, rfl⟩ rfl ?_
  refine J_iconst dX11_altered_0 ?_
  refine j_istore_n 2 (L' := [(2, _), (0, _), (1, _)]) dX11_altered_1 rfl rfl rfl ?_
  exact loop k.natAbs 0 (by omega) (by omega) (fun j a c => absurd c (by omega))
set_option maxRecDepth 100000 in
theorem c_X11_isEvent {l : Launch} {G : jG} {h : jH} {a : Nat} {d : MD} {mp P : Nat → OS} {p p0 : OS} {Z : Nat → Nat} {k e : Int} (hM : Mod G h a d mp p) (hZ : Mz a d Z) (hI : MI d P p0 mp p.2) (hk : rg k) (he : rg e) : jC l G yX11_isEvent mX11_isEvent [.ref a, vI k, vI e] h (jE (oI (bI ((0 ≤ k ∧ k < 4) ∧ inP (P k.toNat) e))) h) := by
  refine j_body (by decide +kernel) ⟨rfl, rfl⟩ rfl ?_
  have hP := hM.1
  have hF : Fr (FtM a d) h h := Fr.rf
  obtain ⟨Fa, hpa, hFa⟩ := hM.2.1
  refine j_iload_n 1 dX11_isEvent_0 rfl rfl ?_
  refine J_callSZ kX11_95 csX11_isPart (c_X11_isPart hk) rfl rfl rfl rfl rfl dX11_isEvent_1 rfl rfl (fun z1 => ?_) (fun z1 => ?_)
  · refine J_if_eq 30 dX11_isEvent_4 (by decide) (fun c4 => absurd c4 (by decide)) (fun c4 => ?_) 
    have hPk := hM.2.2 k.toNat (by omega)
    have hmk := hI.2.1 k.toNat (by omega)
    have hpk := hI.1.1 k.toNat (by omega)
    have hnk : 0 ≤ (P k.toNat).1 7 ∧ (P k.toNat).1 7 ≤ 512 := hpk.1
    have hm7 := hmk.1.1
    refine j_iload_n 2 dX11_isEvent_7 rfl rfl ?_
    refine J_iconst dX11_isEvent_8 ?_
    refine j_aload_n 0 dX11_isEvent_9 rfl rfl ?_
    refine j_get fX11_24 dX11_isEvent_10 hP.1 rfl ?_
    refine j_iload_n 1 dX11_isEvent_13 rfl rfl ?_
    refine J_qaldM dX11_isEvent_14 hpa (hFa _ (by omega)) ?_ 
    refine j_getN fX11_99 dX11_isEvent_15 hPk.1 rfl ?_
    refine J_iconst dX11_isEvent_18 ?_
    refine J_isub dX11_isEvent_19 ?_
    refine J_callSZ kX11_91 csX11_is (c_X11_is he (by decide) (by omega)) rfl rfl rfl rfl rfl dX11_isEvent_20 rfl rfl (fun z20 => ?_) (fun z20 => ?_)
    · refine J_if_eq 30 dX11_isEvent_23 (by decide) (fun c23 => absurd c23 (by decide)) (fun c23 => ?_) 
      refine J_iconst dX11_isEvent_26 ?_
      refine j_goto 31 dX11_isEvent_27 (by decide) ?_
      refine j_zret rfl rfl dX11_isEvent_31 ⟨oIe ?_, rfl⟩
      (first | exact (if_pos ⟨z1, z20.1, by have := z20.2; omega⟩).symm | exact (if_neg (fun q => z20 ⟨q.2.1, by have := q.2.2; omega⟩)).symm | exact (if_neg (fun q => z1 q.1)).symm)
    · refine J_if_eq 30 dX11_isEvent_23 (by decide) (fun c23 => ?_) (fun c23 => absurd c23 (by decide)) 
      refine J_iconst dX11_isEvent_30 ?_
      refine j_zret rfl rfl dX11_isEvent_31 ⟨oIe ?_, rfl⟩
      (first | exact (if_pos ⟨z1, z20.1, by have := z20.2; omega⟩).symm | exact (if_neg (fun q => z20 ⟨q.2.1, by have := q.2.2; omega⟩)).symm | exact (if_neg (fun q => z1 q.1)).symm)
  · refine J_if_eq 30 dX11_isEvent_4 (by decide) (fun c4 => ?_) (fun c4 => absurd c4 (by decide)) 
    refine J_iconst dX11_isEvent_30 ?_
    refine j_zret rfl rfl dX11_isEvent_31 ⟨oIe ?_, rfl⟩
    (first | exact (if_pos ⟨z1, z20.1, by have := z20.2; omega⟩).symm | exact (if_neg (fun q => z20 ⟨q.2.1, by have := q.2.2; omega⟩)).symm | exact (if_neg (fun q => z1 q.1)).symm)
set_option maxRecDepth 100000 in
theorem c_X11_length {l : Launch} {G : jG} {h : jH} {a : Nat} {d : MD} {mp P : Nat → OS} {p p0 : OS} {Z : Nat → Nat} {b : Int} (hM : Mod G h a d mp p) (hZ : Mz a d Z) (hI : MI d P p0 mp p.2) (hb : isBar b) : jC l G yX11_length mX11_length [.ref a, vI b] h (jE (oI (p0.2 2 b)) h) := by
  refine j_body (by decide +kernel) ⟨rfl, rfl⟩ rfl ?_
  have hP := hM.1
  have hF : Fr (FtM a d) h h := Fr.rf
  obtain ⟨Fa, hpa, hFa⟩ := hM.2.1
  obtain ⟨g1, g2, g3, g4, g5, g6, g7, g8⟩ := hI.len hb
  obtain ⟨b0, b1⟩ := hb
  refine j_aload_n 0 dX11_length_0 rfl rfl ?_
  refine j_get fX11_28 dX11_length_1 hP.1 rfl ?_
  refine j_iload_n 1 dX11_length_4 rfl rfl ?_
  refine J_iald dX11_length_5 (hP.2.1 2 rfl) ?_ 
  refine J_top (p0.2 0 b) ?_ (by exact g1)
  refine J_bipush dX11_length_6 (by decide) ?_
  refine J_imul dX11_length_8 ?_
  refine j_aload_n 0 dX11_length_9 rfl rfl ?_
  refine j_get fX11_31 dX11_length_10 hP.1 rfl ?_
  refine j_iload_n 1 dX11_length_13 rfl rfl ?_
  refine J_iald dX11_length_14 (hP.2.1 3 rfl) ?_ 
  refine J_top (p0.2 1 b) ?_ (by exact g2)
  refine J_idiv dX11_length_15 ?_ 
  refine j_iret rfl dX11_length_16 ⟨oIe ?_, rfl⟩
  exact g3.symm
set_option maxRecDepth 100000 in
theorem c_X11_begin {l : Launch} {G : jG} {h : jH} {a : Nat} {d : MD} {mp P : Nat → OS} {p p0 : OS} {Z : Nat → Nat} {b : Int} (hM : Mod G h a d mp p) (hZ : Mz a d Z) (hI : MI d P p0 mp p.2) (hb : 0 ≤ b ∧ b ≤ 24) : jC l G yX11_begin mX11_begin [.ref a, vI b] h (jE (oI (sumN (p0.2 2) b.toNat)) h) := by
  have hP := hM.1
  have loop : ∀ (n : Nat) (i : Int), i + n = b → 0 ≤ i → J l G mX11_begin (jQ G mX11_begin (jE (oI (sumN (p0.2 2) b.toNat)) h)) 0 0 4 [(3, vI i), (2, vI (sumN (p0.2 2) i.toNat)), (0, .ref a), (1, vI b)] [] h := by
    intro n
    induction n with
    | zero =>
      intro i hi h0
      obtain rfl : i = b := by omega
      refine j_iload_n 3 dX11_begin_4 rfl rfl ?_
      refine j_iload_n 1 dX11_begin_5 rfl rfl ?_
      refine J_icmp_ge 23 dX11_begin_6 (by decide) (fun c6 => ?_) (fun c6 => absurd c6 (by omega)) 
      refine j_iload_n 2 dX11_begin_23 rfl rfl ?_
      refine j_iret rfl dX11_begin_24 ⟨oIe ?_, rfl⟩
      rfl
    | succ n ih =>
      intro i hi h0
      refine j_iload_n 3 dX11_begin_4 rfl rfl ?_
      refine j_iload_n 1 dX11_begin_5 rfl rfl ?_
      refine J_icmp_ge 23 dX11_begin_6 (by decide) (fun c6 => absurd c6 (by omega)) (fun c6 => ?_) 
      refine j_iload_n 2 dX11_begin_9 rfl rfl ?_
      refine j_aload_n 0 dX11_begin_10 rfl rfl ?_
      refine j_iload_n 3 dX11_begin_11 rfl rfl ?_
      refine J_callV1 kX11_105 cvX11_length hP.1 (c_X11_length hM hZ hI (b := i) ⟨h0, by omega⟩) rfl rfl rfl rfl rfl dX11_begin_12 rfl rfl ?_
      refine J_iadd dX11_begin_15 ?_
      refine j_istore_n 2 (L' := [(2, _), (3, _), (0, _), (1, _)]) dX11_begin_16 rfl rfl rfl ?_
      refine J_iinc (L' := [(3, _), (2, _), (0, _), (1, _)]) dX11_begin_17 rfl rfl rfl ?_
      refine j_goto 4 dX11_begin_20 (by decide) ?_
      have := ih (i + 1) (by omega) (by omega)
      rw [sumN_succ h0] at this
      exact this
  refine j_body (by decide +kernel) ⟨rfl, rfl⟩ rfl ?_
  refine J_iconst dX11_begin_0 ?_
  refine j_istore_n 2 (L' := [(2, _), (0, _), (1, _)]) dX11_begin_1 rfl rfl rfl ?_
  refine J_iconst dX11_begin_2 ?_
  refine j_istore_n 3 (L' := [(3, _), (2, _), (0, _), (1, _)]) dX11_begin_3 rfl rfl rfl ?_
  exact loop b.toNat 0 (by omega) (by omega)
set_option maxRecDepth 100000 in
theorem c_X11_barAt {l : Launch} {G : jG} {h : jH} {a : Nat} {d : MD} {mp P : Nat → OS} {p p0 : OS} {Z : Nat → Nat} {t : Int} (hM : Mod G h a d mp p) (hZ : Mz a d Z) (hI : MI d P p0 mp p.2) (ht : rg t) : jC l G yX11_barAt mX11_barAt [.ref a, vI t] h (jE (oI (barF (p0.2 2) t 24)) h) := by
  have hP := hM.1
  have loop : ∀ (n : Nat) (i e : Int), i + n = 24 → 0 ≤ i → (i < 24 → e = sumN (p0.2 2) (i + 1).toNat) → (0 ≤ e ∧ e ≤ 20000) → barF (p0.2 2) t 24 = barF (p0.2 2) t n → J l G mX11_barAt (jQ G mX11_barAt (jE (oI (barF (p0.2 2) t 24)) h)) 0 0 8 [(3, vI e), (2, vI i), (0, .ref a), (1, vI t)] [] h := by
    intro n
    induction n with
    | zero =>
      intro i e hi h0 he hr hf
      obtain rfl : i = 24 := by omega
      refine j_iload_n 2 dX11_barAt_8 rfl rfl ?_
      refine J_bipush dX11_barAt_9 (by decide) ?_
      refine J_icmp_ge 43 dX11_barAt_11 (by decide) (fun c11 => ?_) (fun c11 => absurd c11 (by omega)) 
      refine j_iload_n 2 dX11_barAt_43 rfl rfl ?_
      refine J_bipush dX11_barAt_44 (by decide) ?_
      refine J_icmp_ge 53 dX11_barAt_46 (by decide) (fun c46 => ?_) (fun c46 => absurd c46 (by omega)) 
      refine J_iconst dX11_barAt_53 ?_
      refine j_iret rfl dX11_barAt_54 ⟨oIe ?_, rfl⟩
      (rw [hf]; rfl)
    | succ n ih =>
      intro i e hi h0 he hr hf
      have e2 : (i + 1).toNat = 24 - n := by omega
      have he2 := he (by omega)
      have hb2 : barF (p0.2 2) t (n + 1) = if t < sumN (p0.2 2) (24 - n) then 24 - ((n : Int) + 1) else barF (p0.2 2) t n := rfl
      rw [hb2, ← e2, ← he2] at hf
      refine j_iload_n 2 dX11_barAt_8 rfl rfl ?_
      refine J_bipush dX11_barAt_9 (by decide) ?_
      refine J_icmp_ge 43 dX11_barAt_11 (by decide) (fun c11 => absurd c11 (by omega)) (fun c11 => ?_) 
      refine j_iload_n 3 dX11_barAt_14 rfl rfl ?_
      refine j_iload_n 1 dX11_barAt_15 rfl rfl ?_
      refine J_icmp_gt 43 dX11_barAt_16 (by decide) (fun c16 => ?_) (fun c16 => ?_) 
      · refine j_iload_n 2 dX11_barAt_43 rfl rfl ?_
        refine J_bipush dX11_barAt_44 (by decide) ?_
        refine J_icmp_ge 53 dX11_barAt_46 (by decide) (fun c46 => absurd c46 (by omega)) (fun c46 => ?_) 
        refine j_iload_n 2 dX11_barAt_49 rfl rfl ?_
        refine j_goto 54 dX11_barAt_50 (by decide) ?_
        refine j_iret rfl dX11_barAt_54 ⟨oIe ?_, rfl⟩
        (rw [hf, if_pos (by omega)]; omega)
      · refine J_iinc (L' := [(2, _), (3, _), (0, _), (1, _)]) dX11_barAt_19 rfl rfl rfl ?_
        refine j_iload_n 3 dX11_barAt_22 rfl rfl ?_
        refine j_iload_n 2 dX11_barAt_23 rfl rfl ?_
        refine J_bipush dX11_barAt_24 (by decide) ?_
        refine J_icmp_ge 37 dX11_barAt_26 (by decide) (fun c26 => ?_) (fun c26 => ?_) 
        · refine J_iconst dX11_barAt_37 ?_
          refine J_iadd dX11_barAt_38 ?_
          refine j_istore_n 3 (L' := [(3, _), (2, _), (0, _), (1, _)]) dX11_barAt_39 rfl rfl rfl ?_
          refine j_goto 8 dX11_barAt_40 (by decide) ?_
          rw [if_neg (by omega)] at hf
          exact ih (i + 1) _ (by omega) (by omega) (fun _ => by omega) (by omega) hf
        · refine j_aload_n 0 dX11_barAt_29 rfl rfl ?_
          refine j_iload_n 2 dX11_barAt_30 rfl rfl ?_
          have hl := hI.len (b := i + 1) ⟨by omega, by omega⟩
          have hss := hI.sum (n := (i + 1 + 1).toNat) (by omega)
          have hs2 := sumN_succ (f := p0.2 2) (i := i + 1) (by omega)
          refine J_callV1 kX11_105 cvX11_length hP.1 (c_X11_length hM hZ hI (b := i + 1) ⟨by omega, by omega⟩) rfl rfl rfl rfl rfl dX11_barAt_31 rfl rfl ?_
          refine j_goto 38 dX11_barAt_34 (by decide) ?_
          refine J_iadd dX11_barAt_38 ?_
          refine j_istore_n 3 (L' := [(3, _), (2, _), (0, _), (1, _)]) dX11_barAt_39 rfl rfl rfl ?_
          refine j_goto 8 dX11_barAt_40 (by decide) ?_
          rw [if_neg (by omega)] at hf
          exact ih (i + 1) _ (by omega) (by omega) (fun _ => by omega) (by omega) hf
  refine j_body (by decide +kernel) ⟨rfl, rfl⟩ rfl ?_
  refine J_iconst dX11_barAt_0 ?_
  refine j_istore_n 2 (L' := [(2, _), (0, _), (1, _)]) dX11_barAt_1 rfl rfl rfl ?_
  refine j_aload_n 0 dX11_barAt_2 rfl rfl ?_
  refine J_iconst dX11_barAt_3 ?_
  refine J_callV1 kX11_105 cvX11_length hP.1 (c_X11_length hM hZ hI (b := 0) ⟨by decide, by decide⟩) rfl rfl rfl rfl rfl dX11_barAt_4 rfl rfl ?_
  refine j_istore_n 3 (L' := [(3, _), (2, _), (0, _), (1, _)]) dX11_barAt_7 rfl rfl rfl ?_
  have hss := hI.sum (n := 1) (by omega)
  have hs1 : sumN (p0.2 2) 1 = 0 + p0.2 2 0 := rfl
  exact j_locR (loop 24 0 _ (by omega) (by omega) (fun _ => by show p0.2 2 0 = sumN (p0.2 2) 1; omega) (by omega) rfl) (by repeat' (first | exact True.intro | refine And.intro rfl ?_))
set_option maxRecDepth 100000 in
theorem c_X11_keyWritten {l : Launch} {G : jG} {h : jH} {a : Nat} {d : MD} {mp P : Nat → OS} {p p0 : OS} {Z : Nat → Nat} {k b : Int} (hM : Mod G h a d mp p) (hZ : Mz a d Z) (hI : MI d P p0 mp p.2) (hk : 0 ≤ k ∧ k < 4) (hb : isBar b) : jC l G yX11_keyWritten mX11_keyWritten [.ref a, vI k, vI b] h (jE (oI (kwF (P k.toNat) (p0.2 3 b))) h) := by
  refine j_body (by decide +kernel) ⟨rfl, rfl⟩ rfl ?_
  have hP := hM.1
  have hF : Fr (FtM a d) h h := Fr.rf
  obtain ⟨Fa, hpa, hFa⟩ := hM.2.1
  obtain ⟨g1, g2, g3, g4, g5, g6, g7, g8⟩ := hI.len hb
  obtain ⟨b0, b1⟩ := hb
  have hPk := hM.2.2 k.toNat (by omega)
  have hmk := hI.2.1 k.toNat (by omega)
  have hpk := hI.1.1 k.toNat (by omega)
  have hnk : 0 ≤ (P k.toNat).1 7 ∧ (P k.toNat).1 7 ≤ 512 := hpk.1
  obtain ⟨hq1, hq2, hq3, hq4, hq5⟩ := hpk.2.2.1
  refine j_aload_n 0 dX11_keyWritten_0 rfl rfl ?_
  refine j_get fX11_34 dX11_keyWritten_1 hP.1 rfl ?_
  refine j_iload_n 2 dX11_keyWritten_4 rfl rfl ?_
  refine J_iald dX11_keyWritten_5 (hP.2.1 4 rfl) ?_ 
  refine J_top (p0.2 3 b) ?_ (by exact g7)
  refine j_aload_n 0 dX11_keyWritten_6 rfl rfl ?_
  refine j_get fX11_24 dX11_keyWritten_7 hP.1 rfl ?_
  refine j_iload_n 1 dX11_keyWritten_10 rfl rfl ?_
  refine J_qaldM dX11_keyWritten_11 hpa (hFa _ (by omega)) ?_ 
  refine j_getN fX11_161 dX11_keyWritten_12 hPk.1 rfl ?_
  refine J_top ((P k.toNat).1 11) ?_ (by exact hmk.1.2.2.2.1)
  refine J_iadd dX11_keyWritten_15 ?_
  refine j_istore_n 3 (L' := [(3, _), (0, _), (1, _), (2, _)]) dX11_keyWritten_16 rfl rfl rfl ?_
  refine j_iload_n 3 dX11_keyWritten_17 rfl rfl ?_
  refine J_bipush dX11_keyWritten_18 (by decide) ?_
  refine J_icmp_le 30 dX11_keyWritten_20 (by decide) (fun c20 => ?_) (fun c20 => ?_) 
  · refine j_iload_n 3 dX11_keyWritten_30 rfl rfl ?_
    refine J_bipush dX11_keyWritten_31 (by decide) ?_
    refine J_icmp_ge 43 dX11_keyWritten_33 (by decide) (fun c33 => ?_) (fun c33 => ?_) 
    · refine j_iload_n 3 dX11_keyWritten_43 rfl rfl ?_
      refine j_iret rfl dX11_keyWritten_44 ⟨oIe ?_, rfl⟩
      (unfold kwF; (repeat' split) <;> omega)
    · refine j_iload_n 3 dX11_keyWritten_36 rfl rfl ?_
      refine J_bipush dX11_keyWritten_37 (by decide) ?_
      refine J_iadd dX11_keyWritten_39 ?_
      refine j_goto 44 dX11_keyWritten_40 (by decide) ?_
      refine j_iret rfl dX11_keyWritten_44 ⟨oIe ?_, rfl⟩
      (unfold kwF; (repeat' split) <;> omega)
  · refine j_iload_n 3 dX11_keyWritten_23 rfl rfl ?_
    refine J_bipush dX11_keyWritten_24 (by decide) ?_
    refine J_isub dX11_keyWritten_26 ?_
    refine j_goto 44 dX11_keyWritten_27 (by decide) ?_
    refine j_iret rfl dX11_keyWritten_44 ⟨oIe ?_, rfl⟩
    (unfold kwF; (repeat' split) <;> omega)
set_option maxRecDepth 100000 in
theorem c_X11_heightNow {l : Launch} {G : jG} {h : jH} {a : Nat} {d : MD} {mp P : Nat → OS} {p p0 : OS} {Z : Nat → Nat} {k e : Int} (hM : Mod G h a d mp p) (hZ : Mz a d Z) (hI : MI d P p0 mp p.2) (hk : 0 ≤ k ∧ k < 4) (hi : inP (P k.toNat) e) : jC l G yX11_heightNow mX11_heightNow [.ref a, vI k, vI e] h (jE (oI (htE (P k.toNat) e)) h) := by
  refine j_body (by decide +kernel) ⟨rfl, rfl⟩ rfl ?_
  have hP := hM.1
  have hF : Fr (FtM a d) h h := Fr.rf
  obtain ⟨Fa, hpa, hFa⟩ := hM.2.1
  have hPk := hM.2.2 k.toNat (by omega)
  have hmk := hI.2.1 k.toNat (by omega)
  have hpk := hI.1.1 k.toNat (by omega)
  have hnk : 0 ≤ (P k.toNat).1 7 ∧ (P k.toNat).1 7 ≤ 512 := hpk.1
  have hh : htE (P k.toNat) e = (P k.toNat).2 2 e := if_pos hi
  have hr : (P k.toNat).2 0 e = 0 → (P k.toNat).2 2 e = -1 := fun q => by rw [hpk.2.2.2.2.2.2.1 e hi.1 hi.2]; exact if_pos q
  refine j_aload_n 0 dX11_heightNow_0 rfl rfl ?_
  refine j_get fX11_24 dX11_heightNow_1 hP.1 rfl ?_
  refine j_iload_n 1 dX11_heightNow_4 rfl rfl ?_
  refine J_qaldM dX11_heightNow_5 hpa (hFa _ (by omega)) ?_ 
  refine j_iload_n 2 dX11_heightNow_6 rfl rfl ?_
  refine J_callVZ kX11_137 cvX10_isNote hPk.1 (c_X10_isNote hPk hmk hpk hi) rfl rfl rfl rfl rfl dX11_heightNow_7 rfl rfl (fun z7 => ?_) (fun z7 => ?_)
  · refine J_if_eq 26 dX11_heightNow_10 (by decide) (fun c10 => absurd c10 (by decide)) (fun c10 => ?_) 
    refine j_aload_n 0 dX11_heightNow_13 rfl rfl ?_
    refine j_get fX11_24 dX11_heightNow_14 hP.1 rfl ?_
    refine j_iload_n 1 dX11_heightNow_17 rfl rfl ?_
    refine J_qaldM dX11_heightNow_18 hpa (hFa _ (by omega)) ?_ 
    refine j_iload_n 2 dX11_heightNow_19 rfl rfl ?_
    refine J_callV1 kX11_140 cvX10_height hPk.1 (c_X10_height hPk hmk hpk hi z7) rfl rfl rfl rfl rfl dX11_heightNow_20 rfl rfl ?_
    refine j_goto 27 dX11_heightNow_23 (by decide) ?_
    refine j_iret rfl dX11_heightNow_27 ⟨oIe ?_, rfl⟩
    first | exact hh.symm | (rw [hh, hr (by omega)])
  · refine J_if_eq 26 dX11_heightNow_10 (by decide) (fun c10 => ?_) (fun c10 => absurd c10 (by decide)) 
    refine J_iconst dX11_heightNow_26 ?_
    refine j_iret rfl dX11_heightNow_27 ⟨oIe ?_, rfl⟩
    first | exact hh.symm | (rw [hh, hr (by omega)])
set_option maxRecDepth 100000 in
theorem c_X11_writtenPlaceNow {l : Launch} {G : jG} {h : jH} {a : Nat} {d : MD} {mp P : Nat → OS} {p p0 : OS} {Z : Nat → Nat} {k e : Int} (hM : Mod G h a d mp p) (hZ : Mz a d Z) (hI : MI d P p0 mp p.2) (hk : 0 ≤ k ∧ k < 4) (hi : inP (P k.toNat) e) : jC l G yX11_writtenPlaceNow mX11_writtenPlaceNow [.ref a, vI k, vI e] h (jE (oI ((P k.toNat).2 5 e)) h) := by
  refine j_body (by decide +kernel) ⟨rfl, rfl⟩ rfl ?_
  have hP := hM.1
  have hF : Fr (FtM a d) h h := Fr.rf
  obtain ⟨Fa, hpa, hFa⟩ := hM.2.1
  have hPk := hM.2.2 k.toNat (by omega)
  have hmk := hI.2.1 k.toNat (by omega)
  have hpk := hI.1.1 k.toNat (by omega)
  have hnk : 0 ≤ (P k.toNat).1 7 ∧ (P k.toNat).1 7 ≤ 512 := hpk.1
  have hh := (hpk.2.2.2.2.2.2.2.1 e hi.1 hi.2).1
  refine j_aload_n 0 dX11_writtenPlaceNow_0 rfl rfl ?_
  refine j_get fX11_24 dX11_writtenPlaceNow_1 hP.1 rfl ?_
  refine j_iload_n 1 dX11_writtenPlaceNow_4 rfl rfl ?_
  refine J_qaldM dX11_writtenPlaceNow_5 hpa (hFa _ (by omega)) ?_ 
  refine j_iload_n 2 dX11_writtenPlaceNow_6 rfl rfl ?_
  refine J_callVZ kX11_167 cvX10_isWritten hPk.1 (c_X10_isWritten hPk hmk hpk hi) rfl rfl rfl rfl rfl dX11_writtenPlaceNow_7 rfl rfl (fun z7 => ?_) (fun z7 => ?_)
  · refine J_if_eq 26 dX11_writtenPlaceNow_10 (by decide) (fun c10 => absurd c10 (by decide)) (fun c10 => ?_) 
    refine j_aload_n 0 dX11_writtenPlaceNow_13 rfl rfl ?_
    refine j_get fX11_24 dX11_writtenPlaceNow_14 hP.1 rfl ?_
    refine j_iload_n 1 dX11_writtenPlaceNow_17 rfl rfl ?_
    refine J_qaldM dX11_writtenPlaceNow_18 hpa (hFa _ (by omega)) ?_ 
    refine j_iload_n 2 dX11_writtenPlaceNow_19 rfl rfl ?_
    refine J_callV1 kX11_178 cvX10_writtenPlace hPk.1 (c_X10_writtenPlace hPk hmk hpk hi) rfl rfl rfl rfl rfl dX11_writtenPlaceNow_20 rfl rfl ?_
    refine j_goto 27 dX11_writtenPlaceNow_23 (by decide) ?_
    refine j_iret rfl dX11_writtenPlaceNow_27 ⟨oIe ?_, rfl⟩
    first | (rw [hh, if_pos z7]) | (rw [hh, if_neg z7])
  · refine J_if_eq 26 dX11_writtenPlaceNow_10 (by decide) (fun c10 => ?_) (fun c10 => absurd c10 (by decide)) 
    refine J_iconst dX11_writtenPlaceNow_26 ?_
    refine j_iret rfl dX11_writtenPlaceNow_27 ⟨oIe ?_, rfl⟩
    first | (rw [hh, if_pos z7]) | (rw [hh, if_neg z7])
set_option maxRecDepth 100000 in
theorem c_X11_writtenAlterNow {l : Launch} {G : jG} {h : jH} {a : Nat} {d : MD} {mp P : Nat → OS} {p p0 : OS} {Z : Nat → Nat} {k e : Int} (hM : Mod G h a d mp p) (hZ : Mz a d Z) (hI : MI d P p0 mp p.2) (hk : 0 ≤ k ∧ k < 4) (hi : inP (P k.toNat) e) : jC l G yX11_writtenAlterNow mX11_writtenAlterNow [.ref a, vI k, vI e] h (jE (oI ((P k.toNat).2 6 e)) h) := by
  refine j_body (by decide +kernel) ⟨rfl, rfl⟩ rfl ?_
  have hP := hM.1
  have hF : Fr (FtM a d) h h := Fr.rf
  obtain ⟨Fa, hpa, hFa⟩ := hM.2.1
  have hPk := hM.2.2 k.toNat (by omega)
  have hmk := hI.2.1 k.toNat (by omega)
  have hpk := hI.1.1 k.toNat (by omega)
  have hnk : 0 ≤ (P k.toNat).1 7 ∧ (P k.toNat).1 7 ≤ 512 := hpk.1
  have hh := (hpk.2.2.2.2.2.2.2.1 e hi.1 hi.2).2
  refine j_aload_n 0 dX11_writtenAlterNow_0 rfl rfl ?_
  refine j_get fX11_24 dX11_writtenAlterNow_1 hP.1 rfl ?_
  refine j_iload_n 1 dX11_writtenAlterNow_4 rfl rfl ?_
  refine J_qaldM dX11_writtenAlterNow_5 hpa (hFa _ (by omega)) ?_ 
  refine j_iload_n 2 dX11_writtenAlterNow_6 rfl rfl ?_
  refine J_callVZ kX11_167 cvX10_isWritten hPk.1 (c_X10_isWritten hPk hmk hpk hi) rfl rfl rfl rfl rfl dX11_writtenAlterNow_7 rfl rfl (fun z7 => ?_) (fun z7 => ?_)
  · refine J_if_eq 26 dX11_writtenAlterNow_10 (by decide) (fun c10 => absurd c10 (by decide)) (fun c10 => ?_) 
    refine j_aload_n 0 dX11_writtenAlterNow_13 rfl rfl ?_
    refine j_get fX11_24 dX11_writtenAlterNow_14 hP.1 rfl ?_
    refine j_iload_n 1 dX11_writtenAlterNow_17 rfl rfl ?_
    refine J_qaldM dX11_writtenAlterNow_18 hpa (hFa _ (by omega)) ?_ 
    refine j_iload_n 2 dX11_writtenAlterNow_19 rfl rfl ?_
    refine J_callV1 kX11_181 cvX10_writtenAlter hPk.1 (c_X10_writtenAlter hPk hmk hpk hi z7.1) rfl rfl rfl rfl rfl dX11_writtenAlterNow_20 rfl rfl ?_
    refine j_goto 28 dX11_writtenAlterNow_23 (by decide) ?_
    refine j_iret rfl dX11_writtenAlterNow_28 ⟨oIe ?_, rfl⟩
    first | (rw [hh, if_pos z7]) | (rw [hh, if_neg z7])
  · refine J_if_eq 26 dX11_writtenAlterNow_10 (by decide) (fun c10 => ?_) (fun c10 => absurd c10 (by decide)) 
    refine J_bipush dX11_writtenAlterNow_26 (by decide) ?_
    refine j_iret rfl dX11_writtenAlterNow_28 ⟨oIe ?_, rfl⟩
    first | (rw [hh, if_pos z7]) | (rw [hh, if_neg z7])
set_option maxRecDepth 100000 in
theorem c_X11_missingNow {l : Launch} {G : jG} {h : jH} {a : Nat} {d : MD} {mp P : Nat → OS} {p p0 : OS} {Z : Nat → Nat} {k b : Int} (hM : Mod G h a d mp p) (hZ : Mz a d Z) (hI : MI d P p0 mp p.2) (hk : 0 ≤ k ∧ k < 4) (hb : isBar b) : jC l G yX11_missingNow mX11_missingNow [.ref a, vI k, vI b] h (jE (oI (misF (P k.toNat) p0 b)) h) := by
  refine j_body (by decide +kernel) ⟨rfl, rfl⟩ rfl ?_
  have hP := hM.1
  have hF : Fr (FtM a d) h h := Fr.rf
  obtain ⟨Fa, hpa, hFa⟩ := hM.2.1
  obtain ⟨g1, g2, g3, g4, g5, g6, g7, g8⟩ := hI.len hb
  have hs := hI.sum (n := b.toNat) (by unfold isBar at hb; omega)
  have hPk := hM.2.2 k.toNat (by omega)
  have hmk := hI.2.1 k.toNat (by omega)
  have hpk := hI.1.1 k.toNat (by omega)
  have hnk : 0 ≤ (P k.toNat).1 7 ∧ (P k.toNat).1 7 ≤ 512 := hpk.1
  obtain ⟨hq1, hq2, hq3, hq4, hq5⟩ := hpk.2.2.1
  have hb2 : 0 ≤ b ∧ b < 24 := hb
  refine J_iconst dX11_missingNow_0 ?_
  refine j_aload_n 0 dX11_missingNow_1 rfl rfl ?_
  refine j_iload_n 2 dX11_missingNow_2 rfl rfl ?_
  refine J_callV1 kX11_105 cvX11_length hP.1 (c_X11_length hM hZ hI (b := b) hb) rfl rfl rfl rfl rfl dX11_missingNow_3 rfl rfl ?_
  refine j_aload_n 0 dX11_missingNow_6 rfl rfl ?_
  refine j_iload_n 2 dX11_missingNow_7 rfl rfl ?_
  refine J_callV1 kX11_112 cvX11_begin hP.1 (c_X11_begin hM hZ hI ⟨by omega, by omega⟩) rfl rfl rfl rfl rfl dX11_missingNow_8 rfl rfl ?_
  refine j_aload_n 0 dX11_missingNow_11 rfl rfl ?_
  refine j_iload_n 2 dX11_missingNow_12 rfl rfl ?_
  refine J_callV1 kX11_105 cvX11_length hP.1 (c_X11_length hM hZ hI (b := b) hb) rfl rfl rfl rfl rfl dX11_missingNow_13 rfl rfl ?_
  refine J_iadd dX11_missingNow_16 ?_
  refine j_aload_n 0 dX11_missingNow_17 rfl rfl ?_
  refine j_get fX11_24 dX11_missingNow_18 hP.1 rfl ?_
  refine j_iload_n 1 dX11_missingNow_21 rfl rfl ?_
  refine J_qaldM dX11_missingNow_22 hpa (hFa _ (by omega)) ?_ 
  refine J_callV1 kX11_109 cvX10_end hPk.1 (c_X10_end hPk hmk hpk) rfl rfl rfl rfl rfl dX11_missingNow_23 rfl rfl ?_
  refine J_isub dX11_missingNow_26 ?_
  refine J_mmin kX11_211 rfl rfl dX11_missingNow_27 ?_ 
  refine J_mmax kX11_205 rfl rfl dX11_missingNow_30 ?_ 
  refine j_iret rfl dX11_missingNow_33 ⟨oIe ?_, rfl⟩
  rfl
