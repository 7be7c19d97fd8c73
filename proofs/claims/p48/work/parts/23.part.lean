theorem sumN_succ {f : Int → Int} {i : Int} (h : 0 ≤ i) : sumN f (i + 1).toNat = sumN f i.toNat + f i := by
  obtain ⟨k, rfl⟩ := Int.eq_ofNat_of_zero_le h
  show sumN f ((k : Int) + 1).toNat = sumN f (k : Int).toNat + f k
  have e : ((k : Int) + 1).toNat = k + 1 := by omega
  rw [e, Int.toNat_natCast]
  rfl
def fNote (p : OS) (i : Int) : Int := if p.2 0 i ≠ 0 then 1 else 0
def fOut (p : OS) (i : Int) : Int := if p.2 0 i ≠ 0 ∧ (p.2 0 i < p.1 9 ∨ p.1 10 < p.2 0 i) then 1 else 0
def fNoW (p : OS) (i : Int) : Int := if p.2 0 i ≠ 0 ∧ p.2 5 i = -1 then 1 else 0
def fHe (p : OS) (i : Int) : Int := if p.2 0 i ≠ 0 then p.2 2 i else 0
theorem wfi_1 (p : OS) (e : Int) : (wfi p e).1 = p.1 := rfl
theorem wfiN_1 (p : OS) : ∀ k, (wfiN p k).1 = p.1
  | 0 => rfl
  | k + 1 => by rw [wfiN, wfi_1, wfiN_1 p k]
theorem wfi_2 (p : OS) (e : Int) {j : Nat} (h5 : j ≠ 5) (h6 : j ≠ 6) : (wfi p e).2 j = p.2 j := by simp [wfi, oA, h5, h6]
theorem wfiN_2 (p : OS) {j : Nat} (h5 : j ≠ 5) (h6 : j ≠ 6) : ∀ k, (wfiN p k).2 j = p.2 j
  | 0 => rfl
  | k + 1 => by rw [wfiN, wfi_2 _ _ h5 h6, wfiN_2 p h5 h6 k]
set_option maxRecDepth 100000 in
theorem c_X6_notesOutOfRange {l : Launch} {G : jG} {h : jH} {a : Nat} {q : Nat → Nat} {p : OS} (hP : AtX6 G h a q p) (hn : pN p) (hz : eA p) (hzz : pZ p) : jC l G yX6_notesOutOfRange mX6_notesOutOfRange [.ref a] h (jE (oI (sumN (fOut p) (p.1 7).toNat)) h) := by
  have hn2 : 0 ≤ p.1 7 ∧ p.1 7 ≤ 512 := hn
  have loop : ∀ (n : Nat) (i : Int), i + n = p.1 7 → 0 ≤ i → J l G mX6_notesOutOfRange (jQ G mX6_notesOutOfRange (jE (oI (sumN (fOut p) (p.1 7).toNat)) h)) 0 0 4 [(2, vI i), (1, vI (sumN (fOut p) i.toNat)), (0, .ref a)] [] h := by
    intro n
    induction n with
    | zero =>
      intro i hi h0
      obtain rfl : i = p.1 7 := by omega
      refine j_iload_n 2 dX6_notesOutOfRange_4 rfl rfl ?_
      refine j_aload_n 0 dX6_notesOutOfRange_5 rfl rfl ?_
      refine j_get fX6_40 dX6_notesOutOfRange_6 hP.1 rfl ?_
      refine J_icmp_ge 34 dX6_notesOutOfRange_9 (by decide) (fun c9 => ?_) (fun c9 => absurd c9 (by omega)) 
      refine j_iload_n 1 dX6_notesOutOfRange_34 rfl rfl ?_
      refine j_iret rfl dX6_notesOutOfRange_35 ⟨oIe ?_, rfl⟩
      (first | omega | (simp only [bI]; (repeat' split) <;> omega))
    | succ n ih =>
      intro i hi h0
      have he : rg i := by omega
      have hzi := hz i h0 (by omega)
      have back : ∀ x : Int, fOut p i = x → J l G mX6_notesOutOfRange (jQ G mX6_notesOutOfRange (jE (oI (sumN (fOut p) (p.1 7).toNat)) h)) 0 0 4 [(2, vI (i + 1)), (1, vI (sumN (fOut p) i.toNat + x)), (0, .ref a)] [] h := by
        intro x hx
        have := ih (i + 1) (by omega) (by omega)
        rw [sumN_succ h0, hx] at this
        exact this
      refine j_iload_n 2 dX6_notesOutOfRange_4 rfl rfl ?_
      refine j_aload_n 0 dX6_notesOutOfRange_5 rfl rfl ?_
      refine j_get fX6_40 dX6_notesOutOfRange_6 hP.1 rfl ?_
      refine J_icmp_ge 34 dX6_notesOutOfRange_9 (by decide) (fun c9 => absurd c9 (by omega)) (fun c9 => ?_) 
      refine j_iload_n 1 dX6_notesOutOfRange_12 rfl rfl ?_
      refine j_aload_n 0 dX6_notesOutOfRange_13 rfl rfl ?_
      refine j_iload_n 2 dX6_notesOutOfRange_14 rfl rfl ?_
      refine J_callVZ kX6_80 cvX6_isOutOfRange hP.1 (c_X6_isOutOfRange hP hn hz hzz he) rfl rfl rfl rfl rfl dX6_notesOutOfRange_15 rfl rfl (fun z15 => ?_) (fun z15 => ?_)
      · refine J_if_eq 25 dX6_notesOutOfRange_18 (by decide) (fun c18 => absurd c18 (by decide)) (fun c18 => ?_) 
        refine J_iconst dX6_notesOutOfRange_21 ?_
        refine j_goto 26 dX6_notesOutOfRange_22 (by decide) ?_
        refine J_iadd dX6_notesOutOfRange_26 ?_
        refine j_istore_n 1 (L' := [(1, _), (2, _), (0, _)]) dX6_notesOutOfRange_27 rfl rfl rfl ?_
        refine J_iinc (L' := [(2, _), (1, _), (0, _)]) dX6_notesOutOfRange_28 rfl rfl rfl ?_
        refine j_goto 4 dX6_notesOutOfRange_31 (by decide) ?_
        exact back _ (by unfold fOut; first | rw [if_pos (by first | exact z15.2 | exact ⟨z15.2, by omega⟩ | exact ⟨z15.2, c28⟩)] | rw [if_neg (fun q => by first | exact z15 ⟨⟨by omega, by omega⟩, q⟩ | exact z15 ⟨⟨by omega, by omega⟩, q.1⟩ | exact c28 q.2)])
      · refine J_if_eq 25 dX6_notesOutOfRange_18 (by decide) (fun c18 => ?_) (fun c18 => absurd c18 (by decide)) 
        refine J_iconst dX6_notesOutOfRange_25 ?_
        refine J_iadd dX6_notesOutOfRange_26 ?_
        refine j_istore_n 1 (L' := [(1, _), (2, _), (0, _)]) dX6_notesOutOfRange_27 rfl rfl rfl ?_
        refine J_iinc (L' := [(2, _), (1, _), (0, _)]) dX6_notesOutOfRange_28 rfl rfl rfl ?_
        refine j_goto 4 dX6_notesOutOfRange_31 (by decide) ?_
        exact back _ (by unfold fOut; first | rw [if_pos (by first | exact z15.2 | exact ⟨z15.2, by omega⟩ | exact ⟨z15.2, c28⟩)] | rw [if_neg (fun q => by first | exact z15 ⟨⟨by omega, by omega⟩, q⟩ | exact z15 ⟨⟨by omega, by omega⟩, q.1⟩ | exact c28 q.2)])
  refine j_body (by decide +kernel) ⟨rfl, rfl⟩ rfl ?_
  refine J_iconst dX6_notesOutOfRange_0 ?_
  refine j_istore_n 1 (L' := [(1, _), (0, _)]) dX6_notesOutOfRange_1 rfl rfl rfl ?_
  refine J_iconst dX6_notesOutOfRange_2 ?_
  refine j_istore_n 2 (L' := [(2, _), (1, _), (0, _)]) dX6_notesOutOfRange_3 rfl rfl rfl ?_
  exact loop (p.1 7).toNat 0 (by omega) (by omega)
set_option maxRecDepth 100000 in
theorem c_X6_notesWithoutWrittenPitch {l : Launch} {G : jG} {h : jH} {a : Nat} {q : Nat → Nat} {p : OS} (hP : AtX6 G h a q p) (hn : pN p) (hz : eA p) (hzz : pZ p) : jC l G yX6_notesWithoutWrittenPitch mX6_notesWithoutWrittenPitch [.ref a] h (jE (oI (sumN (fNoW p) (p.1 7).toNat)) h) := by
  have hn2 : 0 ≤ p.1 7 ∧ p.1 7 ≤ 512 := hn
  have loop : ∀ (n : Nat) (i : Int), i + n = p.1 7 → 0 ≤ i → J l G mX6_notesWithoutWrittenPitch (jQ G mX6_notesWithoutWrittenPitch (jE (oI (sumN (fNoW p) (p.1 7).toNat)) h)) 0 0 4 [(2, vI i), (1, vI (sumN (fNoW p) i.toNat)), (0, .ref a)] [] h := by
    intro n
    induction n with
    | zero =>
      intro i hi h0
      obtain rfl : i = p.1 7 := by omega
      refine j_iload_n 2 dX6_notesWithoutWrittenPitch_4 rfl rfl ?_
      refine j_aload_n 0 dX6_notesWithoutWrittenPitch_5 rfl rfl ?_
      refine j_get fX6_40 dX6_notesWithoutWrittenPitch_6 hP.1 rfl ?_
      refine J_icmp_ge 44 dX6_notesWithoutWrittenPitch_9 (by decide) (fun c9 => ?_) (fun c9 => absurd c9 (by omega)) 
      refine j_iload_n 1 dX6_notesWithoutWrittenPitch_44 rfl rfl ?_
      refine j_iret rfl dX6_notesWithoutWrittenPitch_45 ⟨oIe ?_, rfl⟩
      (first | omega | (simp only [bI]; (repeat' split) <;> omega))
    | succ n ih =>
      intro i hi h0
      have he : rg i := by omega
      have hzi := hz i h0 (by omega)
      have back : ∀ x : Int, fNoW p i = x → J l G mX6_notesWithoutWrittenPitch (jQ G mX6_notesWithoutWrittenPitch (jE (oI (sumN (fNoW p) (p.1 7).toNat)) h)) 0 0 4 [(2, vI (i + 1)), (1, vI (sumN (fNoW p) i.toNat + x)), (0, .ref a)] [] h := by
        intro x hx
        have := ih (i + 1) (by omega) (by omega)
        rw [sumN_succ h0, hx] at this
        exact this
      refine j_iload_n 2 dX6_notesWithoutWrittenPitch_4 rfl rfl ?_
      refine j_aload_n 0 dX6_notesWithoutWrittenPitch_5 rfl rfl ?_
      refine j_get fX6_40 dX6_notesWithoutWrittenPitch_6 hP.1 rfl ?_
      refine J_icmp_ge 44 dX6_notesWithoutWrittenPitch_9 (by decide) (fun c9 => absurd c9 (by omega)) (fun c9 => ?_) 
      refine j_iload_n 1 dX6_notesWithoutWrittenPitch_12 rfl rfl ?_
      refine j_aload_n 0 dX6_notesWithoutWrittenPitch_13 rfl rfl ?_
      refine j_iload_n 2 dX6_notesWithoutWrittenPitch_14 rfl rfl ?_
      refine J_callVZ kX6_77 cvX6_isNote hP.1 (c_X6_isNote hP hn hz he) rfl rfl rfl rfl rfl dX6_notesWithoutWrittenPitch_15 rfl rfl (fun z15 => ?_) (fun z15 => ?_)
      · refine J_if_eq 35 dX6_notesWithoutWrittenPitch_18 (by decide) (fun c18 => absurd c18 (by decide)) (fun c18 => ?_) 
        refine j_aload_n 0 dX6_notesWithoutWrittenPitch_21 rfl rfl ?_
        refine j_get fX6_27 dX6_notesWithoutWrittenPitch_22 hP.1 rfl ?_
        refine j_iload_n 2 dX6_notesWithoutWrittenPitch_25 rfl rfl ?_
        refine J_iald dX6_notesWithoutWrittenPitch_26 (hP.2.1 5 rfl) ?_ 
        refine J_iconst dX6_notesWithoutWrittenPitch_27 ?_
        refine J_icmp_ne 35 dX6_notesWithoutWrittenPitch_28 (by decide) (fun c28 => ?_) (fun c28 => ?_) (by have := hzi.2.2.2.2.2.1; omega)
        · refine J_iconst dX6_notesWithoutWrittenPitch_35 ?_
          refine J_iadd dX6_notesWithoutWrittenPitch_36 ?_
          refine j_istore_n 1 (L' := [(1, _), (2, _), (0, _)]) dX6_notesWithoutWrittenPitch_37 rfl rfl rfl ?_
          refine J_iinc (L' := [(2, _), (1, _), (0, _)]) dX6_notesWithoutWrittenPitch_38 rfl rfl rfl ?_
          refine j_goto 4 dX6_notesWithoutWrittenPitch_41 (by decide) ?_
          exact back _ (by unfold fNoW; first | rw [if_pos (by first | exact z15.2 | exact ⟨z15.2, by omega⟩ | exact ⟨z15.2, c28⟩)] | rw [if_neg (fun q => by first | exact z15 ⟨⟨by omega, by omega⟩, q⟩ | exact z15 ⟨⟨by omega, by omega⟩, q.1⟩ | exact c28 q.2)])
        · refine J_iconst dX6_notesWithoutWrittenPitch_31 ?_
          refine j_goto 36 dX6_notesWithoutWrittenPitch_32 (by decide) ?_
          refine J_iadd dX6_notesWithoutWrittenPitch_36 ?_
          refine j_istore_n 1 (L' := [(1, _), (2, _), (0, _)]) dX6_notesWithoutWrittenPitch_37 rfl rfl rfl ?_
          refine J_iinc (L' := [(2, _), (1, _), (0, _)]) dX6_notesWithoutWrittenPitch_38 rfl rfl rfl ?_
          refine j_goto 4 dX6_notesWithoutWrittenPitch_41 (by decide) ?_
          exact back _ (by unfold fNoW; first | rw [if_pos (by first | exact z15.2 | exact ⟨z15.2, by omega⟩ | exact ⟨z15.2, c28⟩)] | rw [if_neg (fun q => by first | exact z15 ⟨⟨by omega, by omega⟩, q⟩ | exact z15 ⟨⟨by omega, by omega⟩, q.1⟩ | exact c28 q.2)])
      · refine J_if_eq 35 dX6_notesWithoutWrittenPitch_18 (by decide) (fun c18 => ?_) (fun c18 => absurd c18 (by decide)) 
        refine J_iconst dX6_notesWithoutWrittenPitch_35 ?_
        refine J_iadd dX6_notesWithoutWrittenPitch_36 ?_
        refine j_istore_n 1 (L' := [(1, _), (2, _), (0, _)]) dX6_notesWithoutWrittenPitch_37 rfl rfl rfl ?_
        refine J_iinc (L' := [(2, _), (1, _), (0, _)]) dX6_notesWithoutWrittenPitch_38 rfl rfl rfl ?_
        refine j_goto 4 dX6_notesWithoutWrittenPitch_41 (by decide) ?_
        exact back _ (by unfold fNoW; first | rw [if_pos (by first | exact z15.2 | exact ⟨z15.2, by omega⟩ | exact ⟨z15.2, c28⟩)] | rw [if_neg (fun q => by first | exact z15 ⟨⟨by omega, by omega⟩, q⟩ | exact z15 ⟨⟨by omega, by omega⟩, q.1⟩ | exact c28 q.2)])
  refine j_body (by decide +kernel) ⟨rfl, rfl⟩ rfl ?_
  refine J_iconst dX6_notesWithoutWrittenPitch_0 ?_
  refine j_istore_n 1 (L' := [(1, _), (0, _)]) dX6_notesWithoutWrittenPitch_1 rfl rfl rfl ?_
  refine J_iconst dX6_notesWithoutWrittenPitch_2 ?_
  refine j_istore_n 2 (L' := [(2, _), (1, _), (0, _)]) dX6_notesWithoutWrittenPitch_3 rfl rfl rfl ?_
  exact loop (p.1 7).toNat 0 (by omega) (by omega)
set_option maxRecDepth 100000 in
theorem c_X6_givePitch {l : Launch} {G : jG} {h : jH} {a : Nat} {q : Nat → Nat} {p : OS}{e pl al : Int} (hP : AtX6 G h a q p) (hn : pN p) (hzz : pZ p) (hi : inP p e) (hpl : 0 ≤ pl ∧ pl ≤ 62) (hal : -2 ≤ al ∧ al ≤ 2) : jC l G yX6_givePitch mX6_givePitch [.ref a, vI e, vI pl, vI al] h (jW oN (fun h' => AtX6 G h' a q (givP p e pl al) ∧ Fr (ft AX6 a q) h h')) := by
  refine j_body (by decide +kernel) ⟨rfl, rfl⟩ rfl ?_
  have hF : Fr (ft AX6 a q) h h := Fr.rf
  have hn2 : 0 ≤ p.1 7 ∧ p.1 7 ≤ 512 := hn
  have he : rg e := by omega
  have hgr := hgt_rg hpl hal
  refine j_aload_n 0 dX6_givePitch_0 rfl rfl ?_
  refine j_iload_n 1 dX6_givePitch_1 rfl rfl ?_
  refine J_callVZ kX6_50 cvX6_has hP.1 (c_X6_has hP hn he) rfl rfl rfl rfl rfl dX6_givePitch_2 rfl rfl (fun z2 => ?_) (fun z2 => ?_)
  · refine J_if_ne 9 dX6_givePitch_5 (by decide) (fun c5 => ?_) (fun c5 => absurd c5 (by decide)) 
    refine j_aload_n 0 dX6_givePitch_9 rfl rfl ?_
    refine j_get fX6_9 dX6_givePitch_10 hP.1 rfl ?_
    refine j_iload_n 1 dX6_givePitch_13 rfl rfl ?_
    refine j_iload_n 2 dX6_givePitch_14 rfl rfl ?_
    refine J_iastA 0 hP rfl (fun _ => rfl) (fun _ => rfl) dX6_givePitch_15 (fun h hP hF15 => ?_) 
    have hF := hF.tr hF15
    refine j_aload_n 0 dX6_givePitch_16 rfl rfl ?_
    refine j_get fX6_15 dX6_givePitch_17 hP.1 rfl ?_
    refine j_iload_n 1 dX6_givePitch_20 rfl rfl ?_
    refine j_iload_n 3 dX6_givePitch_21 rfl rfl ?_
    refine J_iastA 1 hP rfl (fun _ => rfl) (fun _ => rfl) dX6_givePitch_22 (fun h hP hF22 => ?_) 
    have hF := hF.tr hF22
    refine j_aload_n 0 dX6_givePitch_23 rfl rfl ?_
    refine j_get fX6_18 dX6_givePitch_24 hP.1 rfl ?_
    refine j_iload_n 1 dX6_givePitch_27 rfl rfl ?_
    refine j_iload_n 2 dX6_givePitch_28 rfl rfl ?_
    refine J_if_ne 36 dX6_givePitch_29 (by decide) (fun c29 => ?_) (fun c29 => ?_) (by omega)
    · refine j_iload_n 2 dX6_givePitch_36 rfl rfl ?_
      refine J_callS1 kX6_54 csX7_plainHeight (c_X7_plainHeight (by omega)) rfl rfl rfl rfl rfl dX6_givePitch_37 rfl rfl ?_
      refine j_iload_n 3 dX6_givePitch_40 rfl rfl ?_
      refine J_iadd dX6_givePitch_41 ?_
      refine J_top (hgt pl al) ?_ (by unfold hgt; rw [if_neg c29])
      refine J_iastA 2 hP rfl (fun _ => rfl) (fun _ => rfl) dX6_givePitch_42 (fun h hP hF42 => ?_) 
      have hF := hF.tr hF42
      refine j_aload_n 0 dX6_givePitch_43 rfl rfl ?_
      refine j_iload_n 1 dX6_givePitch_44 rfl rfl ?_
      refine J_callVW kX6_60 cvX6_writeForInstrument hP.1 (c_X6_writeForInstrument hP (by simpa [pN, oA] using hn) (by simpa [pZ, oA] using hzz) (by simpa [oA] using hi) (by simp [oA, upI]; omega) (by simp [oA, upI]; first | omega | (have := hgt_rg hpl hal; omega))) rfl rfl rfl rfl rfl dX6_givePitch_45 rfl rfl (fun h hp => ?_)
      obtain ⟨hP, hF9⟩ := hp
      have hF := hF.tr hF9
      refine j_vret rfl dX6_givePitch_48 ?_
      exact ⟨rfl, hP, hF⟩
    · refine J_iconst dX6_givePitch_32 ?_
      refine J_top (hgt pl al) ?_ (by unfold hgt; rw [if_pos c29])
      refine j_goto 42 dX6_givePitch_33 (by decide) ?_
      refine J_iastA 2 hP rfl (fun _ => rfl) (fun _ => rfl) dX6_givePitch_42 (fun h hP hF42 => ?_) 
      have hF := hF.tr hF42
      refine j_aload_n 0 dX6_givePitch_43 rfl rfl ?_
      refine j_iload_n 1 dX6_givePitch_44 rfl rfl ?_
      refine J_callVW kX6_60 cvX6_writeForInstrument hP.1 (c_X6_writeForInstrument hP (by simpa [pN, oA] using hn) (by simpa [pZ, oA] using hzz) (by simpa [oA] using hi) (by simp [oA, upI]; omega) (by simp [oA, upI]; first | omega | (have := hgt_rg hpl hal; omega))) rfl rfl rfl rfl rfl dX6_givePitch_45 rfl rfl (fun h hp => ?_)
      obtain ⟨hP, hF9⟩ := hp
      have hF := hF.tr hF9
      refine j_vret rfl dX6_givePitch_48 ?_
      exact ⟨rfl, hP, hF⟩
  · refine J_if_ne 9 dX6_givePitch_5 (by decide) (fun c5 => absurd c5 (by decide)) (fun c5 => ?_) 
    refine j_vret rfl dX6_givePitch_8 ?_
    exact absurd hi z2
