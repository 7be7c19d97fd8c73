set_option maxRecDepth 100000 in
theorem c_X6_append {l : Launch} {G : jG} {h : jH} {a : Nat} {q : Nat → Nat} {p : OS}{pl al le : Int} (hP : AtX6 G h a q p) (hn : 0 ≤ p.1 7 ∧ p.1 7 < 512) (hzz : pZ p) (he2 : p.1 8 + le ≤ 20000) (hpl : 0 ≤ pl ∧ pl ≤ 62) (hal : -2 ≤ al ∧ al ≤ 2) (hle : 0 ≤ le ∧ le ≤ 96) : jC l G yX6_append mX6_append [.ref a, vI pl, vI al, vI le] h (jW (oI (p.1 7)) (fun h' => AtX6 G h' a q (appP p pl al le) ∧ Fr (ft AX6 a q) h h')) := by
  refine j_body (by decide +kernel) ⟨rfl, rfl⟩ rfl ?_
  have hF : Fr (ft AX6 a q) h h := Fr.rf
  refine j_aload_n 0 dX6_append_0 rfl rfl ?_
  refine j_get fX6_40 dX6_append_1 hP.1 rfl ?_
  refine j_istore (L' := [(4, _), (0, _), (1, _), (2, _), (3, _)]) dX6_append_4 rfl rfl ?_
  refine j_iload dX6_append_6 rfl ?_
  refine J_if_lt 19 dX6_append_8 (by decide) (fun c8 => absurd c8 (by omega)) (fun c8 => ?_) 
  refine j_iload dX6_append_11 rfl ?_
  refine J_sipush dX6_append_13 (by decide) ?_
  refine J_icmp_lt 21 dX6_append_16 (by decide) (fun c16 => ?_) (fun c16 => absurd c16 (by omega)) 
  refine j_aload_n 0 dX6_append_21 rfl rfl ?_
  refine j_get fX6_21 dX6_append_22 hP.1 rfl ?_
  refine j_iload dX6_append_25 rfl ?_
  refine j_aload_n 0 dX6_append_27 rfl rfl ?_
  refine j_get fX6_43 dX6_append_28 hP.1 rfl ?_
  refine J_iastA 3 hP rfl (fun _ => rfl) (fun _ => rfl) dX6_append_31 (fun h hP hF31 => ?_) 
  have hF := hF.tr hF31
  refine j_aload_n 0 dX6_append_32 rfl rfl ?_
  refine j_get fX6_24 dX6_append_33 hP.1 rfl ?_
  refine j_iload dX6_append_36 rfl ?_
  refine j_iload_n 3 dX6_append_38 rfl rfl ?_
  refine J_iastA 4 hP rfl (fun _ => rfl) (fun _ => rfl) dX6_append_39 (fun h hP hF39 => ?_) 
  have hF := hF.tr hF39
  refine j_aload_n 0 dX6_append_40 rfl rfl ?_
  refine j_iload dX6_append_41 rfl ?_
  refine J_iconst dX6_append_43 ?_
  refine J_iadd dX6_append_44 ?_
  refine J_putA hP fX6_40 tyX6_count dX6_append_45 rfl rfl (fun h hP hF45 => ?_)
  have hF := hF.tr hF45
  refine j_aload_n 0 dX6_append_48 rfl rfl ?_
  refine j_dup dX6_append_49 rfl ?_
  refine j_get fX6_43 dX6_append_50 hP.1 rfl ?_
  refine J_top (p.1 8) ?_ (by rfl)
  refine j_iload_n 3 dX6_append_53 rfl rfl ?_
  refine J_iadd dX6_append_54 ?_
  refine J_putA hP fX6_43 tyX6_end dX6_append_55 rfl rfl (fun h hP hF55 => ?_)
  have hF := hF.tr hF55
  refine j_aload_n 0 dX6_append_58 rfl rfl ?_
  refine j_iload dX6_append_59 rfl ?_
  refine j_iload_n 1 dX6_append_61 rfl rfl ?_
  refine j_iload_n 2 dX6_append_62 rfl rfl ?_
  refine J_callVW kX6_46 cvX6_givePitch hP.1 (c_X6_givePitch hP (by constructor <;> simp [oU, oA] <;> omega) (by simp only [pZ, oU, oA] at hzz ⊢; simp; omega) ⟨hn.1, by simp [oU, oA]; omega⟩ hpl hal) rfl rfl rfl rfl rfl dX6_append_63 rfl rfl (fun h hp => ?_)
  obtain ⟨hP, hF9⟩ := hp
  have hF := hF.tr hF9
  refine j_iload dX6_append_66 rfl ?_
  refine j_iret rfl dX6_append_68 ?_
  exact ⟨rfl, hP, hF⟩
def remP (p : OS) : OS := if 0 < p.1 7 then oU (oU p 7 (p.1 7 - 1)) 8 (p.2 3 (p.1 7 - 1)) else p
set_option maxRecDepth 100000 in
theorem c_X6_removeLast {l : Launch} {G : jG} {h : jH} {a : Nat} {q : Nat → Nat} {p : OS} (hP : AtX6 G h a q p) (hn : 0 ≤ p.1 7 ∧ p.1 7 ≤ 512) : jC l G yX6_removeLast mX6_removeLast [.ref a] h (jW (oI (if 0 < p.1 7 then p.2 4 (p.1 7 - 1) else 0)) (fun h' => AtX6 G h' a q (remP p) ∧ Fr (ft AX6 a q) h h')) := by
  refine j_body (by decide +kernel) ⟨rfl, rfl⟩ rfl ?_
  have hF : Fr (ft AX6 a q) h h := Fr.rf
  refine j_aload_n 0 dX6_removeLast_0 rfl rfl ?_
  refine j_get fX6_40 dX6_removeLast_1 hP.1 rfl ?_
  refine J_iconst dX6_removeLast_4 ?_
  refine J_isub dX6_removeLast_5 ?_
  refine j_istore_n 1 (L' := [(1, _), (0, _)]) dX6_removeLast_6 rfl rfl rfl ?_
  refine j_aload_n 0 dX6_removeLast_7 rfl rfl ?_
  refine j_iload_n 1 dX6_removeLast_8 rfl rfl ?_
  refine J_callVZ kX6_50 cvX6_has hP.1 (c_X6_has hP ⟨by omega, by omega⟩ (by omega)) rfl rfl rfl rfl rfl dX6_removeLast_9 rfl rfl (fun z9 => ?_) (fun z9 => ?_)
  · refine J_if_ne 17 dX6_removeLast_12 (by decide) (fun c12 => ?_) (fun c12 => absurd c12 (by decide)) 
    refine j_aload_n 0 dX6_removeLast_17 rfl rfl ?_
    refine j_iload_n 1 dX6_removeLast_18 rfl rfl ?_
    refine J_putA hP fX6_40 tyX6_count dX6_removeLast_19 rfl rfl (fun h hP hF19 => ?_)
    have hF := hF.tr hF19
    refine j_aload_n 0 dX6_removeLast_22 rfl rfl ?_
    refine j_aload_n 0 dX6_removeLast_23 rfl rfl ?_
    refine j_get fX6_21 dX6_removeLast_24 hP.1 rfl ?_
    refine j_iload_n 1 dX6_removeLast_27 rfl rfl ?_
    refine J_iald dX6_removeLast_28 (hP.2.1 3 rfl) ?_ 
    refine J_putA hP fX6_43 tyX6_end dX6_removeLast_29 rfl rfl (fun h hP hF29 => ?_)
    have hF := hF.tr hF29
    refine j_aload_n 0 dX6_removeLast_32 rfl rfl ?_
    refine j_get fX6_24 dX6_removeLast_33 hP.1 rfl ?_
    refine j_iload_n 1 dX6_removeLast_36 rfl rfl ?_
    refine J_iald dX6_removeLast_37 (hP.2.1 4 rfl) ?_ 
    refine j_iret rfl dX6_removeLast_38 ?_
    exact ⟨by rw [if_pos (by omega)]; rfl, by unfold remP; rw [if_pos (by omega)]; exact hP, hF⟩
  · refine J_if_ne 17 dX6_removeLast_12 (by decide) (fun c12 => absurd c12 (by decide)) (fun c12 => ?_) 
    refine J_iconst dX6_removeLast_15 ?_
    refine j_iret rfl dX6_removeLast_16 ?_
    exact ⟨by rw [if_neg (fun q => z9 ⟨by omega, by omega⟩)], by unfold remP; rw [if_neg (fun q => z9 ⟨by omega, by omega⟩)]; exact hP, Fr.rf⟩
set_option maxRecDepth 100000 in
theorem c_X6_changeShift {l : Launch} {G : jG} {h : jH} {a : Nat} {q : Nat → Nat} {p : OS} {fi oc : Int} (hP : AtX6 G h a q p) (hn : pN p) (hz : eA p) (hzz : pZ p) (hfi : -6 ≤ fi ∧ fi ≤ 6) (hoc : -2 ≤ oc ∧ oc ≤ 2) : jC l G yX6_changeShift mX6_changeShift [.ref a, vI fi, vI oc] h (jW oN (fun h' => AtX6 G h' a q (wfiN (oU (oU p 11 fi) 12 oc) (p.1 7).toNat) ∧ Fr (ft AX6 a q) h h')) := by
  have hn2 : 0 ≤ p.1 7 ∧ p.1 7 ≤ 512 := hn
  obtain ⟨p2, hp2⟩ : ∃ p2, p2 = oU (oU p 11 fi) 12 oc := ⟨_, rfl⟩
  have hz2 : pZ p2 := by subst hp2; simp only [pZ, oU] at hzz ⊢; simp; omega
  have hc2 : p2.1 7 = p.1 7 := by subst hp2; rfl
  have ha2 : p2.2 = p.2 := by subst hp2; rfl
  rw [← hp2]
  have loop : ∀ (n : Nat) (i : Int) (h2 : jH), i + n = p.1 7 → 0 ≤ i → AtX6 G h2 a q (wfiN p2 i.toNat) → Fr (ft AX6 a q) h h2 → J l G mX6_changeShift (jQ G mX6_changeShift (jW oN (fun h' => AtX6 G h' a q (wfiN p2 (p.1 7).toNat) ∧ Fr (ft AX6 a q) h h'))) 0 0 12 [(3, vI i), (0, .ref a), (1, vI fi), (2, vI oc)] [] h2 := by
    intro n
    induction n with
    | zero =>
      intro i h2 hi h0 hP hF
      obtain rfl : i = p.1 7 := by omega
      have h1 := wfiN_1 p2 (p.1 7).toNat
      refine j_iload_n 3 dX6_changeShift_12 rfl rfl ?_
      refine j_aload_n 0 dX6_changeShift_13 rfl rfl ?_
      refine j_get fX6_40 dX6_changeShift_14 hP.1 rfl ?_
      refine J_top (p.1 7) ?_ (by (rw [h1]; exact hc2))
      refine J_icmp_ge 31 dX6_changeShift_17 (by decide) (fun c17 => ?_) (fun c17 => absurd c17 (by omega)) 
      refine j_vret rfl dX6_changeShift_31 ?_
      exact ⟨rfl, hP, hF⟩
    | succ n ih =>
      intro i h2 hi h0 hP hF
      have h1 := wfiN_1 p2 i.toNat
      have hzi := hz i h0 (by omega)
      have e0 : (wfiN p2 i.toNat).2 0 = p.2 0 := by rw [wfiN_2 _ (by decide) (by decide), ha2]
      have e2 : (wfiN p2 i.toNat).2 2 = p.2 2 := by rw [wfiN_2 _ (by decide) (by decide), ha2]
      refine j_iload_n 3 dX6_changeShift_12 rfl rfl ?_
      refine j_aload_n 0 dX6_changeShift_13 rfl rfl ?_
      refine j_get fX6_40 dX6_changeShift_14 hP.1 rfl ?_
      refine J_top (p.1 7) ?_ (by (rw [h1]; exact hc2))
      refine J_icmp_ge 31 dX6_changeShift_17 (by decide) (fun c17 => absurd c17 (by omega)) (fun c17 => ?_) 
      refine j_aload_n 0 dX6_changeShift_20 rfl rfl ?_
      refine j_iload_n 3 dX6_changeShift_21 rfl rfl ?_
      refine J_callVW kX6_60 cvX6_writeForInstrument hP.1 (c_X6_writeForInstrument hP (by unfold pN; rw [h1, hc2]; exact hn) (by unfold pZ; rw [h1]; exact hz2) (by unfold inP; rw [h1, hc2]; omega) (by rw [e0]; exact hzi.1) (by rw [e2]; have := hzi.2.2.1; omega)) rfl rfl rfl rfl rfl dX6_changeShift_22 rfl rfl (fun h3 hp => ?_)
      obtain ⟨hP, hF9⟩ := hp
      have hF := hF.tr hF9
      refine J_iinc (L' := [(3, _), (0, _), (1, _), (2, _)]) dX6_changeShift_25 rfl rfl rfl ?_
      refine j_goto 12 dX6_changeShift_28 (by decide) ?_
      refine ih (i + 1) h3 (by omega) (by omega) ?_ hF
      have e9 : (i + 1).toNat = i.toNat + 1 := by omega
      rw [e9, wfiN, Int.toNat_of_nonneg h0]
      exact hP
  refine j_body (by decide +kernel) ⟨rfl, rfl⟩ rfl ?_
  have hF : Fr (ft AX6 a q) h h := Fr.rf
  refine j_aload_n 0 dX6_changeShift_0 rfl rfl ?_
  refine j_iload_n 1 dX6_changeShift_1 rfl rfl ?_
  refine J_putA hP fX6_64 tyX6_fifths dX6_changeShift_2 rfl rfl (fun h hP hF2 => ?_)
  have hF := hF.tr hF2
  refine j_aload_n 0 dX6_changeShift_5 rfl rfl ?_
  refine j_iload_n 2 dX6_changeShift_6 rfl rfl ?_
  refine J_putA hP fX6_67 tyX6_octaves dX6_changeShift_7 rfl rfl (fun h hP hF7 => ?_)
  have hF := hF.tr hF7
  refine J_iconst dX6_changeShift_10 ?_
  refine j_istore_n 3 (L' := [(3, _), (0, _), (1, _), (2, _)]) dX6_changeShift_11 rfl rfl rfl ?_
  exact loop (p.1 7).toNat 0 h (by omega) (by omega) (by rw [hp2]; exact hP) hF
