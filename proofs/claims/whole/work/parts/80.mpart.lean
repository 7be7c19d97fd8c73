/-! ChoraleDeskModel.Part: 0 many, 1 begin, 2 length, 3 place, 4 alter, 5 lowest, 6 highest, 7 fifths, 8 octaves -/
abbrev oX10 : oO := fun q p => (8, [vI (p.1 0), .ref (q 1), .ref (q 2), .ref (q 3), .ref (q 4), vI (p.1 5), vI (p.1 6), vI (p.1 7), vI (p.1 8)])
abbrev caX10 (G : jG) (n : Nat) : oC := fun _ F => ai G n F
abbrev AX10 : Nat → Bool := fun k => Nat.blt 0 k && Nat.blt k 5
abbrev AtX10 (G : jG) (n : Nat) (h : jH) (a : Nat) (q : Nat → Nat) (p : OS) : Prop := At oX10 (caX10 G n) AX10 h a q p
/-- the part of the reference holds what the part of the desk holds -/
def mpOK (n : Nat) (m p : OS) : Prop := (m.1 0 = p.1 7 ∧ m.1 5 = p.1 9 ∧ m.1 6 = p.1 10 ∧ m.1 7 = p.1 11 ∧ m.1 8 = p.1 12) ∧
  (∀ i : Int, 0 ≤ i → i < p.1 7 → m.2 1 i = p.2 3 i ∧ m.2 2 i = p.2 4 i ∧ m.2 3 i = p.2 0 i ∧ m.2 4 i = p.2 1 i) ∧ p.1 7 ≤ n ∧ (n = 16 ∨ n = 32 ∨ n = 64 ∨ n = 128 ∨ n = 256 ∨ n = 512)
theorem partOK.e8 {p : OS} (h : partOK p) : (p.1 7 = 0 → p.1 8 = 0) ∧ (p.1 7 ≠ 0 → p.1 8 = endF p (p.1 7 - 1)) := by
  have hn := h.1
  unfold pN at hn
  refine ⟨fun e => ?_, fun e => ?_⟩
  · rw [h.2.2.2.2.1, e]; rfl
  · rw [h.endE _ (by omega) (by omega), show p.1 7 - 1 + 1 = p.1 7 by omega]
    exact h.2.2.2.2.1
theorem partOK.hN {p : OS} (h : partOK p) {e : Int} (h0 : 0 ≤ e) (h1 : e < p.1 7) (hn : p.2 0 e ≠ 0) : p.2 2 e = plain (p.2 0 e) + p.2 1 e := by
  rw [h.2.2.2.2.2.2.1 e h0 h1]
  unfold hgt
  rw [if_neg hn]
set_option maxRecDepth 100000 in
theorem c_X11_is {l : Launch} {G : jG} {h : jH} {v lo hi : Int} (hv : rg v) (hlo : rg lo) (hhi : rg hi) : jC l G yX11_is mX11_is [vI v, vI lo, vI hi] h (jE (oI (bI (lo ≤ v ∧ v ≤ hi))) h) := by
  refine j_body (by decide +kernel) ⟨rfl, rfl⟩ rfl ?_
  refine j_iload_n 0 dX11_is_0 rfl rfl ?_
  refine j_iload_n 1 dX11_is_1 rfl rfl ?_
  refine J_icmp_lt 14 dX11_is_2 (by decide) (fun c2 => ?_) (fun c2 => ?_) 
  · refine J_iconst dX11_is_14 ?_
    refine j_zret rfl rfl dX11_is_15 ⟨oIe ?_, rfl⟩
    (first | omega | (simp only [bI]; (repeat' split) <;> omega))
  · refine j_iload_n 0 dX11_is_5 rfl rfl ?_
    refine j_iload_n 2 dX11_is_6 rfl rfl ?_
    refine J_icmp_gt 14 dX11_is_7 (by decide) (fun c7 => ?_) (fun c7 => ?_) 
    · refine J_iconst dX11_is_14 ?_
      refine j_zret rfl rfl dX11_is_15 ⟨oIe ?_, rfl⟩
      (first | omega | (simp only [bI]; (repeat' split) <;> omega))
    · refine J_iconst dX11_is_10 ?_
      refine j_goto 15 dX11_is_11 (by decide) ?_
      refine j_zret rfl rfl dX11_is_15 ⟨oIe ?_, rfl⟩
      (first | omega | (simp only [bI]; (repeat' split) <;> omega))
set_option maxRecDepth 100000 in
theorem c_X11_base {l : Launch} {G : jG} {h : jH} {v : Int} (hv : rg v) : jC l G yX11_base mX11_base [vI v] h (jE (oI (plain v)) h) := by
  refine j_body (by decide +kernel) ⟨rfl, rfl⟩ rfl ?_
  refine J_bipush dX11_base_0 (by decide) ?_
  refine j_iload_n 0 dX11_base_2 rfl rfl ?_
  refine J_bipush dX11_base_3 (by decide) ?_
  refine J_callS1 kX11_1 csJ9_floorDiv_7cf53 (c_J9_floorDiv_7cf53 hv (by decide) (by decide)) rfl rfl rfl rfl rfl dX11_base_5 rfl rfl ?_
  refine J_imul dX11_base_8 ?_
  refine j_gets 7 rfl fX11_7 dX11_base_9 ?_
  refine j_iload_n 0 dX11_base_12 rfl rfl ?_
  refine J_bipush dX11_base_13 (by decide) ?_
  refine J_callS1 kX11_13 csJ9_floorMod_7cf53 (c_J9_floorMod_7cf53 hv (by decide) (by decide)) rfl rfl rfl rfl rfl dX11_base_15 rfl rfl ?_
  refine J_siald 7 [0, 2, 4, 5, 7, 9, 11] rfl rfl dX11_base_18 ?_ 
  refine J_iadd dX11_base_19 ?_
  refine j_iret rfl dX11_base_20 ⟨oIe ?_, rfl⟩
  rfl
set_option maxRecDepth 100000 in
theorem c_X10_endOf {l : Launch} {G : jG} {h : jH} {n a : Nat} {q : Nat → Nat} {m p : OS}{e : Int} (hP : AtX10 G n h a q m) (hm : mpOK n m p) (hp : partOK p) (hi : inP p e) : jC l G yX10_endOf mX10_endOf [.ref a, vI e] h (jE (oI (endF p e)) h) := by
  refine j_body (by decide +kernel) ⟨rfl, rfl⟩ rfl ?_
  obtain ⟨⟨e0, e5, e6, e7, e8⟩, em, en, ez⟩ := hm
  have hn : 0 ≤ p.1 7 ∧ p.1 7 ≤ 512 := hp.1
  obtain ⟨hq1, hq2, hq3, hq4, hq5⟩ := hp.2.2.1
  obtain ⟨i0, i1⟩ := hi
  obtain ⟨g1, g2, g3, g4⟩ := em e i0 i1
  obtain ⟨z0, z1, z2, z3, z4, z5, z6⟩ := hp.2.1 e i0 i1
  refine j_aload_n 0 dX10_endOf_0 rfl rfl ?_
  refine j_get fX10_9 dX10_endOf_1 hP.1 rfl ?_
  refine j_iload_n 1 dX10_endOf_4 rfl rfl ?_
  refine J_iald dX10_endOf_5 (hP.2.1 1 rfl) ?_ 
  refine j_aload_n 0 dX10_endOf_6 rfl rfl ?_
  refine j_get fX10_15 dX10_endOf_7 hP.1 rfl ?_
  refine j_iload_n 1 dX10_endOf_10 rfl rfl ?_
  refine J_iald dX10_endOf_11 (hP.2.1 2 rfl) ?_ 
  refine J_iadd dX10_endOf_12 ?_
  refine j_iret rfl dX10_endOf_13 ⟨oIe ?_, rfl⟩
  (show _ = p.2 3 e + p.2 4 e; omega)
set_option maxRecDepth 100000 in
theorem c_X10_end {l : Launch} {G : jG} {h : jH} {n a : Nat} {q : Nat → Nat} {m p : OS} (hP : AtX10 G n h a q m) (hm : mpOK n m p) (hp : partOK p) : jC l G yX10_end mX10_end [.ref a] h (jE (oI (p.1 8)) h) := by
  refine j_body (by decide +kernel) ⟨rfl, rfl⟩ rfl ?_
  have hm2 := hm
  obtain ⟨⟨e0, e5, e6, e7, e8⟩, em, en, ez⟩ := hm
  have hn : 0 ≤ p.1 7 ∧ p.1 7 ≤ 512 := hp.1
  obtain ⟨hq1, hq2, hq3, hq4, hq5⟩ := hp.2.2.1
  have hm := hm2
  refine j_aload_n 0 dX10_end_0 rfl rfl ?_
  refine j_get fX10_31 dX10_end_1 hP.1 rfl ?_
  refine J_if_ne 11 dX10_end_4 (by decide) (fun c4 => ?_) (fun c4 => ?_) 
  · refine j_aload_n 0 dX10_end_11 rfl rfl ?_
    refine j_aload_n 0 dX10_end_12 rfl rfl ?_
    refine j_get fX10_31 dX10_end_13 hP.1 rfl ?_
    refine J_iconst dX10_end_16 ?_
    refine J_isub dX10_end_17 ?_
    refine J_callV1 kX10_34 cvX10_endOf hP.1 (c_X10_endOf hP hm hp (e := m.1 0 - 1) ⟨by omega, by omega⟩) rfl rfl rfl rfl rfl dX10_end_18 rfl rfl ?_
    refine j_iret rfl dX10_end_21 ⟨oIe ?_, rfl⟩
    (first | exact (hp.e8.1 (by omega)).symm | (rw [hp.e8.2 (by omega), e0]))
  · refine J_iconst dX10_end_7 ?_
    refine j_goto 21 dX10_end_8 (by decide) ?_
    refine j_iret rfl dX10_end_21 ⟨oIe ?_, rfl⟩
    (first | exact (hp.e8.1 (by omega)).symm | (rw [hp.e8.2 (by omega), e0]))
set_option maxRecDepth 100000 in
theorem c_X10_isNote {l : Launch} {G : jG} {h : jH} {n a : Nat} {q : Nat → Nat} {m p : OS}{e : Int} (hP : AtX10 G n h a q m) (hm : mpOK n m p) (hp : partOK p) (hi : inP p e) : jC l G yX10_isNote mX10_isNote [.ref a, vI e] h (jE (oI (bI (p.2 0 e ≠ 0))) h) := by
  refine j_body (by decide +kernel) ⟨rfl, rfl⟩ rfl ?_
  obtain ⟨⟨e0, e5, e6, e7, e8⟩, em, en, ez⟩ := hm
  have hn : 0 ≤ p.1 7 ∧ p.1 7 ≤ 512 := hp.1
  obtain ⟨hq1, hq2, hq3, hq4, hq5⟩ := hp.2.2.1
  obtain ⟨i0, i1⟩ := hi
  obtain ⟨g1, g2, g3, g4⟩ := em e i0 i1
  obtain ⟨z0, z1, z2, z3, z4, z5, z6⟩ := hp.2.1 e i0 i1
  refine j_aload_n 0 dX10_isNote_0 rfl rfl ?_
  refine j_get fX10_18 dX10_isNote_1 hP.1 rfl ?_
  refine j_iload_n 1 dX10_isNote_4 rfl rfl ?_
  refine J_iald dX10_isNote_5 (hP.2.1 3 rfl) ?_ 
  refine J_if_le 13 dX10_isNote_6 (by decide) (fun c6 => ?_) (fun c6 => ?_) 
  · refine J_iconst dX10_isNote_13 ?_
    refine j_zret rfl rfl dX10_isNote_14 ⟨oIe ?_, rfl⟩
    (first | omega | (simp only [bI]; (repeat' split) <;> omega))
  · refine J_iconst dX10_isNote_9 ?_
    refine j_goto 14 dX10_isNote_10 (by decide) ?_
    refine j_zret rfl rfl dX10_isNote_14 ⟨oIe ?_, rfl⟩
    (first | omega | (simp only [bI]; (repeat' split) <;> omega))
set_option maxRecDepth 100000 in
theorem c_X10_height {l : Launch} {G : jG} {h : jH} {n a : Nat} {q : Nat → Nat} {m p : OS}{e : Int} (hP : AtX10 G n h a q m) (hm : mpOK n m p) (hp : partOK p) (hi : inP p e) (hne : p.2 0 e ≠ 0) : jC l G yX10_height mX10_height [.ref a, vI e] h (jE (oI (p.2 2 e)) h) := by
  refine j_body (by decide +kernel) ⟨rfl, rfl⟩ rfl ?_
  obtain ⟨⟨e0, e5, e6, e7, e8⟩, em, en, ez⟩ := hm
  have hn : 0 ≤ p.1 7 ∧ p.1 7 ≤ 512 := hp.1
  obtain ⟨hq1, hq2, hq3, hq4, hq5⟩ := hp.2.2.1
  obtain ⟨i0, i1⟩ := hi
  obtain ⟨g1, g2, g3, g4⟩ := em e i0 i1
  obtain ⟨z0, z1, z2, z3, z4, z5, z6⟩ := hp.2.1 e i0 i1
  refine j_aload_n 0 dX10_height_0 rfl rfl ?_
  refine j_get fX10_18 dX10_height_1 hP.1 rfl ?_
  refine j_iload_n 1 dX10_height_4 rfl rfl ?_
  refine J_iald dX10_height_5 (hP.2.1 3 rfl) ?_ 
  refine J_callSN1 kX10_48 csX11_base (c_X11_base (by omega)) rfl rfl rfl rfl rfl dX10_height_6 rfl rfl ?_
  refine J_top (plain (p.2 0 e)) ?_ (by rw [g3])
  refine j_aload_n 0 dX10_height_9 rfl rfl ?_
  refine j_get fX10_21 dX10_height_10 hP.1 rfl ?_
  refine j_iload_n 1 dX10_height_13 rfl rfl ?_
  refine J_iald dX10_height_14 (hP.2.1 4 rfl) ?_ 
  refine J_iadd dX10_height_15 ?_
  refine j_iret rfl dX10_height_16 ⟨oIe ?_, rfl⟩
  (rw [hp.hN i0 i1 hne, g4])
set_option maxRecDepth 100000 in
theorem c_X10_isOut {l : Launch} {G : jG} {h : jH} {n a : Nat} {q : Nat → Nat} {m p : OS}{e : Int} (hP : AtX10 G n h a q m) (hm : mpOK n m p) (hp : partOK p) (hi : inP p e) : jC l G yX10_isOut mX10_isOut [.ref a, vI e] h (jE (oI (bI (p.2 0 e ≠ 0 ∧ (p.2 0 e < p.1 9 ∨ p.1 10 < p.2 0 e)))) h) := by
  refine j_body (by decide +kernel) ⟨rfl, rfl⟩ rfl ?_
  have hm2 := hm
  have hi2 := hi
  obtain ⟨⟨e0, e5, e6, e7, e8⟩, em, en, ez⟩ := hm
  have hn : 0 ≤ p.1 7 ∧ p.1 7 ≤ 512 := hp.1
  obtain ⟨hq1, hq2, hq3, hq4, hq5⟩ := hp.2.2.1
  obtain ⟨i0, i1⟩ := hi
  obtain ⟨g1, g2, g3, g4⟩ := em e i0 i1
  obtain ⟨z0, z1, z2, z3, z4, z5, z6⟩ := hp.2.1 e i0 i1
  refine j_aload_n 0 dX10_isOut_0 rfl rfl ?_
  refine j_iload_n 1 dX10_isOut_1 rfl rfl ?_
  refine J_callVZ kX10_51 cvX10_isNote hP.1 (c_X10_isNote hP hm2 hp hi2) rfl rfl rfl rfl rfl dX10_isOut_2 rfl rfl (fun z2 => ?_) (fun z2 => ?_)
  · refine J_if_eq 38 dX10_isOut_5 (by decide) (fun c5 => absurd c5 (by decide)) (fun c5 => ?_) 
    refine j_aload_n 0 dX10_isOut_8 rfl rfl ?_
    refine j_get fX10_18 dX10_isOut_9 hP.1 rfl ?_
    refine j_iload_n 1 dX10_isOut_12 rfl rfl ?_
    refine J_iald dX10_isOut_13 (hP.2.1 3 rfl) ?_ 
    refine j_aload_n 0 dX10_isOut_14 rfl rfl ?_
    refine j_get fX10_24 dX10_isOut_15 hP.1 rfl ?_
    refine J_icmp_lt 34 dX10_isOut_18 (by decide) (fun c18 => ?_) (fun c18 => ?_) 
    · refine J_iconst dX10_isOut_34 ?_
      refine j_goto 39 dX10_isOut_35 (by decide) ?_
      refine j_zret rfl rfl dX10_isOut_39 ⟨oIe ?_, rfl⟩
      (first | omega | (simp only [bI]; (repeat' split) <;> omega))
    · refine j_aload_n 0 dX10_isOut_21 rfl rfl ?_
      refine j_get fX10_18 dX10_isOut_22 hP.1 rfl ?_
      refine j_iload_n 1 dX10_isOut_25 rfl rfl ?_
      refine J_iald dX10_isOut_26 (hP.2.1 3 rfl) ?_ 
      refine j_aload_n 0 dX10_isOut_27 rfl rfl ?_
      refine j_get fX10_28 dX10_isOut_28 hP.1 rfl ?_
      refine J_icmp_le 38 dX10_isOut_31 (by decide) (fun c31 => ?_) (fun c31 => ?_) 
      · refine J_iconst dX10_isOut_38 ?_
        refine j_zret rfl rfl dX10_isOut_39 ⟨oIe ?_, rfl⟩
        (first | omega | (simp only [bI]; (repeat' split) <;> omega))
      · refine J_iconst dX10_isOut_34 ?_
        refine j_goto 39 dX10_isOut_35 (by decide) ?_
        refine j_zret rfl rfl dX10_isOut_39 ⟨oIe ?_, rfl⟩
        (first | omega | (simp only [bI]; (repeat' split) <;> omega))
  · refine J_if_eq 38 dX10_isOut_5 (by decide) (fun c5 => ?_) (fun c5 => absurd c5 (by decide)) 
    refine J_iconst dX10_isOut_38 ?_
    refine j_zret rfl rfl dX10_isOut_39 ⟨oIe ?_, rfl⟩
    (first | omega | (simp only [bI]; (repeat' split) <;> omega))
set_option maxRecDepth 100000 in
theorem c_X10_writtenPlace {l : Launch} {G : jG} {h : jH} {n a : Nat} {q : Nat → Nat} {m p : OS}{e : Int} (hP : AtX10 G n h a q m) (hm : mpOK n m p) (hp : partOK p) (hi : inP p e) : jC l G yX10_writtenPlace mX10_writtenPlace [.ref a, vI e] h (jE (oI (wPc p e)) h) := by
  refine j_body (by decide +kernel) ⟨rfl, rfl⟩ rfl ?_
  obtain ⟨⟨e0, e5, e6, e7, e8⟩, em, en, ez⟩ := hm
  have hn : 0 ≤ p.1 7 ∧ p.1 7 ≤ 512 := hp.1
  obtain ⟨hq1, hq2, hq3, hq4, hq5⟩ := hp.2.2.1
  obtain ⟨i0, i1⟩ := hi
  obtain ⟨g1, g2, g3, g4⟩ := em e i0 i1
  obtain ⟨z0, z1, z2, z3, z4, z5, z6⟩ := hp.2.1 e i0 i1
  refine j_aload_n 0 dX10_writtenPlace_0 rfl rfl ?_
  refine j_get fX10_18 dX10_writtenPlace_1 hP.1 rfl ?_
  refine j_iload_n 1 dX10_writtenPlace_4 rfl rfl ?_
  refine J_iald dX10_writtenPlace_5 (hP.2.1 3 rfl) ?_ 
  refine J_iconst dX10_writtenPlace_6 ?_
  refine j_aload_n 0 dX10_writtenPlace_7 rfl rfl ?_
  refine j_get fX10_55 dX10_writtenPlace_8 hP.1 rfl ?_
  refine J_imul dX10_writtenPlace_11 ?_
  refine J_iadd dX10_writtenPlace_12 ?_
  refine J_bipush dX10_writtenPlace_13 (by decide) ?_
  refine j_aload_n 0 dX10_writtenPlace_15 rfl rfl ?_
  refine j_get fX10_58 dX10_writtenPlace_16 hP.1 rfl ?_
  refine J_imul dX10_writtenPlace_19 ?_
  refine J_iadd dX10_writtenPlace_20 ?_
  refine j_iret rfl dX10_writtenPlace_21 ⟨oIe ?_, rfl⟩
  (show _ = p.2 0 e + 4 * p.1 11 + 7 * p.1 12; omega)
set_option maxRecDepth 100000 in
theorem c_X10_writtenAlter {l : Launch} {G : jG} {h : jH} {n a : Nat} {q : Nat → Nat} {m p : OS}{e : Int} (hP : AtX10 G n h a q m) (hm : mpOK n m p) (hp : partOK p) (hi : inP p e) (hne : p.2 0 e ≠ 0) : jC l G yX10_writtenAlter mX10_writtenAlter [.ref a, vI e] h (jE (oI (wAc p e)) h) := by
  refine j_body (by decide +kernel) ⟨rfl, rfl⟩ rfl ?_
  have hm2 := hm
  have hi2 := hi
  obtain ⟨⟨e0, e5, e6, e7, e8⟩, em, en, ez⟩ := hm
  have hn : 0 ≤ p.1 7 ∧ p.1 7 ≤ 512 := hp.1
  obtain ⟨hq1, hq2, hq3, hq4, hq5⟩ := hp.2.2.1
  obtain ⟨i0, i1⟩ := hi
  obtain ⟨g1, g2, g3, g4⟩ := em e i0 i1
  obtain ⟨z0, z1, z2, z3, z4, z5, z6⟩ := hp.2.1 e i0 i1
  have hwp : -50 ≤ wPc p e ∧ wPc p e ≤ 120 := by show -50 ≤ p.2 0 e + 4 * p.1 11 + 7 * p.1 12 ∧ p.2 0 e + 4 * p.1 11 + 7 * p.1 12 ≤ 120; omega
  have hwq := plain_rg (p := wPc p e) ⟨by omega, by omega⟩
  have hwa : rg (wAc p e) := by show rg (p.2 2 e + 7 * p.1 11 + 12 * p.1 12 - plain (wPc p e)); omega
  refine j_aload_n 0 dX10_writtenAlter_0 rfl rfl ?_
  refine j_iload_n 1 dX10_writtenAlter_1 rfl rfl ?_
  refine J_callV1 kX10_61 cvX10_height hP.1 (c_X10_height hP hm2 hp hi2 hne) rfl rfl rfl rfl rfl dX10_writtenAlter_2 rfl rfl ?_
  refine J_bipush dX10_writtenAlter_5 (by decide) ?_
  refine j_aload_n 0 dX10_writtenAlter_7 rfl rfl ?_
  refine j_get fX10_55 dX10_writtenAlter_8 hP.1 rfl ?_
  refine J_imul dX10_writtenAlter_11 ?_
  refine J_iadd dX10_writtenAlter_12 ?_
  refine J_bipush dX10_writtenAlter_13 (by decide) ?_
  refine j_aload_n 0 dX10_writtenAlter_15 rfl rfl ?_
  refine j_get fX10_58 dX10_writtenAlter_16 hP.1 rfl ?_
  refine J_imul dX10_writtenAlter_19 ?_
  refine J_iadd dX10_writtenAlter_20 ?_
  refine j_aload_n 0 dX10_writtenAlter_21 rfl rfl ?_
  refine j_iload_n 1 dX10_writtenAlter_22 rfl rfl ?_
  refine J_callV1 kX10_64 cvX10_writtenPlace hP.1 (c_X10_writtenPlace hP hm2 hp hi2) rfl rfl rfl rfl rfl dX10_writtenAlter_23 rfl rfl ?_
  refine J_callSN1 kX10_48 csX11_base (c_X11_base (by omega)) rfl rfl rfl rfl rfl dX10_writtenAlter_26 rfl rfl ?_
  refine J_isub dX10_writtenAlter_29 ?_
  refine j_iret rfl dX10_writtenAlter_30 ⟨oIe ?_, rfl⟩
  (show _ = p.2 2 e + 7 * p.1 11 + 12 * p.1 12 - plain (wPc p e); omega)
set_option maxRecDepth 100000 in
theorem c_X10_isWritten {l : Launch} {G : jG} {h : jH} {n a : Nat} {q : Nat → Nat} {m p : OS}{e : Int} (hP : AtX10 G n h a q m) (hm : mpOK n m p) (hp : partOK p) (hi : inP p e) : jC l G yX10_isWritten mX10_isWritten [.ref a, vI e] h (jE (oI (bI (isWr p e))) h) := by
  refine j_body (by decide +kernel) ⟨rfl, rfl⟩ rfl ?_
  have hm2 := hm
  have hi2 := hi
  obtain ⟨⟨e0, e5, e6, e7, e8⟩, em, en, ez⟩ := hm
  have hn : 0 ≤ p.1 7 ∧ p.1 7 ≤ 512 := hp.1
  obtain ⟨hq1, hq2, hq3, hq4, hq5⟩ := hp.2.2.1
  obtain ⟨i0, i1⟩ := hi
  obtain ⟨g1, g2, g3, g4⟩ := em e i0 i1
  obtain ⟨z0, z1, z2, z3, z4, z5, z6⟩ := hp.2.1 e i0 i1
  have hwp : -50 ≤ wPc p e ∧ wPc p e ≤ 120 := by show -50 ≤ p.2 0 e + 4 * p.1 11 + 7 * p.1 12 ∧ p.2 0 e + 4 * p.1 11 + 7 * p.1 12 ≤ 120; omega
  have hwq := plain_rg (p := wPc p e) ⟨by omega, by omega⟩
  have hwa : rg (wAc p e) := by show rg (p.2 2 e + 7 * p.1 11 + 12 * p.1 12 - plain (wPc p e)); omega
  refine j_aload_n 0 dX10_isWritten_0 rfl rfl ?_
  refine j_iload_n 1 dX10_isWritten_1 rfl rfl ?_
  refine J_callVZ kX10_51 cvX10_isNote hP.1 (c_X10_isNote hP hm2 hp hi2) rfl rfl rfl rfl rfl dX10_isWritten_2 rfl rfl (fun z2 => ?_) (fun z2 => ?_)
  · refine J_if_eq 40 dX10_isWritten_5 (by decide) (fun c5 => absurd c5 (by decide)) (fun c5 => ?_) 
    have z2_ := z2
    refine j_aload_n 0 dX10_isWritten_8 rfl rfl ?_
    refine j_iload_n 1 dX10_isWritten_9 rfl rfl ?_
    refine J_callV1 kX10_64 cvX10_writtenPlace hP.1 (c_X10_writtenPlace hP hm2 hp hi2) rfl rfl rfl rfl rfl dX10_isWritten_10 rfl rfl ?_
    refine J_iconst dX10_isWritten_13 ?_
    refine J_bipush dX10_isWritten_14 (by decide) ?_
    refine J_callSNZ kX10_67 csX11_is (c_X11_is (by omega) (by decide) (by decide)) rfl rfl rfl rfl rfl dX10_isWritten_16 rfl rfl (fun z16 => ?_) (fun z16 => ?_)
    · refine J_if_eq 40 dX10_isWritten_19 (by decide) (fun c19 => absurd c19 (by decide)) (fun c19 => ?_) 
      refine j_aload_n 0 dX10_isWritten_22 rfl rfl ?_
      refine j_iload_n 1 dX10_isWritten_23 rfl rfl ?_
      refine J_callV1 kX10_71 cvX10_writtenAlter hP.1 (c_X10_writtenAlter hP hm2 hp hi2 z2_) rfl rfl rfl rfl rfl dX10_isWritten_24 rfl rfl ?_
      refine J_bipush dX10_isWritten_27 (by decide) ?_
      refine J_iconst dX10_isWritten_29 ?_
      refine J_callSNZ kX10_67 csX11_is (c_X11_is (by omega) (by decide) (by decide)) rfl rfl rfl rfl rfl dX10_isWritten_30 rfl rfl (fun z30 => ?_) (fun z30 => ?_)
      · refine J_if_eq 40 dX10_isWritten_33 (by decide) (fun c33 => absurd c33 (by decide)) (fun c33 => ?_) 
        refine J_iconst dX10_isWritten_36 ?_
        refine j_goto 41 dX10_isWritten_37 (by decide) ?_
        refine j_zret rfl rfl dX10_isWritten_41 ⟨oIe ?_, rfl⟩
        (first | exact (if_pos ⟨z2, z16.1, z16.2, z30.1, z30.2⟩).symm | exact (if_neg (fun q => z30 ⟨q.2.2.2.1, q.2.2.2.2⟩)).symm | exact (if_neg (fun q => z16 ⟨q.2.1, q.2.2.1⟩)).symm | exact (if_neg (fun q => z2 q.1)).symm)
      · refine J_if_eq 40 dX10_isWritten_33 (by decide) (fun c33 => ?_) (fun c33 => absurd c33 (by decide)) 
        refine J_iconst dX10_isWritten_40 ?_
        refine j_zret rfl rfl dX10_isWritten_41 ⟨oIe ?_, rfl⟩
        (first | exact (if_pos ⟨z2, z16.1, z16.2, z30.1, z30.2⟩).symm | exact (if_neg (fun q => z30 ⟨q.2.2.2.1, q.2.2.2.2⟩)).symm | exact (if_neg (fun q => z16 ⟨q.2.1, q.2.2.1⟩)).symm | exact (if_neg (fun q => z2 q.1)).symm)
    · refine J_if_eq 40 dX10_isWritten_19 (by decide) (fun c19 => ?_) (fun c19 => absurd c19 (by decide)) 
      refine J_iconst dX10_isWritten_40 ?_
      refine j_zret rfl rfl dX10_isWritten_41 ⟨oIe ?_, rfl⟩
      (first | exact (if_pos ⟨z2, z16.1, z16.2, z30.1, z30.2⟩).symm | exact (if_neg (fun q => z30 ⟨q.2.2.2.1, q.2.2.2.2⟩)).symm | exact (if_neg (fun q => z16 ⟨q.2.1, q.2.2.1⟩)).symm | exact (if_neg (fun q => z2 q.1)).symm)
  · refine J_if_eq 40 dX10_isWritten_5 (by decide) (fun c5 => ?_) (fun c5 => absurd c5 (by decide)) 
    refine J_iconst dX10_isWritten_40 ?_
    refine j_zret rfl rfl dX10_isWritten_41 ⟨oIe ?_, rfl⟩
    (first | exact (if_pos ⟨z2, z16.1, z16.2, z30.1, z30.2⟩).symm | exact (if_neg (fun q => z30 ⟨q.2.2.2.1, q.2.2.2.2⟩)).symm | exact (if_neg (fun q => z16 ⟨q.2.1, q.2.2.1⟩)).symm | exact (if_neg (fun q => z2 q.1)).symm)
