/-! ChoraleDesk.Chord: 0 root, 1 kind, 2 lowest -/
abbrev oX1 : oO := fun _ p => (1, [vI (p.1 0), vI (p.1 1), vI (p.1 2)])
abbrev caX1 (G : jG) : oC := fun _ F => ai G 0 F
abbrev AX1 : Nat → Bool := fun _ => false
abbrev AtX1 (G : jG) (h : jH) (a : Nat) (q : Nat → Nat) (p : OS) : Prop := At oX1 (caX1 G) AX1 h a q p
theorem I_or (a b : Nat) : Int32.ofInt (a : Int) ||| Int32.ofInt (b : Int) = Int32.ofInt ((a ||| b : Nat) : Int) := by
  rw [Int32.ofInt_eq_ofNat, Int32.ofInt_eq_ofNat, Int32.ofInt_eq_ofNat]
  apply Int32.toBitVec_inj.1
  show BitVec.ofNat 32 a ||| BitVec.ofNat 32 b = BitVec.ofNat 32 (a ||| b)
  apply BitVec.eq_of_getLsbD_eq
  intro i hi
  simp [BitVec.getLsbD_or, BitVec.getLsbD_ofNat, Nat.testBit_or, hi]
theorem I_shl1 (x : Int) (h : 0 ≤ x ∧ x < 12) : Int32.ofInt 1 <<< (Int32.ofInt x &&& 31) = Int32.ofInt ((2 ^ x.toNat : Nat) : Int) := by
  rcases (by omega : x = 0 ∨ x = 1 ∨ x = 2 ∨ x = 3 ∨ x = 4 ∨ x = 5 ∨ x = 6 ∨ x = 7 ∨ x = 8 ∨ x = 9 ∨ x = 10 ∨ x = 11) with e | e | e | e | e | e | e | e | e | e | e | e <;> subst e <;> rfl
theorem I_and (a b : Nat) : Int32.ofInt (a : Int) &&& Int32.ofInt (b : Int) = Int32.ofInt ((a &&& b : Nat) : Int) := by
  rw [Int32.ofInt_eq_ofNat, Int32.ofInt_eq_ofNat, Int32.ofInt_eq_ofNat]
  apply Int32.toBitVec_inj.1
  show BitVec.ofNat 32 a &&& BitVec.ofNat 32 b = BitVec.ofNat 32 (a &&& b)
  apply BitVec.eq_of_getLsbD_eq
  intro i hi
  simp [BitVec.getLsbD_and, BitVec.getLsbD_ofNat, Nat.testBit_and, hi]
theorem I_amt (x : Fin 12) : ((Int32.ofInt (x.val : Int) &&& 31).toBitVec.smod 32).toNat = x.val := by revert x; decide
theorem I_bit (x : Fin 12) (m : Fin 4096) : (Int32.ofInt (m.val : Int) >>> (Int32.ofInt (x.val : Int) &&& 31)) &&& Int32.ofInt 1 = Int32.ofInt ((m.val / 2 ^ x.val % 2 : Nat) : Int) := by
  have h1 : Int32.ofInt (m.val : Int) >>> (Int32.ofInt (x.val : Int) &&& 31) = Int32.ofInt ((m.val / 2 ^ x.val : Nat) : Int) := by
    rw [Int32.ofInt_eq_ofNat (n := m.val), Int32.ofInt_eq_ofNat (n := m.val / 2 ^ x.val)]
    exact pk_shrN (n := m.val) (by have := m.isLt; omega) _ x.val (I_amt x)
  rw [h1]
  have h2 := I_and (m.val / 2 ^ x.val) 1
  rw [Nat.and_one_is_mod] at h2
  exact h2
def swar (x : Int32) : Int32 :=
  let a := x - ((x.toUInt32 >>> ((Int32.ofInt 1).toUInt32 &&& Int32.toUInt32 31)).toInt32 &&& 1431655765)
  let b := (a &&& 858993459) + ((a.toUInt32 >>> ((Int32.ofInt 2).toUInt32 &&& Int32.toUInt32 31)).toInt32 &&& 858993459)
  let c := (b + (b.toUInt32 >>> ((Int32.ofInt 4).toUInt32 &&& Int32.toUInt32 31)).toInt32) &&& 252645135
  let d := c + (c.toUInt32 >>> ((Int32.ofInt 8).toUInt32 &&& Int32.toUInt32 31)).toInt32
  let e := d + (d.toUInt32 >>> ((Int32.ofInt 16).toUInt32 &&& Int32.toUInt32 31)).toInt32
  e &&& Int32.ofInt 63
def popN (m : Nat) : Nat := (List.range 12).foldl (fun s i => s + m / 2 ^ i % 2) 0
theorem swar_ok0 : ∀ a b : Fin 64, swar (Int32.ofInt ((64 * a.val + b.val : Nat) : Int)) = Int32.ofInt ((popN (64 * a.val + b.val) : Nat) : Int) := by decide +kernel
theorem swar_ok (m : Fin 4096) : swar (Int32.ofInt (m.val : Int)) = Int32.ofInt ((popN m.val : Nat) : Int) := by
  have h := m.isLt
  have e := swar_ok0 ⟨m.val / 64, by omega⟩ ⟨m.val % 64, by omega⟩
  have e1 : 64 * (m.val / 64) + m.val % 64 = m.val := by omega
  simp only [e1] at e
  exact e
section JX1
variable {l : Launch} {G : jG} {M : jM} {QF : jF} {ck sk pc : Nat} {L : List (Nat × Value)} {st : List Value} {h : jH}
theorem J_ior {a b : Nat} (hd : decode M.cc pc = .ok (.ior, 1)) (k : J l G M QF ck sk (pc + 1) L (vI ((a ||| b : Nat) : Int) :: st) h) : J l G M QF ck sk pc L (vI (b : Int) :: vI (a : Int) :: st) h := j_ior hd (by rw [I_or]; exact k)
theorem J_ishl {x : Int} (hd : decode M.cc pc = .ok (.ishl, 1)) (k : J l G M QF ck sk (pc + 1) L (vI ((2 ^ x.toNat : Nat) : Int) :: st) h) (hx : 0 ≤ x ∧ x < 12 := by omega) : J l G M QF ck sk pc L (vI x :: vI 1 :: st) h := j_ishl hd (by rw [I_shl1 x hx]; exact k)
/-- m >> x & 1 -/
theorem J_bit {x : Int} {m : Nat} (hd : decode M.cc pc = .ok (.ishr, 1)) (hd1 : decode M.cc (pc + 1) = .ok (.iconst 1, 1)) (hd2 : decode M.cc (pc + 2) = .ok (.iand, 1)) (k : J l G M QF ck sk (pc + 3) L (vI ((m / 2 ^ x.toNat % 2 : Nat) : Int) :: st) h) (hx : 0 ≤ x ∧ x < 12 := by omega) (hm : m < 4096 := by omega) : J l G M QF ck sk pc L (vI x :: vI (m : Int) :: st) h := by
  refine j_ishr hd ?_
  refine J_iconst hd1 ?_
  refine j_iand hd2 ?_
  have e := I_bit ⟨x.toNat, by omega⟩ ⟨m, hm⟩
  have e1 : ((x.toNat : Nat) : Int) = x := Int.toNat_of_nonneg hx.1
  simp only [e1] at e
  rw [e]
  exact k
end JX1
set_option maxRecDepth 100000 in
theorem c_J6_bitCount_0f7a4 {l : Launch} {G : jG} {h : jH} {x : Nat} (hx : x < 4096) : jC l G yJ6_bitCount_0f7a4 mJ6_bitCount_0f7a4 [vI (x : Int)] h (jE (oI ((popN x : Nat) : Int)) h) := by
  refine j_bodyF (by decide +kernel) ⟨rfl, rfl⟩ rfl ?_
  refine j_iload_n 0 dJ6_bitCount_0f7a4_0 rfl rfl ?_
  refine j_iload_n 0 dJ6_bitCount_0f7a4_1 rfl rfl ?_
  refine J_iconst dJ6_bitCount_0f7a4_2 ?_
  refine j_iushr dJ6_bitCount_0f7a4_3 ?_
  refine j_ldcw _ dJ6_bitCount_0f7a4_4 vJ6_265 ?_
  refine j_iand dJ6_bitCount_0f7a4_7 ?_
  refine j_isub dJ6_bitCount_0f7a4_8 ?_
  refine j_istore_n 0 (L' := [(0, _)]) dJ6_bitCount_0f7a4_9 rfl rfl rfl ?_
  refine j_iload_n 0 dJ6_bitCount_0f7a4_10 rfl rfl ?_
  refine j_ldcw _ dJ6_bitCount_0f7a4_11 vJ6_266 ?_
  refine j_iand dJ6_bitCount_0f7a4_14 ?_
  refine j_iload_n 0 dJ6_bitCount_0f7a4_15 rfl rfl ?_
  refine J_iconst dJ6_bitCount_0f7a4_16 ?_
  refine j_iushr dJ6_bitCount_0f7a4_17 ?_
  refine j_ldcw _ dJ6_bitCount_0f7a4_18 vJ6_266 ?_
  refine j_iand dJ6_bitCount_0f7a4_21 ?_
  refine j_iadd dJ6_bitCount_0f7a4_22 ?_
  refine j_istore_n 0 (L' := [(0, _)]) dJ6_bitCount_0f7a4_23 rfl rfl rfl ?_
  refine j_iload_n 0 dJ6_bitCount_0f7a4_24 rfl rfl ?_
  refine j_iload_n 0 dJ6_bitCount_0f7a4_25 rfl rfl ?_
  refine J_iconst dJ6_bitCount_0f7a4_26 ?_
  refine j_iushr dJ6_bitCount_0f7a4_27 ?_
  refine j_iadd dJ6_bitCount_0f7a4_28 ?_
  refine j_ldcw _ dJ6_bitCount_0f7a4_29 vJ6_267 ?_
  refine j_iand dJ6_bitCount_0f7a4_32 ?_
  refine j_istore_n 0 (L' := [(0, _)]) dJ6_bitCount_0f7a4_33 rfl rfl rfl ?_
  refine j_iload_n 0 dJ6_bitCount_0f7a4_34 rfl rfl ?_
  refine j_iload_n 0 dJ6_bitCount_0f7a4_35 rfl rfl ?_
  refine J_bipush dJ6_bitCount_0f7a4_36 (by decide) ?_
  refine j_iushr dJ6_bitCount_0f7a4_38 ?_
  refine j_iadd dJ6_bitCount_0f7a4_39 ?_
  refine j_istore_n 0 (L' := [(0, _)]) dJ6_bitCount_0f7a4_40 rfl rfl rfl ?_
  refine j_iload_n 0 dJ6_bitCount_0f7a4_41 rfl rfl ?_
  refine j_iload_n 0 dJ6_bitCount_0f7a4_42 rfl rfl ?_
  refine J_bipush dJ6_bitCount_0f7a4_43 (by decide) ?_
  refine j_iushr dJ6_bitCount_0f7a4_45 ?_
  refine j_iadd dJ6_bitCount_0f7a4_46 ?_
  refine j_istore_n 0 (L' := [(0, _)]) dJ6_bitCount_0f7a4_47 rfl rfl rfl ?_
  refine j_iload_n 0 dJ6_bitCount_0f7a4_48 rfl rfl ?_
  refine J_bipush dJ6_bitCount_0f7a4_49 (by decide) ?_
  refine j_iand dJ6_bitCount_0f7a4_51 ?_
  refine j_iret rfl dJ6_bitCount_0f7a4_52 ?_
  exact ⟨congrArg (fun z => Sum.inl (some (Value.int z))) (swar_ok ⟨x, hx⟩), rfl⟩
abbrev sec (r k : Int) : Int := (r + lk [4, 3, 3, 4] k) % 12
abbrev thi (r k : Int) : Int := (r + lk [7, 7, 6, 8] k) % 12
def mk3 (r s t : Int) : Nat := 2 ^ r.toNat ||| 2 ^ s.toNat ||| 2 ^ t.toNat
def fkS (cl : Nat) (r lc : Int) (p : OS) (k : Int) : OS := if (k ≠ 3 ∨ r = lc) ∧ cl = mk3 r (sec r k) (thi r k) then oU (oU (oU p 0 r) 1 k) 2 (if lc = r then 0 else if lc = sec r k then 1 else 2) else p
def fkK (cl : Nat) (r lc : Int) (p : OS) : Nat → OS
  | 0 => p
  | k + 1 => fkS cl r lc (fkK cl r lc p k) k
def frM (cl : Nat) (lc : Int) : Nat → OS → OS
  | 0, p => p
  | n + 1, p => if p.1 0 = -1 then frM cl lc n (if cl / 2 ^ (11 - n) % 2 = 1 then fkK cl ((11 - n : Nat) : Int) lc p 4 else p) else p
def fgP (p : OS) : OS := oU (oU (oU p 0 (-1)) 1 (-1)) 2 (-1)
theorem lk4 (l : List Int) (k : Int) (h : 0 ≤ k ∧ k < 4) : (l = [4, 3, 3, 4] ∨ l = [7, 7, 6, 8]) → 3 ≤ lk l k ∧ lk l k ≤ 8 := by
  rcases (by omega : k = 0 ∨ k = 1 ∨ k = 2 ∨ k = 3) with e | e | e | e <;> subst e <;> intro e2 <;> rcases e2 with e2 | e2 <;> subst e2 <;> decide
set_option maxRecDepth 100000 in
theorem c_X1_rootClass {l : Launch} {G : jG} {h : jH} {a : Nat} {q : Nat → Nat} {p : OS} (hP : AtX1 G h a q p) : jC l G yX1_rootClass mX1_rootClass [.ref a] h (jE (oI (p.1 0)) h) := by
  refine j_body (by decide +kernel) ⟨rfl, rfl⟩ rfl ?_
  refine j_aload_n 0 dX1_rootClass_0 rfl rfl ?_
  refine j_get fX1_9 dX1_rootClass_1 hP.1 rfl ?_
  refine j_iret rfl dX1_rootClass_4 ⟨oIe ?_, rfl⟩
  (first | omega | (simp only [bI]; (repeat' split) <;> omega))
set_option maxRecDepth 100000 in
theorem c_X1_kindNumber {l : Launch} {G : jG} {h : jH} {a : Nat} {q : Nat → Nat} {p : OS} (hP : AtX1 G h a q p) : jC l G yX1_kindNumber mX1_kindNumber [.ref a] h (jE (oI (p.1 1)) h) := by
  refine j_body (by decide +kernel) ⟨rfl, rfl⟩ rfl ?_
  refine j_aload_n 0 dX1_kindNumber_0 rfl rfl ?_
  refine j_get fX1_15 dX1_kindNumber_1 hP.1 rfl ?_
  refine j_iret rfl dX1_kindNumber_4 ⟨oIe ?_, rfl⟩
  (first | omega | (simp only [bI]; (repeat' split) <;> omega))
set_option maxRecDepth 100000 in
theorem c_X1_lowestTone {l : Launch} {G : jG} {h : jH} {a : Nat} {q : Nat → Nat} {p : OS} (hP : AtX1 G h a q p) : jC l G yX1_lowestTone mX1_lowestTone [.ref a] h (jE (oI (p.1 2)) h) := by
  refine j_body (by decide +kernel) ⟨rfl, rfl⟩ rfl ?_
  refine j_aload_n 0 dX1_lowestTone_0 rfl rfl ?_
  refine j_get fX1_18 dX1_lowestTone_1 hP.1 rfl ?_
  refine j_iret rfl dX1_lowestTone_4 ⟨oIe ?_, rfl⟩
  (first | omega | (simp only [bI]; (repeat' split) <;> omega))
set_option maxRecDepth 100000 in
theorem c_X1_forget {l : Launch} {G : jG} {h : jH} {a : Nat} {q : Nat → Nat} {p : OS} (hP : AtX1 G h a q p) : jC l G yX1_forget mX1_forget [.ref a] h (jW oN (fun h' => AtX1 G h' a q (fgP p) ∧ Fr (ft AX1 a q) h h')) := by
  refine j_body (by decide +kernel) ⟨rfl, rfl⟩ rfl ?_
  have hF : Fr (ft AX1 a q) h h := Fr.rf
  refine j_aload_n 0 dX1_forget_0 rfl rfl ?_
  refine J_iconst dX1_forget_1 ?_
  refine J_putA hP fX1_9 tyX1_root dX1_forget_2 rfl rfl (fun h hP hF2 => ?_)
  have hF := hF.tr hF2
  refine j_aload_n 0 dX1_forget_5 rfl rfl ?_
  refine J_iconst dX1_forget_6 ?_
  refine J_putA hP fX1_15 tyX1_kind dX1_forget_7 rfl rfl (fun h hP hF7 => ?_)
  have hF := hF.tr hF7
  refine j_aload_n 0 dX1_forget_10 rfl rfl ?_
  refine J_iconst dX1_forget_11 ?_
  refine J_putA hP fX1_18 tyX1_lowest dX1_forget_12 rfl rfl (fun h hP hF12 => ?_)
  have hF := hF.tr hF12
  refine j_vret rfl dX1_forget_15 ?_
  exact ⟨rfl, hP, hF⟩
theorem fk_t {cl : Nat} {r lc : Int} {p : OS} {k v : Int} (h1 : k ≠ 3 ∨ r = lc) (h2 : (cl : Int) = (mk3 r (sec r k) (thi r k) : Nat)) (h3 : (lc = r ∧ v = 0) ∨ (lc ≠ r ∧ lc = sec r k ∧ v = 1) ∨ (lc ≠ r ∧ lc ≠ sec r k ∧ v = 2)) : fkS cl r lc p k = oU (oU (oU p 0 r) 1 k) 2 v := by
  unfold fkS
  rw [if_pos ⟨h1, by omega⟩]
  congr 1
  rcases h3 with h | h | h
  · rw [if_pos h.1, h.2]
  · rw [if_neg h.1, if_pos h.2.1, h.2.2]
  · rw [if_neg h.1, if_neg h.2.1, h.2.2]
theorem fk_f {cl : Nat} {r lc : Int} {p : OS} {k : Int} (h : ¬ ((k ≠ 3 ∨ r = lc) ∧ (cl : Int) = (mk3 r (sec r k) (thi r k) : Nat))) : fkS cl r lc p k = p := by
  unfold fkS
  rw [if_neg (fun z => h ⟨z.1, by rw [← z.2]⟩)]
theorem fk_t2 {G : jG} {h : jH} {a : Nat} {q : Nat → Nat} {cl : Nat} {r lc : Int} {p : OS} {k v : Int} (hP : AtX1 G h a q (oU (oU (oU p 0 r) 1 k) 2 v)) (h1 : k ≠ 3 ∨ r = lc) (h2 : (cl : Int) = (mk3 r (sec r k) (thi r k) : Nat)) (h3 : (lc = r ∧ v = 0) ∨ (lc ≠ r ∧ lc = sec r k ∧ v = 1) ∨ (lc ≠ r ∧ lc ≠ sec r k ∧ v = 2)) : AtX1 G h a q (fkS cl r lc p k) := by
  rw [fk_t h1 h2 h3]; exact hP
set_option maxRecDepth 100000 in
theorem c_X1_findKind {l : Launch} {G : jG} {h : jH} {a : Nat} {q : Nat → Nat} {p : OS} {cl : Nat} {r lc : Int} (hP : AtX1 G h a q p) (hcl : cl < 4096) (hr : 0 ≤ r ∧ r < 12) (hlc : -1 ≤ lc ∧ lc < 12) : jC l G yX1_findKind mX1_findKind [.ref a, vI (cl : Int), vI r, vI lc] h (jW oN (fun h' => AtX1 G h' a q (fkK cl r lc p 4) ∧ Fr (ft AX1 a q) h h')) := by
  have loop : ∀ (n k : Nat) (h2 : jH), k + n = 4 → AtX1 G h2 a q (fkK cl r lc p k) → Fr (ft AX1 a q) h h2 → J l G mX1_findKind (jQ G mX1_findKind (jW oN (fun h' => AtX1 G h' a q (fkK cl r lc p 4) ∧ Fr (ft AX1 a q) h h'))) 0 0 3 [(4, vI k), (0, .ref a), (1, vI (cl : Int)), (2, vI r), (3, vI lc)] [] h2 := by
    intro n
    induction n with
    | zero =>
      intro k h2 hk hP hF
      obtain rfl : k = 4 := by omega
      refine j_iload dX1_findKind_3 rfl ?_
      refine j_gets 3 rfl fX1_54 dX1_findKind_5 ?_
      refine J_salen 3 rfl dX1_findKind_8 ?_

      refine J_icmp_ge 128 dX1_findKind_9 (by decide) (fun c9 => ?_) (fun c9 => absurd c9 (by omega)) 
      refine j_vret rfl dX1_findKind_128 ?_
      exact ⟨rfl, hP, hF⟩
    | succ n ih =>
      intro k h2 hk hP hF
      have hl1 := lk4 [4, 3, 3, 4] k (by omega) (Or.inl rfl)
      have hl2 := lk4 [7, 7, 6, 8] k (by omega) (Or.inr rfl)
      have hs1 : 0 ≤ sec r k ∧ sec r k < 12 := ⟨Int.emod_nonneg _ (by decide), Int.emod_lt_of_pos _ (by decide)⟩
      have hs2 : 0 ≤ thi r k ∧ thi r k < 12 := ⟨Int.emod_nonneg _ (by decide), Int.emod_lt_of_pos _ (by decide)⟩
      have hm : mk3 r (sec r k) (thi r k) < 4096 := by
        unfold mk3
        have h1 : 2 ^ r.toNat < 2 ^ 12 := Nat.pow_lt_pow_right (by decide) (by omega)
        have h2 : 2 ^ (sec r k).toNat < 2 ^ 12 := Nat.pow_lt_pow_right (by decide) (by omega)
        have h3 : 2 ^ (thi r k).toNat < 2 ^ 12 := Nat.pow_lt_pow_right (by decide) (by omega)
        exact Nat.or_lt_two_pow (Nat.or_lt_two_pow h1 h2) h3
      refine j_iload dX1_findKind_3 rfl ?_
      refine j_gets 3 rfl fX1_54 dX1_findKind_5 ?_
      refine J_salen 3 rfl dX1_findKind_8 ?_
      refine J_icmp_ge 128 dX1_findKind_9 (by decide) (fun c9 => absurd c9 (by omega)) (fun c9 => ?_) 
      refine j_iload dX1_findKind_12 rfl ?_
      refine j_gets 4 rfl fX1_58 dX1_findKind_14 ?_
      refine J_salen 4 rfl dX1_findKind_17 ?_
      refine J_icmp_ge 128 dX1_findKind_18 (by decide) (fun c18 => absurd c18 (by omega)) (fun c18 => ?_) 
      refine j_iload_n 2 dX1_findKind_21 rfl rfl ?_
      refine j_gets 3 rfl fX1_54 dX1_findKind_22 ?_
      refine j_iload dX1_findKind_25 rfl ?_
      refine J_siald 3 [4, 3, 3, 4] rfl rfl dX1_findKind_27 ?_ 
      refine J_iadd dX1_findKind_28 ?_
      refine J_bipush dX1_findKind_29 (by decide) ?_
      refine J_irem dX1_findKind_31 ?_ 
      refine J_top (sec r k) ?_ (by (show _ = (_ : Int) % 12; rw [Int.tmod_eq_emod_of_nonneg (by omega)]))
      refine j_istore (L' := [(5, _), (4, _), (0, _), (1, _), (2, _), (3, _)]) dX1_findKind_32 rfl rfl ?_
      refine j_iload_n 2 dX1_findKind_34 rfl rfl ?_
      refine j_gets 4 rfl fX1_58 dX1_findKind_35 ?_
      refine j_iload dX1_findKind_38 rfl ?_
      refine J_siald 4 [7, 7, 6, 8] rfl rfl dX1_findKind_40 ?_ 
      refine J_iadd dX1_findKind_41 ?_
      refine J_bipush dX1_findKind_42 (by decide) ?_
      refine J_irem dX1_findKind_44 ?_ 
      refine J_top (thi r k) ?_ (by (show _ = (_ : Int) % 12; rw [Int.tmod_eq_emod_of_nonneg (by omega)]))
      refine j_istore (L' := [(6, _), (5, _), (4, _), (0, _), (1, _), (2, _), (3, _)]) dX1_findKind_45 rfl rfl ?_
      refine j_iload dX1_findKind_47 rfl ?_
      refine J_iconst dX1_findKind_49 ?_
      refine J_icmp_ne 58 dX1_findKind_50 (by decide) (fun c50 => ?_) (fun c50 => ?_) 
      · refine J_iconst dX1_findKind_58 ?_
        refine j_goto 63 dX1_findKind_59 (by decide) ?_
        refine j_istore (L' := [(7, _), (6, _), (5, _), (4, _), (0, _), (1, _), (2, _), (3, _)]) dX1_findKind_63 rfl rfl ?_
        refine j_iload dX1_findKind_65 rfl ?_
        refine J_if_eq 122 dX1_findKind_67 (by decide) (fun c67 => absurd c67 (by decide)) (fun c67 => ?_) 
        refine j_iload_n 1 dX1_findKind_70 rfl rfl ?_
        refine J_iconst dX1_findKind_71 ?_
        refine j_iload_n 2 dX1_findKind_72 rfl rfl ?_
        refine J_ishl dX1_findKind_73 ?_ 
        refine J_iconst dX1_findKind_74 ?_
        refine j_iload dX1_findKind_75 rfl ?_
        refine J_ishl dX1_findKind_77 ?_ 
        refine J_ior dX1_findKind_78 ?_ 
        refine J_iconst dX1_findKind_79 ?_
        refine j_iload dX1_findKind_80 rfl ?_
        refine J_ishl dX1_findKind_82 ?_ 
        refine J_ior dX1_findKind_83 ?_ 
        change J _ _ _ _ _ _ _ _ (vI ((mk3 r (sec r k) (thi r k) : Nat) : Int) :: _) _
        refine J_icmp_ne 122 dX1_findKind_84 (by decide) (fun c84 => ?_) (fun c84 => ?_) 
        · refine J_iinc (L' := [(4, _), (7, _), (6, _), (5, _), (0, _), (1, _), (2, _), (3, _)]) dX1_findKind_122 rfl rfl rfl ?_
          refine j_goto 3 dX1_findKind_125 (by decide) ?_
          refine j_locR (ih (k + 1) _ (by omega) ?_ hF) (by repeat' (first | exact True.intro | refine And.intro rfl ?_))
          show At _ _ _ _ _ _ (fkS cl r lc (fkK cl r lc p k) k)
          first | exact fk_t2 hP (by omega) (by omega) (by omega) | (rw [fk_f (by omega)]; exact hP)
        · refine j_aload_n 0 dX1_findKind_87 rfl rfl ?_
          refine j_iload_n 2 dX1_findKind_88 rfl rfl ?_
          refine J_putA hP fX1_9 tyX1_root dX1_findKind_89 rfl rfl (fun h hP hF89 => ?_)
          have hF := hF.tr hF89
          refine j_aload_n 0 dX1_findKind_92 rfl rfl ?_
          refine j_iload dX1_findKind_93 rfl ?_
          refine J_putA hP fX1_15 tyX1_kind dX1_findKind_95 rfl rfl (fun h hP hF95 => ?_)
          have hF := hF.tr hF95
          refine j_aload_n 0 dX1_findKind_98 rfl rfl ?_
          refine j_iload_n 3 dX1_findKind_99 rfl rfl ?_
          refine j_iload_n 2 dX1_findKind_100 rfl rfl ?_
          refine J_icmp_ne 108 dX1_findKind_101 (by decide) (fun c101 => ?_) (fun c101 => ?_) 
          · refine j_iload_n 3 dX1_findKind_108 rfl rfl ?_
            refine j_iload dX1_findKind_109 rfl ?_
            refine J_icmp_ne 118 dX1_findKind_111 (by decide) (fun c111 => ?_) (fun c111 => ?_) 
            · refine J_iconst dX1_findKind_118 ?_
              refine J_putA hP fX1_18 tyX1_lowest dX1_findKind_119 rfl rfl (fun h hP hF119 => ?_)
              have hF := hF.tr hF119
              refine J_iinc (L' := [(4, _), (7, _), (6, _), (5, _), (0, _), (1, _), (2, _), (3, _)]) dX1_findKind_122 rfl rfl rfl ?_
              refine j_goto 3 dX1_findKind_125 (by decide) ?_
              refine j_locR (ih (k + 1) _ (by omega) ?_ hF) (by repeat' (first | exact True.intro | refine And.intro rfl ?_))
              show At _ _ _ _ _ _ (fkS cl r lc (fkK cl r lc p k) k)
              first | exact fk_t2 hP (by omega) (by omega) (by omega) | (rw [fk_f (by omega)]; exact hP)
            · refine J_iconst dX1_findKind_114 ?_
              refine j_goto 119 dX1_findKind_115 (by decide) ?_
              refine J_putA hP fX1_18 tyX1_lowest dX1_findKind_119 rfl rfl (fun h hP hF119 => ?_)
              have hF := hF.tr hF119
              refine J_iinc (L' := [(4, _), (7, _), (6, _), (5, _), (0, _), (1, _), (2, _), (3, _)]) dX1_findKind_122 rfl rfl rfl ?_
              refine j_goto 3 dX1_findKind_125 (by decide) ?_
              refine j_locR (ih (k + 1) _ (by omega) ?_ hF) (by repeat' (first | exact True.intro | refine And.intro rfl ?_))
              show At _ _ _ _ _ _ (fkS cl r lc (fkK cl r lc p k) k)
              first | exact fk_t2 hP (by omega) (by omega) (by omega) | (rw [fk_f (by omega)]; exact hP)
          · refine J_iconst dX1_findKind_104 ?_
            refine j_goto 119 dX1_findKind_105 (by decide) ?_
            refine J_putA hP fX1_18 tyX1_lowest dX1_findKind_119 rfl rfl (fun h hP hF119 => ?_)
            have hF := hF.tr hF119
            refine J_iinc (L' := [(4, _), (7, _), (6, _), (5, _), (0, _), (1, _), (2, _), (3, _)]) dX1_findKind_122 rfl rfl rfl ?_
            refine j_goto 3 dX1_findKind_125 (by decide) ?_
            refine j_locR (ih (k + 1) _ (by omega) ?_ hF) (by repeat' (first | exact True.intro | refine And.intro rfl ?_))
            show At _ _ _ _ _ _ (fkS cl r lc (fkK cl r lc p k) k)
            first | exact fk_t2 hP (by omega) (by omega) (by omega) | (rw [fk_f (by omega)]; exact hP)
      · refine j_iload_n 2 dX1_findKind_53 rfl rfl ?_
        refine j_iload_n 3 dX1_findKind_54 rfl rfl ?_
        refine J_icmp_ne 62 dX1_findKind_55 (by decide) (fun c55 => ?_) (fun c55 => ?_) 
        · refine J_iconst dX1_findKind_62 ?_
          refine j_istore (L' := [(7, _), (6, _), (5, _), (4, _), (0, _), (1, _), (2, _), (3, _)]) dX1_findKind_63 rfl rfl ?_
          refine j_iload dX1_findKind_65 rfl ?_
          refine J_if_eq 122 dX1_findKind_67 (by decide) (fun c67 => ?_) (fun c67 => absurd c67 (by decide)) 
          refine J_iinc (L' := [(4, _), (7, _), (6, _), (5, _), (0, _), (1, _), (2, _), (3, _)]) dX1_findKind_122 rfl rfl rfl ?_
          refine j_goto 3 dX1_findKind_125 (by decide) ?_
          refine j_locR (ih (k + 1) _ (by omega) ?_ hF) (by repeat' (first | exact True.intro | refine And.intro rfl ?_))
          show At _ _ _ _ _ _ (fkS cl r lc (fkK cl r lc p k) k)
          first | exact fk_t2 hP (by omega) (by omega) (by omega) | (rw [fk_f (by omega)]; exact hP)
        · refine J_iconst dX1_findKind_58 ?_
          refine j_goto 63 dX1_findKind_59 (by decide) ?_
          refine j_istore (L' := [(7, _), (6, _), (5, _), (4, _), (0, _), (1, _), (2, _), (3, _)]) dX1_findKind_63 rfl rfl ?_
          refine j_iload dX1_findKind_65 rfl ?_
          refine J_if_eq 122 dX1_findKind_67 (by decide) (fun c67 => absurd c67 (by decide)) (fun c67 => ?_) 
          refine j_iload_n 1 dX1_findKind_70 rfl rfl ?_
          refine J_iconst dX1_findKind_71 ?_
          refine j_iload_n 2 dX1_findKind_72 rfl rfl ?_
          refine J_ishl dX1_findKind_73 ?_ 
          refine J_iconst dX1_findKind_74 ?_
          refine j_iload dX1_findKind_75 rfl ?_
          refine J_ishl dX1_findKind_77 ?_ 
          refine J_ior dX1_findKind_78 ?_ 
          refine J_iconst dX1_findKind_79 ?_
          refine j_iload dX1_findKind_80 rfl ?_
          refine J_ishl dX1_findKind_82 ?_ 
          refine J_ior dX1_findKind_83 ?_ 
          change J _ _ _ _ _ _ _ _ (vI ((mk3 r (sec r k) (thi r k) : Nat) : Int) :: _) _
          refine J_icmp_ne 122 dX1_findKind_84 (by decide) (fun c84 => ?_) (fun c84 => ?_) 
          · refine J_iinc (L' := [(4, _), (7, _), (6, _), (5, _), (0, _), (1, _), (2, _), (3, _)]) dX1_findKind_122 rfl rfl rfl ?_
            refine j_goto 3 dX1_findKind_125 (by decide) ?_
            refine j_locR (ih (k + 1) _ (by omega) ?_ hF) (by repeat' (first | exact True.intro | refine And.intro rfl ?_))
            show At _ _ _ _ _ _ (fkS cl r lc (fkK cl r lc p k) k)
            first | exact fk_t2 hP (by omega) (by omega) (by omega) | (rw [fk_f (by omega)]; exact hP)
          · refine j_aload_n 0 dX1_findKind_87 rfl rfl ?_
            refine j_iload_n 2 dX1_findKind_88 rfl rfl ?_
            refine J_putA hP fX1_9 tyX1_root dX1_findKind_89 rfl rfl (fun h hP hF89 => ?_)
            have hF := hF.tr hF89
            refine j_aload_n 0 dX1_findKind_92 rfl rfl ?_
            refine j_iload dX1_findKind_93 rfl ?_
            refine J_putA hP fX1_15 tyX1_kind dX1_findKind_95 rfl rfl (fun h hP hF95 => ?_)
            have hF := hF.tr hF95
            refine j_aload_n 0 dX1_findKind_98 rfl rfl ?_
            refine j_iload_n 3 dX1_findKind_99 rfl rfl ?_
            refine j_iload_n 2 dX1_findKind_100 rfl rfl ?_
            refine J_icmp_ne 108 dX1_findKind_101 (by decide) (fun c101 => ?_) (fun c101 => ?_) 
            · refine j_iload_n 3 dX1_findKind_108 rfl rfl ?_
              refine j_iload dX1_findKind_109 rfl ?_
              refine J_icmp_ne 118 dX1_findKind_111 (by decide) (fun c111 => ?_) (fun c111 => ?_) 
              · refine J_iconst dX1_findKind_118 ?_
                refine J_putA hP fX1_18 tyX1_lowest dX1_findKind_119 rfl rfl (fun h hP hF119 => ?_)
                have hF := hF.tr hF119
                refine J_iinc (L' := [(4, _), (7, _), (6, _), (5, _), (0, _), (1, _), (2, _), (3, _)]) dX1_findKind_122 rfl rfl rfl ?_
                refine j_goto 3 dX1_findKind_125 (by decide) ?_
                refine j_locR (ih (k + 1) _ (by omega) ?_ hF) (by repeat' (first | exact True.intro | refine And.intro rfl ?_))
                show At _ _ _ _ _ _ (fkS cl r lc (fkK cl r lc p k) k)
                first | exact fk_t2 hP (by omega) (by omega) (by omega) | (rw [fk_f (by omega)]; exact hP)
              · refine J_iconst dX1_findKind_114 ?_
                refine j_goto 119 dX1_findKind_115 (by decide) ?_
                refine J_putA hP fX1_18 tyX1_lowest dX1_findKind_119 rfl rfl (fun h hP hF119 => ?_)
                have hF := hF.tr hF119
                refine J_iinc (L' := [(4, _), (7, _), (6, _), (5, _), (0, _), (1, _), (2, _), (3, _)]) dX1_findKind_122 rfl rfl rfl ?_
                refine j_goto 3 dX1_findKind_125 (by decide) ?_
                refine j_locR (ih (k + 1) _ (by omega) ?_ hF) (by repeat' (first | exact True.intro | refine And.intro rfl ?_))
                show At _ _ _ _ _ _ (fkS cl r lc (fkK cl r lc p k) k)
                first | exact fk_t2 hP (by omega) (by omega) (by omega) | (rw [fk_f (by omega)]; exact hP)
            · refine J_iconst dX1_findKind_104 ?_
              refine j_goto 119 dX1_findKind_105 (by decide) ?_
              refine J_putA hP fX1_18 tyX1_lowest dX1_findKind_119 rfl rfl (fun h hP hF119 => ?_)
              have hF := hF.tr hF119
              refine J_iinc (L' := [(4, _), (7, _), (6, _), (5, _), (0, _), (1, _), (2, _), (3, _)]) dX1_findKind_122 rfl rfl rfl ?_
              refine j_goto 3 dX1_findKind_125 (by decide) ?_
              refine j_locR (ih (k + 1) _ (by omega) ?_ hF) (by repeat' (first | exact True.intro | refine And.intro rfl ?_))
              show At _ _ _ _ _ _ (fkS cl r lc (fkK cl r lc p k) k)
              first | exact fk_t2 hP (by omega) (by omega) (by omega) | (rw [fk_f (by omega)]; exact hP)
  refine j_body (by decide +kernel) ⟨rfl, rfl⟩ rfl ?_
  refine J_iconst dX1_findKind_0 ?_
  refine j_istore (L' := [(4, _), (0, _), (1, _), (2, _), (3, _)]) dX1_findKind_1 rfl rfl ?_
  exact loop 4 0 h (by omega) hP Fr.rf
