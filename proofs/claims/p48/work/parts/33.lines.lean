/-! ChoraleDesk.LineBreaks: 0 widths, 1 costs, 2 nextLines, 3 lineNumbers; 4 lineCount -/
abbrev oX4 : oO := fun q p => (4, [.ref (q 0), .ref (q 1), .ref (q 2), .ref (q 3), vI (p.1 4)])
def caX4 (G : jG) : oC := fun k F => match k with
  | 1 => ai G 25 F
  | _ => ai G 24 F
abbrev AX4 : Nat → Bool := fun k => Nat.blt k 4
abbrev AtX4 (G : jG) (h : jH) (a : Nat) (q : Nat → Nat) (p : OS) : Prop := At oX4 (caX4 G) AX4 h a q p
theorem upI_upI (F : Int → Int) (k x y : Int) : upI (upI F k x) k y = upI F k y := by
  funext j
  unfold upI
  split <;> rfl
theorem upI_A {o : oO} {ca : oC} {A : Nat → Bool} {h : jH} {a : Nat} {q : Nat → Nat} {p : OS} {k : Nat} {F : Int → Int} {i x y : Int} (hP : At o ca A h a q (oA (oA p k (upI F i x)) k (upI (upI F i x) i y))) : At o ca A h a q (oA p k (upI F i y)) := by rw [oA_oA, upI_upI] at hP; exact hP
def gapW (t : Int) : Int := 2 + (t.toNat.log2 : Int)
theorem I_amt31 (x : Fin 31) : ((Int32.ofInt (x.val : Int) &&& 31).toBitVec.smod 32).toNat = x.val := by revert x; decide
theorem J_shr {l : Launch} {G : jG} {M : jM} {QF : jF} {ck sk pc : Nat} {L : List (Nat × Value)} {st : List Value} {h : jH} {x m : Nat} (hd : decode M.cc pc = .ok (.ishr, 1)) (hx : x < 31) (hm : m < 2147483648) (k : J l G M QF ck sk (pc + 1) L (vI ((m / 2 ^ x : Nat) : Int) :: st) h) : J l G M QF ck sk pc L (vI (x : Int) :: vI (m : Int) :: st) h := by
  refine j_ishr hd ?_
  have h1 : Int32.ofInt (m : Int) >>> (Int32.ofInt (x : Int) &&& 31) = Int32.ofInt ((m / 2 ^ x : Nat) : Int) := by
    rw [Int32.ofInt_eq_ofNat (n := m), Int32.ofInt_eq_ofNat (n := m / 2 ^ x)]
    exact pk_shrN (n := m) (by omega) _ x (I_amt31 ⟨x, hx⟩)
  rw [h1]
  exact k
set_option maxRecDepth 100000 in
theorem c_X4_size {l : Launch} {G : jG} {h : jH} {a : Nat} {q : Nat → Nat} {p : OS} (hP : AtX4 G h a q p) : jC l G yX4_size mX4_size [.ref a] h (jE (oI (p.1 4)) h) := by
  refine j_body (by decide +kernel) ⟨rfl, rfl⟩ rfl ?_
  refine j_aload_n 0 dX4_size_0 rfl rfl ?_
  refine j_get fX4_24 dX4_size_1 hP.1 rfl ?_
  refine j_iret rfl dX4_size_4 ⟨oIe ?_, rfl⟩
  (first | omega | (simp only [bI]; (repeat' split) <;> omega))
set_option maxRecDepth 100000 in
theorem c_X4_leastCost {l : Launch} {G : jG} {h : jH} {a : Nat} {q : Nat → Nat} {p : OS} (hP : AtX4 G h a q p) : jC l G yX4_leastCost mX4_leastCost [.ref a] h (jE (oI (p.2 1 0)) h) := by
  refine j_body (by decide +kernel) ⟨rfl, rfl⟩ rfl ?_
  refine j_aload_n 0 dX4_leastCost_0 rfl rfl ?_
  refine j_get fX4_15 dX4_leastCost_1 hP.1 rfl ?_
  refine J_iconst dX4_leastCost_4 ?_
  refine J_iald dX4_leastCost_5 (hP.2.1 1 rfl) ?_ 
  refine j_iret rfl dX4_leastCost_6 ⟨oIe ?_, rfl⟩
  (first | omega | (simp only [bI]; (repeat' split) <;> omega))
set_option maxRecDepth 100000 in
theorem c_X4_widthAt {l : Launch} {G : jG} {h : jH} {a : Nat} {q : Nat → Nat} {p : OS}{b : Int} (hP : AtX4 G h a q p) (hb : rg b) : jC l G yX4_widthAt mX4_widthAt [.ref a, vI b] h (jE (oI (if isBar b then p.2 0 b else 0)) h) := by
  refine j_body (by decide +kernel) ⟨rfl, rfl⟩ rfl ?_
  refine j_iload_n 1 dX4_widthAt_0 rfl rfl ?_
  refine J_if_lt 19 dX4_widthAt_1 (by decide) (fun c1 => ?_) (fun c1 => ?_) 
  · refine J_iconst dX4_widthAt_19 ?_
    refine j_iret rfl dX4_widthAt_20 ⟨oIe ?_, rfl⟩
    (first | omega | (simp only [bI]; (repeat' split) <;> omega))
  · refine j_iload_n 1 dX4_widthAt_4 rfl rfl ?_
    refine J_bipush dX4_widthAt_5 (by decide) ?_
    refine J_icmp_ge 19 dX4_widthAt_7 (by decide) (fun c7 => ?_) (fun c7 => ?_) 
    · refine J_iconst dX4_widthAt_19 ?_
      refine j_iret rfl dX4_widthAt_20 ⟨oIe ?_, rfl⟩
      (first | omega | (simp only [bI]; (repeat' split) <;> omega))
    · refine j_aload_n 0 dX4_widthAt_10 rfl rfl ?_
      refine j_get fX4_9 dX4_widthAt_11 hP.1 rfl ?_
      refine j_iload_n 1 dX4_widthAt_14 rfl rfl ?_
      refine J_iald dX4_widthAt_15 (hP.2.1 0 rfl) ?_ 
      refine j_goto 20 dX4_widthAt_16 (by decide) ?_
      refine j_iret rfl dX4_widthAt_20 ⟨oIe ?_, rfl⟩
      (first | omega | (simp only [bI]; (repeat' split) <;> omega))
set_option maxRecDepth 100000 in
theorem c_X4_lineAt {l : Launch} {G : jG} {h : jH} {a : Nat} {q : Nat → Nat} {p : OS}{b : Int} (hP : AtX4 G h a q p) (hb : rg b) : jC l G yX4_lineAt mX4_lineAt [.ref a, vI b] h (jE (oI (if isBar b then p.2 3 b else -1)) h) := by
  refine j_body (by decide +kernel) ⟨rfl, rfl⟩ rfl ?_
  refine j_iload_n 1 dX4_lineAt_0 rfl rfl ?_
  refine J_if_lt 19 dX4_lineAt_1 (by decide) (fun c1 => ?_) (fun c1 => ?_) 
  · refine J_iconst dX4_lineAt_19 ?_
    refine j_iret rfl dX4_lineAt_20 ⟨oIe ?_, rfl⟩
    (first | omega | (simp only [bI]; (repeat' split) <;> omega))
  · refine j_iload_n 1 dX4_lineAt_4 rfl rfl ?_
    refine J_bipush dX4_lineAt_5 (by decide) ?_
    refine J_icmp_ge 19 dX4_lineAt_7 (by decide) (fun c7 => ?_) (fun c7 => ?_) 
    · refine J_iconst dX4_lineAt_19 ?_
      refine j_iret rfl dX4_lineAt_20 ⟨oIe ?_, rfl⟩
      (first | omega | (simp only [bI]; (repeat' split) <;> omega))
    · refine j_aload_n 0 dX4_lineAt_10 rfl rfl ?_
      refine j_get fX4_21 dX4_lineAt_11 hP.1 rfl ?_
      refine j_iload_n 1 dX4_lineAt_14 rfl rfl ?_
      refine J_iald dX4_lineAt_15 (hP.2.1 3 rfl) ?_ 
      refine j_goto 20 dX4_lineAt_16 (by decide) ?_
      refine j_iret rfl dX4_lineAt_20 ⟨oIe ?_, rfl⟩
      (first | omega | (simp only [bI]; (repeat' split) <;> omega))
set_option maxRecDepth 100000 in
theorem c_X4_widthOfGap {l : Launch} {G : jG} {h : jH} {t : Int} (ht : 1 ≤ t ∧ t ≤ 100000) : jC l G yX4_widthOfGap mX4_widthOfGap [vI t] h (jE (oI (gapW t)) h) := by
  obtain ⟨m, rfl⟩ : ∃ m : Nat, t = (m : Int) := ⟨t.toNat, by omega⟩
  have loop : ∀ (n j : Nat), j + n = 30 → 2 ^ j ≤ m → J l G mX4_widthOfGap (jQ G mX4_widthOfGap (jE (oI (gapW (m : Int))) h)) 0 0 4 [(2, vI ((j : Int) + 1)), (1, vI (j : Int)), (0, vI (m : Int))] [] h := by
    intro n
    induction n with
    | zero =>
      intro j hj h2
      exfalso
      obtain rfl : j = 30 := by omega
      have : 2 ^ 30 = 1073741824 := by decide
      omega
    | succ n ih =>
      intro j hj h2
      have hm0 : m ≠ 0 := by omega
      have e1 : ((j : Int) + 1) = ((j + 1 : Nat) : Int) := rfl
      refine j_iload_n 2 dX4_widthOfGap_4 rfl rfl ?_
      refine J_bipush dX4_widthOfGap_5 (by decide) ?_
      refine J_icmp_ge 24 dX4_widthOfGap_7 (by decide) (fun c7 => absurd c7 (by omega)) (fun c7 => ?_) 
      refine j_iload_n 0 dX4_widthOfGap_10 rfl rfl ?_
      refine j_iload_n 2 dX4_widthOfGap_11 rfl rfl ?_
      rw [e1]
      refine J_shr dX4_widthOfGap_12 (by omega) (by omega) ?_
      have hdl := Nat.div_le_self m (2 ^ (j + 1))
      obtain ⟨d, hd⟩ : ∃ d : Nat, d = m / 2 ^ (j + 1) := ⟨_, rfl⟩
      rw [← hd] at hdl ⊢
      refine J_if_le 24 dX4_widthOfGap_13 (by decide) (fun c13 => ?_) (fun c13 => ?_) (by omega)
      · refine J_iconst dX4_widthOfGap_24 ?_
        refine j_iload_n 1 dX4_widthOfGap_25 rfl rfl ?_
        refine J_iadd dX4_widthOfGap_26 ?_
        refine j_iret rfl dX4_widthOfGap_27 ⟨oIe ?_, rfl⟩
        (show 2 + (j : Int) = 2 + (((m : Int).toNat.log2 : Nat) : Int); rw [Int.toNat_natCast, (Nat.log2_eq_iff hm0).2 ⟨h2, by have := Nat.lt_of_div_eq_zero (Nat.two_pow_pos (j + 1)) (by rw [← hd]; omega); omega⟩])
      · refine j_iload_n 2 dX4_widthOfGap_16 rfl rfl ?_
        refine j_istore_n 1 (L' := [(1, _), (2, _), (0, _)]) dX4_widthOfGap_17 rfl rfl rfl ?_
        refine J_iinc (L' := [(2, _), (1, _), (0, _)]) dX4_widthOfGap_18 rfl rfl rfl ?_
        refine j_goto 4 dX4_widthOfGap_21 (by decide) ?_
        exact ih (j + 1) (by omega) (by have := Nat.le_div_iff_mul_le (Nat.two_pow_pos (j + 1)) (x := 1) (y := m); rw [← hd] at this; omega)
  refine j_body (by decide +kernel) ⟨rfl, rfl⟩ rfl ?_
  refine J_iconst dX4_widthOfGap_0 ?_
  refine j_istore_n 1 (L' := [(1, _), (0, _)]) dX4_widthOfGap_1 rfl rfl rfl ?_
  refine J_iconst dX4_widthOfGap_2 ?_
  refine j_istore_n 2 (L' := [(2, _), (1, _), (0, _)]) dX4_widthOfGap_3 rfl rfl rfl ?_
  exact loop 30 0 (by omega) (by omega)
