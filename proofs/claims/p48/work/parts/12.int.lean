/-! rows over whole numbers: every int of the frame is 'Int32.ofInt z' -/
abbrev I32 (z : Int) : Int32 := Int32.ofInt z
abbrev vI (z : Int) : Value := .int (Int32.ofInt z)
abbrev vL (z : Int) : Value := .long (Int64.ofInt z)
abbrev rg (z : Int) : Prop := -2147483648 ≤ z ∧ z < 2147483648
theorem I_toInt {z : Int} (h : rg z) : (Int32.ofInt z).toInt = z := Int32.toInt_ofInt_of_le h.1 h.2
theorem I_lt {a b : Int} (ha : rg a) (hb : rg b) : Int32.ofInt a < Int32.ofInt b ↔ a < b := by rw [Int32.lt_iff_toInt_lt, I_toInt ha, I_toInt hb]
theorem I_le {a b : Int} (ha : rg a) (hb : rg b) : Int32.ofInt a ≤ Int32.ofInt b ↔ a ≤ b := by rw [Int32.le_iff_toInt_le, I_toInt ha, I_toInt hb]
theorem I_eq {a b : Int} (ha : rg a) (hb : rg b) : Int32.ofInt a = Int32.ofInt b ↔ a = b := by rw [← Int32.toInt_inj, I_toInt ha, I_toInt hb]
theorem I_clamp {z : Int} (h : rg z) : (Int32.ofInt z).toNatClampNeg = z.toNat := Int32.toNatClampNeg_ofInt_of_le h.1 h.2
theorem I_of (x : Int32) : ∃ z : Int, rg z ∧ x = Int32.ofInt z := ⟨x.toInt, ⟨by have := x.le_toInt; omega, by have := x.toInt_lt; omega⟩, (Int32.ofInt_toInt x).symm⟩
theorem I_0 : (0 : Int32) = Int32.ofInt 0 := rfl
theorem I_div {a b : Int} (ha : rg a) (hb : rg b) (h0 : b ≠ -1) : Int32.ofInt a / Int32.ofInt b = Int32.ofInt (a.tdiv b) := by
  apply Int32.toInt_inj.mp
  have hb1 : Int32.ofInt b ≠ -1 := by
    intro e
    have : (Int32.ofInt b).toInt = (-1 : Int32).toInt := by rw [e]
    rw [I_toInt hb] at this
    exact h0 this
  rw [Int32.toInt_div_of_ne_right _ _ hb1, I_toInt ha, I_toInt hb]
  symm
  apply I_toInt
  have hn : (a.tdiv b).natAbs ≤ a.natAbs := by rw [Int.natAbs_tdiv]; exact Nat.div_le_self _ _
  by_cases hm : a = -2147483648
  · by_cases hb2 : b = 0
    · subst hb2; simp [rg]
    · by_cases hb3 : b = 1
      · subst hb3; rw [Int.tdiv_one]; exact ha
      · have h2 : 2 ≤ b.natAbs := by omega
        have hn2 : (a.tdiv b).natAbs ≤ a.natAbs / 2 := by rw [Int.natAbs_tdiv]; exact Nat.div_le_div_left h2 (by decide)
        have h3 : a.natAbs / 2 ≤ 1073741824 := by rw [hm]; decide
        constructor <;> omega
  · have h1 := ha.1
    have h2 := ha.2
    constructor <;> omega
theorem I_vpin {z : Int} {n : Nat} (h : 0 ≤ z ∧ z < n) (hn : n < 2147483648) : vp_in (Int32.ofInt z) n := by
  have hr : rg z := ⟨by omega, by omega⟩
  rw [vp_in_iff, I_toInt hr]
  exact h
theorem I_long {z : Int} (h : rg z) : (Int32.ofInt z).toInt64 = Int64.ofInt z := by
  have e : Int32.minValue.toInt = -2147483648 := by decide
  have e2 : Int32.maxValue.toInt = 2147483647 := by decide
  exact Int32.toInt64_ofInt (by rw [e]; exact h.1) (by rw [e2]; have := h.2; omega)
def upI (F : Int → Int) (k x : Int) : Int → Int := fun j => if j = k then x else F j
theorem upI_s (F : Int → Int) (k x : Int) : upI F k x k = x := by simp [upI]
theorem upI_n {F : Int → Int} {k x j : Int} (h : j ≠ k) : upI F k x j = F j := by simp [upI, h]
/-- arrays by whole numbers -/
abbrev ai (G : jG) (n : Nat) (F : Int → Int) : va_E := aI G n (fun j => Int32.ofInt (F (j : Int)))
abbrev az (G : jG) (n : Nat) (F : Int → Int) : va_E := aZ G n (fun j => Int32.ofInt (F (j : Int)))
def lk (l : List Int) (z : Int) : Int := l.getD z.toNat 0
section JI
variable {l : Launch} {G : jG} {M : jM} {QF : jF} {ck sk pc : Nat} {L L' : List (Nat × Value)} {st : List Value} {h : jH}
theorem J_iadd {x y : Int} (hd : decode M.cc pc = .ok (.iadd, 1)) (k : J l G M QF ck sk (pc + 1) L (vI (x + y) :: st) h) : J l G M QF ck sk pc L (vI y :: vI x :: st) h := j_iadd hd (by rw [← Int32.ofInt_add]; exact k)
theorem J_isub {x y : Int} (hd : decode M.cc pc = .ok (.isub, 1)) (k : J l G M QF ck sk (pc + 1) L (vI (x - y) :: st) h) : J l G M QF ck sk pc L (vI y :: vI x :: st) h := j_isub hd (by rw [← Int32.ofInt_sub]; exact k)
theorem J_imul {x y : Int} (hd : decode M.cc pc = .ok (.imul, 1)) (k : J l G M QF ck sk (pc + 1) L (vI (x * y) :: st) h) : J l G M QF ck sk pc L (vI y :: vI x :: st) h := j_imul hd (by rw [← Int32.ofInt_mul]; exact k)
theorem J_ineg {x : Int} (hd : decode M.cc pc = .ok (.ineg, 1)) (k : J l G M QF ck sk (pc + 1) L (vI (-x) :: st) h) : J l G M QF ck sk pc L (vI x :: st) h := j_ineg hd (by rw [← Int32.ofInt_neg]; exact k)
theorem J_idiv {x y : Int} (hd : decode M.cc pc = .ok (.idiv, 1)) (k : J l G M QF ck sk (pc + 1) L (vI (x.tdiv y) :: st) h) (hx : rg x ∧ rg y ∧ y ≠ 0 ∧ y ≠ -1 := by omega) : J l G M QF ck sk pc L (vI y :: vI x :: st) h :=
  j_idiv hd (by rw [I_0, I_eq hx.2.1 (by decide)]; exact hx.2.2.1) (by rw [I_div hx.1 hx.2.1 hx.2.2.2]; exact k)
theorem J_irem {x y : Int} (hd : decode M.cc pc = .ok (.irem, 1)) (k : J l G M QF ck sk (pc + 1) L (vI (x.tmod y) :: st) h) (hx : rg x ∧ rg y ∧ y ≠ 0 ∧ y ≠ -1 := by omega) : J l G M QF ck sk pc L (vI y :: vI x :: st) h :=
  j_irem hd (by rw [I_0, I_eq hx.2.1 (by decide)]; exact hx.2.2.1) (by
    rw [I_div hx.1 hx.2.1 hx.2.2.2, ← Int32.ofInt_mul, ← Int32.ofInt_sub]
    have e : x - x.tdiv y * y = x.tmod y := by
      have := Int.tmod_def x y
      rw [this, Int.mul_comm]
    rw [e]; exact k)
theorem J_i2l {x : Int} (hd : decode M.cc pc = .ok (.i2l, 1)) (k : J l G M QF ck sk (pc + 1) L (vL x :: st) h) (hx : rg x := by omega) : J l G M QF ck sk pc L (vI x :: st) h := j_i2l hd (by rw [I_long hx]; exact k)
theorem J_ladd {x y : Int} (hd : decode M.cc pc = .ok (.ladd, 1)) (k : J l G M QF ck sk (pc + 1) L (vL (x + y) :: st) h) : J l G M QF ck sk pc L (vL y :: vL x :: st) h := j_ladd hd (by rw [← Int64.ofInt_add]; exact k)
theorem J_lmul {x y : Int} (hd : decode M.cc pc = .ok (.lmul, 1)) (k : J l G M QF ck sk (pc + 1) L (vL (x * y) :: st) h) : J l G M QF ck sk pc L (vL y :: vL x :: st) h := j_lmul hd (by rw [← Int64.ofInt_mul]; exact k)
theorem J_iconst {n : Int} (hd : decode M.cc pc = .ok (.iconst n, 1)) (k : J l G M QF ck sk (pc + 1) L (vI n :: st) h) : J l G M QF ck sk pc L st h := j_iconst _ hd rfl k
theorem J_bipush {n : Int} (hd : decode M.cc pc = .ok (.bipush n, 2)) (hv : (Int8.ofInt n).toInt32 = Int32.ofInt n) (k : J l G M QF ck sk (pc + 2) L (vI n :: st) h) : J l G M QF ck sk pc L st h := j_bipush _ hd hv k
theorem J_sipush {n : Int} (hd : decode M.cc pc = .ok (.sipush n, 3)) (hv : (Int16.ofInt n).toInt32 = Int32.ofInt n) (k : J l G M QF ck sk (pc + 3) L (vI n :: st) h) : J l G M QF ck sk pc L st h := j_sipush _ hd hv k
theorem J_iinc {i : Nat} {n x : Int} (hd : decode M.cc pc = .ok (.iinc i n, 3)) (hg : jget L i = some (vI x)) (hn : Nat.blt i M.nL = true) (hp : jput L i (vI (x + n)) = L') (k : J l G M QF ck sk (pc + 3) L' st h) : J l G M QF ck sk pc L st h := j_iinc _ hd hg (by rw [← Int32.ofInt_add]) hn hp k
/-- the number on the top, said otherwise -/
theorem J_top {x : Int} (y : Int) (k : J l G M QF ck sk pc L (vI y :: st) h) (e : x = y := by omega) : J l G M QF ck sk pc L (vI x :: st) h := by rw [e]; exact k
theorem J_if_eq {x : Int} {off : Int} (tgt : Nat) (hd : decode M.cc pc = .ok (.ifCond .eq off, 3)) (ht : (pc : Int) + off = (tgt : Int)) (kt : x = 0 → J l G M QF ck sk tgt L st h) (kf : ¬ x = 0 → J l G M QF ck sk (pc + 3) L st h) (hx : rg x := by omega) : J l G M QF ck sk pc L (vI x :: st) h := j_if_eq tgt hd ht (fun q => kt ((I_eq hx (by decide : rg 0)).mp q)) (fun q => kf (fun z => q ((I_eq hx (by decide : rg 0)).mpr z)))
theorem J_icmp_eq {x y : Int} {off : Int} (tgt : Nat) (hd : decode M.cc pc = .ok (.if_icmp .eq off, 3)) (ht : (pc : Int) + off = (tgt : Int)) (kt : x = y → J l G M QF ck sk tgt L st h) (kf : ¬ x = y → J l G M QF ck sk (pc + 3) L st h) (hx : rg x ∧ rg y := by omega) : J l G M QF ck sk pc L (vI y :: vI x :: st) h := j_icmp_eq tgt hd ht (fun q => kt ((I_eq hx.1 hx.2).mp q)) (fun q => kf (fun z => q ((I_eq hx.1 hx.2).mpr z)))
theorem J_if_ne {x : Int} {off : Int} (tgt : Nat) (hd : decode M.cc pc = .ok (.ifCond .ne off, 3)) (ht : (pc : Int) + off = (tgt : Int)) (kt : ¬ x = 0 → J l G M QF ck sk tgt L st h) (kf : x = 0 → J l G M QF ck sk (pc + 3) L st h) (hx : rg x := by omega) : J l G M QF ck sk pc L (vI x :: st) h := j_if_ne tgt hd ht (fun q => kt (fun z => q ((I_eq hx (by decide : rg 0)).mpr z))) (fun q => kf ((I_eq hx (by decide : rg 0)).mp q))
theorem J_icmp_ne {x y : Int} {off : Int} (tgt : Nat) (hd : decode M.cc pc = .ok (.if_icmp .ne off, 3)) (ht : (pc : Int) + off = (tgt : Int)) (kt : ¬ x = y → J l G M QF ck sk tgt L st h) (kf : x = y → J l G M QF ck sk (pc + 3) L st h) (hx : rg x ∧ rg y := by omega) : J l G M QF ck sk pc L (vI y :: vI x :: st) h := j_icmp_ne tgt hd ht (fun q => kt (fun z => q ((I_eq hx.1 hx.2).mpr z))) (fun q => kf ((I_eq hx.1 hx.2).mp q))
theorem J_if_lt {x : Int} {off : Int} (tgt : Nat) (hd : decode M.cc pc = .ok (.ifCond .lt off, 3)) (ht : (pc : Int) + off = (tgt : Int)) (kt : x < 0 → J l G M QF ck sk tgt L st h) (kf : 0 ≤ x → J l G M QF ck sk (pc + 3) L st h) (hx : rg x := by omega) : J l G M QF ck sk pc L (vI x :: st) h := j_if_lt tgt hd ht (fun q => kt ((I_lt hx (by decide : rg 0)).mp q)) (fun q => kf (Int.not_lt.mp (fun z => q ((I_lt hx (by decide : rg 0)).mpr z))))
theorem J_icmp_lt {x y : Int} {off : Int} (tgt : Nat) (hd : decode M.cc pc = .ok (.if_icmp .lt off, 3)) (ht : (pc : Int) + off = (tgt : Int)) (kt : x < y → J l G M QF ck sk tgt L st h) (kf : y ≤ x → J l G M QF ck sk (pc + 3) L st h) (hx : rg x ∧ rg y := by omega) : J l G M QF ck sk pc L (vI y :: vI x :: st) h := j_icmp_lt tgt hd ht (fun q => kt ((I_lt hx.1 hx.2).mp q)) (fun q => kf (Int.not_lt.mp (fun z => q ((I_lt hx.1 hx.2).mpr z))))
theorem J_if_ge {x : Int} {off : Int} (tgt : Nat) (hd : decode M.cc pc = .ok (.ifCond .ge off, 3)) (ht : (pc : Int) + off = (tgt : Int)) (kt : 0 ≤ x → J l G M QF ck sk tgt L st h) (kf : x < 0 → J l G M QF ck sk (pc + 3) L st h) (hx : rg x := by omega) : J l G M QF ck sk pc L (vI x :: st) h := j_if_ge tgt hd ht (fun q => kt ((I_le (by decide : rg 0) hx).mp q)) (fun q => kf (Int.not_le.mp (fun z => q ((I_le (by decide : rg 0) hx).mpr z))))
theorem J_icmp_ge {x y : Int} {off : Int} (tgt : Nat) (hd : decode M.cc pc = .ok (.if_icmp .ge off, 3)) (ht : (pc : Int) + off = (tgt : Int)) (kt : y ≤ x → J l G M QF ck sk tgt L st h) (kf : x < y → J l G M QF ck sk (pc + 3) L st h) (hx : rg x ∧ rg y := by omega) : J l G M QF ck sk pc L (vI y :: vI x :: st) h := j_icmp_ge tgt hd ht (fun q => kt ((I_le hx.2 hx.1).mp q)) (fun q => kf (Int.not_le.mp (fun z => q ((I_le hx.2 hx.1).mpr z))))
theorem J_if_gt {x : Int} {off : Int} (tgt : Nat) (hd : decode M.cc pc = .ok (.ifCond .gt off, 3)) (ht : (pc : Int) + off = (tgt : Int)) (kt : 0 < x → J l G M QF ck sk tgt L st h) (kf : x ≤ 0 → J l G M QF ck sk (pc + 3) L st h) (hx : rg x := by omega) : J l G M QF ck sk pc L (vI x :: st) h := j_if_gt tgt hd ht (fun q => kt ((I_lt (by decide : rg 0) hx).mp q)) (fun q => kf (Int.not_lt.mp (fun z => q ((I_lt (by decide : rg 0) hx).mpr z))))
theorem J_icmp_gt {x y : Int} {off : Int} (tgt : Nat) (hd : decode M.cc pc = .ok (.if_icmp .gt off, 3)) (ht : (pc : Int) + off = (tgt : Int)) (kt : y < x → J l G M QF ck sk tgt L st h) (kf : x ≤ y → J l G M QF ck sk (pc + 3) L st h) (hx : rg x ∧ rg y := by omega) : J l G M QF ck sk pc L (vI y :: vI x :: st) h := j_icmp_gt tgt hd ht (fun q => kt ((I_lt hx.2 hx.1).mp q)) (fun q => kf (Int.not_lt.mp (fun z => q ((I_lt hx.2 hx.1).mpr z))))
theorem J_if_le {x : Int} {off : Int} (tgt : Nat) (hd : decode M.cc pc = .ok (.ifCond .le off, 3)) (ht : (pc : Int) + off = (tgt : Int)) (kt : x ≤ 0 → J l G M QF ck sk tgt L st h) (kf : 0 < x → J l G M QF ck sk (pc + 3) L st h) (hx : rg x := by omega) : J l G M QF ck sk pc L (vI x :: st) h := j_if_le tgt hd ht (fun q => kt ((I_le hx (by decide : rg 0)).mp q)) (fun q => kf (Int.not_le.mp (fun z => q ((I_le hx (by decide : rg 0)).mpr z))))
theorem J_icmp_le {x y : Int} {off : Int} (tgt : Nat) (hd : decode M.cc pc = .ok (.if_icmp .le off, 3)) (ht : (pc : Int) + off = (tgt : Int)) (kt : x ≤ y → J l G M QF ck sk tgt L st h) (kf : y < x → J l G M QF ck sk (pc + 3) L st h) (hx : rg x ∧ rg y := by omega) : J l G M QF ck sk pc L (vI y :: vI x :: st) h := j_icmp_le tgt hd ht (fun q => kt ((I_le hx.1 hx.2).mp q)) (fun q => kf (Int.not_le.mp (fun z => q ((I_le hx.1 hx.2).mpr z))))
theorem J_iald {a n : Nat} {F : Int → Int} {z : Int} (hd : decode M.cc pc = .ok (.iaload, 1)) (ha : h a = some (ai G n F)) (kk : J l G M QF ck sk (pc + 1) L (vI (F z) :: st) h) (hz : 0 ≤ z ∧ z < (n : Int) ∧ n < 2147483648 := by omega) : J l G M QF ck sk pc L (vI z :: .ref a :: st) h := by
  refine j_iald hd ha (I_vpin ⟨hz.1, hz.2.1⟩ hz.2.2) ?_
  rw [I_clamp ⟨by omega, by omega⟩, Int.toNat_of_nonneg hz.1]
  exact kk
theorem J_zald {a n : Nat} {F : Int → Int} {z : Int} (hd : decode M.cc pc = .ok (.baload, 1)) (ha : h a = some (az G n F)) (kk : J l G M QF ck sk (pc + 1) L (vI (F z) :: st) h) (hz : 0 ≤ z ∧ z < (n : Int) ∧ n < 2147483648 := by omega) : J l G M QF ck sk pc L (vI z :: .ref a :: st) h := by
  refine j_zald hd ha (I_vpin ⟨hz.1, hz.2.1⟩ hz.2.2) ?_
  rw [I_clamp ⟨by omega, by omega⟩, Int.toNat_of_nonneg hz.1]
  exact kk
theorem upd_I (F : Int → Int) {z x : Int} (hz : 0 ≤ z) : upd (fun j : Nat => Int32.ofInt (F (j : Int))) z.toNat (Int32.ofInt x) = fun j : Nat => Int32.ofInt (upI F z x (j : Int)) := by
  funext j
  by_cases e : j = z.toNat
  · subst e
    have e1 : ((z.toNat : Nat) : Int) = z := Int.toNat_of_nonneg hz
    simp [upd, upI, e1]
  · have e1 : ¬ ((j : Int) = z) := by omega
    simp [upd, upI, e, e1]
theorem J_iast {a n : Nat} {F : Int → Int} {z x : Int} (hd : decode M.cc pc = .ok (.iastore, 1)) (ha : h a = some (ai G n F)) (kk : J l G M QF ck sk (pc + 1) L st (hset h a (ai G n (upI F z x)))) (hz : 0 ≤ z ∧ z < (n : Int) ∧ n < 2147483648 := by omega) : J l G M QF ck sk pc L (vI x :: vI z :: .ref a :: st) h := by
  refine j_iast hd ha (I_vpin ⟨hz.1, hz.2.1⟩ hz.2.2) ?_
  rw [I_clamp ⟨by omega, by omega⟩, upd_I F hz.1]
  exact kk
theorem J_zast {a n : Nat} {F : Int → Int} {z x : Int} (hd : decode M.cc pc = .ok (.bastore, 1)) (ha : h a = some (az G n F)) (kk : J l G M QF ck sk (pc + 1) L st (hset h a (az G n (upI F z x)))) (hx : x = 0 ∨ x = 1 := by omega) (hz : 0 ≤ z ∧ z < (n : Int) ∧ n < 2147483648 := by omega) : J l G M QF ck sk pc L (vI x :: vI z :: .ref a :: st) h := by
  refine j_zast hd ha (I_vpin ⟨hz.1, hz.2.1⟩ hz.2.2) ?_
  have e : vp_nar .boolean (Int32.ofInt x) = Int32.ofInt x := by rcases hx with e | e <;> subst e <;> rfl
  rw [I_clamp ⟨by omega, by omega⟩, e, upd_I F hz.1]
  exact kk
theorem jIs_I (l : List Int) (z : Int) : jIs (l.map Int32.ofInt) z.toNat = Int32.ofInt (lk l z) := by
  unfold jIs lk
  by_cases h : z.toNat < l.length
  · simp [List.getD, h]
  · simp [List.getD, Nat.le_of_not_lt h]
theorem J_siald (k : Nat) {C n : String} {N : Nat} {f : List Int32} {z : Int} (l0 : List Int) (hst : jSt[k]? = some (C, n, N, f)) (hf : f = l0.map Int32.ofInt) (hd : decode M.cc pc = .ok (.iaload, 1)) (kk : J l G M QF ck sk (pc + 1) L (vI (lk l0 z) :: st) h) (hz : 0 ≤ z ∧ z < (N : Int) ∧ N < 2147483648 := by omega) : J l G M QF ck sk pc L (vI z :: .ref (jSa G k) :: st) h := by
  refine j_siald k hst (I_vpin ⟨hz.1, hz.2.1⟩ hz.2.2) hd ?_
  rw [I_clamp ⟨by omega, by omega⟩, hf, jIs_I]
  exact kk
theorem J_alen {a n : Nat} {F : Int → Int} (hd : decode M.cc pc = .ok (.arraylength, 1)) (ha : h a = some (ai G n F)) (kk : J l G M QF ck sk (pc + 1) L (vI n :: st) h) : J l G M QF ck sk pc L (.ref a :: st) h := j_alen 0 _ hd ha rfl (Int32.ofInt_eq_ofNat).symm kk
theorem J_alenq {a n : Nat} {F : Nat → Option Nat} (t : Nat) {ty : FieldType} (hd : decode M.cc pc = .ok (.arraylength, 1)) (ha : h a = some (aR G t n F)) (ht : (jT G)[t]? = some (G.2.1 t, ty)) (kk : J l G M QF ck sk (pc + 1) L (vI n :: st) h) : J l G M QF ck sk pc L (.ref a :: st) h := j_alen t _ hd ha ht (Int32.ofInt_eq_ofNat).symm kk
theorem J_qald {a n v : Nat} {F : Nat → Option Nat} {z : Int} (hd : decode M.cc pc = .ok (.aaload, 1)) (ha : h a = some (aR G 3 n F)) (hv : F z.toNat = some v) (kk : J l G M QF ck sk (pc + 1) L (.ref v :: st) h) (hz : 0 ≤ z ∧ z < (n : Int) ∧ n < 2147483648 := by omega) : J l G M QF ck sk pc L (vI z :: .ref a :: st) h := by
  refine j_qaldP hd ha (I_vpin ⟨hz.1, hz.2.1⟩ hz.2.2) ?_
  rw [I_clamp ⟨by omega, by omega⟩, hv]
  exact kk
theorem J_mmax {idx : Nat} {x y : Int} (hw : Cond.methodLink M.own idx Lib.Math.max.name ∈ WT ∧ Cond.static Lib.Math.max.name ∈ WT ∧ Cond.initialized "java/lang/Math" ∈ WT ∧ Cond.code Lib.Math.max.name Lib.Math.max.code 2 (some .int) ∈ WT) (hfr : Nat.ble 1 M.room.frames = true) (hlo : Nat.ble ((st.map fun v => v.category).sum + 13) M.room.locals = true)
    (hd : decode M.cc pc = .ok (.invokestatic idx, 3)) (kk : J l G M QF ck sk (pc + 3) L (vI (max x y) :: st) h) (hx : rg x ∧ rg y := by omega) : J l G M QF ck sk pc L (vI y :: vI x :: st) h := by
  refine j_mmax hw hfr hlo hd ?_
  have e : (if Int32.ofInt x < Int32.ofInt y then Int32.ofInt y else Int32.ofInt x) = Int32.ofInt (max x y) := by
    by_cases c : x < y
    · rw [if_pos ((I_lt hx.1 hx.2).mpr c), Int.max_eq_right (by omega)]
    · rw [if_neg (fun z => c ((I_lt hx.1 hx.2).mp z)), Int.max_eq_left (by omega)]
  rw [e]; exact kk
theorem J_mmin {idx : Nat} {x y : Int} (hw : Cond.methodLink M.own idx Lib.Math.min.name ∈ WT ∧ Cond.static Lib.Math.min.name ∈ WT ∧ Cond.initialized "java/lang/Math" ∈ WT ∧ Cond.code Lib.Math.min.name Lib.Math.min.code 2 (some .int) ∈ WT) (hfr : Nat.ble 1 M.room.frames = true) (hlo : Nat.ble ((st.map fun v => v.category).sum + 13) M.room.locals = true)
    (hd : decode M.cc pc = .ok (.invokestatic idx, 3)) (kk : J l G M QF ck sk (pc + 3) L (vI (min x y) :: st) h) (hx : rg x ∧ rg y := by omega) : J l G M QF ck sk pc L (vI y :: vI x :: st) h := by
  refine j_mmin hw hfr hlo hd ?_
  have e : (if Int32.ofInt y < Int32.ofInt x then Int32.ofInt y else Int32.ofInt x) = Int32.ofInt (min x y) := by
    by_cases c : y < x
    · rw [if_pos ((I_lt hx.2 hx.1).mpr c), Int.min_eq_right (by omega)]
    · rw [if_neg (fun z => c ((I_lt hx.2 hx.1).mp z)), Int.min_eq_left (by omega)]
  rw [e]; exact kk
theorem J_mabs {idx : Nat} {x : Int} (hw : Cond.methodLink M.own idx Lib.Math.abs.name ∈ WT ∧ Cond.static Lib.Math.abs.name ∈ WT ∧ Cond.initialized "java/lang/Math" ∈ WT ∧ Cond.code Lib.Math.abs.name Lib.Math.abs.code 1 (some .int) ∈ WT) (hfr : Nat.ble 1 M.room.frames = true) (hlo : Nat.ble ((st.map fun v => v.category).sum + 13) M.room.locals = true)
    (hd : decode M.cc pc = .ok (.invokestatic idx, 3)) (kk : J l G M QF ck sk (pc + 3) L (vI (x.natAbs : Int) :: st) h) (hx : rg x := by omega) : J l G M QF ck sk pc L (vI x :: st) h := by
  refine j_mabs hw hfr hlo hd ?_
  have e : (if 0 ≤ Int32.ofInt x then Int32.ofInt x else 0 - Int32.ofInt x) = Int32.ofInt (x.natAbs : Int) := by
    by_cases c : 0 ≤ x
    · rw [I_0, if_pos ((I_le (by decide) hx).mpr c)]
      congr 1; omega
    · rw [I_0, if_neg (fun z => c ((I_le (by decide) hx).mp z)), ← Int32.ofInt_sub]
      congr 1; omega
  rw [e]; exact kk
end JI
/-- a contract that says the result outright -/
abbrev jE (r : jO) (h0 : jH) : jO → jH → Prop := fun r' h' => r' = r ∧ h' = h0
abbrev oI (z : Int) : jO := .inl (some (vI z))
abbrev oN : jO := .inl none
abbrev oR (a : Nat) : jO := .inl (some (.ref a))
abbrev bI (c : Prop) [Decidable c] : Int := if c then 1 else 0
section JV
variable {l : Launch} {G : jG} {M M' : jM} {QF : jF} {ck sk pc : Nat} {L L' : List (Nat × Value)} {st rest : List Value} {h h1 : jH} {v : Option Value}
/-- a call that returns v and leaves h1 -/
theorem J_callV {y : MethodName} {As : List Value} {a ci n idx : Nat} {fs : List Value} {T : u_T} {N : Nat} (V : jLk M.own idx y M' n) (V2 : Cond.instanceMethod y ∈ WT ∧ Cond.selects y.cls y y ∈ WT ∧ vwCl[ci]? = some (y.cls, T, N)) (ha : h a = some (.inr (ci, fs)))
    (C : jC l G y M' (.ref a :: As) h (jE (.inl v) h1)) (hh : M'.hh = []) (hst : st = As.reverse ++ .ref a :: rest) (hn : As.length = n) (hrm : jRm M M' = true) (hrest : Nat.ble (rest.map fun v => v.category).sum 8 = true) (hd : decode M.cc pc = .ok (.invokevirtual idx, 3))
    (hck : M'.room.cells = 0) (hsk : M'.room.slots = 0) (kk : J l G M QF ck sk (pc + 3) L (v.toList ++ rest) h1) : J l G M QF ck sk pc L st h :=
  j_callV (ck' := ck) (sk' := sk) V V2 ha C hh hst hn hrm hrest hd (by omega) (by omega) (fun v' h' hp => by obtain ⟨e1, e2⟩ := hp; cases e1; subst e2; exact kk) (fun E h' hp => by cases hp.1)
theorem J_callS {y : MethodName} {As : List Value} {n idx : Nat} (V : jLk M.own idx y M' n) (V2 : Cond.static y ∈ WT)
    (C : jC l G y M' As h (jE (.inl v) h1)) (hh : M'.hh = []) (hst : st = As.reverse ++ rest) (hn : As.length = n) (hrm : jRm M M' = true) (hrest : Nat.ble (rest.map fun v => v.category).sum 8 = true) (hd : decode M.cc pc = .ok (.invokestatic idx, 3))
    (hck : M'.room.cells = 0) (hsk : M'.room.slots = 0) (kk : J l G M QF ck sk (pc + 3) L (v.toList ++ rest) h1) : J l G M QF ck sk pc L st h :=
  j_callS (ck' := ck) (sk' := sk) V V2 C hh hst hn hrm hrest hd (by omega) (by omega) (fun v' h' hp => by obtain ⟨e1, e2⟩ := hp; cases e1; subst e2; exact kk) (fun E h' hp => by cases hp.1)
theorem J_callSN {y : MethodName} {host : String} {As : List Value} {n idx : Nat} (V : jLkN M.own idx y host M' n) (V2 : Cond.static y ∈ WT)
    (C : jC l G y M' As h (jE (.inl v) h1)) (hh : M'.hh = []) (hst : st = As.reverse ++ rest) (hn : As.length = n) (hrm : jRm M M' = true) (hrest : Nat.ble (rest.map fun v => v.category).sum 8 = true) (hd : decode M.cc pc = .ok (.invokestatic idx, 3))
    (hck : M'.room.cells = 0) (hsk : M'.room.slots = 0) (kk : J l G M QF ck sk (pc + 3) L (v.toList ++ rest) h1) : J l G M QF ck sk pc L st h :=
  j_callSN (ck' := ck) (sk' := sk) V V2 C (fun E h' hp => by cases hp.1) hh hst hn hrm hrest hd (by omega) (by omega) (fun v' h' hp => by obtain ⟨e1, e2⟩ := hp; cases e1; subst e2; exact kk)
end JV
