/-! static leaves: Math.floorDiv, floorMod, Integer.compare, the scale, the values -/
theorem bv_msb (x : Int32) : x < 0 ↔ x.toBitVec.msb = true := by
  rw [Int32.lt_iff_toInt_lt]
  have e : (0 : Int32).toInt = 0 := rfl
  rw [e]
  show x.toBitVec.toInt < 0 ↔ _
  rw [BitVec.msb_eq_toInt]
  simp
theorem xor_neg {x y : Int} (hx : rg x) (hy : rg y) (h0 : 0 ≤ y) : (Int32.ofInt x ^^^ Int32.ofInt y) < 0 ↔ x < 0 := by
  have h1 : Int32.ofInt x < 0 ↔ x < 0 := by rw [I_0]; exact I_lt hx (by decide)
  have h2 : ¬ Int32.ofInt y < 0 := by rw [I_0, I_lt hy (by decide)]; omega
  rw [← h1]
  rw [bv_msb] at h2 ⊢
  rw [bv_msb, Int32.toBitVec_xor, BitVec.msb_xor]
  cases hm : (Int32.ofInt y).toBitVec.msb with
  | true => exact absurd hm h2
  | false => simp
section SX
variable {l : Launch} {G : jG} {M : jM} {QF : jF} {ck sk pc : Nat} {L : List (Nat × Value)} {st : List Value} {h : jH}
theorem j_ixor {x y : Int32} (hd : decode M.cc pc = .ok (.ixor, 1)) (k : J l G M QF ck sk (pc + 1) L (.int (x ^^^ y) :: st) h) : J l G M QF ck sk pc L (.int y :: .int x :: st) h := by
  intro p e s m args below meth c H locs cells slots ls S hR hS hl hc hs
  exact lv_ixor S.1 S.2.1 hd (k p e s m args below meth c H locs cells slots ls S hR hS hl hc hs)
/-- a xor, of which only the sign is asked -/
theorem J_ixorS {x y : Int} (hd : decode M.cc pc = .ok (.ixor, 1)) (k : ∀ z : Int, rg z → (z < 0 ↔ x < 0) → J l G M QF ck sk (pc + 1) L (vI z :: st) h) (hx : rg x ∧ rg y ∧ 0 ≤ y := by omega) : J l G M QF ck sk pc L (vI y :: vI x :: st) h := by
  refine j_ixor hd ?_
  obtain ⟨z, hz, e⟩ := I_of (Int32.ofInt x ^^^ Int32.ofInt y)
  rw [e]
  refine k z hz ?_
  rw [← xor_neg hx.1 hx.2.1 hx.2.2, e, I_0, I_lt hz (by decide)]
end SX
theorem tdiv_pos_rg {x y : Int} (hx : rg x) (hy : 0 < y) : rg (x.tdiv y) := by
  have hn : (x.tdiv y).natAbs ≤ x.natAbs := by rw [Int.natAbs_tdiv]; exact Nat.div_le_self _ _
  have h1 := hx.1
  have h2 := hx.2
  by_cases h0 : 0 ≤ x
  · have := Int.tdiv_nonneg h0 (Int.le_of_lt hy)
    constructor <;> omega
  · constructor
    · omega
    · have : x.tdiv y ≤ 0 := by
        have := Int.tdiv_nonneg (a := -x) (by omega) (Int.le_of_lt hy)
        rw [Int.neg_tdiv] at this
        omega
      omega
theorem tdm_rg {x y : Int} (hx : rg x) : rg (x.tdiv y * y) := by
  have hn : (x.tdiv y * y).natAbs ≤ x.natAbs := by rw [Int.natAbs_mul, Int.natAbs_tdiv]; exact Nat.div_mul_le_self _ _
  have h1 := hx.1
  have h2 := hx.2
  have h3 : x = -2147483648 → x.tdiv y * y ≠ 2147483648 := by
    intro e e2
    by_cases hy : 0 < y
    · have h7 : x.tdiv y ≤ 0 := by
        have := Int.tdiv_nonneg (a := -x) (b := y) (by omega) (by omega)
        rw [Int.neg_tdiv] at this
        omega
      have := Int.mul_nonneg (a := -(x.tdiv y)) (b := y) (by omega) (by omega)
      rw [Int.neg_mul] at this
      omega
    · have h7 : 0 ≤ x.tdiv y := by
        have := Int.tdiv_nonneg (a := -x) (b := -y) (by omega) (by omega)
        rw [Int.neg_tdiv_neg] at this
        exact this
      have := Int.mul_nonneg (a := x.tdiv y) (b := -y) h7 (by omega)
      rw [Int.mul_neg] at this
      omega
  constructor <;> omega
theorem tmod_pos_rg {x y : Int} (hy : 0 < y) (hy2 : rg y) : rg (x.tmod y) := by
  have h1 := Int.lt_tmod_of_pos x hy
  have h2 := Int.tmod_lt_of_pos x hy
  have := hy2.2
  constructor <;> omega
theorem fdiv_1 {x y : Int} (hy : 0 < y) (c : x < 0) (c2 : ¬ x.tdiv y * y = x) : x.tdiv y - 1 = x / y := by
  rw [Int.tdiv_eq_ediv] at *
  split at * <;> rename_i hh
  · rcases hh with hh | hh
    · omega
    · exfalso; apply c2; rw [Int.add_zero]; exact Int.ediv_mul_cancel hh
  · rw [Int.sign_eq_one_of_pos hy]; omega
theorem fdiv_2 {x y : Int} (hy : 0 < y) (c : 0 ≤ x ∨ x.tdiv y * y = x) : x.tdiv y = x / y := by
  rw [Int.tdiv_eq_ediv]
  split <;> rename_i hh
  · omega
  · exfalso
    apply hh
    rcases c with c | c
    · exact Or.inl c
    · exact Or.inr ⟨x.tdiv y, by rw [Int.mul_comm]; exact c.symm⟩
theorem fmod_1 {x y : Int} (hy : 0 < y) (c : x < 0) (c2 : ¬ x.tmod y = 0) : x.tmod y + y = x % y := by
  have e := Int.tmod_eq_emod (a := x) (b := y)
  by_cases hh : 0 ≤ x ∨ y ∣ x
  · rw [if_pos hh] at e
    rcases hh with hh | hh
    · omega
    · exfalso; apply c2; rw [e, Int.emod_eq_zero_of_dvd hh]; rfl
  · rw [if_neg hh] at e
    have : (y.natAbs : Int) = y := by omega
    omega
theorem fmod_2 {x y : Int} (hy : 0 < y) (c : 0 ≤ x ∨ x.tmod y = 0) : x.tmod y = x % y := by
  have e := Int.tmod_eq_emod (a := x) (b := y)
  by_cases hh : 0 ≤ x ∨ y ∣ x
  · rw [if_pos hh] at e
    omega
  · rw [if_neg hh] at e
    rcases c with c | c
    · exact absurd (Or.inl c) hh
    · exfalso
      have h1 := Int.emod_lt_of_pos x hy
      have : (y.natAbs : Int) = y := by omega
      omega
set_option maxRecDepth 100000 in
theorem c_J9_floorDiv_7cf53 {l : Launch} {G : jG} {h : jH} {x y : Int} (hx : rg x) (hy : rg y) (h0 : 0 < y) : jC l G yJ9_floorDiv_7cf53 mJ9_floorDiv_7cf53 [vI x, vI y] h (jE (oI (x / y)) h) := by
  refine j_bodyF (by decide +kernel) ⟨rfl, rfl⟩ rfl ?_
  have hdr := tdiv_pos_rg hx h0
  have hdm := tdm_rg (y := y) hx
  have hmr := tmod_pos_rg (x := x) h0 hy
  refine j_iload_n 0 dJ9_floorDiv_7cf53_0 rfl rfl ?_
  refine j_iload_n 1 dJ9_floorDiv_7cf53_1 rfl rfl ?_
  refine J_idiv dJ9_floorDiv_7cf53_2 ?_
  refine j_istore_n 2 (L' := [(2, _), (0, _), (1, _)]) dJ9_floorDiv_7cf53_3 rfl rfl rfl ?_
  refine j_iload_n 0 dJ9_floorDiv_7cf53_4 rfl rfl ?_
  refine j_iload_n 1 dJ9_floorDiv_7cf53_5 rfl rfl ?_
  refine J_ixorS dJ9_floorDiv_7cf53_6 (fun z hz hs => ?_)
  refine J_if_ge 21 dJ9_floorDiv_7cf53_7 (by decide) (fun c7 => ?_) (fun c7 => ?_) 
  · refine j_iload_n 2 dJ9_floorDiv_7cf53_21 rfl rfl ?_
    refine j_iret rfl dJ9_floorDiv_7cf53_22 ⟨oIe ?_, rfl⟩
    first | exact fdiv_2 h0 (Or.inl (by omega)) | exact fdiv_2 h0 (Or.inr c14)
  · refine j_iload_n 2 dJ9_floorDiv_7cf53_10 rfl rfl ?_
    refine j_iload_n 1 dJ9_floorDiv_7cf53_11 rfl rfl ?_
    refine J_imul dJ9_floorDiv_7cf53_12 ?_
    refine j_iload_n 0 dJ9_floorDiv_7cf53_13 rfl rfl ?_
    refine J_icmp_eq 21 dJ9_floorDiv_7cf53_14 (by decide) (fun c14 => ?_) (fun c14 => ?_) 
    · refine j_iload_n 2 dJ9_floorDiv_7cf53_21 rfl rfl ?_
      refine j_iret rfl dJ9_floorDiv_7cf53_22 ⟨oIe ?_, rfl⟩
      first | exact fdiv_2 h0 (Or.inl (by omega)) | exact fdiv_2 h0 (Or.inr c14)
    · refine j_iload_n 2 dJ9_floorDiv_7cf53_17 rfl rfl ?_
      refine J_iconst dJ9_floorDiv_7cf53_18 ?_
      refine J_isub dJ9_floorDiv_7cf53_19 ?_
      refine j_iret rfl dJ9_floorDiv_7cf53_20 ⟨oIe ?_, rfl⟩
      exact fdiv_1 h0 (hs.mp c7) c14
set_option maxRecDepth 100000 in
theorem c_J9_floorMod_7cf53 {l : Launch} {G : jG} {h : jH} {x y : Int} (hx : rg x) (hy : rg y) (h0 : 0 < y) : jC l G yJ9_floorMod_7cf53 mJ9_floorMod_7cf53 [vI x, vI y] h (jE (oI (x % y)) h) := by
  refine j_bodyF (by decide +kernel) ⟨rfl, rfl⟩ rfl ?_
  have hdr := tdiv_pos_rg hx h0
  have hdm := tdm_rg (y := y) hx
  have hmr := tmod_pos_rg (x := x) h0 hy
  refine j_iload_n 0 dJ9_floorMod_7cf53_0 rfl rfl ?_
  refine j_iload_n 1 dJ9_floorMod_7cf53_1 rfl rfl ?_
  refine J_irem dJ9_floorMod_7cf53_2 ?_
  refine j_istore_n 2 (L' := [(2, _), (0, _), (1, _)]) dJ9_floorMod_7cf53_3 rfl rfl rfl ?_
  refine j_iload_n 0 dJ9_floorMod_7cf53_4 rfl rfl ?_
  refine j_iload_n 1 dJ9_floorMod_7cf53_5 rfl rfl ?_
  refine J_ixorS dJ9_floorMod_7cf53_6 (fun z hz hs => ?_)
  refine J_if_ge 18 dJ9_floorMod_7cf53_7 (by decide) (fun c7 => ?_) (fun c7 => ?_) 
  · refine j_iload_n 2 dJ9_floorMod_7cf53_18 rfl rfl ?_
    refine j_iret rfl dJ9_floorMod_7cf53_19 ⟨oIe ?_, rfl⟩
    first | exact fmod_2 h0 (Or.inl (by omega)) | exact fmod_2 h0 (Or.inr c11)
  · refine j_iload_n 2 dJ9_floorMod_7cf53_10 rfl rfl ?_
    refine J_if_eq 18 dJ9_floorMod_7cf53_11 (by decide) (fun c11 => ?_) (fun c11 => ?_) 
    · refine j_iload_n 2 dJ9_floorMod_7cf53_18 rfl rfl ?_
      refine j_iret rfl dJ9_floorMod_7cf53_19 ⟨oIe ?_, rfl⟩
      first | exact fmod_2 h0 (Or.inl (by omega)) | exact fmod_2 h0 (Or.inr c11)
    · refine j_iload_n 2 dJ9_floorMod_7cf53_14 rfl rfl ?_
      refine j_iload_n 1 dJ9_floorMod_7cf53_15 rfl rfl ?_
      refine J_iadd dJ9_floorMod_7cf53_16 ?_
      refine j_iret rfl dJ9_floorMod_7cf53_17 ⟨oIe ?_, rfl⟩
      exact fmod_1 h0 (hs.mp c7) c11
set_option maxRecDepth 100000 in
theorem c_J6_compare_7cf53 {l : Launch} {G : jG} {h : jH} {x y : Int} (hx : rg x) (hy : rg y) : jC l G yJ6_compare_7cf53 mJ6_compare_7cf53 [vI x, vI y] h (jE (oI (if x < y then -1 else if x = y then 0 else 1)) h) := by
  refine j_bodyF (by decide +kernel) ⟨rfl, rfl⟩ rfl ?_
  refine j_iload_n 0 dJ6_compare_7cf53_0 rfl rfl ?_
  refine j_iload_n 1 dJ6_compare_7cf53_1 rfl rfl ?_
  refine J_icmp_ge 9 dJ6_compare_7cf53_2 (by decide) (fun c2 => ?_) (fun c2 => ?_) 
  · refine j_iload_n 0 dJ6_compare_7cf53_9 rfl rfl ?_
    refine j_iload_n 1 dJ6_compare_7cf53_10 rfl rfl ?_
    refine J_icmp_ne 18 dJ6_compare_7cf53_11 (by decide) (fun c11 => ?_) (fun c11 => ?_) 
    · refine J_iconst dJ6_compare_7cf53_18 ?_
      refine j_iret rfl dJ6_compare_7cf53_19 ⟨oIe ?_, rfl⟩
      (first | omega | (simp only [bI]; (repeat' split) <;> omega))
    · refine J_iconst dJ6_compare_7cf53_14 ?_
      refine j_goto 19 dJ6_compare_7cf53_15 (by decide) ?_
      refine j_iret rfl dJ6_compare_7cf53_19 ⟨oIe ?_, rfl⟩
      (first | omega | (simp only [bI]; (repeat' split) <;> omega))
  · refine J_iconst dJ6_compare_7cf53_5 ?_
    refine j_goto 19 dJ6_compare_7cf53_6 (by decide) ?_
    refine j_iret rfl dJ6_compare_7cf53_19 ⟨oIe ?_, rfl⟩
    (first | omega | (simp only [bI]; (repeat' split) <;> omega))
/-- the height of a place without alter; what a key does to a step; the values -/
def plain (p : Int) : Int := 12 * (p / 7) + lk [0, 2, 4, 5, 7, 9, 11] (p % 7)
def altK (k s : Int) : Int := if s < 0 ∨ 7 ≤ s then 0 else if lk [1, 3, 5, 0, 2, 4, 6] s < k then 1 else if 6 - lk [1, 3, 5, 0, 2, 4, 6] s < -k then -1 else 0
abbrev isVal (v : Int) : Prop := v = 96 ∨ v = 64 ∨ v = 48 ∨ v = 32 ∨ v = 24 ∨ v = 16 ∨ v = 12 ∨ v = 8 ∨ v = 6 ∨ v = 4
abbrev vals : List Int := [96, 64, 48, 32, 24, 16, 12, 8, 6, 4]
def great (t : Int) : Int := if 96 ≤ t then 96 else if 64 ≤ t then 64 else if 48 ≤ t then 48 else if 32 ≤ t then 32 else if 24 ≤ t then 24 else if 16 ≤ t then 16 else if 12 ≤ t then 12 else if 8 ≤ t then 8 else if 6 ≤ t then 6 else if 4 ≤ t then 4 else t
abbrev isPit (p a : Int) : Prop := 1 ≤ p ∧ p ≤ 62 ∧ -2 ≤ a ∧ a ≤ 2
theorem lkH (s : Int) (h : 0 ≤ s ∧ s < 7) : 0 ≤ lk [0, 2, 4, 5, 7, 9, 11] s ∧ lk [0, 2, 4, 5, 7, 9, 11] s ≤ 11 := by
  rcases (by omega : s = 0 ∨ s = 1 ∨ s = 2 ∨ s = 3 ∨ s = 4 ∨ s = 5 ∨ s = 6) with e | e | e | e | e | e | e <;> subst e <;> decide
theorem lkT (s : Int) (h : 0 ≤ s ∧ s < 7) : 0 ≤ lk [1, 3, 5, 0, 2, 4, 6] s ∧ lk [1, 3, 5, 0, 2, 4, 6] s ≤ 6 := by
  rcases (by omega : s = 0 ∨ s = 1 ∨ s = 2 ∨ s = 3 ∨ s = 4 ∨ s = 5 ∨ s = 6) with e | e | e | e | e | e | e <;> subst e <;> decide
theorem lkV (s : Int) (h : 0 ≤ s ∧ s < 10) : 4 ≤ lk vals s ∧ lk vals s ≤ 96 ∧ isVal (lk vals s) := by
  rcases (by omega : s = 0 ∨ s = 1 ∨ s = 2 ∨ s = 3 ∨ s = 4 ∨ s = 5 ∨ s = 6 ∨ s = 7 ∨ s = 8 ∨ s = 9) with e | e | e | e | e | e | e | e | e | e <;> subst e <;> decide
theorem vals_no {v : Int} (hj : ∀ j : Int, 0 ≤ j → j < 10 → lk vals j ≠ v) : ¬ isVal v := by
  have h0 := hj 0 (by omega) (by omega)
  have h1 := hj 1 (by omega) (by omega)
  have h2 := hj 2 (by omega) (by omega)
  have h3 := hj 3 (by omega) (by omega)
  have h4 := hj 4 (by omega) (by omega)
  have h5 := hj 5 (by omega) (by omega)
  have h6 := hj 6 (by omega) (by omega)
  have h7 := hj 7 (by omega) (by omega)
  have h8 := hj 8 (by omega) (by omega)
  have h9 := hj 9 (by omega) (by omega)
  simp only [lk] at *
  simp at h0 h1 h2 h3 h4 h5 h6 h7 h8 h9
  unfold isVal
  omega
theorem great_at {t i : Int} (h : 0 ≤ i ∧ i < 10) (hj : ∀ j : Int, 0 ≤ j → j < i → t < lk vals j) (hi : lk vals i ≤ t) : lk vals i = great t := by
  have key : ∀ j : Int, 0 ≤ j → j < i → ¬ lk vals j ≤ t := fun j a b => by have := hj j a b; omega
  rcases (by omega : i = 0 ∨ i = 1 ∨ i = 2 ∨ i = 3 ∨ i = 4 ∨ i = 5 ∨ i = 6 ∨ i = 7 ∨ i = 8 ∨ i = 9) with e | e | e | e | e | e | e | e | e | e <;> subst e <;>
    (have k0 := key 0 (by omega); have k1 := key 1 (by omega); have k2 := key 2 (by omega); have k3 := key 3 (by omega); have k4 := key 4 (by omega); have k5 := key 5 (by omega); have k6 := key 6 (by omega); have k7 := key 7 (by omega); have k8 := key 8 (by omega)
     simp [lk] at k0 k1 k2 k3 k4 k5 k6 k7 k8 hi ⊢
     unfold great
     (repeat' split) <;> omega)
theorem great_none {t : Int} (hj : ∀ j : Int, 0 ≤ j → j < 10 → t < lk vals j) : t = great t := by
  have h9 := hj 9 (by omega) (by omega)
  simp [lk] at h9
  unfold great
  (repeat' split) <;> omega
theorem plain_rg {p : Int} (h : rg p) : 12 * (p / 7) ≤ plain p ∧ plain p ≤ 12 * (p / 7) + 11 := by
  have := lkH (p % 7) (by omega)
  unfold plain
  omega
set_option maxRecDepth 100000 in
theorem c_X7_isPitch {l : Launch} {G : jG} {h : jH} {p a : Int} (hp : rg p) (ha : rg a) : jC l G yX7_isPitch mX7_isPitch [vI p, vI a] h (jE (oI (bI (isPit p a))) h) := by
  refine j_body (by decide +kernel) ⟨rfl, rfl⟩ rfl ?_
  refine j_iload_n 0 dX7_isPitch_0 rfl rfl ?_
  refine J_iconst dX7_isPitch_1 ?_
  refine J_icmp_lt 26 dX7_isPitch_2 (by decide) (fun c2 => ?_) (fun c2 => ?_) 
  · refine J_iconst dX7_isPitch_26 ?_
    refine j_zret rfl rfl dX7_isPitch_27 ⟨oIe ?_, rfl⟩
    (first | omega | (simp only [bI]; (repeat' split) <;> omega))
  · refine j_iload_n 0 dX7_isPitch_5 rfl rfl ?_
    refine J_bipush dX7_isPitch_6 (by decide) ?_
    refine J_icmp_gt 26 dX7_isPitch_8 (by decide) (fun c8 => ?_) (fun c8 => ?_) 
    · refine J_iconst dX7_isPitch_26 ?_
      refine j_zret rfl rfl dX7_isPitch_27 ⟨oIe ?_, rfl⟩
      (first | omega | (simp only [bI]; (repeat' split) <;> omega))
    · refine j_iload_n 1 dX7_isPitch_11 rfl rfl ?_
      refine J_bipush dX7_isPitch_12 (by decide) ?_
      refine J_icmp_lt 26 dX7_isPitch_14 (by decide) (fun c14 => ?_) (fun c14 => ?_) 
      · refine J_iconst dX7_isPitch_26 ?_
        refine j_zret rfl rfl dX7_isPitch_27 ⟨oIe ?_, rfl⟩
        (first | omega | (simp only [bI]; (repeat' split) <;> omega))
      · refine j_iload_n 1 dX7_isPitch_17 rfl rfl ?_
        refine J_iconst dX7_isPitch_18 ?_
        refine J_icmp_gt 26 dX7_isPitch_19 (by decide) (fun c19 => ?_) (fun c19 => ?_) 
        · refine J_iconst dX7_isPitch_26 ?_
          refine j_zret rfl rfl dX7_isPitch_27 ⟨oIe ?_, rfl⟩
          (first | omega | (simp only [bI]; (repeat' split) <;> omega))
        · refine J_iconst dX7_isPitch_22 ?_
          refine j_goto 27 dX7_isPitch_23 (by decide) ?_
          refine j_zret rfl rfl dX7_isPitch_27 ⟨oIe ?_, rfl⟩
          (first | omega | (simp only [bI]; (repeat' split) <;> omega))
set_option maxRecDepth 100000 in
theorem c_X7_plainHeight {l : Launch} {G : jG} {h : jH} {p : Int} (hp : rg p) : jC l G yX7_plainHeight mX7_plainHeight [vI p] h (jE (oI (plain p)) h) := by
  refine j_body (by decide +kernel) ⟨rfl, rfl⟩ rfl ?_
  refine j_iload_n 0 dX7_plainHeight_0 rfl rfl ?_
  refine J_bipush dX7_plainHeight_1 (by decide) ?_
  refine J_callS1 kX7_9 csJ9_floorMod_7cf53 (c_J9_floorMod_7cf53 hp (by decide) (by decide)) rfl rfl rfl rfl rfl dX7_plainHeight_3 rfl rfl ?_
  refine j_istore_n 1 (L' := [(1, _), (0, _)]) dX7_plainHeight_6 rfl rfl rfl ?_
  refine j_iload_n 1 dX7_plainHeight_7 rfl rfl ?_
  refine J_if_lt 27 dX7_plainHeight_8 (by decide) (fun c8 => absurd c8 (by omega)) (fun c8 => ?_) 
  refine j_iload_n 1 dX7_plainHeight_11 rfl rfl ?_
  refine j_gets 0 rfl fX7_15 dX7_plainHeight_12 ?_
  refine J_salen 0 rfl dX7_plainHeight_15 ?_
  refine J_icmp_ge 27 dX7_plainHeight_16 (by decide) (fun c16 => absurd c16 (by omega)) (fun c16 => ?_) 
  refine j_gets 0 rfl fX7_15 dX7_plainHeight_19 ?_
  refine j_iload_n 1 dX7_plainHeight_22 rfl rfl ?_
  refine J_siald 0 [0, 2, 4, 5, 7, 9, 11] rfl rfl dX7_plainHeight_23 ?_ 
  refine j_goto 28 dX7_plainHeight_24 (by decide) ?_
  refine j_istore_n 2 (L' := [(2, _), (1, _), (0, _)]) dX7_plainHeight_28 rfl rfl rfl ?_
  refine J_bipush dX7_plainHeight_29 (by decide) ?_
  refine j_iload_n 0 dX7_plainHeight_31 rfl rfl ?_
  refine J_bipush dX7_plainHeight_32 (by decide) ?_
  refine J_callS1 kX7_21 csJ9_floorDiv_7cf53 (c_J9_floorDiv_7cf53 hp (by decide) (by decide)) rfl rfl rfl rfl rfl dX7_plainHeight_34 rfl rfl ?_
  refine J_imul dX7_plainHeight_37 ?_
  refine j_iload_n 2 dX7_plainHeight_38 rfl rfl ?_
  refine J_iadd dX7_plainHeight_39 ?_
  refine j_iret rfl dX7_plainHeight_40 ⟨oIe ?_, rfl⟩
  (unfold plain; rfl)
set_option maxRecDepth 100000 in
theorem c_X7_alterByKey {l : Launch} {G : jG} {h : jH} {k s : Int} (hk : -7 ≤ k ∧ k ≤ 7) (hs : rg s) : jC l G yX7_alterByKey mX7_alterByKey [vI k, vI s] h (jE (oI (altK k s)) h) := by
  refine j_body (by decide +kernel) ⟨rfl, rfl⟩ rfl ?_
  refine j_iload_n 1 dX7_alterByKey_0 rfl rfl ?_
  refine J_if_lt 12 dX7_alterByKey_1 (by decide) (fun c1 => ?_) (fun c1 => ?_) 
  · refine J_iconst dX7_alterByKey_12 ?_
    refine j_iret rfl dX7_alterByKey_13 ⟨oIe ?_, rfl⟩
    (have hT := lkT s; unfold altK; (repeat' split) <;> omega)
  · refine j_iload_n 1 dX7_alterByKey_4 rfl rfl ?_
    refine j_gets 1 rfl fX7_24 dX7_alterByKey_5 ?_
    refine J_salen 1 rfl dX7_alterByKey_8 ?_
    refine J_icmp_lt 14 dX7_alterByKey_9 (by decide) (fun c9 => ?_) (fun c9 => ?_) 
    · refine j_gets 1 rfl fX7_24 dX7_alterByKey_14 ?_
      refine j_iload_n 1 dX7_alterByKey_17 rfl rfl ?_
      refine J_siald 1 [1, 3, 5, 0, 2, 4, 6] rfl rfl dX7_alterByKey_18 ?_ 
      refine j_istore_n 2 (L' := [(2, _), (0, _), (1, _)]) dX7_alterByKey_19 rfl rfl rfl ?_
      have hT := lkT s (by omega)
      refine j_iload_n 0 dX7_alterByKey_20 rfl rfl ?_
      refine j_iload_n 2 dX7_alterByKey_21 rfl rfl ?_
      refine J_icmp_le 27 dX7_alterByKey_22 (by decide) (fun c22 => ?_) (fun c22 => ?_) 
      · refine j_iload_n 0 dX7_alterByKey_27 rfl rfl ?_
        refine J_ineg dX7_alterByKey_28 ?_
        refine J_bipush dX7_alterByKey_29 (by decide) ?_
        refine j_iload_n 2 dX7_alterByKey_31 rfl rfl ?_
        refine J_isub dX7_alterByKey_32 ?_
        refine J_icmp_le 40 dX7_alterByKey_33 (by decide) (fun c33 => ?_) (fun c33 => ?_) 
        · refine J_iconst dX7_alterByKey_40 ?_
          refine j_iret rfl dX7_alterByKey_41 ⟨oIe ?_, rfl⟩
          (have hT := lkT s; unfold altK; (repeat' split) <;> omega)
        · refine J_iconst dX7_alterByKey_36 ?_
          refine j_goto 41 dX7_alterByKey_37 (by decide) ?_
          refine j_iret rfl dX7_alterByKey_41 ⟨oIe ?_, rfl⟩
          (have hT := lkT s; unfold altK; (repeat' split) <;> omega)
      · refine J_iconst dX7_alterByKey_25 ?_
        refine j_iret rfl dX7_alterByKey_26 ⟨oIe ?_, rfl⟩
        (have hT := lkT s; unfold altK; (repeat' split) <;> omega)
    · refine J_iconst dX7_alterByKey_12 ?_
      refine j_iret rfl dX7_alterByKey_13 ⟨oIe ?_, rfl⟩
      (have hT := lkT s; unfold altK; (repeat' split) <;> omega)
set_option maxRecDepth 100000 in
theorem c_X8_isValue {l : Launch} {G : jG} {h : jH} {v : Int} (hv : rg v) : jC l G yX8_isValue mX8_isValue [vI v] h (jE (oI (bI (isVal v))) h) := by
  have loop : ∀ (n : Nat) (i : Int), i + n = 10 → 0 ≤ i → (∀ j : Int, 0 ≤ j → j < i → lk vals j ≠ v) → J l G mX8_isValue (jQ G mX8_isValue (jE (oI (bI (isVal v))) h)) 0 0 2 [(1, vI i), (0, vI v)] [] h := by
    intro n
    induction n with
    | zero =>
      intro i hi h0 hj
      obtain rfl : i = 10 := by omega
      refine j_iload_n 1 dX8_isValue_2 rfl rfl ?_
      refine j_gets 2 rfl fX8_7 dX8_isValue_3 ?_
      refine J_salen 2 rfl dX8_isValue_6 ?_
      refine J_icmp_ge 27 dX8_isValue_7 (by decide) (fun c7 => ?_) (fun c7 => absurd c7 (by omega)) 
      refine J_iconst dX8_isValue_27 ?_
      refine j_zret rfl rfl dX8_isValue_28 ⟨oIe ?_, rfl⟩
      (simp only [bI]; rw [if_neg (vals_no hj)])
    | succ n ih =>
      intro i hi h0 hj
      have hV := lkV i (by omega)
      refine j_iload_n 1 dX8_isValue_2 rfl rfl ?_
      refine j_gets 2 rfl fX8_7 dX8_isValue_3 ?_
      refine J_salen 2 rfl dX8_isValue_6 ?_
      refine J_icmp_ge 27 dX8_isValue_7 (by decide) (fun c7 => absurd c7 (by omega)) (fun c7 => ?_) 
      refine j_gets 2 rfl fX8_7 dX8_isValue_10 ?_
      refine j_iload_n 1 dX8_isValue_13 rfl rfl ?_
      refine J_siald 2 vals rfl rfl dX8_isValue_14 ?_ 
      refine j_iload_n 0 dX8_isValue_15 rfl rfl ?_
      refine J_icmp_ne 21 dX8_isValue_16 (by decide) (fun c16 => ?_) (fun c16 => ?_) 
      · refine J_iinc (L' := [(1, _), (0, _)]) dX8_isValue_21 rfl rfl rfl ?_
        refine j_goto 2 dX8_isValue_24 (by decide) ?_
        exact ih (i + 1) (by omega) (by omega) (fun j a b => by
      rcases (by omega : j < i ∨ j = i) with q | q
      · exact hj j a q
      · subst q; omega)
      · refine J_iconst dX8_isValue_19 ?_
        refine j_zret rfl rfl dX8_isValue_20 ⟨oIe ?_, rfl⟩
        (simp only [bI]; rw [if_pos (by have := hV.2.2; rw [c16] at this; exact this)])
  refine j_body (by decide +kernel) ⟨rfl, rfl⟩ rfl ?_
  refine J_iconst dX8_isValue_0 ?_
  refine j_istore_n 1 (L' := [(1, _), (0, _)]) dX8_isValue_1 rfl rfl rfl ?_
  exact loop 10 0 (by omega) (by omega) (fun j a b => by omega)
set_option maxRecDepth 100000 in
theorem c_X8_greatestIn {l : Launch} {G : jG} {h : jH} {v : Int} (hv : rg v) : jC l G yX8_greatestIn mX8_greatestIn [vI v] h (jE (oI (great v)) h) := by
  have loop : ∀ (n : Nat) (i : Int), i + n = 10 → 0 ≤ i → (∀ j : Int, 0 ≤ j → j < i → v < lk vals j) → J l G mX8_greatestIn (jQ G mX8_greatestIn (jE (oI (great v)) h)) 0 0 2 [(1, vI i), (0, vI v)] [] h := by
    intro n
    induction n with
    | zero =>
      intro i hi h0 hj
      obtain rfl : i = 10 := by omega
      refine j_iload_n 1 dX8_greatestIn_2 rfl rfl ?_
      refine j_gets 2 rfl fX8_7 dX8_greatestIn_3 ?_
      refine J_salen 2 rfl dX8_greatestIn_6 ?_
      refine J_icmp_ge 31 dX8_greatestIn_7 (by decide) (fun c7 => ?_) (fun c7 => absurd c7 (by omega)) 
      refine j_iload_n 0 dX8_greatestIn_31 rfl rfl ?_
      refine j_iret rfl dX8_greatestIn_32 ⟨oIe ?_, rfl⟩
      exact great_none hj
    | succ n ih =>
      intro i hi h0 hj
      have hV := lkV i (by omega)
      refine j_iload_n 1 dX8_greatestIn_2 rfl rfl ?_
      refine j_gets 2 rfl fX8_7 dX8_greatestIn_3 ?_
      refine J_salen 2 rfl dX8_greatestIn_6 ?_
      refine J_icmp_ge 31 dX8_greatestIn_7 (by decide) (fun c7 => absurd c7 (by omega)) (fun c7 => ?_) 
      refine j_gets 2 rfl fX8_7 dX8_greatestIn_10 ?_
      refine j_iload_n 1 dX8_greatestIn_13 rfl rfl ?_
      refine J_siald 2 vals rfl rfl dX8_greatestIn_14 ?_ 
      refine j_iload_n 0 dX8_greatestIn_15 rfl rfl ?_
      refine J_icmp_gt 25 dX8_greatestIn_16 (by decide) (fun c16 => ?_) (fun c16 => ?_) 
      · refine J_iinc (L' := [(1, _), (0, _)]) dX8_greatestIn_25 rfl rfl rfl ?_
        refine j_goto 2 dX8_greatestIn_28 (by decide) ?_
        exact ih (i + 1) (by omega) (by omega) (fun j a b => by
      rcases (by omega : j < i ∨ j = i) with q | q
      · exact hj j a q
      · subst q; omega)
      · refine j_gets 2 rfl fX8_7 dX8_greatestIn_19 ?_
        refine j_iload_n 1 dX8_greatestIn_22 rfl rfl ?_
        refine J_siald 2 vals rfl rfl dX8_greatestIn_23 ?_ 
        refine j_iret rfl dX8_greatestIn_24 ⟨oIe ?_, rfl⟩
        exact great_at (by omega) hj c16
  refine j_body (by decide +kernel) ⟨rfl, rfl⟩ rfl ?_
  refine J_iconst dX8_greatestIn_0 ?_
  refine j_istore_n 1 (L' := [(1, _), (0, _)]) dX8_greatestIn_1 rfl rfl rfl ?_
  exact loop 10 0 (by omega) (by omega) (fun j a b => by omega)
