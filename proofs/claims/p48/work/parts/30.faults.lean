/-! ChoraleDesk.FaultList: 0 kinds, 1 ticks, 2 partCodes, 3 heightsAhead, 4 heightsNow, 5 begins, 6 ways; 7 count -/
abbrev oX2 : oO := fun q p => (2, [.ref (q 0), .ref (q 1), .ref (q 2), .ref (q 3), .ref (q 4), .ref (q 5), .ref (q 6), vI (p.1 7)])
def caX2 (G : jG) : oC := fun k F => match k with
  | 0 => ai G 2560 F
  | 1 => ai G 2560 F
  | 2 => ai G 2560 F
  | 5 => az G 4 F
  | _ => ai G 4 F
abbrev AX2 : Nat → Bool := fun k => Nat.blt k 7
abbrev AtX2 (G : jG) (h : jH) (a : Nat) (q : Nat → Nat) (p : OS) : Prop := At oX2 (caX2 G) AX2 h a q p
def addP (p : OS) (kd t c : Int) : OS := if p.1 7 < 2560 then oU (oA (oA (oA p 0 (upI (p.2 0) (p.1 7) kd)) 1 (upI (p.2 1) (p.1 7) t)) 2 (upI (p.2 2) (p.1 7) c)) 7 (p.1 7 + 1) else p
def fZ (p : OS) : Prop := (0 ≤ p.1 7 ∧ p.1 7 ≤ 2560) ∧ ∀ k : Int, 0 ≤ k → k < 4 → (-1 ≤ p.2 3 k ∧ p.2 3 k ≤ 200) ∧ (-1 ≤ p.2 4 k ∧ p.2 4 k ≤ 200) ∧ (p.2 5 k = 0 ∨ p.2 5 k = 1) ∧ (-1 ≤ p.2 6 k ∧ p.2 6 k ≤ 1)
theorem addP_2 (p : OS) (kd t c : Int) (j : Nat) (h0 : j ≠ 0) (h1 : j ≠ 1) (h2 : j ≠ 2) : (addP p kd t c).2 j = p.2 j := by
  unfold addP
  split
  · simp [oU, oA, h0, h1, h2]
  · rfl
theorem fZ_add {p : OS} {kd t c : Int} (h : fZ p) : fZ (addP p kd t c) := by
  refine ⟨?_, fun k h0 h4 => ?_⟩
  · have := h.1
    unfold addP
    split
    · show 0 ≤ p.1 7 + 1 ∧ p.1 7 + 1 ≤ 2560
      omega
    · exact this
  · rw [addP_2 _ _ _ _ 3 (by decide) (by decide) (by decide), addP_2 _ _ _ _ 4 (by decide) (by decide) (by decide), addP_2 _ _ _ _ 5 (by decide) (by decide) (by decide), addP_2 _ _ _ _ 6 (by decide) (by decide) (by decide)]
    exact h.2 k h0 h4
/-- one pair of parts: parallels, crossings -/
def parS (t : Int) (p : OS) (i j : Int) : OS := if p.2 6 i ≠ 0 ∧ p.2 6 i = p.2 6 j then (if (p.2 3 i - p.2 3 j) % 12 = (p.2 4 i - p.2 4 j) % 12 ∧ (p.2 4 i - p.2 4 j) % 12 = 7 then addP p 0 t (4 * i + j) else if (p.2 3 i - p.2 3 j) % 12 = (p.2 4 i - p.2 4 j) % 12 ∧ (p.2 4 i - p.2 4 j) % 12 = 0 then addP p 1 t (4 * i + j) else p) else p
def crsS (t : Int) (p : OS) (i j : Int) : OS := if (p.2 4 i ≠ -1 ∧ p.2 4 j ≠ -1) ∧ (p.2 5 i ≠ 0 ∨ p.2 5 j ≠ 0) ∧ p.2 4 i < p.2 4 j then addP p 2 t (4 * i + j) else p
/-- all pairs by f: the second parts from 4 - n on; the first parts from 4 - n on -/
def prJ (f : OS → Int → Int → OS) (i : Int) : Nat → OS → OS
  | 0, p => p
  | n + 1, p => prJ f i n (f p i (3 - n))
def prI (f : OS → Int → Int → OS) : Nat → OS → OS
  | 0, p => p
  | n + 1, p => prI f n (prJ f (3 - n) n p)
theorem prJ_s (f : OS → Int → Int → OS) (i : Int) (n : Nat) (p : OS) : prJ f i (n + 1) p = prJ f i n (f p i (3 - n)) := rfl
theorem prI_s (f : OS → Int → Int → OS) (n : Nat) (p : OS) : prI f (n + 1) p = prI f n (prJ f (3 - n) n p) := rfl
theorem fZ_par {t : Int} {p : OS} {i j : Int} (h : fZ p) : fZ (parS t p i j) := by
  unfold parS
  split
  · split
    · exact fZ_add h
    · split
      · exact fZ_add h
      · exact h
  · exact h
theorem fZ_crs {t : Int} {p : OS} {i j : Int} (h : fZ p) : fZ (crsS t p i j) := by
  unfold crsS
  split
  · exact fZ_add h
  · exact h
theorem fZ_prJ {f : OS → Int → Int → OS} (hf : ∀ p i j, fZ p → fZ (f p i j)) (i : Int) : ∀ (n : Nat) (p : OS), fZ p → fZ (prJ f i n p)
  | 0, _, h => h
  | n + 1, p, h => fZ_prJ hf i n _ (hf _ _ _ h)
theorem fZ_prI {f : OS → Int → Int → OS} (hf : ∀ p i j, fZ p → fZ (f p i j)) : ∀ (n : Nat) (p : OS), fZ p → fZ (prI f n p)
  | 0, _, h => h
  | n + 1, p, h => fZ_prI hf n _ (fZ_prJ hf _ n _ h)
set_option maxRecDepth 100000 in
theorem c_X2_size {l : Launch} {G : jG} {h : jH} {a : Nat} {q : Nat → Nat} {p : OS} (hP : AtX2 G h a q p) : jC l G yX2_size mX2_size [.ref a] h (jE (oI (p.1 7)) h) := by
  refine j_body (by decide +kernel) ⟨rfl, rfl⟩ rfl ?_
  refine j_aload_n 0 dX2_size_0 rfl rfl ?_
  refine j_get fX2_34 dX2_size_1 hP.1 rfl ?_
  refine j_iret rfl dX2_size_4 ⟨oIe ?_, rfl⟩
  (first | omega | (simp only [bI]; (repeat' split) <;> omega))
set_option maxRecDepth 100000 in
theorem c_X2_has {l : Launch} {G : jG} {h : jH} {a : Nat} {q : Nat → Nat} {p : OS}{m : Int} (hP : AtX2 G h a q p) (hn : 0 ≤ p.1 7 ∧ p.1 7 ≤ 2560) (hm : rg m) : jC l G yX2_has mX2_has [.ref a, vI m] h (jE (oI (bI (0 ≤ m ∧ m < p.1 7))) h) := by
  refine j_body (by decide +kernel) ⟨rfl, rfl⟩ rfl ?_
  refine j_iload_n 1 dX2_has_0 rfl rfl ?_
  refine J_if_lt 23 dX2_has_1 (by decide) (fun c1 => ?_) (fun c1 => ?_) 
  · refine J_iconst dX2_has_23 ?_
    refine j_zret rfl rfl dX2_has_24 ⟨oIe ?_, rfl⟩
    (first | omega | (simp only [bI]; (repeat' split) <;> omega))
  · refine j_iload_n 1 dX2_has_4 rfl rfl ?_
    refine j_aload_n 0 dX2_has_5 rfl rfl ?_
    refine j_get fX2_34 dX2_has_6 hP.1 rfl ?_
    refine J_icmp_ge 23 dX2_has_9 (by decide) (fun c9 => ?_) (fun c9 => ?_) 
    · refine J_iconst dX2_has_23 ?_
      refine j_zret rfl rfl dX2_has_24 ⟨oIe ?_, rfl⟩
      (first | omega | (simp only [bI]; (repeat' split) <;> omega))
    · refine j_iload_n 1 dX2_has_12 rfl rfl ?_
      refine J_sipush dX2_has_13 (by decide) ?_
      refine J_icmp_ge 23 dX2_has_16 (by decide) (fun c16 => ?_) (fun c16 => ?_) 
      · refine J_iconst dX2_has_23 ?_
        refine j_zret rfl rfl dX2_has_24 ⟨oIe ?_, rfl⟩
        (first | omega | (simp only [bI]; (repeat' split) <;> omega))
      · refine J_iconst dX2_has_19 ?_
        refine j_goto 24 dX2_has_20 (by decide) ?_
        refine j_zret rfl rfl dX2_has_24 ⟨oIe ?_, rfl⟩
        (first | omega | (simp only [bI]; (repeat' split) <;> omega))
set_option maxRecDepth 100000 in
theorem c_X2_kindAt {l : Launch} {G : jG} {h : jH} {a : Nat} {q : Nat → Nat} {p : OS}{m : Int} (hP : AtX2 G h a q p) (hn : 0 ≤ p.1 7 ∧ p.1 7 ≤ 2560) (hm : rg m) : jC l G yX2_kindAt mX2_kindAt [.ref a, vI m] h (jE (oI (if 0 ≤ m ∧ m < p.1 7 then p.2 0 m else -1)) h) := by
  refine j_body (by decide +kernel) ⟨rfl, rfl⟩ rfl ?_
  refine j_aload_n 0 dX2_kindAt_0 rfl rfl ?_
  refine j_iload_n 1 dX2_kindAt_1 rfl rfl ?_
  refine J_callVZ kX2_38 cvX2_has hP.1 (c_X2_has hP hn hm) rfl rfl rfl rfl rfl dX2_kindAt_2 rfl rfl (fun z2 => ?_) (fun z2 => ?_)
  · refine J_if_eq 17 dX2_kindAt_5 (by decide) (fun c5 => absurd c5 (by decide)) (fun c5 => ?_) 
    refine j_aload_n 0 dX2_kindAt_8 rfl rfl ?_
    refine j_get fX2_9 dX2_kindAt_9 hP.1 rfl ?_
    refine j_iload_n 1 dX2_kindAt_12 rfl rfl ?_
    refine J_iald dX2_kindAt_13 (hP.2.1 0 rfl) ?_ 
    refine j_goto 18 dX2_kindAt_14 (by decide) ?_
    refine j_iret rfl dX2_kindAt_18 ⟨oIe ?_, rfl⟩
    (first | omega | (simp only [bI]; (repeat' split) <;> omega))
  · refine J_if_eq 17 dX2_kindAt_5 (by decide) (fun c5 => ?_) (fun c5 => absurd c5 (by decide)) 
    refine J_iconst dX2_kindAt_17 ?_
    refine j_iret rfl dX2_kindAt_18 ⟨oIe ?_, rfl⟩
    (first | omega | (simp only [bI]; (repeat' split) <;> omega))
set_option maxRecDepth 100000 in
theorem c_X2_tickAt {l : Launch} {G : jG} {h : jH} {a : Nat} {q : Nat → Nat} {p : OS}{m : Int} (hP : AtX2 G h a q p) (hn : 0 ≤ p.1 7 ∧ p.1 7 ≤ 2560) (hm : rg m) : jC l G yX2_tickAt mX2_tickAt [.ref a, vI m] h (jE (oI (if 0 ≤ m ∧ m < p.1 7 then p.2 1 m else -1)) h) := by
  refine j_body (by decide +kernel) ⟨rfl, rfl⟩ rfl ?_
  refine j_aload_n 0 dX2_tickAt_0 rfl rfl ?_
  refine j_iload_n 1 dX2_tickAt_1 rfl rfl ?_
  refine J_callVZ kX2_38 cvX2_has hP.1 (c_X2_has hP hn hm) rfl rfl rfl rfl rfl dX2_tickAt_2 rfl rfl (fun z2 => ?_) (fun z2 => ?_)
  · refine J_if_eq 17 dX2_tickAt_5 (by decide) (fun c5 => absurd c5 (by decide)) (fun c5 => ?_) 
    refine j_aload_n 0 dX2_tickAt_8 rfl rfl ?_
    refine j_get fX2_15 dX2_tickAt_9 hP.1 rfl ?_
    refine j_iload_n 1 dX2_tickAt_12 rfl rfl ?_
    refine J_iald dX2_tickAt_13 (hP.2.1 1 rfl) ?_ 
    refine j_goto 18 dX2_tickAt_14 (by decide) ?_
    refine j_iret rfl dX2_tickAt_18 ⟨oIe ?_, rfl⟩
    (first | omega | (simp only [bI]; (repeat' split) <;> omega))
  · refine J_if_eq 17 dX2_tickAt_5 (by decide) (fun c5 => ?_) (fun c5 => absurd c5 (by decide)) 
    refine J_iconst dX2_tickAt_17 ?_
    refine j_iret rfl dX2_tickAt_18 ⟨oIe ?_, rfl⟩
    (first | omega | (simp only [bI]; (repeat' split) <;> omega))
set_option maxRecDepth 100000 in
theorem c_X2_partsAt {l : Launch} {G : jG} {h : jH} {a : Nat} {q : Nat → Nat} {p : OS}{m : Int} (hP : AtX2 G h a q p) (hn : 0 ≤ p.1 7 ∧ p.1 7 ≤ 2560) (hm : rg m) : jC l G yX2_partsAt mX2_partsAt [.ref a, vI m] h (jE (oI (if 0 ≤ m ∧ m < p.1 7 then p.2 2 m else -1)) h) := by
  refine j_body (by decide +kernel) ⟨rfl, rfl⟩ rfl ?_
  refine j_aload_n 0 dX2_partsAt_0 rfl rfl ?_
  refine j_iload_n 1 dX2_partsAt_1 rfl rfl ?_
  refine J_callVZ kX2_38 cvX2_has hP.1 (c_X2_has hP hn hm) rfl rfl rfl rfl rfl dX2_partsAt_2 rfl rfl (fun z2 => ?_) (fun z2 => ?_)
  · refine J_if_eq 17 dX2_partsAt_5 (by decide) (fun c5 => absurd c5 (by decide)) (fun c5 => ?_) 
    refine j_aload_n 0 dX2_partsAt_8 rfl rfl ?_
    refine j_get fX2_18 dX2_partsAt_9 hP.1 rfl ?_
    refine j_iload_n 1 dX2_partsAt_12 rfl rfl ?_
    refine J_iald dX2_partsAt_13 (hP.2.1 2 rfl) ?_ 
    refine j_goto 18 dX2_partsAt_14 (by decide) ?_
    refine j_iret rfl dX2_partsAt_18 ⟨oIe ?_, rfl⟩
    (first | omega | (simp only [bI]; (repeat' split) <;> omega))
  · refine J_if_eq 17 dX2_partsAt_5 (by decide) (fun c5 => ?_) (fun c5 => absurd c5 (by decide)) 
    refine J_iconst dX2_partsAt_17 ?_
    refine j_iret rfl dX2_partsAt_18 ⟨oIe ?_, rfl⟩
    (first | omega | (simp only [bI]; (repeat' split) <;> omega))
set_option maxRecDepth 100000 in
theorem c_X2_add {l : Launch} {G : jG} {h : jH} {a : Nat} {q : Nat → Nat} {p : OS}{kd t c : Int} (hP : AtX2 G h a q p) (hn : 0 ≤ p.1 7 ∧ p.1 7 ≤ 2560) : jC l G yX2_add mX2_add [.ref a, vI kd, vI t, vI c] h (jW oN (fun h' => AtX2 G h' a q (addP p kd t c) ∧ Fr (ft AX2 a q) h h')) := by
  refine j_body (by decide +kernel) ⟨rfl, rfl⟩ rfl ?_
  have hF : Fr (ft AX2 a q) h h := Fr.rf
  refine j_aload_n 0 dX2_add_0 rfl rfl ?_
  refine j_get fX2_34 dX2_add_1 hP.1 rfl ?_
  refine J_if_lt 17 dX2_add_4 (by decide) (fun c4 => absurd c4 (by omega)) (fun c4 => ?_) 
  refine j_aload_n 0 dX2_add_7 rfl rfl ?_
  refine j_get fX2_34 dX2_add_8 hP.1 rfl ?_
  refine J_sipush dX2_add_11 (by decide) ?_
  refine J_icmp_lt 18 dX2_add_14 (by decide) (fun c14 => ?_) (fun c14 => ?_) 
  · refine j_aload_n 0 dX2_add_18 rfl rfl ?_
    refine j_get fX2_9 dX2_add_19 hP.1 rfl ?_
    refine j_aload_n 0 dX2_add_22 rfl rfl ?_
    refine j_get fX2_34 dX2_add_23 hP.1 rfl ?_
    refine j_iload_n 1 dX2_add_26 rfl rfl ?_
    refine J_iastA 0 hP rfl (fun _ => rfl) (fun _ => rfl) dX2_add_27 (fun h hP hF27 => ?_) 
    have hF := hF.tr hF27
    refine j_aload_n 0 dX2_add_28 rfl rfl ?_
    refine j_get fX2_15 dX2_add_29 hP.1 rfl ?_
    refine j_aload_n 0 dX2_add_32 rfl rfl ?_
    refine j_get fX2_34 dX2_add_33 hP.1 rfl ?_
    refine J_top (p.1 7) ?_ (by rfl)
    refine j_iload_n 2 dX2_add_36 rfl rfl ?_
    refine J_iastA 1 hP rfl (fun _ => rfl) (fun _ => rfl) dX2_add_37 (fun h hP hF37 => ?_) 
    have hF := hF.tr hF37
    refine j_aload_n 0 dX2_add_38 rfl rfl ?_
    refine j_get fX2_18 dX2_add_39 hP.1 rfl ?_
    refine j_aload_n 0 dX2_add_42 rfl rfl ?_
    refine j_get fX2_34 dX2_add_43 hP.1 rfl ?_
    refine J_top (p.1 7) ?_ (by rfl)
    refine j_iload_n 3 dX2_add_46 rfl rfl ?_
    refine J_iastA 2 hP rfl (fun _ => rfl) (fun _ => rfl) dX2_add_47 (fun h hP hF47 => ?_) 
    have hF := hF.tr hF47
    refine j_aload_n 0 dX2_add_48 rfl rfl ?_
    refine j_dup dX2_add_49 rfl ?_
    refine j_get fX2_34 dX2_add_50 hP.1 rfl ?_
    refine J_top (p.1 7) ?_ (by rfl)
    refine J_iconst dX2_add_53 ?_
    refine J_iadd dX2_add_54 ?_
    refine J_putA hP fX2_34 tyX2_count dX2_add_55 rfl rfl (fun h hP hF55 => ?_)
    have hF := hF.tr hF55
    refine j_vret rfl dX2_add_58 ?_
    exact ⟨rfl, by unfold addP; rw [if_pos c14]; exact hP, hF⟩
  · refine j_vret rfl dX2_add_17 ?_
    exact ⟨rfl, by unfold addP; rw [if_neg (by omega)]; exact hP, hF⟩
set_option maxRecDepth 100000 in
theorem c_X2_searchParallels {l : Launch} {G : jG} {h : jH} {a : Nat} {q : Nat → Nat} {p : OS} {t : Int} (hP : AtX2 G h a q p) (hz : fZ p) : jC l G yX2_searchParallels mX2_searchParallels [.ref a, vI t] h (jW oN (fun h' => AtX2 G h' a q (prI (parS t) 4 p) ∧ Fr (ft AX2 a q) h h')) := by
  obtain ⟨R, hR⟩ : ∃ R, R = prI (parS t) 4 p := ⟨_, rfl⟩
  rw [← hR]
  have outer : ∀ (n i : Nat) (p2 : OS) (h2 : jH), i + n = 4 → AtX2 G h2 a q p2 → Fr (ft AX2 a q) h h2 → fZ p2 → prI (parS t) n p2 = R → J l G mX2_searchParallels (jQ G mX2_searchParallels (jW oN (fun h' => AtX2 G h' a q R ∧ Fr (ft AX2 a q) h h'))) 0 0 2 [(2, vI i), (0, .ref a), (1, vI t)] [] h2 := by
    intro n
    induction n with
    | zero =>
      intro i p2 h2 hi hP hF hz hr
      obtain rfl : i = 4 := by omega
      refine j_iload_n 2 dX2_searchParallels_2 rfl rfl ?_
      refine J_iconst dX2_searchParallels_3 ?_
      refine J_icmp_ge 143 dX2_searchParallels_4 (by decide) (fun c4 => ?_) (fun c4 => absurd c4 (by omega)) 
      refine j_vret rfl dX2_searchParallels_143 ?_
      exact ⟨rfl, by rw [← hr]; exact hP, hF⟩
    | succ n ih =>
      intro i p2 h2 hi hP hF hz hr
      rw [prI_s] at hr
      have ei : (i : Int) = 3 - n := by omega
      have inner : ∀ (n2 j : Nat) (p3 : OS) (h3 : jH), j + n2 = 4 → AtX2 G h3 a q p3 → Fr (ft AX2 a q) h h3 → fZ p3 → prI (parS t) n (prJ (parS t) i n2 p3) = R → J l G mX2_searchParallels (jQ G mX2_searchParallels (jW oN (fun h' => AtX2 G h' a q R ∧ Fr (ft AX2 a q) h h'))) 0 0 11 [(3, vI j), (2, vI i), (0, .ref a), (1, vI t)] [] h3 := by
        intro n2
        induction n2 with
        | zero =>
          intro j p3 h3 hj hP hF hz hr
          obtain rfl : j = 4 := by omega
          refine j_iload_n 3 dX2_searchParallels_11 rfl rfl ?_
          refine J_iconst dX2_searchParallels_12 ?_
          refine J_icmp_ge 137 dX2_searchParallels_13 (by decide) (fun c13 => ?_) (fun c13 => absurd c13 (by omega)) 
          refine J_iinc (L' := [(2, _), (3, _), (0, _), (1, _)]) dX2_searchParallels_137 rfl rfl rfl ?_
          refine j_goto 2 dX2_searchParallels_140 (by decide) ?_
          exact j_locR (ih (i + 1) _ h3 (by omega) hP hF hz hr) (by repeat' (first | exact True.intro | refine And.intro rfl ?_))
        | succ n2 ih2 =>
          intro j p3 h3 hj hP hF hz hr
          rw [prJ_s] at hr
          have ej : (j : Int) = 3 - n2 := by omega
          rw [← ej] at hr
          have hzi := hz.2 i (by omega) (by omega)
          have hzj := hz.2 j (by omega) (by omega)
          refine j_iload_n 3 dX2_searchParallels_11 rfl rfl ?_
          refine J_iconst dX2_searchParallels_12 ?_
          refine J_icmp_ge 137 dX2_searchParallels_13 (by decide) (fun c13 => absurd c13 (by omega)) (fun c13 => ?_) 
          refine j_aload_n 0 dX2_searchParallels_16 rfl rfl ?_
          refine j_get fX2_31 dX2_searchParallels_17 hP.1 rfl ?_
          refine j_iload_n 2 dX2_searchParallels_20 rfl rfl ?_
          refine J_iald dX2_searchParallels_21 (hP.2.1 6 rfl) ?_ 
          refine J_if_eq 131 dX2_searchParallels_22 (by decide) (fun c22 => ?_) (fun c22 => ?_) 
          · refine J_iinc (L' := [(3, _), (2, _), (0, _), (1, _)]) dX2_searchParallels_131 rfl rfl rfl ?_
            refine j_goto 11 dX2_searchParallels_134 (by decide) ?_
            refine j_locR (ih2 (j + 1) (parS t p3 i j) _ (by omega) ?_ hF (fZ_par hz) hr) (by repeat' (first | exact True.intro | refine And.intro rfl ?_))
            unfold parS
            first | rw [if_pos ⟨by omega, by omega⟩, if_pos ⟨by omega, by omega⟩]; exact hP | rw [if_pos ⟨by omega, by omega⟩, if_neg (by omega), if_pos ⟨by omega, by omega⟩]; exact hP | rw [if_pos ⟨by omega, by omega⟩, if_neg (by omega), if_neg (by omega)]; exact hP | rw [if_neg (by omega)]; exact hP
          · refine j_aload_n 0 dX2_searchParallels_25 rfl rfl ?_
            refine j_get fX2_31 dX2_searchParallels_26 hP.1 rfl ?_
            refine j_iload_n 2 dX2_searchParallels_29 rfl rfl ?_
            refine J_iald dX2_searchParallels_30 (hP.2.1 6 rfl) ?_ 
            refine j_aload_n 0 dX2_searchParallels_31 rfl rfl ?_
            refine j_get fX2_31 dX2_searchParallels_32 hP.1 rfl ?_
            refine j_iload_n 3 dX2_searchParallels_35 rfl rfl ?_
            refine J_iald dX2_searchParallels_36 (hP.2.1 6 rfl) ?_ 
            refine J_icmp_ne 131 dX2_searchParallels_37 (by decide) (fun c37 => ?_) (fun c37 => ?_) 
            · refine J_iinc (L' := [(3, _), (2, _), (0, _), (1, _)]) dX2_searchParallels_131 rfl rfl rfl ?_
              refine j_goto 11 dX2_searchParallels_134 (by decide) ?_
              refine j_locR (ih2 (j + 1) (parS t p3 i j) _ (by omega) ?_ hF (fZ_par hz) hr) (by repeat' (first | exact True.intro | refine And.intro rfl ?_))
              unfold parS
              first | rw [if_pos ⟨by omega, by omega⟩, if_pos ⟨by omega, by omega⟩]; exact hP | rw [if_pos ⟨by omega, by omega⟩, if_neg (by omega), if_pos ⟨by omega, by omega⟩]; exact hP | rw [if_pos ⟨by omega, by omega⟩, if_neg (by omega), if_neg (by omega)]; exact hP | rw [if_neg (by omega)]; exact hP
            · refine j_aload_n 0 dX2_searchParallels_40 rfl rfl ?_
              refine j_get fX2_21 dX2_searchParallels_41 hP.1 rfl ?_
              refine j_iload_n 2 dX2_searchParallels_44 rfl rfl ?_
              refine J_iald dX2_searchParallels_45 (hP.2.1 3 rfl) ?_ 
              refine j_aload_n 0 dX2_searchParallels_46 rfl rfl ?_
              refine j_get fX2_21 dX2_searchParallels_47 hP.1 rfl ?_
              refine j_iload_n 3 dX2_searchParallels_50 rfl rfl ?_
              refine J_iald dX2_searchParallels_51 (hP.2.1 3 rfl) ?_ 
              refine J_isub dX2_searchParallels_52 ?_
              refine J_bipush dX2_searchParallels_53 (by decide) ?_
              refine J_callS1 kX2_93 csJ9_floorMod_7cf53 (c_J9_floorMod_7cf53 (by omega) (by decide) (by decide)) rfl rfl rfl rfl rfl dX2_searchParallels_55 rfl rfl ?_
              refine j_istore (L' := [(4, _), (3, _), (2, _), (0, _), (1, _)]) dX2_searchParallels_58 rfl rfl ?_
              refine j_aload_n 0 dX2_searchParallels_60 rfl rfl ?_
              refine j_get fX2_24 dX2_searchParallels_61 hP.1 rfl ?_
              refine j_iload_n 2 dX2_searchParallels_64 rfl rfl ?_
              refine J_iald dX2_searchParallels_65 (hP.2.1 4 rfl) ?_ 
              refine j_aload_n 0 dX2_searchParallels_66 rfl rfl ?_
              refine j_get fX2_24 dX2_searchParallels_67 hP.1 rfl ?_
              refine j_iload_n 3 dX2_searchParallels_70 rfl rfl ?_
              refine J_iald dX2_searchParallels_71 (hP.2.1 4 rfl) ?_ 
              refine J_isub dX2_searchParallels_72 ?_
              refine J_bipush dX2_searchParallels_73 (by decide) ?_
              refine J_callS1 kX2_93 csJ9_floorMod_7cf53 (c_J9_floorMod_7cf53 (by omega) (by decide) (by decide)) rfl rfl rfl rfl rfl dX2_searchParallels_75 rfl rfl ?_
              refine j_istore (L' := [(5, _), (4, _), (3, _), (2, _), (0, _), (1, _)]) dX2_searchParallels_78 rfl rfl ?_
              refine j_iload dX2_searchParallels_80 rfl ?_
              refine j_iload dX2_searchParallels_82 rfl ?_
              refine J_icmp_ne 108 dX2_searchParallels_84 (by decide) (fun c84 => ?_) (fun c84 => ?_) 
              · refine j_iload dX2_searchParallels_108 rfl ?_
                refine j_iload dX2_searchParallels_110 rfl ?_
                refine J_icmp_ne 131 dX2_searchParallels_112 (by decide) (fun c112 => ?_) (fun c112 => ?_) 
                · refine J_iinc (L' := [(3, _), (5, _), (4, _), (2, _), (0, _), (1, _)]) dX2_searchParallels_131 rfl rfl rfl ?_
                  refine j_goto 11 dX2_searchParallels_134 (by decide) ?_
                  refine j_locR (ih2 (j + 1) (parS t p3 i j) _ (by omega) ?_ hF (fZ_par hz) hr) (by repeat' (first | exact True.intro | refine And.intro rfl ?_))
                  unfold parS
                  first | rw [if_pos ⟨by omega, by omega⟩, if_pos ⟨by omega, by omega⟩]; exact hP | rw [if_pos ⟨by omega, by omega⟩, if_neg (by omega), if_pos ⟨by omega, by omega⟩]; exact hP | rw [if_pos ⟨by omega, by omega⟩, if_neg (by omega), if_neg (by omega)]; exact hP | rw [if_neg (by omega)]; exact hP
                · refine j_iload dX2_searchParallels_115 rfl ?_
                  refine J_if_ne 131 dX2_searchParallels_117 (by decide) (fun c117 => ?_) (fun c117 => ?_) 
                  · refine J_iinc (L' := [(3, _), (5, _), (4, _), (2, _), (0, _), (1, _)]) dX2_searchParallels_131 rfl rfl rfl ?_
                    refine j_goto 11 dX2_searchParallels_134 (by decide) ?_
                    refine j_locR (ih2 (j + 1) (parS t p3 i j) _ (by omega) ?_ hF (fZ_par hz) hr) (by repeat' (first | exact True.intro | refine And.intro rfl ?_))
                    unfold parS
                    first | rw [if_pos ⟨by omega, by omega⟩, if_pos ⟨by omega, by omega⟩]; exact hP | rw [if_pos ⟨by omega, by omega⟩, if_neg (by omega), if_pos ⟨by omega, by omega⟩]; exact hP | rw [if_pos ⟨by omega, by omega⟩, if_neg (by omega), if_neg (by omega)]; exact hP | rw [if_neg (by omega)]; exact hP
                  · refine j_aload_n 0 dX2_searchParallels_120 rfl rfl ?_
                    refine J_iconst dX2_searchParallels_121 ?_
                    refine j_iload_n 1 dX2_searchParallels_122 rfl rfl ?_
                    refine J_iconst dX2_searchParallels_123 ?_
                    refine j_iload_n 2 dX2_searchParallels_124 rfl rfl ?_
                    refine J_imul dX2_searchParallels_125 ?_
                    refine j_iload_n 3 dX2_searchParallels_126 rfl rfl ?_
                    refine J_iadd dX2_searchParallels_127 ?_
                    refine J_callVW0 kX2_98 cvX2_add hP.1 (c_X2_add hP hz.1) rfl rfl rfl rfl rfl dX2_searchParallels_128 rfl rfl (fun h hp => ?_)
                    obtain ⟨hP, hF9⟩ := hp
                    have hF := hF.tr hF9
                    refine J_iinc (L' := [(3, _), (5, _), (4, _), (2, _), (0, _), (1, _)]) dX2_searchParallels_131 rfl rfl rfl ?_
                    refine j_goto 11 dX2_searchParallels_134 (by decide) ?_
                    refine j_locR (ih2 (j + 1) (parS t p3 i j) _ (by omega) ?_ hF (fZ_par hz) hr) (by repeat' (first | exact True.intro | refine And.intro rfl ?_))
                    unfold parS
                    first | rw [if_pos ⟨by omega, by omega⟩, if_pos ⟨by omega, by omega⟩]; exact hP | rw [if_pos ⟨by omega, by omega⟩, if_neg (by omega), if_pos ⟨by omega, by omega⟩]; exact hP | rw [if_pos ⟨by omega, by omega⟩, if_neg (by omega), if_neg (by omega)]; exact hP | rw [if_neg (by omega)]; exact hP
              · refine j_iload dX2_searchParallels_87 rfl ?_
                refine J_bipush dX2_searchParallels_89 (by decide) ?_
                refine J_icmp_ne 108 dX2_searchParallels_91 (by decide) (fun c91 => ?_) (fun c91 => ?_) 
                · refine j_iload dX2_searchParallels_108 rfl ?_
                  refine j_iload dX2_searchParallels_110 rfl ?_
                  refine J_icmp_ne 131 dX2_searchParallels_112 (by decide) (fun c112 => ?_) (fun c112 => ?_) 
                  · refine J_iinc (L' := [(3, _), (5, _), (4, _), (2, _), (0, _), (1, _)]) dX2_searchParallels_131 rfl rfl rfl ?_
                    refine j_goto 11 dX2_searchParallels_134 (by decide) ?_
                    refine j_locR (ih2 (j + 1) (parS t p3 i j) _ (by omega) ?_ hF (fZ_par hz) hr) (by repeat' (first | exact True.intro | refine And.intro rfl ?_))
                    unfold parS
                    first | rw [if_pos ⟨by omega, by omega⟩, if_pos ⟨by omega, by omega⟩]; exact hP | rw [if_pos ⟨by omega, by omega⟩, if_neg (by omega), if_pos ⟨by omega, by omega⟩]; exact hP | rw [if_pos ⟨by omega, by omega⟩, if_neg (by omega), if_neg (by omega)]; exact hP | rw [if_neg (by omega)]; exact hP
                  · refine j_iload dX2_searchParallels_115 rfl ?_
                    refine J_if_ne 131 dX2_searchParallels_117 (by decide) (fun c117 => ?_) (fun c117 => ?_) 
                    · refine J_iinc (L' := [(3, _), (5, _), (4, _), (2, _), (0, _), (1, _)]) dX2_searchParallels_131 rfl rfl rfl ?_
                      refine j_goto 11 dX2_searchParallels_134 (by decide) ?_
                      refine j_locR (ih2 (j + 1) (parS t p3 i j) _ (by omega) ?_ hF (fZ_par hz) hr) (by repeat' (first | exact True.intro | refine And.intro rfl ?_))
                      unfold parS
                      first | rw [if_pos ⟨by omega, by omega⟩, if_pos ⟨by omega, by omega⟩]; exact hP | rw [if_pos ⟨by omega, by omega⟩, if_neg (by omega), if_pos ⟨by omega, by omega⟩]; exact hP | rw [if_pos ⟨by omega, by omega⟩, if_neg (by omega), if_neg (by omega)]; exact hP | rw [if_neg (by omega)]; exact hP
                    · refine j_aload_n 0 dX2_searchParallels_120 rfl rfl ?_
                      refine J_iconst dX2_searchParallels_121 ?_
                      refine j_iload_n 1 dX2_searchParallels_122 rfl rfl ?_
                      refine J_iconst dX2_searchParallels_123 ?_
                      refine j_iload_n 2 dX2_searchParallels_124 rfl rfl ?_
                      refine J_imul dX2_searchParallels_125 ?_
                      refine j_iload_n 3 dX2_searchParallels_126 rfl rfl ?_
                      refine J_iadd dX2_searchParallels_127 ?_
                      refine J_callVW0 kX2_98 cvX2_add hP.1 (c_X2_add hP hz.1) rfl rfl rfl rfl rfl dX2_searchParallels_128 rfl rfl (fun h hp => ?_)
                      obtain ⟨hP, hF9⟩ := hp
                      have hF := hF.tr hF9
                      refine J_iinc (L' := [(3, _), (5, _), (4, _), (2, _), (0, _), (1, _)]) dX2_searchParallels_131 rfl rfl rfl ?_
                      refine j_goto 11 dX2_searchParallels_134 (by decide) ?_
                      refine j_locR (ih2 (j + 1) (parS t p3 i j) _ (by omega) ?_ hF (fZ_par hz) hr) (by repeat' (first | exact True.intro | refine And.intro rfl ?_))
                      unfold parS
                      first | rw [if_pos ⟨by omega, by omega⟩, if_pos ⟨by omega, by omega⟩]; exact hP | rw [if_pos ⟨by omega, by omega⟩, if_neg (by omega), if_pos ⟨by omega, by omega⟩]; exact hP | rw [if_pos ⟨by omega, by omega⟩, if_neg (by omega), if_neg (by omega)]; exact hP | rw [if_neg (by omega)]; exact hP
                · refine j_aload_n 0 dX2_searchParallels_94 rfl rfl ?_
                  refine J_iconst dX2_searchParallels_95 ?_
                  refine j_iload_n 1 dX2_searchParallels_96 rfl rfl ?_
                  refine J_iconst dX2_searchParallels_97 ?_
                  refine j_iload_n 2 dX2_searchParallels_98 rfl rfl ?_
                  refine J_imul dX2_searchParallels_99 ?_
                  refine j_iload_n 3 dX2_searchParallels_100 rfl rfl ?_
                  refine J_iadd dX2_searchParallels_101 ?_
                  refine J_callVW0 kX2_98 cvX2_add hP.1 (c_X2_add hP hz.1) rfl rfl rfl rfl rfl dX2_searchParallels_102 rfl rfl (fun h hp => ?_)
                  obtain ⟨hP, hF9⟩ := hp
                  have hF := hF.tr hF9
                  refine j_goto 131 dX2_searchParallels_105 (by decide) ?_
                  refine J_iinc (L' := [(3, _), (5, _), (4, _), (2, _), (0, _), (1, _)]) dX2_searchParallels_131 rfl rfl rfl ?_
                  refine j_goto 11 dX2_searchParallels_134 (by decide) ?_
                  refine j_locR (ih2 (j + 1) (parS t p3 i j) _ (by omega) ?_ hF (fZ_par hz) hr) (by repeat' (first | exact True.intro | refine And.intro rfl ?_))
                  unfold parS
                  first | rw [if_pos ⟨by omega, by omega⟩, if_pos ⟨by omega, by omega⟩]; exact hP | rw [if_pos ⟨by omega, by omega⟩, if_neg (by omega), if_pos ⟨by omega, by omega⟩]; exact hP | rw [if_pos ⟨by omega, by omega⟩, if_neg (by omega), if_neg (by omega)]; exact hP | rw [if_neg (by omega)]; exact hP
      refine j_iload_n 2 dX2_searchParallels_2 rfl rfl ?_
      refine J_iconst dX2_searchParallels_3 ?_
      refine J_icmp_ge 143 dX2_searchParallels_4 (by decide) (fun c4 => absurd c4 (by omega)) (fun c4 => ?_) 
      refine j_iload_n 2 dX2_searchParallels_7 rfl rfl ?_
      refine J_iconst dX2_searchParallels_8 ?_
      refine J_iadd dX2_searchParallels_9 ?_
      refine j_istore_n 3 (L' := [(3, _), (2, _), (0, _), (1, _)]) dX2_searchParallels_10 rfl rfl rfl ?_
      rw [← ei] at hr
      exact inner n (i + 1) p2 _ (by omega) hP hF hz hr
  refine j_body (by decide +kernel) ⟨rfl, rfl⟩ rfl ?_
  refine J_iconst dX2_searchParallels_0 ?_
  refine j_istore_n 2 (L' := [(2, _), (0, _), (1, _)]) dX2_searchParallels_1 rfl rfl rfl ?_
  exact outer 4 0 p h (by omega) hP Fr.rf hz hR.symm
set_option maxRecDepth 100000 in
theorem c_X2_searchCrossings {l : Launch} {G : jG} {h : jH} {a : Nat} {q : Nat → Nat} {p : OS} {t : Int} (hP : AtX2 G h a q p) (hz : fZ p) : jC l G yX2_searchCrossings mX2_searchCrossings [.ref a, vI t] h (jW oN (fun h' => AtX2 G h' a q (prI (crsS t) 4 p) ∧ Fr (ft AX2 a q) h h')) := by
  obtain ⟨R, hR⟩ : ∃ R, R = prI (crsS t) 4 p := ⟨_, rfl⟩
  rw [← hR]
  have outer : ∀ (n i : Nat) (p2 : OS) (h2 : jH), i + n = 4 → AtX2 G h2 a q p2 → Fr (ft AX2 a q) h h2 → fZ p2 → prI (crsS t) n p2 = R → J l G mX2_searchCrossings (jQ G mX2_searchCrossings (jW oN (fun h' => AtX2 G h' a q R ∧ Fr (ft AX2 a q) h h'))) 0 0 2 [(2, vI i), (0, .ref a), (1, vI t)] [] h2 := by
    intro n
    induction n with
    | zero =>
      intro i p2 h2 hi hP hF hz hr
      obtain rfl : i = 4 := by omega
      refine j_iload_n 2 dX2_searchCrossings_2 rfl rfl ?_
      refine J_iconst dX2_searchCrossings_3 ?_
      refine J_icmp_ge 104 dX2_searchCrossings_4 (by decide) (fun c4 => ?_) (fun c4 => absurd c4 (by omega)) 
      refine j_vret rfl dX2_searchCrossings_104 ?_
      exact ⟨rfl, by rw [← hr]; exact hP, hF⟩
    | succ n ih =>
      intro i p2 h2 hi hP hF hz hr
      rw [prI_s] at hr
      have ei : (i : Int) = 3 - n := by omega
      have inner : ∀ (n2 j : Nat) (p3 : OS) (h3 : jH), j + n2 = 4 → AtX2 G h3 a q p3 → Fr (ft AX2 a q) h h3 → fZ p3 → prI (crsS t) n (prJ (crsS t) i n2 p3) = R → J l G mX2_searchCrossings (jQ G mX2_searchCrossings (jW oN (fun h' => AtX2 G h' a q R ∧ Fr (ft AX2 a q) h h'))) 0 0 11 [(3, vI j), (2, vI i), (0, .ref a), (1, vI t)] [] h3 := by
        intro n2
        induction n2 with
        | zero =>
          intro j p3 h3 hj hP hF hz hr
          obtain rfl : j = 4 := by omega
          refine j_iload_n 3 dX2_searchCrossings_11 rfl rfl ?_
          refine J_iconst dX2_searchCrossings_12 ?_
          refine J_icmp_ge 98 dX2_searchCrossings_13 (by decide) (fun c13 => ?_) (fun c13 => absurd c13 (by omega)) 
          refine J_iinc (L' := [(2, _), (3, _), (0, _), (1, _)]) dX2_searchCrossings_98 rfl rfl rfl ?_
          refine j_goto 2 dX2_searchCrossings_101 (by decide) ?_
          exact j_locR (ih (i + 1) _ h3 (by omega) hP hF hz hr) (by repeat' (first | exact True.intro | refine And.intro rfl ?_))
        | succ n2 ih2 =>
          intro j p3 h3 hj hP hF hz hr
          rw [prJ_s] at hr
          have ej : (j : Int) = 3 - n2 := by omega
          rw [← ej] at hr
          have hzi := hz.2 i (by omega) (by omega)
          have hzj := hz.2 j (by omega) (by omega)
          refine j_iload_n 3 dX2_searchCrossings_11 rfl rfl ?_
          refine J_iconst dX2_searchCrossings_12 ?_
          refine J_icmp_ge 98 dX2_searchCrossings_13 (by decide) (fun c13 => absurd c13 (by omega)) (fun c13 => ?_) 
          refine j_aload_n 0 dX2_searchCrossings_16 rfl rfl ?_
          refine j_get fX2_24 dX2_searchCrossings_17 hP.1 rfl ?_
          refine j_iload_n 2 dX2_searchCrossings_20 rfl rfl ?_
          refine J_iald dX2_searchCrossings_21 (hP.2.1 4 rfl) ?_ 
          refine J_iconst dX2_searchCrossings_22 ?_
          refine J_icmp_eq 40 dX2_searchCrossings_23 (by decide) (fun c23 => ?_) (fun c23 => ?_) 
          · refine J_iconst dX2_searchCrossings_40 ?_
            refine j_istore (L' := [(4, _), (3, _), (2, _), (0, _), (1, _)]) dX2_searchCrossings_41 rfl rfl ?_
            refine j_iload dX2_searchCrossings_43 rfl ?_
            refine J_if_eq 92 dX2_searchCrossings_45 (by decide) (fun c45 => ?_) (fun c45 => absurd c45 (by decide)) 
            refine J_iinc (L' := [(3, _), (4, _), (2, _), (0, _), (1, _)]) dX2_searchCrossings_92 rfl rfl rfl ?_
            refine j_goto 11 dX2_searchCrossings_95 (by decide) ?_
            refine j_locR (ih2 (j + 1) (crsS t p3 i j) _ (by omega) ?_ hF (fZ_crs hz) hr) (by repeat' (first | exact True.intro | refine And.intro rfl ?_))
            unfold crsS
            first | (rw [if_pos ⟨⟨by omega, by omega⟩, by omega, by omega⟩]; exact hP) | (rw [if_neg (by omega)]; exact hP)
          · refine j_aload_n 0 dX2_searchCrossings_26 rfl rfl ?_
            refine j_get fX2_24 dX2_searchCrossings_27 hP.1 rfl ?_
            refine j_iload_n 3 dX2_searchCrossings_30 rfl rfl ?_
            refine J_iald dX2_searchCrossings_31 (hP.2.1 4 rfl) ?_ 
            refine J_iconst dX2_searchCrossings_32 ?_
            refine J_icmp_eq 40 dX2_searchCrossings_33 (by decide) (fun c33 => ?_) (fun c33 => ?_) 
            · refine J_iconst dX2_searchCrossings_40 ?_
              refine j_istore (L' := [(4, _), (3, _), (2, _), (0, _), (1, _)]) dX2_searchCrossings_41 rfl rfl ?_
              refine j_iload dX2_searchCrossings_43 rfl ?_
              refine J_if_eq 92 dX2_searchCrossings_45 (by decide) (fun c45 => ?_) (fun c45 => absurd c45 (by decide)) 
              refine J_iinc (L' := [(3, _), (4, _), (2, _), (0, _), (1, _)]) dX2_searchCrossings_92 rfl rfl rfl ?_
              refine j_goto 11 dX2_searchCrossings_95 (by decide) ?_
              refine j_locR (ih2 (j + 1) (crsS t p3 i j) _ (by omega) ?_ hF (fZ_crs hz) hr) (by repeat' (first | exact True.intro | refine And.intro rfl ?_))
              unfold crsS
              first | (rw [if_pos ⟨⟨by omega, by omega⟩, by omega, by omega⟩]; exact hP) | (rw [if_neg (by omega)]; exact hP)
            · refine J_iconst dX2_searchCrossings_36 ?_
              refine j_goto 41 dX2_searchCrossings_37 (by decide) ?_
              refine j_istore (L' := [(4, _), (3, _), (2, _), (0, _), (1, _)]) dX2_searchCrossings_41 rfl rfl ?_
              refine j_iload dX2_searchCrossings_43 rfl ?_
              refine J_if_eq 92 dX2_searchCrossings_45 (by decide) (fun c45 => absurd c45 (by decide)) (fun c45 => ?_) 
              refine j_aload_n 0 dX2_searchCrossings_48 rfl rfl ?_
              refine j_get fX2_27 dX2_searchCrossings_49 hP.1 rfl ?_
              refine j_iload_n 2 dX2_searchCrossings_52 rfl rfl ?_
              refine J_zald dX2_searchCrossings_53 (hP.2.1 5 rfl) ?_ 
              refine J_if_ne 66 dX2_searchCrossings_54 (by decide) (fun c54 => ?_) (fun c54 => ?_) 
              · refine j_aload_n 0 dX2_searchCrossings_66 rfl rfl ?_
                refine j_get fX2_24 dX2_searchCrossings_67 hP.1 rfl ?_
                refine j_iload_n 2 dX2_searchCrossings_70 rfl rfl ?_
                refine J_iald dX2_searchCrossings_71 (hP.2.1 4 rfl) ?_ 
                refine j_aload_n 0 dX2_searchCrossings_72 rfl rfl ?_
                refine j_get fX2_24 dX2_searchCrossings_73 hP.1 rfl ?_
                refine j_iload_n 3 dX2_searchCrossings_76 rfl rfl ?_
                refine J_iald dX2_searchCrossings_77 (hP.2.1 4 rfl) ?_ 
                refine J_icmp_ge 92 dX2_searchCrossings_78 (by decide) (fun c78 => ?_) (fun c78 => ?_) 
                · refine J_iinc (L' := [(3, _), (4, _), (2, _), (0, _), (1, _)]) dX2_searchCrossings_92 rfl rfl rfl ?_
                  refine j_goto 11 dX2_searchCrossings_95 (by decide) ?_
                  refine j_locR (ih2 (j + 1) (crsS t p3 i j) _ (by omega) ?_ hF (fZ_crs hz) hr) (by repeat' (first | exact True.intro | refine And.intro rfl ?_))
                  unfold crsS
                  first | (rw [if_pos ⟨⟨by omega, by omega⟩, by omega, by omega⟩]; exact hP) | (rw [if_neg (by omega)]; exact hP)
                · refine j_aload_n 0 dX2_searchCrossings_81 rfl rfl ?_
                  refine J_iconst dX2_searchCrossings_82 ?_
                  refine j_iload_n 1 dX2_searchCrossings_83 rfl rfl ?_
                  refine J_iconst dX2_searchCrossings_84 ?_
                  refine j_iload_n 2 dX2_searchCrossings_85 rfl rfl ?_
                  refine J_imul dX2_searchCrossings_86 ?_
                  refine j_iload_n 3 dX2_searchCrossings_87 rfl rfl ?_
                  refine J_iadd dX2_searchCrossings_88 ?_
                  refine J_callVW0 kX2_98 cvX2_add hP.1 (c_X2_add hP hz.1) rfl rfl rfl rfl rfl dX2_searchCrossings_89 rfl rfl (fun h hp => ?_)
                  obtain ⟨hP, hF9⟩ := hp
                  have hF := hF.tr hF9
                  refine J_iinc (L' := [(3, _), (4, _), (2, _), (0, _), (1, _)]) dX2_searchCrossings_92 rfl rfl rfl ?_
                  refine j_goto 11 dX2_searchCrossings_95 (by decide) ?_
                  refine j_locR (ih2 (j + 1) (crsS t p3 i j) _ (by omega) ?_ hF (fZ_crs hz) hr) (by repeat' (first | exact True.intro | refine And.intro rfl ?_))
                  unfold crsS
                  first | (rw [if_pos ⟨⟨by omega, by omega⟩, by omega, by omega⟩]; exact hP) | (rw [if_neg (by omega)]; exact hP)
              · refine j_aload_n 0 dX2_searchCrossings_57 rfl rfl ?_
                refine j_get fX2_27 dX2_searchCrossings_58 hP.1 rfl ?_
                refine j_iload_n 3 dX2_searchCrossings_61 rfl rfl ?_
                refine J_zald dX2_searchCrossings_62 (hP.2.1 5 rfl) ?_ 
                refine J_if_eq 92 dX2_searchCrossings_63 (by decide) (fun c63 => ?_) (fun c63 => ?_) 
                · refine J_iinc (L' := [(3, _), (4, _), (2, _), (0, _), (1, _)]) dX2_searchCrossings_92 rfl rfl rfl ?_
                  refine j_goto 11 dX2_searchCrossings_95 (by decide) ?_
                  refine j_locR (ih2 (j + 1) (crsS t p3 i j) _ (by omega) ?_ hF (fZ_crs hz) hr) (by repeat' (first | exact True.intro | refine And.intro rfl ?_))
                  unfold crsS
                  first | (rw [if_pos ⟨⟨by omega, by omega⟩, by omega, by omega⟩]; exact hP) | (rw [if_neg (by omega)]; exact hP)
                · refine j_aload_n 0 dX2_searchCrossings_66 rfl rfl ?_
                  refine j_get fX2_24 dX2_searchCrossings_67 hP.1 rfl ?_
                  refine j_iload_n 2 dX2_searchCrossings_70 rfl rfl ?_
                  refine J_iald dX2_searchCrossings_71 (hP.2.1 4 rfl) ?_ 
                  refine j_aload_n 0 dX2_searchCrossings_72 rfl rfl ?_
                  refine j_get fX2_24 dX2_searchCrossings_73 hP.1 rfl ?_
                  refine j_iload_n 3 dX2_searchCrossings_76 rfl rfl ?_
                  refine J_iald dX2_searchCrossings_77 (hP.2.1 4 rfl) ?_ 
                  refine J_icmp_ge 92 dX2_searchCrossings_78 (by decide) (fun c78 => ?_) (fun c78 => ?_) 
                  · refine J_iinc (L' := [(3, _), (4, _), (2, _), (0, _), (1, _)]) dX2_searchCrossings_92 rfl rfl rfl ?_
                    refine j_goto 11 dX2_searchCrossings_95 (by decide) ?_
                    refine j_locR (ih2 (j + 1) (crsS t p3 i j) _ (by omega) ?_ hF (fZ_crs hz) hr) (by repeat' (first | exact True.intro | refine And.intro rfl ?_))
                    unfold crsS
                    first | (rw [if_pos ⟨⟨by omega, by omega⟩, by omega, by omega⟩]; exact hP) | (rw [if_neg (by omega)]; exact hP)
                  · refine j_aload_n 0 dX2_searchCrossings_81 rfl rfl ?_
                    refine J_iconst dX2_searchCrossings_82 ?_
                    refine j_iload_n 1 dX2_searchCrossings_83 rfl rfl ?_
                    refine J_iconst dX2_searchCrossings_84 ?_
                    refine j_iload_n 2 dX2_searchCrossings_85 rfl rfl ?_
                    refine J_imul dX2_searchCrossings_86 ?_
                    refine j_iload_n 3 dX2_searchCrossings_87 rfl rfl ?_
                    refine J_iadd dX2_searchCrossings_88 ?_
                    refine J_callVW0 kX2_98 cvX2_add hP.1 (c_X2_add hP hz.1) rfl rfl rfl rfl rfl dX2_searchCrossings_89 rfl rfl (fun h hp => ?_)
                    obtain ⟨hP, hF9⟩ := hp
                    have hF := hF.tr hF9
                    refine J_iinc (L' := [(3, _), (4, _), (2, _), (0, _), (1, _)]) dX2_searchCrossings_92 rfl rfl rfl ?_
                    refine j_goto 11 dX2_searchCrossings_95 (by decide) ?_
                    refine j_locR (ih2 (j + 1) (crsS t p3 i j) _ (by omega) ?_ hF (fZ_crs hz) hr) (by repeat' (first | exact True.intro | refine And.intro rfl ?_))
                    unfold crsS
                    first | (rw [if_pos ⟨⟨by omega, by omega⟩, by omega, by omega⟩]; exact hP) | (rw [if_neg (by omega)]; exact hP)
      refine j_iload_n 2 dX2_searchCrossings_2 rfl rfl ?_
      refine J_iconst dX2_searchCrossings_3 ?_
      refine J_icmp_ge 104 dX2_searchCrossings_4 (by decide) (fun c4 => absurd c4 (by omega)) (fun c4 => ?_) 
      refine j_iload_n 2 dX2_searchCrossings_7 rfl rfl ?_
      refine J_iconst dX2_searchCrossings_8 ?_
      refine J_iadd dX2_searchCrossings_9 ?_
      refine j_istore_n 3 (L' := [(3, _), (2, _), (0, _), (1, _)]) dX2_searchCrossings_10 rfl rfl rfl ?_
      rw [← ei] at hr
      exact inner n (i + 1) p2 _ (by omega) hP hF hz hr
  refine j_body (by decide +kernel) ⟨rfl, rfl⟩ rfl ?_
  refine J_iconst dX2_searchCrossings_0 ?_
  refine j_istore_n 2 (L' := [(2, _), (0, _), (1, _)]) dX2_searchCrossings_1 rfl rfl rfl ?_
  exact outer 4 0 p h (by omega) hP Fr.rf hz hR.symm
