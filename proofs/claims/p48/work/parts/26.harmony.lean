/-! the four parts together -/
def PartsAt (G : jG) (h : jH) (pa : Nat) (pad : Nat → Nat) (pq : Nat → Nat → Nat) (P : Nat → OS) : Prop :=
  (∃ F : Nat → Option Nat, h pa = some (aR G 3 4 F) ∧ ∀ k : Nat, k < 4 → F k = some (pad k)) ∧ ∀ k : Nat, k < 4 → AtX6 G h (pad k) (pq k) (P k)
def ftP (pa : Nat) (pad : Nat → Nat) (pq : Nat → Nat → Nat) : Nat → Prop := fun b => b = pa ∨ ∃ k : Nat, k < 4 ∧ ft AX6 (pad k) (pq k) b
theorem PartsAt.keep {G : jG} {h h' : jH} {pa : Nat} {pad : Nat → Nat} {pq : Nat → Nat → Nat} {P : Nat → OS} {S : Nat → Prop} (hP : PartsAt G h pa pad pq P) (hF : Fr S h h') (hd : ∀ b, ftP pa pad pq b → ¬ S b) : PartsAt G h' pa pad pq P := by
  obtain ⟨⟨F, h1, h2⟩, h3⟩ := hP
  exact ⟨⟨F, (hF pa (hd pa (Or.inl rfl))).trans h1, h2⟩, fun k hk => (h3 k hk).keep hF (fun b hb => hd b (Or.inr ⟨k, hk, hb⟩))⟩
/-- numbers of the parts that are small enough -/
def PsZ (P : Nat → OS) : Prop := ∀ k : Nat, k < 4 → pN (P k) ∧ eA (P k) ∧ pZ (P k)
/-! Arrays.fill -/
theorem hset_hset (h : jH) (a : Nat) (e e' : va_E) : hset (hset h a e) a e' = hset h a e' := by
  funext q
  unfold hset
  by_cases c : q = a
  · simp [c]
  · simp [c]
theorem hset_id {h : jH} {a : Nat} {e : va_E} (ha : h a = some e) : hset h a e = h := by
  funext q
  unfold hset
  by_cases c : q = a
  · subst c; simp [ha]
  · simp [c]
set_option maxRecDepth 100000 in
theorem c_J7_fill_53178 {l : Launch} {G : jG} {h : jH} {a N : Nat} {F : Int → Int} {v : Int} (ha : h a = some (ai G N F)) (hN : N < 100000) : jC l G yJ7_fill_53178 mJ7_fill_53178 [.ref a, vI v] h (jW oN (fun h' => h' = hset h a (ai G N (rng F 0 N v)))) := by
  have loop : ∀ (n : Nat) (i : Int), i + n = N → 0 ≤ i → J l G mJ7_fill_53178 (jQ G mJ7_fill_53178 (jW oN (fun h' => h' = hset h a (ai G N (rng F 0 N v))))) 0 0 5 [(3, vI N), (2, vI i), (0, .ref a), (1, vI v)] [] (hset h a (ai G N (rng F 0 i v))) := by
    intro n
    induction n with
    | zero =>
      intro i hi h0
      obtain rfl : i = N := by omega
      refine j_iload_n 2 dJ7_fill_53178_5 rfl rfl ?_
      refine j_iload_n 3 dJ7_fill_53178_6 rfl rfl ?_
      refine J_icmp_ge 20 dJ7_fill_53178_7 (by decide) (fun c7 => ?_) (fun c7 => absurd c7 (by omega)) 
      refine j_vret rfl dJ7_fill_53178_20 ?_
      exact ⟨rfl, rfl⟩
    | succ n ih =>
      intro i hi h0
      refine j_iload_n 2 dJ7_fill_53178_5 rfl rfl ?_
      refine j_iload_n 3 dJ7_fill_53178_6 rfl rfl ?_
      refine J_icmp_ge 20 dJ7_fill_53178_7 (by decide) (fun c7 => absurd c7 (by omega)) (fun c7 => ?_) 
      refine j_aload_n 0 dJ7_fill_53178_10 rfl rfl ?_
      refine j_iload_n 2 dJ7_fill_53178_11 rfl rfl ?_
      refine j_iload_n 1 dJ7_fill_53178_12 rfl rfl ?_
      refine J_iast dJ7_fill_53178_13 (hset_s _ _ _) ?_ 
      refine J_iinc (L' := [(2, _), (3, _), (0, _), (1, _)]) dJ7_fill_53178_14 rfl rfl rfl ?_
      refine j_goto 5 dJ7_fill_53178_17 (by decide) ?_
      rw [rng_s F h0, hset_hset]
      exact j_locR (ih (i + 1) (by omega) (by omega)) (by repeat' (first | exact True.intro | refine And.intro rfl ?_))
  refine j_bodyF (by decide +kernel) ⟨rfl, rfl⟩ rfl ?_
  refine J_iconst dJ7_fill_53178_0 ?_
  refine j_istore_n 2 (L' := [(2, _), (0, _), (1, _)]) dJ7_fill_53178_1 rfl rfl rfl ?_
  refine j_aload_n 0 dJ7_fill_53178_2 rfl rfl ?_
  refine J_alen dJ7_fill_53178_3 ha ?_
  refine j_istore_n 3 (L' := [(3, _), (2, _), (0, _), (1, _)]) dJ7_fill_53178_4 rfl rfl rfl ?_
  have := loop N 0 (by omega) (by omega)
  rw [rng_0, hset_id ha] at this
  exact this
/-! ChoraleDesk.Harmony: 0 ticks, 1 eventsThen, 2 begun; 3 count -/
abbrev oX3 : oO := fun q p => (3, [.ref (q 0), .ref (q 1), .ref (q 2), vI (p.1 3)])
def caX3 (G : jG) : oC := fun k F => match k with
  | 0 => ai G 512 F
  | 1 => ai G 2048 F
  | _ => ai G 4 F
abbrev AX3 : Nat → Bool := fun k => Nat.blt k 3
abbrev AtX3 (G : jG) (h : jH) (a : Nat) (q : Nat → Nat) (p : OS) : Prop := At oX3 (caX3 G) AX3 h a q p
/-- the next tick at which an event begins, among the first parts -/
def nbF (P : Nat → OS) (bg : Int → Int) : Nat → Int
  | 0 => -1
  | k + 1 => if inP (P k) (bg k) then (if nbF P bg k = -1 then (P k).2 3 (bg k) else min (nbF P bg k) ((P k).2 3 (bg k))) else nbF P bg k
theorem nbF_s (P : Nat → OS) (bg : Int → Int) (k : Nat) : nbF P bg (k + 1) = if inP (P k) (bg k) then (if nbF P bg k = -1 then (P k).2 3 (bg k) else min (nbF P bg k) ((P k).2 3 (bg k))) else nbF P bg k := rfl
def egN (p : OS) (b t : Int) : Int := if inP p b ∧ p.2 3 b = t then b + 1 else b
def egE (p : OS) (b t : Int) : Int := if inP p (b - 1) ∧ t < p.2 3 (b - 1) + p.2 4 (b - 1) then b - 1 else -1
/-- one moment (number m, at t), the first parts -/
def lisK (P : Nat → OS) (t m : Int) (p : OS) : Nat → OS
  | 0 => p
  | k + 1 => oA (oA (lisK P t m p k) 2 (upI ((lisK P t m p k).2 2) k (egN (P k) ((lisK P t m p k).2 2 k) t))) 1 (upI ((lisK P t m p k).2 1) (m * 4 + k) (egE (P k) (egN (P k) ((lisK P t m p k).2 2 k) t) t))
/-- all moments from m on, at most n -/
def lisM (P : Nat → OS) : Nat → Int → OS → OS
  | 0, _, p => p
  | n + 1, m, p => if nbF P (p.2 2) 4 = -1 then p else lisM P n (m + 1) (lisK P (nbF P (p.2 2) 4) m (oU (oA p 0 (upI (p.2 0) m (nbF P (p.2 2) 4))) 3 (m + 1)) 4)
def listenP (P : Nat → OS) (p : OS) : OS := lisM P 512 0 (oU (oA p 2 (rng (p.2 2) 0 4 0)) 3 0)
def hN (p : OS) : Prop := 0 ≤ p.1 3 ∧ p.1 3 ≤ 512
theorem upI_id (F : Int → Int) (k : Int) : upI F k (F k) = F := by
  funext j
  unfold upI
  by_cases c : j = k
  · subst c; simp
  · simp [c]
theorem nbF_rg {P : Nat → OS} {bg : Int → Int} (hZ : PsZ P) : ∀ k : Nat, k ≤ 4 → -1 ≤ nbF P bg k ∧ nbF P bg k ≤ 20000
  | 0, _ => by simp [nbF]
  | k + 1, h => by
    have ih := nbF_rg (bg := bg) hZ k (by omega)
    unfold nbF
    split
    · rename_i c
      have hz := (hZ k (by omega)).2.1 (bg k) c.1 c.2
      have := hz.2.2.2.1
      split <;> omega
    · exact ih
set_option maxRecDepth 100000 in
theorem c_X3_size {l : Launch} {G : jG} {h : jH} {a : Nat} {q : Nat → Nat} {p : OS} (hP : AtX3 G h a q p) : jC l G yX3_size mX3_size [.ref a] h (jE (oI (p.1 3)) h) := by
  refine j_body (by decide +kernel) ⟨rfl, rfl⟩ rfl ?_
  refine j_aload_n 0 dX3_size_0 rfl rfl ?_
  refine j_get fX3_21 dX3_size_1 hP.1 rfl ?_
  refine j_iret rfl dX3_size_4 ⟨oIe ?_, rfl⟩
  (first | omega | (simp only [bI]; (repeat' split) <;> omega))
set_option maxRecDepth 100000 in
theorem c_X3_has {l : Launch} {G : jG} {h : jH} {a : Nat} {q : Nat → Nat} {p : OS}{m : Int} (hP : AtX3 G h a q p) (hn : hN p) (hm : rg m) : jC l G yX3_has mX3_has [.ref a, vI m] h (jE (oI (bI (0 ≤ m ∧ m < p.1 3))) h) := by
  refine j_body (by decide +kernel) ⟨rfl, rfl⟩ rfl ?_
  unfold hN at hn
  refine j_iload_n 1 dX3_has_0 rfl rfl ?_
  refine J_if_lt 23 dX3_has_1 (by decide) (fun c1 => ?_) (fun c1 => ?_) 
  · refine J_iconst dX3_has_23 ?_
    refine j_zret rfl rfl dX3_has_24 ⟨oIe ?_, rfl⟩
    (first | omega | (simp only [bI]; (repeat' split) <;> omega))
  · refine j_iload_n 1 dX3_has_4 rfl rfl ?_
    refine j_aload_n 0 dX3_has_5 rfl rfl ?_
    refine j_get fX3_21 dX3_has_6 hP.1 rfl ?_
    refine J_icmp_ge 23 dX3_has_9 (by decide) (fun c9 => ?_) (fun c9 => ?_) 
    · refine J_iconst dX3_has_23 ?_
      refine j_zret rfl rfl dX3_has_24 ⟨oIe ?_, rfl⟩
      (first | omega | (simp only [bI]; (repeat' split) <;> omega))
    · refine j_iload_n 1 dX3_has_12 rfl rfl ?_
      refine J_sipush dX3_has_13 (by decide) ?_
      refine J_icmp_ge 23 dX3_has_16 (by decide) (fun c16 => ?_) (fun c16 => ?_) 
      · refine J_iconst dX3_has_23 ?_
        refine j_zret rfl rfl dX3_has_24 ⟨oIe ?_, rfl⟩
        (first | omega | (simp only [bI]; (repeat' split) <;> omega))
      · refine J_iconst dX3_has_19 ?_
        refine j_goto 24 dX3_has_20 (by decide) ?_
        refine j_zret rfl rfl dX3_has_24 ⟨oIe ?_, rfl⟩
        (first | omega | (simp only [bI]; (repeat' split) <;> omega))
set_option maxRecDepth 100000 in
theorem c_X3_tickAt {l : Launch} {G : jG} {h : jH} {a : Nat} {q : Nat → Nat} {p : OS}{m : Int} (hP : AtX3 G h a q p) (hn : hN p) (hm : rg m) : jC l G yX3_tickAt mX3_tickAt [.ref a, vI m] h (jE (oI (if 0 ≤ m ∧ m < p.1 3 then p.2 0 m else -1)) h) := by
  refine j_body (by decide +kernel) ⟨rfl, rfl⟩ rfl ?_
  have hn2 : 0 ≤ p.1 3 ∧ p.1 3 ≤ 512 := hn
  refine j_aload_n 0 dX3_tickAt_0 rfl rfl ?_
  refine j_iload_n 1 dX3_tickAt_1 rfl rfl ?_
  refine J_callVZ kX3_25 cvX3_has hP.1 (c_X3_has hP hn hm) rfl rfl rfl rfl rfl dX3_tickAt_2 rfl rfl (fun z2 => ?_) (fun z2 => ?_)
  · refine J_if_eq 17 dX3_tickAt_5 (by decide) (fun c5 => absurd c5 (by decide)) (fun c5 => ?_) 
    refine j_aload_n 0 dX3_tickAt_8 rfl rfl ?_
    refine j_get fX3_9 dX3_tickAt_9 hP.1 rfl ?_
    refine j_iload_n 1 dX3_tickAt_12 rfl rfl ?_
    refine J_iald dX3_tickAt_13 (hP.2.1 0 rfl) ?_ 
    refine j_goto 18 dX3_tickAt_14 (by decide) ?_
    refine j_iret rfl dX3_tickAt_18 ⟨oIe ?_, rfl⟩
    (first | omega | (simp only [bI]; (repeat' split) <;> omega))
  · refine J_if_eq 17 dX3_tickAt_5 (by decide) (fun c5 => ?_) (fun c5 => absurd c5 (by decide)) 
    refine J_iconst dX3_tickAt_17 ?_
    refine j_iret rfl dX3_tickAt_18 ⟨oIe ?_, rfl⟩
    (first | omega | (simp only [bI]; (repeat' split) <;> omega))
set_option maxRecDepth 100000 in
theorem c_X3_eventAt {l : Launch} {G : jG} {h : jH} {a : Nat} {q : Nat → Nat} {p : OS}{m k : Int} (hP : AtX3 G h a q p) (hn : hN p) (hm : rg m) (hk : rg k) : jC l G yX3_eventAt mX3_eventAt [.ref a, vI m, vI k] h (jE (oI (if (0 ≤ m ∧ m < p.1 3) ∧ 0 ≤ k ∧ k < 4 then p.2 1 (m * 4 + k) else -1)) h) := by
  refine j_body (by decide +kernel) ⟨rfl, rfl⟩ rfl ?_
  have hn2 : 0 ≤ p.1 3 ∧ p.1 3 ≤ 512 := hn
  refine j_aload_n 0 dX3_eventAt_0 rfl rfl ?_
  refine j_iload_n 1 dX3_eventAt_1 rfl rfl ?_
  refine J_callVZ kX3_25 cvX3_has hP.1 (c_X3_has hP hn hm) rfl rfl rfl rfl rfl dX3_eventAt_2 rfl rfl (fun z2 => ?_) (fun z2 => ?_)
  · refine J_if_eq 30 dX3_eventAt_5 (by decide) (fun c5 => absurd c5 (by decide)) (fun c5 => ?_) 
    refine j_iload_n 2 dX3_eventAt_8 rfl rfl ?_
    refine J_if_lt 30 dX3_eventAt_9 (by decide) (fun c9 => ?_) (fun c9 => ?_) 
    · refine J_iconst dX3_eventAt_30 ?_
      refine j_iret rfl dX3_eventAt_31 ⟨oIe ?_, rfl⟩
      (first | omega | (simp only [bI]; (repeat' split) <;> omega))
    · refine j_iload_n 2 dX3_eventAt_12 rfl rfl ?_
      refine J_iconst dX3_eventAt_13 ?_
      refine J_icmp_ge 30 dX3_eventAt_14 (by decide) (fun c14 => ?_) (fun c14 => ?_) 
      · refine J_iconst dX3_eventAt_30 ?_
        refine j_iret rfl dX3_eventAt_31 ⟨oIe ?_, rfl⟩
        (first | omega | (simp only [bI]; (repeat' split) <;> omega))
      · refine j_aload_n 0 dX3_eventAt_17 rfl rfl ?_
        refine j_get fX3_15 dX3_eventAt_18 hP.1 rfl ?_
        refine j_iload_n 1 dX3_eventAt_21 rfl rfl ?_
        refine J_iconst dX3_eventAt_22 ?_
        refine J_imul dX3_eventAt_23 ?_
        refine j_iload_n 2 dX3_eventAt_24 rfl rfl ?_
        refine J_iadd dX3_eventAt_25 ?_
        refine J_iald dX3_eventAt_26 (hP.2.1 1 rfl) ?_ 
        refine j_goto 31 dX3_eventAt_27 (by decide) ?_
        refine j_iret rfl dX3_eventAt_31 ⟨oIe ?_, rfl⟩
        (first | omega | (simp only [bI]; (repeat' split) <;> omega))
  · refine J_if_eq 30 dX3_eventAt_5 (by decide) (fun c5 => ?_) (fun c5 => absurd c5 (by decide)) 
    refine J_iconst dX3_eventAt_30 ?_
    refine j_iret rfl dX3_eventAt_31 ⟨oIe ?_, rfl⟩
    (first | omega | (simp only [bI]; (repeat' split) <;> omega))
set_option maxRecDepth 100000 in
theorem c_X3_nextBegin {l : Launch} {G : jG} {h : jH} {a : Nat} {q : Nat → Nat} {p : OS} {pa : Nat} {pad : Nat → Nat} {pq : Nat → Nat → Nat} {P : Nat → OS} (hP : AtX3 G h a q p) (hPs : PartsAt G h pa pad pq P) (hZ : PsZ P) (hb : ∀ k : Nat, k < 4 → 0 ≤ p.2 2 k ∧ p.2 2 k ≤ 512) : jC l G yX3_nextBegin mX3_nextBegin [.ref a, .ref pa] h (jE (oI (nbF P (p.2 2) 4)) h) := by
  obtain ⟨⟨F, hpa, hF4⟩, hP6⟩ := hPs
  have loop : ∀ (n k : Nat), k + n = 4 → J l G mX3_nextBegin (jQ G mX3_nextBegin (jE (oI (nbF P (p.2 2) 4)) h)) 0 0 4 [(3, vI k), (2, vI (nbF P (p.2 2) k)), (0, .ref a), (1, .ref pa)] [] h := by
    intro n
    induction n with
    | zero =>
      intro k hk
      obtain rfl : k = 4 := by omega
      refine j_iload_n 3 dX3_nextBegin_4 rfl rfl ?_
      refine j_aload_n 1 dX3_nextBegin_5 rfl rfl ?_
      refine J_alenq 3 dX3_nextBegin_6 hpa rfl ?_
      refine J_icmp_ge 67 dX3_nextBegin_7 (by decide) (fun c7 => ?_) (fun c7 => absurd c7 (by omega)) 
      refine j_iload_n 2 dX3_nextBegin_67 rfl rfl ?_
      refine j_iret rfl dX3_nextBegin_68 ⟨oIe ?_, rfl⟩
      rfl
    | succ n ih =>
      intro k hk
      have hk4 : k < 4 := by omega
      have hbk := hb k hk4
      have hPk := hP6 k hk4
      have hnk := (hZ k hk4).1
      have hzk := (hZ k hk4).2.1
      have hnr := nbF_rg (bg := p.2 2) hZ k (by omega)
      have hFk : F ((k : Int)).toNat = some (pad k) := by rw [Int.toNat_natCast]; exact hF4 k hk4
      have back : ∀ x : Int, nbF P (p.2 2) (k + 1) = x → J l G mX3_nextBegin (jQ G mX3_nextBegin (jE (oI (nbF P (p.2 2) 4)) h)) 0 0 4 [(3, vI ((k : Int) + 1)), (2, vI x), (0, .ref a), (1, .ref pa)] [] h := by
        intro x hx
        have := ih (k + 1) (by omega)
        rw [hx] at this
        exact this
      refine j_iload_n 3 dX3_nextBegin_4 rfl rfl ?_
      refine j_aload_n 1 dX3_nextBegin_5 rfl rfl ?_
      refine J_alenq 3 dX3_nextBegin_6 hpa rfl ?_
      refine J_icmp_ge 67 dX3_nextBegin_7 (by decide) (fun c7 => absurd c7 (by omega)) (fun c7 => ?_) 
      refine j_iload_n 3 dX3_nextBegin_10 rfl rfl ?_
      refine J_iconst dX3_nextBegin_11 ?_
      refine J_icmp_ge 67 dX3_nextBegin_12 (by decide) (fun c12 => absurd c12 (by omega)) (fun c12 => ?_) 
      refine j_aload_n 0 dX3_nextBegin_15 rfl rfl ?_
      refine j_get fX3_18 dX3_nextBegin_16 hP.1 rfl ?_
      refine j_iload_n 3 dX3_nextBegin_19 rfl rfl ?_
      refine J_iald dX3_nextBegin_20 (hP.2.1 2 rfl) ?_ 
      refine j_istore (L' := [(4, _), (3, _), (2, _), (0, _), (1, _)]) dX3_nextBegin_21 rfl rfl ?_
      refine j_aload_n 1 dX3_nextBegin_23 rfl rfl ?_
      refine j_iload_n 3 dX3_nextBegin_24 rfl rfl ?_
      refine J_qald dX3_nextBegin_25 hpa hFk ?_ 
      refine j_iload dX3_nextBegin_26 rfl ?_
      refine J_callVZ kX3_43 cvX6_has hPk.1 (c_X6_has hPk hnk (by omega)) rfl rfl rfl rfl rfl dX3_nextBegin_28 rfl rfl (fun z28 => ?_) (fun z28 => ?_)
      · refine J_if_eq 61 dX3_nextBegin_31 (by decide) (fun c31 => absurd c31 (by decide)) (fun c31 => ?_) 
        refine j_aload_n 1 dX3_nextBegin_34 rfl rfl ?_
        refine j_iload_n 3 dX3_nextBegin_35 rfl rfl ?_
        refine J_qald dX3_nextBegin_36 hpa hFk ?_ 
        refine j_iload dX3_nextBegin_37 rfl ?_
        refine J_callV1 kX3_46 cvX6_beginAt hPk.1 (c_X6_beginAt hPk hnk (by omega)) rfl rfl rfl rfl rfl dX3_nextBegin_39 rfl rfl ?_
        refine J_top ((P k).2 3 (p.2 2 k)) ?_ (by rw [if_pos z28])
        have hz9 := (hzk _ z28.1 z28.2).2.2.2.1
        refine j_istore (L' := [(5, _), (4, _), (3, _), (2, _), (0, _), (1, _)]) dX3_nextBegin_42 rfl rfl ?_
        refine j_iload_n 2 dX3_nextBegin_44 rfl rfl ?_
        refine J_iconst dX3_nextBegin_45 ?_
        refine J_icmp_ne 54 dX3_nextBegin_46 (by decide) (fun c46 => ?_) (fun c46 => ?_) 
        · refine j_iload_n 2 dX3_nextBegin_54 rfl rfl ?_
          refine j_iload dX3_nextBegin_55 rfl ?_
          refine J_mmin kX3_50 rfl rfl dX3_nextBegin_57 ?_ 
          refine j_istore_n 2 (L' := [(2, _), (5, _), (4, _), (3, _), (0, _), (1, _)]) dX3_nextBegin_60 rfl rfl rfl ?_
          refine J_iinc (L' := [(3, _), (2, _), (5, _), (4, _), (0, _), (1, _)]) dX3_nextBegin_61 rfl rfl rfl ?_
          refine j_goto 4 dX3_nextBegin_64 (by decide) ?_
          refine j_locR (back _ ?_) (by repeat' (first | exact True.intro | refine And.intro rfl ?_))
          first | rw [nbF_s, if_neg z28] | rw [nbF_s, if_pos z28, if_pos c46] | rw [nbF_s, if_pos z28, if_neg c46]
        · refine j_iload dX3_nextBegin_49 rfl ?_
          refine j_goto 60 dX3_nextBegin_51 (by decide) ?_
          refine j_istore_n 2 (L' := [(2, _), (5, _), (4, _), (3, _), (0, _), (1, _)]) dX3_nextBegin_60 rfl rfl rfl ?_
          refine J_iinc (L' := [(3, _), (2, _), (5, _), (4, _), (0, _), (1, _)]) dX3_nextBegin_61 rfl rfl rfl ?_
          refine j_goto 4 dX3_nextBegin_64 (by decide) ?_
          refine j_locR (back _ ?_) (by repeat' (first | exact True.intro | refine And.intro rfl ?_))
          first | rw [nbF_s, if_neg z28] | rw [nbF_s, if_pos z28, if_pos c46] | rw [nbF_s, if_pos z28, if_neg c46]
      · refine J_if_eq 61 dX3_nextBegin_31 (by decide) (fun c31 => ?_) (fun c31 => absurd c31 (by decide)) 
        refine J_iinc (L' := [(3, _), (4, _), (2, _), (0, _), (1, _)]) dX3_nextBegin_61 rfl rfl rfl ?_
        refine j_goto 4 dX3_nextBegin_64 (by decide) ?_
        refine j_locR (back _ ?_) (by repeat' (first | exact True.intro | refine And.intro rfl ?_))
        first | rw [nbF_s, if_neg z28] | rw [nbF_s, if_pos z28, if_pos c46] | rw [nbF_s, if_pos z28, if_neg c46]
  refine j_body (by decide +kernel) ⟨rfl, rfl⟩ rfl ?_
  refine J_iconst dX3_nextBegin_0 ?_
  refine j_istore_n 2 (L' := [(2, _), (0, _), (1, _)]) dX3_nextBegin_1 rfl rfl rfl ?_
  refine J_iconst dX3_nextBegin_2 ?_
  refine j_istore_n 3 (L' := [(3, _), (2, _), (0, _), (1, _)]) dX3_nextBegin_3 rfl rfl rfl ?_
  exact loop 4 0 (by omega)
theorem egN_rg {p : OS} {b t : Int} (hn : pN p) (hb : 0 ≤ b ∧ b ≤ 512) : 0 ≤ egN p b t ∧ egN p b t ≤ 512 := by
  have hn2 : 0 ≤ p.1 7 ∧ p.1 7 ≤ 512 := hn
  unfold egN
  split
  · rename_i c; have := c.1; omega
  · omega
set_option maxRecDepth 100000 in
theorem c_X3_eventGoingOn {l : Launch} {G : jG} {h : jH} {a : Nat} {q : Nat → Nat} {p : OS} {b : Nat} {qk : Nat → Nat} {pk : OS} {k t : Int} (hP : AtX3 G h a q p) (hPk : AtX6 G h b qk pk) (hdis : ∀ x, ft AX6 b qk x → ¬ ft AX3 a q x) (hn : pN pk) (hz : eA pk) (hk : 0 ≤ k ∧ k < 4) (ht : 0 ≤ t ∧ t ≤ 20000) (hb : 0 ≤ p.2 2 k ∧ p.2 2 k ≤ 512) : jC l G yX3_eventGoingOn mX3_eventGoingOn [.ref a, .ref b, vI k, vI t] h (jW (oI (egE pk (egN pk (p.2 2 k) t) t)) (fun h' => AtX3 G h' a q (oA p 2 (upI (p.2 2) k (egN pk (p.2 2 k) t))) ∧ Fr (ft AX3 a q) h h')) := by
  have hF : Fr (ft AX3 a q) h h := Fr.rf
  have heg := egN_rg (t := t) hn hb
  obtain ⟨b1, hbb⟩ : ∃ b1, b1 = egN pk (p.2 2 k) t := ⟨_, rfl⟩
  rw [← hbb] at heg
  obtain ⟨b2, hb2e⟩ : ∃ b2, b1 - 1 = b2 := ⟨_, rfl⟩
  have cont : ∀ (h2 : jH) {v : Int}, AtX3 G h2 a q (oA p 2 (upI (p.2 2) k v)) → AtX6 G h2 b qk pk → Fr (ft AX3 a q) h h2 → egN pk (p.2 2 k) t = v → J l G mX3_eventGoingOn (jQ G mX3_eventGoingOn (jW (oI (egE pk (egN pk (p.2 2 k) t) t)) (fun h' => AtX3 G h' a q (oA p 2 (upI (p.2 2) k (egN pk (p.2 2 k) t))) ∧ Fr (ft AX3 a q) h h'))) 0 0 48 [(0, .ref a), (1, .ref b), (2, vI k), (3, vI t)] [] h2 := by
    intro h2 v hP hPk hF hv
    rw [← hbb] at hv
    subst hv
    have hb2 : (oA p 2 (upI (p.2 2) k b1)).2 2 k - 1 = b2 := by rw [oA_s, upI_s]; exact hb2e
    refine j_aload_n 0 dX3_eventGoingOn_48 rfl rfl ?_
    refine j_get fX3_18 dX3_eventGoingOn_49 hP.1 rfl ?_
    refine j_iload_n 2 dX3_eventGoingOn_52 rfl rfl ?_
    refine J_iald dX3_eventGoingOn_53 (hP.2.1 2 rfl) ?_ 
    refine J_iconst dX3_eventGoingOn_54 ?_
    refine J_isub dX3_eventGoingOn_55 ?_
    refine J_top (b2) ?_ (by exact hb2)
    refine j_istore (L' := [(4, _), (0, _), (1, _), (2, _), (3, _)]) dX3_eventGoingOn_56 rfl rfl ?_
    refine j_aload_n 1 dX3_eventGoingOn_58 rfl rfl ?_
    refine j_iload dX3_eventGoingOn_59 rfl ?_
    refine J_callVZ kX3_43 cvX6_has hPk.1 (c_X6_has hPk hn (by omega)) rfl rfl rfl rfl rfl dX3_eventGoingOn_61 rfl rfl (fun z61 => ?_) (fun z61 => ?_)
    · refine J_if_eq 82 dX3_eventGoingOn_64 (by decide) (fun c64 => absurd c64 (by decide)) (fun c64 => ?_) 
      refine j_aload_n 1 dX3_eventGoingOn_67 rfl rfl ?_
      refine j_iload dX3_eventGoingOn_68 rfl ?_
      refine J_callV1 kX3_56 cvX6_endAt hPk.1 (c_X6_endAt hPk hn (by omega)) rfl rfl rfl rfl rfl dX3_eventGoingOn_70 rfl rfl ?_
      refine J_top (pk.2 3 b2 + pk.2 4 b2) ?_ (by rw [if_pos z61])
      have hz8 := (hz _ z61.1 z61.2).2.2.2.1
      have hz7 := (hz _ z61.1 z61.2).2.2.2.2.1
      refine j_iload_n 3 dX3_eventGoingOn_73 rfl rfl ?_
      refine J_icmp_le 82 dX3_eventGoingOn_74 (by decide) (fun c74 => ?_) (fun c74 => ?_) 
      · refine J_iconst dX3_eventGoingOn_82 ?_
        refine j_iret rfl dX3_eventGoingOn_83 ?_
        exact ⟨by rw [← hbb]; unfold egE; first | rw [if_pos ⟨by rw [hb2e]; exact z61, by rw [hb2e]; exact c74⟩, hb2e] | rw [if_neg (fun q => by rw [hb2e] at q; first | exact z61 q.1 | omega)], by rw [← hbb]; exact hP, hF⟩
      · refine j_iload dX3_eventGoingOn_77 rfl ?_
        refine j_goto 83 dX3_eventGoingOn_79 (by decide) ?_
        refine j_iret rfl dX3_eventGoingOn_83 ?_
        exact ⟨by rw [← hbb]; unfold egE; first | rw [if_pos ⟨by rw [hb2e]; exact z61, by rw [hb2e]; exact c74⟩, hb2e] | rw [if_neg (fun q => by rw [hb2e] at q; first | exact z61 q.1 | omega)], by rw [← hbb]; exact hP, hF⟩
    · refine J_if_eq 82 dX3_eventGoingOn_64 (by decide) (fun c64 => ?_) (fun c64 => absurd c64 (by decide)) 
      refine J_iconst dX3_eventGoingOn_82 ?_
      refine j_iret rfl dX3_eventGoingOn_83 ?_
      exact ⟨by rw [← hbb]; unfold egE; first | rw [if_pos ⟨by rw [hb2e]; exact z61, by rw [hb2e]; exact c74⟩, hb2e] | rw [if_neg (fun q => by rw [hb2e] at q; first | exact z61 q.1 | omega)], by rw [← hbb]; exact hP, hF⟩
  refine j_body (by decide +kernel) ⟨rfl, rfl⟩ rfl ?_
  refine j_iload_n 2 dX3_eventGoingOn_0 rfl rfl ?_
  refine J_if_lt 9 dX3_eventGoingOn_1 (by decide) (fun c1 => absurd c1 (by omega)) (fun c1 => ?_) 
  refine j_iload_n 2 dX3_eventGoingOn_4 rfl rfl ?_
  refine J_iconst dX3_eventGoingOn_5 ?_
  refine J_icmp_lt 11 dX3_eventGoingOn_6 (by decide) (fun c6 => ?_) (fun c6 => absurd c6 (by omega)) 
  refine j_aload_n 1 dX3_eventGoingOn_11 rfl rfl ?_
  refine j_aload_n 0 dX3_eventGoingOn_12 rfl rfl ?_
  refine j_get fX3_18 dX3_eventGoingOn_13 hP.1 rfl ?_
  refine j_iload_n 2 dX3_eventGoingOn_16 rfl rfl ?_
  refine J_iald dX3_eventGoingOn_17 (hP.2.1 2 rfl) ?_ 
  refine J_callVZ kX3_43 cvX6_has hPk.1 (c_X6_has hPk hn (by omega)) rfl rfl rfl rfl rfl dX3_eventGoingOn_18 rfl rfl (fun z18 => ?_) (fun z18 => ?_)
  · refine J_if_eq 48 dX3_eventGoingOn_21 (by decide) (fun c21 => absurd c21 (by decide)) (fun c21 => ?_) 
    refine j_aload_n 1 dX3_eventGoingOn_24 rfl rfl ?_
    refine j_aload_n 0 dX3_eventGoingOn_25 rfl rfl ?_
    refine j_get fX3_18 dX3_eventGoingOn_26 hP.1 rfl ?_
    refine j_iload_n 2 dX3_eventGoingOn_29 rfl rfl ?_
    refine J_iald dX3_eventGoingOn_30 (hP.2.1 2 rfl) ?_ 
    refine J_callV1 kX3_46 cvX6_beginAt hPk.1 (c_X6_beginAt hPk hn (by omega)) rfl rfl rfl rfl rfl dX3_eventGoingOn_31 rfl rfl ?_
    refine J_top (pk.2 3 (p.2 2 k)) ?_ (by rw [if_pos z18])
    have hz9 := (hz _ z18.1 z18.2).2.2.2.1
    refine j_iload_n 3 dX3_eventGoingOn_34 rfl rfl ?_
    refine J_icmp_ne 48 dX3_eventGoingOn_35 (by decide) (fun c35 => ?_) (fun c35 => ?_) 
    · first | exact cont h hP hPk hF (by unfold egN; rw [if_pos ⟨z18, c35⟩]) | exact cont h (by rw [upI_id, oA_id]; exact hP) hPk hF (by unfold egN; first | rw [if_neg (fun q => z18 q.1)] | rw [if_neg (fun q => c35 q.2)])
    · refine j_aload_n 0 dX3_eventGoingOn_38 rfl rfl ?_
      refine j_get fX3_18 dX3_eventGoingOn_39 hP.1 rfl ?_
      refine j_iload_n 2 dX3_eventGoingOn_42 rfl rfl ?_
      refine j_dup2 dX3_eventGoingOn_43 rfl rfl ?_
      refine J_iald dX3_eventGoingOn_44 (hP.2.1 2 rfl) ?_ 
      refine J_iconst dX3_eventGoingOn_45 ?_
      refine J_iadd dX3_eventGoingOn_46 ?_
      refine J_iastA 2 hP rfl (fun _ => rfl) (fun _ => rfl) dX3_eventGoingOn_47 (fun h hP hF47 => ?_) 
      have hF := hF.tr hF47
      have hPk := hPk.keep hF47 hdis
      first | exact cont h hP hPk hF (by unfold egN; rw [if_pos ⟨z18, c35⟩]) | exact cont h (by rw [upI_id, oA_id]; exact hP) hPk hF (by unfold egN; first | rw [if_neg (fun q => z18 q.1)] | rw [if_neg (fun q => c35 q.2)])
  · refine J_if_eq 48 dX3_eventGoingOn_21 (by decide) (fun c21 => ?_) (fun c21 => absurd c21 (by decide)) 
    first | exact cont h hP hPk hF (by unfold egN; rw [if_pos ⟨z18, c35⟩]) | exact cont h (by rw [upI_id, oA_id]; exact hP) hPk hF (by unfold egN; first | rw [if_neg (fun q => z18 q.1)] | rw [if_neg (fun q => c35 q.2)])
