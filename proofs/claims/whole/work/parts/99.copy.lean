/-! System.arraycopy, Arrays.copyOf -/
section JCP
variable {l : Launch} {G : jG} {M M' : jM} {QF : jF} {ck sk pc : Nat} {L L' : List (Nat × Value)} {st rest : List Value} {h : jH}
theorem j_copyi {idx a0 a n0 n1 : Nat} {f g : Nat → Int32} {sp dp n : Int32} (hw : Cond.methodLink M.own idx arraycopyName ∈ WT ∧ Cond.native arraycopyName ∈ WT ∧ Cond.static arraycopyName ∈ WT ∧ Cond.initialized "java/lang/System" ∈ WT)
    (ha0 : h a0 = some (aI G n0 f)) (ha1 : h a = some (aI G n1 g)) (h1 : ¬ sp < 0) (h2 : ¬ dp < 0) (h3 : ¬ n < 0) (h4 : sp.toNatClampNeg + n.toNatClampNeg ≤ n0) (h5 : dp.toNatClampNeg + n.toNatClampNeg ≤ n1)
    (hfr : Nat.ble 1 M.room.frames = true) (hlo : Nat.ble ((rest.map fun v => v.category).sum + (nativeFrameWords "java/lang/System" "arraycopy" 5 + 11)) M.room.locals = true) (hd : decode M.cc pc = .ok (.invokestatic idx, 3))
    (kk : J l G M QF ck sk (pc + 3) L rest (hset h a (aI G n1 (va_cpy f g sp.toNatClampNeg dp.toNatClampNeg n.toNatClampNeg)))) : J l G M QF ck sk pc L (.int n :: .int dp :: .ref a :: .int sp :: .ref a0 :: rest) h := by
  intro p e s m args below meth c H locs cells slots ls S hR hS hl hc hs
  have nn : ∀ z : Int32, ¬ z < 0 → z.toInt = (z.toNatClampNeg : Int) := by
    intro z hz
    have hz0 : (0 : Int) ≤ z.toInt := by
      have := Int32.not_lt.mp hz
      simpa using Int32.le_iff_toInt_le.mp this
    show z.toInt = ((z.toInt.toNat : Nat) : Int)
    omega
  have hts := S.2.2.2.2.2.2.2.2.1
  have hK := S.2.2.2.2.2.2.2.2.2.1
  have hml : c.maxLocals = ls.size := S.2.2.1.trans hl.1.symm
  intro T hT X
  have hc0 : H[a0]? = some (vp_cell (G.2.1 0) (n0, .inl f)) := (hR a0 _ ha0).2
  have hc1 : H[a]? = some (vp_cell (G.2.1 0) (n1, .inl g)) := (hR a _ ha1).2
  obtain ⟨-, k0, hk0, cm0, hkk0⟩ := (hK.2 0 _ rfl).1 n0 (fun j => .int (f j))
  obtain ⟨-, k1, hk1, cm1, hkk1⟩ := (hK.2 0 _ rfl).1 n1 (fun j => .int (g j))
  obtain ⟨vm', X', step⟩ := X.arraycopy S.1 S.2.2.2.2.2.2.2.1 (hts _ hw.1) (hts _ hw.2.1) (hts _ hw.2.2.1) (hts _ hw.2.2.2) (src := a0) (dst := a) (cs := vp_cell (G.2.1 0) (n0, .inl f)) (cd := vp_cell (G.2.1 0) (n1, .inl g)) (srcPos := sp) (destPos := dp) (n := n) (by rw [hT]; exact hc0) (by rw [hT]; exact hc1)
    (fun _ h => by cases h) (fun _ h => by cases h) (fun h => by cases h) (fun h => by cases h) hk0 hk1 hkk0 hkk1 (by rfl) h1 h2 h3
    (by rw [nn sp h1, nn n h3]; show ¬ _ > ((arrV (G.2.1 0) n0 (fun j => .int (f j))).slots.size : Int); rw [arrV_size]; omega)
    (by rw [nn dp h2, nn n h3]; show ¬ _ > ((arrV (G.2.1 0) n1 (fun j => .int (g j))).slots.size : Int); rw [arrV_size]; omega)
    (fun vm₁ _ i hi => by
      have e : (vp_cell (G.2.1 0) (n0, .inl f)).slots.getD (sp.toNatClampNeg + i) .null = .int (f (sp.toNatClampNeg + i)) := by
        show (arrV (G.2.1 0) n0 (fun j => .int (f j))).slots.getD _ _ = _
        rw [Array.getD_eq_getD_getElem?, arrV_read _ _ (by omega)]
        rfl
      refine ⟨?_, ?_⟩
      · rw [e]
        rfl
      · rw [e]
        exact trivial)
    (g := F0 m pc ls (.int n :: .int dp :: .ref a :: .int sp :: .ref a0 :: rest)) rfl (by rw [hml]) (rest := rest) rfl (by rw [S.2.1]; exact hd) (Nat.le_of_ble_eq_true hfr) (by have := Nat.le_of_ble_eq_true hlo; show 2 * 0 + _ + _ ≤ _; omega)
  have e1 : copied (vp_cell (G.2.1 0) (n0, .inl f)) (vp_cell (G.2.1 0) (n1, .inl g)) sp dp n = vp_cell (G.2.1 0) (n1, .inl (va_cpy f g sp.toNatClampNeg dp.toNatClampNeg n.toNatClampNeg)) := va_copied (fun z => .int z) (G.2.1 0) (G.2.1 0) f g h4
  rw [e1] at X' step
  have hlt : a < H.size := (Array.getElem?_eq_some_iff.mp hc1).1
  have hheap : ((T.setVm vm').setCell a (vp_cell (G.2.1 0) (n1, .inl (va_cpy f g sp.toNatClampNeg dp.toNatClampNeg n.toNatClampNeg)))).heap = H.setIfInBounds a (vp_cell (G.2.1 0) (n1, .inl (va_cpy f g sp.toNatClampNeg dp.toNatClampNeg n.toNatClampNeg))) := by rw [← hT]; rfl
  have oq : ∀ q : Nat, q ≠ a → (H.setIfInBounds a (vp_cell (G.2.1 0) (n1, .inl (va_cpy f g sp.toNatClampNeg dp.toNatClampNeg n.toNatClampNeg))))[q]? = H[q]? := fun q hq => by simp [Array.getElem?_setIfInBounds, Ne.symm hq]
  have hB := (hR a _ ha1).1
  have hS1 : ∀ locs1 : List Loc, (∀ l ∈ locs1, jB G l.base) → va_S (jB G) s.heap (H.setIfInBounds a (vp_cell (G.2.1 0) (n1, .inl (va_cpy f g sp.toNatClampNeg dp.toNatClampNeg n.toNatClampNeg)))) locs1 := fun locs1 hl1 => ⟨by simp; exact hS.1, fun q g1 g2 => by
      rw [oq q (fun e => g2 (by rw [e]; exact hB))]
      exact hS.2.1 q g1 g2, hl1⟩
  obtain ⟨t, a1, b1⟩ := kk p e s m args below meth c _ _ cells slots ls S (hR.set ha1 (show (H.setIfInBounds a _)[a]? = some _ by simp [Array.getElem?_setIfInBounds, hlt]) oq) (hS1 _ (fun q hq => by
      rcases List.mem_append.mp hq with h | h
      · exact hS.2.2 q h
      · obtain ⟨z, -, hz⟩ := List.mem_map.mp h
        rw [← hz]
        exact hB)) hl hc hs _ hheap X'
  exact ⟨t, step t a1, b1⟩
end JCP
theorem kcp : Cond.methodLink RJ7 150 arraycopyName ∈ WT ∧ Cond.native arraycopyName ∈ WT ∧ Cond.static arraycopyName ∈ WT ∧ Cond.initialized "java/lang/System" ∈ WT := ⟨wt 1450 (by decide +kernel) rfl, wt 1452 (by decide +kernel) rfl, wt 1451 (by decide +kernel) rfl, wt 21 (by decide +kernel) rfl⟩
def extF (n : Nat) (F : Int → Int) : Int → Int := fun i => if i < n then F i else 0

set_option maxRecDepth 100000 in
theorem c_J7_copyOf_59c91 {l : Launch} {G : jG} {h : jH} {a n N : Nat} {F : Int → Int} (ha : h a = some (ai G n F)) (hn : n < N) (hN : N ≤ 512) : jC l G yJ7_copyOf_59c91 mJ7_copyOf_59c91 [.ref a, vI (N : Int)] h (fun r h' => ∃ q, r = .inl (some (.ref q)) ∧ h q = none ∧ h' = hset h q (ai G N (extF n F))) := by
  refine j_bodyF (by decide +kernel) ⟨rfl, rfl⟩ rfl ?_
  refine j_iload_n 1 dJ7_copyOf_59c91_0 rfl rfl ?_
  refine j_aload_n 0 dJ7_copyOf_59c91_1 rfl rfl ?_
  refine J_alen dJ7_copyOf_59c91_2 ha ?_
  refine J_icmp_ne 14 dJ7_copyOf_59c91_3 (by decide) (fun c3 => ?_) (fun c3 => absurd c3 (by omega))
  refine j_iload_n 1 dJ7_copyOf_59c91_14 rfl rfl ?_
  refine j_newI (ck' := 0) (sk' := 0) N acI dJ7_copyOf_59c91_15 ?_ ?_ (by omega) (by decide) (by show 0 + N ≤ 512; omega) (fun q hq _ => ?_)
  · rw [I_0, I_lt (by omega) (by decide)]; omega
  · rw [I_clamp (by omega)]; omega
  refine j_astore_n 2 (L' := [(2, _), (0, _), (1, _)]) dJ7_copyOf_59c91_17 rfl rfl rfl ?_
  refine j_aload_n 0 dJ7_copyOf_59c91_18 rfl rfl ?_
  refine J_iconst dJ7_copyOf_59c91_19 ?_
  refine j_aload_n 2 dJ7_copyOf_59c91_20 rfl rfl ?_
  refine J_iconst dJ7_copyOf_59c91_21 ?_
  have hne : a ≠ q := fun z => by rw [← z, ha] at hq; cases hq
  refine j_aload_n 0 dJ7_copyOf_59c91_22 rfl rfl ?_
  refine J_alen dJ7_copyOf_59c91_23 ((hset_n hne).trans ha) ?_
  refine j_iload_n 1 dJ7_copyOf_59c91_24 rfl rfl ?_
  refine J_mmin kJ7_304 rfl rfl dJ7_copyOf_59c91_25 ?_
  refine J_top (n : Int) ?_ (by omega)
  refine j_copyi kcp ((hset_n hne).trans ha) (hset_s _ _ _) (by decide) (by decide) ?_ ?_ ?_ (by decide) (by decide +kernel) dJ7_copyOf_59c91_28 ?_
  · rw [I_0, I_lt (by omega) (by decide)]; omega
  · show 0 + (Int32.ofInt (n : Int)).toNatClampNeg ≤ n; rw [I_clamp (by omega)]; omega
  · show 0 + (Int32.ofInt (n : Int)).toNatClampNeg ≤ N; rw [I_clamp (by omega)]; omega
  refine j_aload_n 2 dJ7_copyOf_59c91_31 rfl rfl ?_
  refine j_aretA rfl dJ7_copyOf_59c91_32 ⟨q, rfl, hq, ?_⟩
  funext b
  by_cases c : b = q
  · subst c
    rw [hset_s, hset_s]
    have e : (va_cpy (fun j => Int32.ofInt (F (j : Int))) (fun _ => (0 : Int32)) (Int32.toNatClampNeg (I32 0)) (Int32.toNatClampNeg (I32 0)) (Int32.toNatClampNeg (I32 (n : Int)))) = fun j : Nat => Int32.ofInt (extF n F (j : Int)) := by
      funext j
      rw [show Int32.toNatClampNeg (I32 (n : Int)) = n by rw [I_clamp (by omega)]; omega, show Int32.toNatClampNeg (I32 0) = 0 from rfl]
      unfold va_cpy extF
      by_cases d : j < n
      · rw [if_pos ⟨Nat.zero_le _, by show j < 0 + n; omega⟩, if_pos (by omega)]
        show Int32.ofInt (F ((0 + (j - 0) : Nat) : Int)) = _
        rw [Nat.zero_add, Nat.sub_zero]
      · rw [if_neg (fun z => d (by have := z.2; omega)), if_neg (by omega)]
        rfl
    exact congrArg (fun f => some (aI G N f)) e
  · rw [hset_n c, hset_n c, hset_n c]
/-- j of the four arrays of a part stand anew, twice as long -/
def GR (G : jG) (n j : Nat) (h0 h : jH) (a : Nat) (q q' : Nat → Nat) (m : OS) : Prop :=
  h a = some (.inr (oX10 q' m)) ∧ (∀ k : Nat, 1 ≤ k → k ≤ 4 → q' k ≠ a ∧ (k ≤ j → h (q' k) = some (ai G (2 * n) (extF n (m.2 k))) ∧ h0 (q' k) = none) ∧ (j < k → q' k = q k ∧ h (q' k) = some (ai G n (m.2 k)))) ∧ (∀ i k : Nat, 1 ≤ i → i ≤ 4 → 1 ≤ k → k ≤ 4 → q' i = q' k → i = k) ∧ (∀ (b : Nat) (e : va_E), b ≠ a → h0 b = some e → h b = some e)
theorem AX10_rg {k : Nat} (h : AX10 k = true) : 1 ≤ k ∧ k ≤ 4 := by
  have g := (Bool.and_eq_true _ _).mp h
  have g1 := Nat.le_of_ble_eq_true g.1
  have g2 := Nat.le_of_ble_eq_true g.2
  omega
theorem AX10_of {k : Nat} (h1 : 1 ≤ k) (h2 : k ≤ 4) : AX10 k = true := (Bool.and_eq_true _ _).mpr ⟨Nat.ble_eq_true_of_le h1, Nat.ble_eq_true_of_le (show k + 1 ≤ 5 by omega)⟩
theorem GR.zero {G : jG} {n : Nat} {h : jH} {a : Nat} {q : Nat → Nat} {m : OS} (hP : AtX10 G n h a q m) : GR G n 0 h h a q q m :=
  ⟨hP.1, fun k h1 h2 => ⟨hP.2.2.1 k (AX10_of h1 h2), fun c => absurd c (by omega), fun _ => ⟨rfl, hP.2.1 k (AX10_of h1 h2)⟩⟩, fun i k h1 h2 h3 h4 => hP.2.2.2 i k (AX10_of h1 h2) (AX10_of h3 h4), fun _ _ _ hb => hb⟩
theorem GR.look {G : jG} {n j : Nat} {h0 h : jH} {a : Nat} {q q' : Nat → Nat} {m : OS} {qn : Nat} {x : va_E} (H : GR G n j h0 h a q q' m) (hq : h qn = none) : hset h qn x a = some (.inr (oX10 q' m)) := by
  have hne : a ≠ qn := fun z => by rw [← z, H.1] at hq; cases hq
  rw [hset_n hne]
  exact H.1
theorem GR.old {G : jG} {n j : Nat} {h0 h : jH} {a : Nat} {q q' : Nat → Nat} {m : OS} (H : GR G n j h0 h a q q' m) (k : Nat) (h1 : 1 ≤ k) (h2 : k ≤ 4) (h3 : j < k) : h (q' k) = some (ai G n (m.2 k)) := ((H.2.1 k h1 h2).2.2 h3).2
theorem GR.step {G : jG} {n j : Nat} {h0 h : jH} {a : Nat} {q q' : Nat → Nat} {m : OS} {qn : Nat} (H : GR G n j h0 h a q q' m) (hj : j < 4) (hq : h qn = none) : GR G n (j + 1) h0 (hset (hset h qn (ai G (2 * n) (extF n (m.2 (j + 1))))) a (.inr (oX10 (fun k => if k = j + 1 then qn else q' k) m))) a q (fun k => if k = j + 1 then qn else q' k) m := by
  obtain ⟨h1, h2, h3, h4⟩ := H
  have hne : qn ≠ a := fun z => by rw [z, h1] at hq; cases hq
  have h0q : h0 qn = none := by
    cases he : h0 qn with
    | none => rfl
    | some x => rw [h4 qn x hne he] at hq; cases hq
  have hqk : ∀ k : Nat, 1 ≤ k → k ≤ 4 → q' k ≠ qn := fun k a b z => by
    by_cases c : k ≤ j
    · rw [← z, ((h2 k a b).2.1 c).1] at hq; cases hq
    · rw [← z, ((h2 k a b).2.2 (by omega)).2] at hq; cases hq
  refine ⟨hset_s _ _ _, fun k g1 g2 => ?_, fun i k g1 g2 g3 g4 hik => ?_, fun b x hb hx => ?_⟩
  · by_cases c : k = j + 1
    · subst c
      simp only [if_true]
      exact ⟨hne, fun _ => ⟨by rw [hset_n hne, hset_s], h0q⟩, fun z => absurd z (by omega)⟩
    · simp only [c, if_false]
      have g := h2 k g1 g2
      refine ⟨g.1, fun z => ?_, fun z => ?_⟩
      · rw [hset_n g.1, hset_n (hqk k g1 g2)]
        exact g.2.1 (by omega)
      · rw [hset_n g.1, hset_n (hqk k g1 g2)]
        exact g.2.2 (by omega)
  · dsimp only at hik
    by_cases c : i = j + 1
    · by_cases d : k = j + 1
      · omega
      · rw [if_pos c, if_neg d] at hik
        exact absurd hik.symm (hqk k g3 g4)
    · by_cases d : k = j + 1
      · rw [if_neg c, if_pos d] at hik
        exact absurd hik (hqk i g1 g2)
      · rw [if_neg c, if_neg d] at hik
        exact h3 i k g1 g2 g3 g4 hik
  · have g := h4 b x hb hx
    have : b ≠ qn := fun z => by rw [z] at g; rw [g] at hq; cases hq
    rw [hset_n hb, hset_n this]
    exact g
theorem GR.fin {G : jG} {n : Nat} {h0 h : jH} {a : Nat} {q q' : Nat → Nat} {m : OS} (H : GR G n 4 h0 h a q q' m) : AtX10 G (2 * n) h a q' (m.1, fun k => extF n (m.2 k)) ∧ ∀ k : Nat, AX10 k = true → h0 (q' k) = none :=
  ⟨⟨H.1, fun k hk => ((H.2.1 k (AX10_rg hk).1 (AX10_rg hk).2).2.1 (AX10_rg hk).2).1, fun k hk => (H.2.1 k (AX10_rg hk).1 (AX10_rg hk).2).1, fun i k hi hk => H.2.2.1 i k (AX10_rg hi).1 (AX10_rg hi).2 (AX10_rg hk).1 (AX10_rg hk).2⟩, fun k hk => ((H.2.1 k (AX10_rg hk).1 (AX10_rg hk).2).2.1 (AX10_rg hk).2).2⟩
theorem ext_in {n : Nat} {F : Int → Int} {i : Int} (h : i < n) : extF n F i = F i := if_pos h
theorem mpOK.ext {n : Nat} {m p : OS} (hm : mpOK n m p) (hn : n ≠ 512) : mpOK (2 * n) (m.1, fun k => extF n (m.2 k)) p := by
  obtain ⟨h1, h2, h3, h4⟩ := hm
  refine ⟨h1, fun i a b => ?_, by omega, by omega⟩
  have g := h2 i a b
  have e : ∀ k : Nat, ((m.1, fun k => extF n (m.2 k)) : OS).2 k i = m.2 k i := fun k => (ext_in (by omega) : extF n (m.2 k) i = m.2 k i)
  rw [e 1, e 2, e 3, e 4]
  exact g
/-- the fields of a part to which an event is added -/
theorem app_f (p : OS) (pl al le : Int) : (appP p pl al le).1 7 = p.1 7 + 1 ∧ (appP p pl al le).1 8 = p.1 8 + le ∧ (∀ j : Nat, j ≠ 7 → j ≠ 8 → (appP p pl al le).1 j = p.1 j) ∧ (appP p pl al le).2 0 = upI (p.2 0) (p.1 7) pl ∧ (appP p pl al le).2 1 = upI (p.2 1) (p.1 7) al ∧ (appP p pl al le).2 3 = upI (p.2 3) (p.1 7) (p.1 8) ∧ (appP p pl al le).2 4 = upI (p.2 4) (p.1 7) le := by
  obtain ⟨q, hq⟩ : ∃ q, q = oU (oU (oA (oA p 3 (upI (p.2 3) (p.1 7) (p.1 8))) 4 (upI (p.2 4) (p.1 7) le)) 7 (p.1 7 + 1)) 8 (p.1 8 + le) := ⟨_, rfl⟩
  have eg : appP p pl al le = givP q (p.1 7) pl al := by rw [hq]; rfl
  have g := giv_f q (p.1 7) pl al
  rw [eg]
  refine ⟨by rw [g.1, hq]; rfl, by rw [g.1, hq]; rfl, fun j a b => by rw [g.1, hq, oU_n b, oU_n a]; rfl, by rw [g.2.1, hq]; rfl, by rw [g.2.2.1, hq]; rfl, by rw [g.2.2.2.2.1, hq]; rfl, by rw [g.2.2.2.2.2.1, hq]; rfl⟩
theorem mpOK.app {n : Nat} {m p : OS} (hm : mpOK n m p) (hlt : p.1 7 < n) (pl al le : Int) : mpOK n (oU (oA (oA (oA (oA m 1 (upI (m.2 1) (m.1 0) (p.1 8))) 2 (upI (m.2 2) (m.1 0) le)) 3 (upI (m.2 3) (m.1 0) pl)) 4 (upI (m.2 4) (m.1 0) al)) 0 (m.1 0 + 1)) (appP p pl al le) := by
  obtain ⟨⟨e0, e5, e6, e7, e8⟩, em, en, ez⟩ := hm
  obtain ⟨f7, f8, fo, f0, f1, f3, f4⟩ := app_f p pl al le
  refine ⟨⟨?_, ?_, ?_, ?_, ?_⟩, fun i a b => ?_, by rw [f7]; omega, ez⟩
  · rw [f7, oU_s, e0]
  · rw [fo 9 (by decide) (by decide), oU_n (by decide)]; exact e5
  · rw [fo 10 (by decide) (by decide), oU_n (by decide)]; exact e6
  · rw [fo 11 (by decide) (by decide), oU_n (by decide)]; exact e7
  · rw [fo 12 (by decide) (by decide), oU_n (by decide)]; exact e8
  · rw [f7] at b
    rw [f0, f1, f3, f4]
    show upI (m.2 1) (m.1 0) (p.1 8) i = _ ∧ upI (m.2 2) (m.1 0) le i = _ ∧ upI (m.2 3) (m.1 0) pl i = _ ∧ upI (m.2 4) (m.1 0) al i = _
    rw [e0]
    by_cases c : i = p.1 7
    · subst c
      rw [upI_s, upI_s, upI_s, upI_s, upI_s, upI_s, upI_s, upI_s]
      exact ⟨rfl, rfl, rfl, rfl⟩
    · rw [upI_n c, upI_n c, upI_n c, upI_n c, upI_n c, upI_n c, upI_n c, upI_n c]
      exact em i a (by omega)
set_option maxRecDepth 100000 in
theorem p_X10_add {l : Launch} {G : jG} {h : jH} {n a ck sk : Nat} {q : Nat → Nat} {m p : OS} {pl al le : Int} {Post : jO → jH → Prop} (hP : AtX10 G n h a q m) (hm : mpOK n m p) (hp : partOK p) (hlt : p.1 7 < n) (kk : ∀ h' m', AtX10 G n h' a q m' → mpOK n m' (appP p pl al le) → Fr (ft AX10 a q) h h' → Post (.inl none) h') : J l G mX10_add (jQ G mX10_add Post) ck sk 80 [(0, .ref a), (1, vI pl), (2, vI al), (3, vI le)] [] h := by
  have hF : Fr (ft AX10 a q) h h := Fr.rf
  have hn7 : 0 ≤ p.1 7 ∧ p.1 7 ≤ 512 := hp.1
  have h0 := hm.1.1
  have hz := hm.2.2.2
  refine j_aload_n 0 dX10_add_80 rfl rfl ?_
  refine j_get fX10_9 dX10_add_81 hP.1 rfl ?_
  refine j_aload_n 0 dX10_add_84 rfl rfl ?_
  refine j_get fX10_31 dX10_add_85 hP.1 rfl ?_
  refine j_aload_n 0 dX10_add_88 rfl rfl ?_
  refine J_callV1 kX10_44 cvX10_end hP.1 (c_X10_end hP hm hp) rfl rfl rfl rfl rfl dX10_add_89 rfl rfl ?_
  refine J_iastA 1 hP rfl (fun _ => rfl) (fun _ => rfl) dX10_add_92 (fun h hP hF92 => ?_) (show 0 ≤ m.1 0 ∧ m.1 0 < (n : Int) ∧ n < 2147483648 by omega)
  have hF := hF.tr hF92
  refine j_aload_n 0 dX10_add_93 rfl rfl ?_
  refine j_get fX10_15 dX10_add_94 hP.1 rfl ?_
  refine j_aload_n 0 dX10_add_97 rfl rfl ?_
  refine j_get fX10_31 dX10_add_98 hP.1 rfl ?_
  refine j_iload_n 3 dX10_add_101 rfl rfl ?_
  refine J_iastA 2 hP rfl (fun _ => rfl) (fun _ => rfl) dX10_add_102 (fun h hP hF102 => ?_) (show 0 ≤ m.1 0 ∧ m.1 0 < (n : Int) ∧ n < 2147483648 by omega)
  have hF := hF.tr hF102
  refine j_aload_n 0 dX10_add_103 rfl rfl ?_
  refine j_get fX10_18 dX10_add_104 hP.1 rfl ?_
  refine j_aload_n 0 dX10_add_107 rfl rfl ?_
  refine j_get fX10_31 dX10_add_108 hP.1 rfl ?_
  refine j_iload_n 1 dX10_add_111 rfl rfl ?_
  refine J_iastA 3 hP rfl (fun _ => rfl) (fun _ => rfl) dX10_add_112 (fun h hP hF112 => ?_) (show 0 ≤ m.1 0 ∧ m.1 0 < (n : Int) ∧ n < 2147483648 by omega)
  have hF := hF.tr hF112
  refine j_aload_n 0 dX10_add_113 rfl rfl ?_
  refine j_get fX10_21 dX10_add_114 hP.1 rfl ?_
  refine j_aload_n 0 dX10_add_117 rfl rfl ?_
  refine j_get fX10_31 dX10_add_118 hP.1 rfl ?_
  refine j_iload_n 2 dX10_add_121 rfl rfl ?_
  refine J_iastA 4 hP rfl (fun _ => rfl) (fun _ => rfl) dX10_add_122 (fun h hP hF122 => ?_) (show 0 ≤ m.1 0 ∧ m.1 0 < (n : Int) ∧ n < 2147483648 by omega)
  have hF := hF.tr hF122
  refine j_aload_n 0 dX10_add_123 rfl rfl ?_
  refine j_dup dX10_add_124 rfl ?_
  refine j_get fX10_31 dX10_add_125 hP.1 rfl ?_
  refine J_iconst dX10_add_128 ?_
  refine J_iadd dX10_add_129 ?_
  refine J_putA hP fX10_31 tyX10_many dX10_add_130 rfl rfl (fun h hP hF130 => ?_)
  have hF := hF.tr hF130
  refine j_vret rfl dX10_add_133 ?_
  exact kk _ _ hP (hm.app hlt pl al le) hF
set_option maxRecDepth 100000 in
theorem c_X10_add {l : Launch} {G : jG} {h : jH} {n a : Nat} {q : Nat → Nat} {m p : OS} {pl al le : Int} (hP : AtX10 G n h a q m) (hm : mpOK n m p) (hp : partOK p) (hlt : p.1 7 < 512) : jC l G yX10_add mX10_add [.ref a, vI pl, vI al, vI le] h (jW oN (fun h' => ∃ n' q' m', AtX10 G n' h' a q' m' ∧ mpOK n' m' (appP p pl al le) ∧ (∀ k, AX10 k = true → q' k = q k ∨ h (q' k) = none) ∧ ∀ b, ¬ ft AX10 a q b → h b ≠ none → h' b = h b)) := by
  refine j_body (by decide +kernel) ⟨rfl, rfl⟩ rfl ?_
  have h0 := hm.1.1
  have hn7 : 0 ≤ p.1 7 ∧ p.1 7 ≤ 512 := hp.1
  have hen := hm.2.2.1
  have hz := hm.2.2.2
  refine j_aload_n 0 dX10_add_0 rfl rfl ?_
  refine j_get fX10_31 dX10_add_1 hP.1 rfl ?_
  refine j_aload_n 0 dX10_add_4 rfl rfl ?_
  refine j_get fX10_9 dX10_add_5 hP.1 rfl ?_
  refine J_alen dX10_add_8 (hP.2.1 1 rfl) ?_
  refine J_icmp_ne 80 dX10_add_9 (by decide) (fun c9 => ?_) (fun c9 => ?_)
  · exact p_X10_add hP hm hp (by omega) (fun h' m' g1 g2 g3 => ⟨rfl, n, q, m', g1, g2, fun _ _ => Or.inl rfl, fun b hb _ => g3 b hb⟩)
  · have H0 := GR.zero hP
    refine j_aload_n 0 dX10_add_12 rfl rfl ?_
    refine j_aload_n 0 dX10_add_13 rfl rfl ?_
    refine j_get fX10_9 dX10_add_14 H0.1 rfl ?_
    refine J_iconst dX10_add_17 ?_
    refine j_aload_n 0 dX10_add_18 rfl rfl ?_
    refine j_get fX10_31 dX10_add_19 H0.1 rfl ?_
    refine J_imul dX10_add_22 ?_
    refine J_top ((2 * n : Nat) : Int) ?_ (by omega)
    refine j_callS (ck' := 3) (sk' := 1536) kX10_38 csJ7_copyOf_59c91 (c_J7_copyOf_59c91 (H0.old 1 (by decide) (by decide) (by decide)) (by omega) (by omega)) rfl rfl rfl rfl rfl dX10_add_23 (by decide) (by decide) (fun v h0 hp0 => ?_) (fun E h' hp => by obtain ⟨_, e, _⟩ := hp; cases e)
    obtain ⟨q0, e0, hq0, eh0⟩ := hp0
    cases e0
    subst eh0
    refine j_put (fs' := [_, _, _, _, _, _, _, _, _]) fX10_9 tyX10_begin dX10_add_26 (H0.look hq0) rfl rfl rfl rfl ?_
    have H1 := H0.step (by decide) hq0
    refine j_aload_n 0 dX10_add_29 rfl rfl ?_
    refine j_aload_n 0 dX10_add_30 rfl rfl ?_
    refine j_get fX10_15 dX10_add_31 H1.1 rfl ?_
    refine J_iconst dX10_add_34 ?_
    refine j_aload_n 0 dX10_add_35 rfl rfl ?_
    refine j_get fX10_31 dX10_add_36 H1.1 rfl ?_
    refine J_imul dX10_add_39 ?_
    refine J_top ((2 * n : Nat) : Int) ?_ (by omega)
    refine j_callS (ck' := 2) (sk' := 1024) kX10_38 csJ7_copyOf_59c91 (c_J7_copyOf_59c91 (H1.old 2 (by decide) (by decide) (by decide)) (by omega) (by omega)) rfl rfl rfl rfl rfl dX10_add_40 (by decide) (by decide) (fun v h1 hp1 => ?_) (fun E h' hp => by obtain ⟨_, e, _⟩ := hp; cases e)
    obtain ⟨q1, e1, hq1, eh1⟩ := hp1
    cases e1
    subst eh1
    refine j_put (fs' := [_, _, _, _, _, _, _, _, _]) fX10_15 tyX10_length dX10_add_43 (H1.look hq1) rfl rfl rfl rfl ?_
    have H2 := H1.step (by decide) hq1
    refine j_aload_n 0 dX10_add_46 rfl rfl ?_
    refine j_aload_n 0 dX10_add_47 rfl rfl ?_
    refine j_get fX10_18 dX10_add_48 H2.1 rfl ?_
    refine J_iconst dX10_add_51 ?_
    refine j_aload_n 0 dX10_add_52 rfl rfl ?_
    refine j_get fX10_31 dX10_add_53 H2.1 rfl ?_
    refine J_imul dX10_add_56 ?_
    refine J_top ((2 * n : Nat) : Int) ?_ (by omega)
    refine j_callS (ck' := 1) (sk' := 512) kX10_38 csJ7_copyOf_59c91 (c_J7_copyOf_59c91 (H2.old 3 (by decide) (by decide) (by decide)) (by omega) (by omega)) rfl rfl rfl rfl rfl dX10_add_57 (by decide) (by decide) (fun v h2 hp2 => ?_) (fun E h' hp => by obtain ⟨_, e, _⟩ := hp; cases e)
    obtain ⟨q2, e2, hq2, eh2⟩ := hp2
    cases e2
    subst eh2
    refine j_put (fs' := [_, _, _, _, _, _, _, _, _]) fX10_18 tyX10_place dX10_add_60 (H2.look hq2) rfl rfl rfl rfl ?_
    have H3 := H2.step (by decide) hq2
    refine j_aload_n 0 dX10_add_63 rfl rfl ?_
    refine j_aload_n 0 dX10_add_64 rfl rfl ?_
    refine j_get fX10_21 dX10_add_65 H3.1 rfl ?_
    refine J_iconst dX10_add_68 ?_
    refine j_aload_n 0 dX10_add_69 rfl rfl ?_
    refine j_get fX10_31 dX10_add_70 H3.1 rfl ?_
    refine J_imul dX10_add_73 ?_
    refine J_top ((2 * n : Nat) : Int) ?_ (by omega)
    refine j_callS (ck' := 0) (sk' := 0) kX10_38 csJ7_copyOf_59c91 (c_J7_copyOf_59c91 (H3.old 4 (by decide) (by decide) (by decide)) (by omega) (by omega)) rfl rfl rfl rfl rfl dX10_add_74 (by decide) (by decide) (fun v h3 hp3 => ?_) (fun E h' hp => by obtain ⟨_, e, _⟩ := hp; cases e)
    obtain ⟨q3, e3, hq3, eh3⟩ := hp3
    cases e3
    subst eh3
    refine j_put (fs' := [_, _, _, _, _, _, _, _, _]) fX10_21 tyX10_alter dX10_add_77 (H3.look hq3) rfl rfl rfl rfl ?_
    have H4 := H3.step (by decide) hq3
    obtain ⟨hG, hG2⟩ := H4.fin
    refine p_X10_add hG (hm.ext (by omega)) hp (by omega) (fun h' m' g1 g2 g3 => ⟨rfl, 2 * n, _, m', g1, g2, fun k hk => Or.inr (hG2 k hk), fun b hb hn => ?_⟩)
    have hnb : ¬ ft AX10 a (fun k => if k = 3 + 1 then q3 else if k = 2 + 1 then q2 else if k = 1 + 1 then q1 else if k = 0 + 1 then q0 else q k) b := fun z => by
      rcases z with z | ⟨k, hk, z⟩
      · exact hb (Or.inl z)
      · exact hn (by rw [z]; exact hG2 k hk)
    rw [g3 b hnb]
    cases he : h b with
    | none => exact absurd he hn
    | some e => exact H4.2.2.2 b e (fun z => hb (Or.inl z)) he
