/-! objects with their arrays -/
/-- what an object holds: its numbers by field, its arrays by field -/
abbrev OS : Type := (Nat → Int) × (Nat → Int → Int)
def oU (p : OS) (k : Nat) (x : Int) : OS := (fun j => if j = k then x else p.1 j, p.2)
def oA (p : OS) (k : Nat) (F : Int → Int) : OS := (p.1, fun j => if j = k then F else p.2 j)
theorem oU_s (p : OS) (k : Nat) (x : Int) : (oU p k x).1 k = x := by simp [oU]
theorem oU_n {p : OS} {k j : Nat} {x : Int} (h : j ≠ k) : (oU p k x).1 j = p.1 j := by simp [oU, h]
theorem oA_s (p : OS) (k : Nat) (F : Int → Int) : (oA p k F).2 k = F := by simp [oA]
theorem oA_n {p : OS} {k j : Nat} {F : Int → Int} (h : j ≠ k) : (oA p k F).2 j = p.2 j := by simp [oA, h]
abbrev oO : Type := (Nat → Nat) → OS → Nat × List Value
abbrev oC : Type := Nat → (Int → Int) → va_E
/-- an object at a, its arrays at q k for the fields k of A -/
def At (o : oO) (ca : oC) (A : Nat → Bool) (h : jH) (a : Nat) (q : Nat → Nat) (p : OS) : Prop :=
  h a = some (.inr (o q p)) ∧ (∀ k, A k = true → h (q k) = some (ca k (p.2 k))) ∧ (∀ k, A k = true → q k ≠ a) ∧ ∀ i j, A i = true → A j = true → q i = q j → i = j
/-- where it lies -/
def ft (A : Nat → Bool) (a : Nat) (q : Nat → Nat) : Nat → Prop := fun b => b = a ∨ ∃ k, A k = true ∧ b = q k
/-- only S may have changed -/
def Fr (S : Nat → Prop) (h h' : jH) : Prop := ∀ b, ¬ S b → h' b = h b
theorem Fr.rf {S : Nat → Prop} {h : jH} : Fr S h h := fun _ _ => rfl
theorem Fr.tr {S : Nat → Prop} {h h1 h2 : jH} (a : Fr S h h1) (b : Fr S h1 h2) : Fr S h h2 := fun x hx => (b x hx).trans (a x hx)
theorem Fr.mono {S T : Nat → Prop} {h h1 : jH} (a : Fr S h h1) (hST : ∀ b, S b → T b) : Fr T h h1 := fun x hx => a x (fun z => hx (hST x z))
theorem Fr.set {S : Nat → Prop} {h : jH} {a : Nat} {e : va_E} (ha : S a) : Fr S h (hset h a e) := fun b hb => hset_n (fun z => hb (z ▸ ha))
theorem At.keep {o : oO} {ca : oC} {A : Nat → Bool} {h h' : jH} {a : Nat} {q : Nat → Nat} {p : OS} {S : Nat → Prop} (hP : At o ca A h a q p) (hF : Fr S h h') (hd : ∀ b, ft A a q b → ¬ S b) : At o ca A h' a q p := by
  obtain ⟨h1, h2, h3, h4⟩ := hP
  exact ⟨(hF a (hd a (Or.inl rfl))).trans h1, fun k hk => (hF _ (hd _ (Or.inr ⟨k, hk, rfl⟩))).trans (h2 k hk), h3, h4⟩
theorem At.arrw {o : oO} {ca : oC} {A : Nat → Bool} {h : jH} {a : Nat} {q : Nat → Nat} {p : OS} (hP : At o ca A h a q p) {k : Nat} (hk : A k = true) (F : Int → Int) (ho : o q (oA p k F) = o q p) : At o ca A (hset h (q k) (ca k F)) a q (oA p k F) := by
  obtain ⟨h1, h2, h3, h4⟩ := hP
  refine ⟨?_, fun j hj => ?_, h3, h4⟩
  · rw [hset_n (Ne.symm (h3 k hk)), h1, ho]
  · by_cases e : j = k
    · subst e
      rw [hset_s, oA_s]
    · rw [hset_n (fun z => e (h4 j k hj hk z)), oA_n e]
      exact h2 j hj
theorem At.objw {o : oO} {ca : oC} {A : Nat → Bool} {h : jH} {a : Nat} {q : Nat → Nat} {p : OS} (hP : At o ca A h a q p) (k : Nat) (x : Int) : At o ca A (hset h a (.inr (o q (oU p k x)))) a q (oU p k x) := by
  obtain ⟨h1, h2, h3, h4⟩ := hP
  exact ⟨hset_s _ _ _, fun j hj => by rw [hset_n (h3 j hj)]; exact h2 j hj, h3, h4⟩
abbrev jW (r : jO) (P : jH → Prop) : jO → jH → Prop := fun r' h' => r' = r ∧ P h'
theorem oIe {x y : Int} (e : x = y) : oI x = oI y := by rw [e]
section JA
variable {l : Launch} {G : jG} {M M' : jM} {QF : jF} {ck sk pc : Nat} {L L' : List (Nat × Value)} {st rest : List Value} {h h1 : jH} {v : Option Value}
  {o : oO} {ca : oC} {A : Nat → Bool} {a : Nat} {q : Nat → Nat} {p : OS}
theorem J_iastA (k : Nat) {n : Nat} {z x : Int} (hP : At o ca A h a q p) (hk : A k = true) (hca : ∀ F, ca k F = ai G n F) (ho : ∀ F, o q (oA p k F) = o q p) (hd : decode M.cc pc = .ok (.iastore, 1))
    (kk : ∀ h', At o ca A h' a q (oA p k (upI (p.2 k) z x)) → Fr (ft A a q) h h' → J l G M QF ck sk (pc + 1) L st h') (hz : 0 ≤ z ∧ z < (n : Int) ∧ n < 2147483648 := by omega) : J l G M QF ck sk pc L (vI x :: vI z :: .ref (q k) :: st) h := by
  have h1 := hP.2.1 k hk
  rw [hca] at h1
  refine J_iast hd h1 ?_ hz
  have h2 := hP.arrw hk (upI (p.2 k) z x) (ho _)
  rw [hca] at h2
  exact kk _ h2 (Fr.set (Or.inr ⟨k, hk, rfl⟩))
theorem J_zastA (k : Nat) {n : Nat} {z x : Int} (hP : At o ca A h a q p) (hk : A k = true) (hca : ∀ F, ca k F = az G n F) (ho : ∀ F, o q (oA p k F) = o q p) (hd : decode M.cc pc = .ok (.bastore, 1))
    (kk : ∀ h', At o ca A h' a q (oA p k (upI (p.2 k) z x)) → Fr (ft A a q) h h' → J l G M QF ck sk (pc + 1) L st h') (hx : x = 0 ∨ x = 1 := by omega) (hz : 0 ≤ z ∧ z < (n : Int) ∧ n < 2147483648 := by omega) : J l G M QF ck sk pc L (vI x :: vI z :: .ref (q k) :: st) h := by
  have h1 := hP.2.1 k hk
  rw [hca] at h1
  refine J_zast hd h1 ?_ hx hz
  have h2 := hP.arrw hk (upI (p.2 k) z x) (ho _)
  rw [hca] at h2
  exact kk _ h2 (Fr.set (Or.inr ⟨k, hk, rfl⟩))
theorem J_putA {idx k : Nat} {x : Int} (hP : At o ca A h a q p) (F : jFl M.own idx (o q p).1 k) (Y : jTy (o q p).1 k .int false) (hd : decode M.cc pc = .ok (.putfield idx, 3)) (hl0 : Nat.blt k (o q p).2.length = true) (ho : o q (oU p k x) = ((o q p).1, (o q p).2.set k (vI x)))
    (kk : ∀ h', At o ca A h' a q (oU p k x) → Fr (ft A a q) h h' → J l G M QF ck sk (pc + 3) L st h') : J l G M QF ck sk pc L (vI x :: .ref a :: st) h := by
  refine j_put F Y hd hP.1 rfl rfl hl0 rfl ?_
  have h2 := hP.objw k x
  rw [ho] at h2
  exact kk _ h2 (Fr.set (Or.inl rfl))
theorem J_putZA {idx k : Nat} {x : Int} (hP : At o ca A h a q p) (F : jFl M.own idx (o q p).1 k) (Y : jTy (o q p).1 k .boolean false) (hd : decode M.cc pc = .ok (.putfield idx, 3)) (hx : narrow .boolean (vI x) = vI x ∧ fits .boolean (vI x) = true) (hl0 : Nat.blt k (o q p).2.length = true) (ho : o q (oU p k x) = ((o q p).1, (o q p).2.set k (vI x)))
    (kk : ∀ h', At o ca A h' a q (oU p k x) → Fr (ft A a q) h h' → J l G M QF ck sk (pc + 3) L st h') : J l G M QF ck sk pc L (vI x :: .ref a :: st) h := by
  refine j_put F Y hd hP.1 hx.1 hx.2 hl0 rfl ?_
  have h2 := hP.objw k x
  rw [ho] at h2
  exact kk _ h2 (Fr.set (Or.inl rfl))
theorem J_putNA {host : String} {idx k : Nat} {x : Int} (hP : At o ca A h a q p) (F : jFlN M.own host idx (o q p).1 k) (Y : jTy (o q p).1 k .int false) (hd : decode M.cc pc = .ok (.putfield idx, 3)) (hl0 : Nat.blt k (o q p).2.length = true) (ho : o q (oU p k x) = ((o q p).1, (o q p).2.set k (vI x)))
    (kk : ∀ h', At o ca A h' a q (oU p k x) → Fr (ft A a q) h h' → J l G M QF ck sk (pc + 3) L st h') : J l G M QF ck sk pc L (vI x :: .ref a :: st) h := by
  refine j_putN F Y hd hP.1 rfl rfl hl0 rfl ?_
  have h2 := hP.objw k x
  rw [ho] at h2
  exact kk _ h2 (Fr.set (Or.inl rfl))
theorem J_salen (k : Nat) {C n : String} {N : Nat} {f : List Int32} (hst : jSt[k]? = some (C, n, N, f)) (hd : decode M.cc pc = .ok (.arraylength, 1)) (kk : J l G M QF ck sk (pc + 1) L (vI N :: st) h) : J l G M QF ck sk pc L (.ref (jSa G k) :: st) h := by
  intro p e s m args below meth c H locs cells slots ls S hR hS hl hc hs
  exact va_tlen S.1 S.2.1 (S.2.2.2.2.2.2.2.2.2.2.1 k _ hst).2 hS (Int32.ofInt_eq_ofNat).symm hd (kk p e s m args below meth c H locs cells slots ls S hR hS hl hc hs)
theorem J_callV1 {w : Value} {y : MethodName} {As : List Value} {a ci n idx : Nat} {fs : List Value} {T : u_T} {N : Nat} (V : jLk M.own idx y M' n) (V2 : Cond.instanceMethod y ∈ WT ∧ Cond.selects y.cls y y ∈ WT ∧ vwCl[ci]? = some (y.cls, T, N)) (ha : h a = some (.inr (ci, fs)))
    (C : jC l G y M' (.ref a :: As) h (jE (.inl (some w)) h1)) (hh : M'.hh = []) (hst : st = As.reverse ++ .ref a :: rest) (hn : As.length = n) (hrm : jRm M M' = true) (hrest : Nat.ble (rest.map fun v => v.category).sum 8 = true) (hd : decode M.cc pc = .ok (.invokevirtual idx, 3))
    (hck : M'.room.cells = 0) (hsk : M'.room.slots = 0) (kk : J l G M QF ck sk (pc + 3) L (w :: rest) h1) : J l G M QF ck sk pc L st h :=
  J_callV V V2 ha C hh hst hn hrm hrest hd hck hsk kk
theorem J_callV0 {y : MethodName} {As : List Value} {a ci n idx : Nat} {fs : List Value} {T : u_T} {N : Nat} (V : jLk M.own idx y M' n) (V2 : Cond.instanceMethod y ∈ WT ∧ Cond.selects y.cls y y ∈ WT ∧ vwCl[ci]? = some (y.cls, T, N)) (ha : h a = some (.inr (ci, fs)))
    (C : jC l G y M' (.ref a :: As) h (jE (.inl none) h1)) (hh : M'.hh = []) (hst : st = As.reverse ++ .ref a :: rest) (hn : As.length = n) (hrm : jRm M M' = true) (hrest : Nat.ble (rest.map fun v => v.category).sum 8 = true) (hd : decode M.cc pc = .ok (.invokevirtual idx, 3))
    (hck : M'.room.cells = 0) (hsk : M'.room.slots = 0) (kk : J l G M QF ck sk (pc + 3) L rest h1) : J l G M QF ck sk pc L st h :=
  J_callV V V2 ha C hh hst hn hrm hrest hd hck hsk kk
theorem J_callS1 {w : Value} {y : MethodName} {As : List Value} {n idx : Nat} (V : jLk M.own idx y M' n) (V2 : Cond.static y ∈ WT)
    (C : jC l G y M' As h (jE (.inl (some w)) h1)) (hh : M'.hh = []) (hst : st = As.reverse ++ rest) (hn : As.length = n) (hrm : jRm M M' = true) (hrest : Nat.ble (rest.map fun v => v.category).sum 8 = true) (hd : decode M.cc pc = .ok (.invokestatic idx, 3))
    (hck : M'.room.cells = 0) (hsk : M'.room.slots = 0) (kk : J l G M QF ck sk (pc + 3) L (w :: rest) h1) : J l G M QF ck sk pc L st h :=
  J_callS V V2 C hh hst hn hrm hrest hd hck hsk kk
theorem J_callS0 {y : MethodName} {As : List Value} {n idx : Nat} (V : jLk M.own idx y M' n) (V2 : Cond.static y ∈ WT)
    (C : jC l G y M' As h (jE (.inl none) h1)) (hh : M'.hh = []) (hst : st = As.reverse ++ rest) (hn : As.length = n) (hrm : jRm M M' = true) (hrest : Nat.ble (rest.map fun v => v.category).sum 8 = true) (hd : decode M.cc pc = .ok (.invokestatic idx, 3))
    (hck : M'.room.cells = 0) (hsk : M'.room.slots = 0) (kk : J l G M QF ck sk (pc + 3) L rest h1) : J l G M QF ck sk pc L st h :=
  J_callS V V2 C hh hst hn hrm hrest hd hck hsk kk
theorem J_callSN1 {w : Value} {y : MethodName} {host : String} {As : List Value} {n idx : Nat} (V : jLkN M.own idx y host M' n) (V2 : Cond.static y ∈ WT)
    (C : jC l G y M' As h (jE (.inl (some w)) h1)) (hh : M'.hh = []) (hst : st = As.reverse ++ rest) (hn : As.length = n) (hrm : jRm M M' = true) (hrest : Nat.ble (rest.map fun v => v.category).sum 8 = true) (hd : decode M.cc pc = .ok (.invokestatic idx, 3))
    (hck : M'.room.cells = 0) (hsk : M'.room.slots = 0) (kk : J l G M QF ck sk (pc + 3) L (w :: rest) h1) : J l G M QF ck sk pc L st h :=
  J_callSN V V2 C hh hst hn hrm hrest hd hck hsk kk
/-- a call that writes: it returns w, and leaves a heap with P -/
theorem J_callVW {P : jH → Prop} {y : MethodName} {As : List Value} {a ci n idx : Nat} {fs : List Value} {T : u_T} {N : Nat} (V : jLk M.own idx y M' n) (V2 : Cond.instanceMethod y ∈ WT ∧ Cond.selects y.cls y y ∈ WT ∧ vwCl[ci]? = some (y.cls, T, N)) (ha : h a = some (.inr (ci, fs)))
    (C : jC l G y M' (.ref a :: As) h (jW (.inl v) P)) (hh : M'.hh = []) (hst : st = As.reverse ++ .ref a :: rest) (hn : As.length = n) (hrm : jRm M M' = true) (hrest : Nat.ble (rest.map fun v => v.category).sum 8 = true) (hd : decode M.cc pc = .ok (.invokevirtual idx, 3))
    (hck : M'.room.cells = 0) (hsk : M'.room.slots = 0) (kk : ∀ h', P h' → J l G M QF ck sk (pc + 3) L (v.toList ++ rest) h') : J l G M QF ck sk pc L st h :=
  j_callV (ck' := ck) (sk' := sk) V V2 ha C hh hst hn hrm hrest hd (by omega) (by omega) (fun v' h' hp => by obtain ⟨e1, e2⟩ := hp; cases e1; exact kk _ e2) (fun E h' hp => by cases hp.1)
end JA
