section JZ
variable {l : Launch} {G : jG} {M M' : jM} {QF : jF} {ck sk pc : Nat} {L L' : List (Nat × Value)} {st rest : List Value} {h h1 : jH}
/-- a call that answers a condition -/
theorem J_callVZ {b : Prop} [Decidable b] {y : MethodName} {As : List Value} {a ci n idx : Nat} {fs : List Value} {T : u_T} {N : Nat} (V : jLk M.own idx y M' n) (V2 : Cond.instanceMethod y ∈ WT ∧ Cond.selects y.cls y y ∈ WT ∧ vwCl[ci]? = some (y.cls, T, N)) (ha : h a = some (.inr (ci, fs)))
    (C : jC l G y M' (.ref a :: As) h (jE (oI (bI b)) h1)) (hh : M'.hh = []) (hst : st = As.reverse ++ .ref a :: rest) (hn : As.length = n) (hrm : jRm M M' = true) (hrest : Nat.ble (rest.map fun v => v.category).sum 8 = true) (hd : decode M.cc pc = .ok (.invokevirtual idx, 3))
    (hck : M'.room.cells = 0) (hsk : M'.room.slots = 0) (kt : b → J l G M QF ck sk (pc + 3) L (vI 1 :: rest) h1) (kf : ¬ b → J l G M QF ck sk (pc + 3) L (vI 0 :: rest) h1) : J l G M QF ck sk pc L st h := by
  refine J_callV1 V V2 ha C hh hst hn hrm hrest hd hck hsk ?_
  by_cases c : b
  · have e : bI b = 1 := if_pos c
    rw [e]; exact kt c
  · have e : bI b = 0 := if_neg c
    rw [e]; exact kf c
theorem J_callSZ {b : Prop} [Decidable b] {y : MethodName} {As : List Value} {n idx : Nat} (V : jLk M.own idx y M' n) (V2 : Cond.static y ∈ WT)
    (C : jC l G y M' As h (jE (oI (bI b)) h1)) (hh : M'.hh = []) (hst : st = As.reverse ++ rest) (hn : As.length = n) (hrm : jRm M M' = true) (hrest : Nat.ble (rest.map fun v => v.category).sum 8 = true) (hd : decode M.cc pc = .ok (.invokestatic idx, 3))
    (hck : M'.room.cells = 0) (hsk : M'.room.slots = 0) (kt : b → J l G M QF ck sk (pc + 3) L (vI 1 :: rest) h1) (kf : ¬ b → J l G M QF ck sk (pc + 3) L (vI 0 :: rest) h1) : J l G M QF ck sk pc L st h := by
  refine J_callS1 V V2 C hh hst hn hrm hrest hd hck hsk ?_
  by_cases c : b
  · have e : bI b = 1 := if_pos c
    rw [e]; exact kt c
  · have e : bI b = 0 := if_neg c
    rw [e]; exact kf c
theorem J_callSNZ {b : Prop} [Decidable b] {y : MethodName} {host : String} {As : List Value} {n idx : Nat} (V : jLkN M.own idx y host M' n) (V2 : Cond.static y ∈ WT)
    (C : jC l G y M' As h (jE (oI (bI b)) h1)) (hh : M'.hh = []) (hst : st = As.reverse ++ rest) (hn : As.length = n) (hrm : jRm M M' = true) (hrest : Nat.ble (rest.map fun v => v.category).sum 8 = true) (hd : decode M.cc pc = .ok (.invokestatic idx, 3))
    (hck : M'.room.cells = 0) (hsk : M'.room.slots = 0) (kt : b → J l G M QF ck sk (pc + 3) L (vI 1 :: rest) h1) (kf : ¬ b → J l G M QF ck sk (pc + 3) L (vI 0 :: rest) h1) : J l G M QF ck sk pc L st h := by
  refine J_callSN1 V V2 C hh hst hn hrm hrest hd hck hsk ?_
  by_cases c : b
  · have e : bI b = 1 := if_pos c
    rw [e]; exact kt c
  · have e : bI b = 0 := if_neg c
    rw [e]; exact kf c
end JZ
theorem j_locR {l : Launch} {G : jG} {M : jM} {QF : jF} {ck sk pc : Nat} {L L' : List (Nat × Value)} {st : List Value} {h : jH} (k : J l G M QF ck sk pc L' st h) (hsub : jle L' L) : J l G M QF ck sk pc L st h := j_loc hsub k
section JZ2
variable {l : Launch} {G : jG} {M M' : jM} {QF : jF} {ck sk pc : Nat} {L L' : List (Nat × Value)} {st rest : List Value} {h h1 : jH}
theorem J_callVW1 {P : jH → Prop} {w : Value} {y : MethodName} {As : List Value} {a ci n idx : Nat} {fs : List Value} {T : u_T} {N : Nat} (V : jLk M.own idx y M' n) (V2 : Cond.instanceMethod y ∈ WT ∧ Cond.selects y.cls y y ∈ WT ∧ vwCl[ci]? = some (y.cls, T, N)) (ha : h a = some (.inr (ci, fs)))
    (C : jC l G y M' (.ref a :: As) h (jW (.inl (some w)) P)) (hh : M'.hh = []) (hst : st = As.reverse ++ .ref a :: rest) (hn : As.length = n) (hrm : jRm M M' = true) (hrest : Nat.ble (rest.map fun v => v.category).sum 8 = true) (hd : decode M.cc pc = .ok (.invokevirtual idx, 3))
    (hck : M'.room.cells = 0) (hsk : M'.room.slots = 0) (kk : ∀ h', P h' → J l G M QF ck sk (pc + 3) L (w :: rest) h') : J l G M QF ck sk pc L st h :=
  J_callVW V V2 ha C hh hst hn hrm hrest hd hck hsk kk
theorem J_callVW0 {P : jH → Prop} {y : MethodName} {As : List Value} {a ci n idx : Nat} {fs : List Value} {T : u_T} {N : Nat} (V : jLk M.own idx y M' n) (V2 : Cond.instanceMethod y ∈ WT ∧ Cond.selects y.cls y y ∈ WT ∧ vwCl[ci]? = some (y.cls, T, N)) (ha : h a = some (.inr (ci, fs)))
    (C : jC l G y M' (.ref a :: As) h (jW (.inl none) P)) (hh : M'.hh = []) (hst : st = As.reverse ++ .ref a :: rest) (hn : As.length = n) (hrm : jRm M M' = true) (hrest : Nat.ble (rest.map fun v => v.category).sum 8 = true) (hd : decode M.cc pc = .ok (.invokevirtual idx, 3))
    (hck : M'.room.cells = 0) (hsk : M'.room.slots = 0) (kk : ∀ h', P h' → J l G M QF ck sk (pc + 3) L rest h') : J l G M QF ck sk pc L st h :=
  J_callVW V V2 ha C hh hst hn hrm hrest hd hck hsk kk
theorem J_callSW0 {P : jH → Prop} {y : MethodName} {As : List Value} {n idx : Nat} (V : jLk M.own idx y M' n) (V2 : Cond.static y ∈ WT)
    (C : jC l G y M' As h (jW (.inl none) P)) (hh : M'.hh = []) (hst : st = As.reverse ++ rest) (hn : As.length = n) (hrm : jRm M M' = true) (hrest : Nat.ble (rest.map fun v => v.category).sum 8 = true) (hd : decode M.cc pc = .ok (.invokestatic idx, 3))
    (hck : M'.room.cells = 0) (hsk : M'.room.slots = 0) (kk : ∀ h', P h' → J l G M QF ck sk (pc + 3) L rest h') : J l G M QF ck sk pc L st h :=
  j_callS (ck' := ck) (sk' := sk) V V2 C hh hst hn hrm hrest hd (by omega) (by omega) (fun v' h' hp => by obtain ⟨e1, e2⟩ := hp; cases e1; exact kk _ e2) (fun E h' hp => by cases hp.1)
end JZ2
