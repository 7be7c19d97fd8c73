/-! rows for the law: caught exceptions, calls of methods with a table, switches, the script -/
section LAWR
variable {l : Launch} {G : jG} {M M' : jM} {QF : jF} {ck sk ck' sk' pc : Nat} {L L' : List (Nat × Value)} {st rest : List Value} {h : jH} {Post' : jO → jH → Prop}
/-- an exception that this frame catches -/
theorem jX_catch {E : String} (pre : List ExceptionTableEntry) (x : ExceptionTableEntry) (suf : List ExceptionTableEntry) (ht : tableOf M.hh = pre ++ x :: suf) (hp : ∀ z ∈ pre, z.catchType ≠ 0 ∧ ∃ nm : String, Cond.classLink M.own z.catchType nm ∈ WT ∧ (E, nm) ∈ jNc)
    (hx : covers x pc = true) (h0 : x.catchType ≠ 0) (hl : Cond.classLink M.own x.catchType E ∈ WT) (hc : Cond.castable E E ∈ jNg) (kk : ∀ q : Nat, J l G M QF ck sk x.handlerPc L [.ref q] h) : jX l G M QF ck sk pc L rest h E := by
  intro p e s m args below meth c H locs cells slots ls q ce S hR hS hL hcc hss h1 h2 h3
  have hts := S.2.2.2.2.2.2.2.2.1
  have hK := S.2.2.2.2.2.2.2.2.2
  refine vx_catch (own := M.own) (name := E) (E := E) (ce := ce) S.2.2.2.2.2.2.2.1 pre x suf (S.2.2.2.2.1.trans ht) (fun z hz => ?_) hx h0 (hts _ hl) (va_Nw.use rfl (hK.2.2.2.2.2.1 _ hc)) h1 h2 h3 (kk q p e s m args below meth c H locs cells slots ls S hR hS hL hcc hss)
  obtain ⟨g1, nm, g2, g3⟩ := hp z hz
  exact Or.inr ⟨g1, nm, hts _ g2, hK.2.2.2.2.2.2.1 _ g3⟩
/-- a static call of a method that catches -/
theorem j_callSH {y : MethodName} {As : List Value} {n idx : Nat} {x0 : Nat × Nat × Nat × Nat} {xs : List (Nat × Nat × Nat × Nat)} (V : Cond.methodLink M.own idx y ∈ WT) (V1 : Cond.initialized y.cls ∈ WT ∧ Cond.codeWith y (jM.cc M') (jM.nL M') (jM.ret M') (jM.hh M') ∈ WT ∧ (y.cls ≠ "java/lang/invoke/MethodHandle" ∧ y.cls ≠ "java/lang/invoke/VarHandle") ∧ (parseMethodDescriptor y.desc).map (fun d => d.parameters.length) = some n) (V2 : Cond.static y ∈ WT)
    (C : jC l G y M' As h Post') (hX : ∀ E h', ¬ Post' (.inr E) h') (hh : M'.hh = x0 :: xs) (hst : st = As.reverse ++ rest) (hn : As.length = n) (hrm : jRm M M' = true) (hrest : Nat.ble (rest.map fun v => v.category).sum 8 = true) (hd : decode M.cc pc = .ok (.invokestatic idx, 3))
    (hck : M'.room.cells + ck' ≤ ck) (hsk : M'.room.slots + sk' ≤ sk) (kk : ∀ (v : Option Value) (h' : jH), Post' (.inl v) h' → J l G M QF ck' sk' (pc + 3) L (v.toList ++ rest) h') : J l G M QF ck sk pc L st h := by
  intro p e s m args below meth c H locs cells slots ls S hR hS hl hc hs
  have hts := S.2.2.2.2.2.2.2.2.1
  have hK := S.2.2.2.2.2.2.2.2.2
  have hw : jws y M' = Cond.codeWith y M'.cc M'.nL M'.ret M'.hh :: WT := by unfold jws; rw [hh]
  have cw : vx_CSW M.room s args M.own idx y M'.cc M'.nL M'.ret M'.hh (jws y M') M'.room M'.room.cells M'.room.slots n := by
    obtain ⟨v2, v3, v4, v5⟩ := V1
    refine ⟨⟨rfl, rfl, (jRm_fr hrm).1, (jRm_fr hrm).2, ?_, ?_⟩, hts _ v3, hts _ v2, v4, fun sig h => ?_, hts _ V, hts _ V2⟩
    · intro w hwm
      rw [hw] at hwm
      rcases List.mem_cons.mp hwm with e | e
      · rw [e]; exact WT_pay hts _ v3
      · exact WT_pay hts _ e
    · rw [hw]; exact List.mem_cons_self
    · rw [h] at v5
      exact (Option.some.inj v5).symm
  have hrun := vx_runSX (hh := M'.hh) (g := F0 m pc ls st) (rest := rest) (l := l) (R := M.room) (locs := locs) (cells := cells) (slots := slots) (below := below) (meth := meth) (e := e) (H := H) ⟨S.1, S.2.1, S.2.2.1, S.2.2.2.2.2.2.2.1, hts⟩ C cw
    ⟨jPc.blind, jPc_pre hK hS hR⟩ rfl hn hl.1 hst (lv_room (Nat.le_of_ble_eq_true hrest)) hd ⟨by omega, by omega⟩
  refine j_run hrun hS (fun v h' H1 locs1 hp hR1 hS1 => ?_) (fun E h' H1 locs1 q ce hp hR1 hS1 h1 h2 h3 => absurd hp (hX E h'))
  exact kk v h' hp p e s m args below meth c H1 locs1 _ _ ls S hR1 hS1 hl (by omega) (by omega)
/-- a switch from 0 to hi -/
theorem J_table {dflt hi : Int} {offs : Array Int} {len : Nat} {x : Int} (td : Nat) (hd : decode M.cc pc = .ok (.tableswitch dflt 0 hi offs, len)) (hx : rg x) (ht : (pc : Int) + dflt = (td : Int)) (kd : (x < 0 ∨ hi < x) → J l G M QF ck sk td L st h)
    (kin : ∀ k : Nat, (k : Int) ≤ hi → x = k → ∃ (off : Int) (tgt : Nat), offs[k]? = some off ∧ (pc : Int) + off = (tgt : Int) ∧ J l G M QF ck sk tgt L st h) : J l G M QF ck sk pc L (vI x :: st) h := by
  intro p e s m args below meth c H locs cells slots ls S hR hS hl hc hs
  by_cases d : x < 0 ∨ hi < x
  · exact lv_tableOut S.1 S.2.1 hd (by rw [I_toInt hx]; exact d) ht (kd d p e s m args below meth c H locs cells slots ls S hR hS hl hc hs)
  · obtain ⟨off, tgt, e1, e2, k⟩ := kin x.toNat (by omega) (by omega)
    exact lv_tableIn S.1 S.2.1 hd (by rw [I_toInt hx]; omega) (by rw [I_toInt hx]; omega) (by rw [I_toInt hx, Int.sub_zero]; exact e1) e2 (k p e s m args below meth c H locs cells slots ls S hR hS hl hc hs)
theorem lcmp_s (x : Int64) : lg_cmp x x = 0 := by
  unfold lg_cmp
  simp
end LAWR
