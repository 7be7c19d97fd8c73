section JC
variable {l : Launch} {G : jG} {M M' : jM} {QF : jF} {ck sk ck' sk' pc : Nat} {L L' : List (Nat × Value)} {st rest : List Value} {h : jH} {Post Post' : jO → jH → Prop}
/-- an exception of class E stands over the frame -/
def jX (l : Launch) (G : jG) (M : jM) (QF : jF) (ck sk pc : Nat) (L : List (Nat × Value)) (rest : List Value) (h : jH) (E : String) : Prop :=
  ∀ (p : Program) (e : Env) (s : State) (m : MethodId) (args : Array Value) (below : List Frame) (meth : Method) (c : Code) (H : Heap) (locs : List Loc) (cells slots : Nat) (ls : Array Slot) (q : Addr) (ce : Cell),
    jStd G M p s m args meth c → jR G h H → va_S (jB G) s.heap H locs → lv_has ls M.nL L → cells + ck ≤ M.room.cells → slots + sk ≤ M.room.slots →
    H[q]? = some ce → ce.vm = .none → s.vm.findClass E = some ce.cls → vx_W p l e M.room s m args below meth c H locs cells slots (QF below args s) (F0 m pc ls rest) q
theorem jX_out {E : String} (hh : M.hh = []) (hp : Post (.inr E) h) : jX l G M (jQ G M Post) ck sk pc L rest h E := by
  intro p e s m args below meth c H locs cells slots ls q ce S hR hS hl hc hs h1 h2 h3
  refine vx_out ?_ S.2.2.2.2.2.2.1 h1 h2 h3 (fun t ht hA => ⟨h, hp, by rw [ht]; exact hR, hS.F ht⟩) hS.2.2 (by omega) (by omega)
  intro x hx
  rw [S.2.2.2.2.1, hh] at hx
  cases hx
theorem jX_room (h1 : ck' ≤ ck) (h2 : sk' ≤ sk) {E : String} (k : jX l G M QF ck' sk' pc L rest h E) : jX l G M QF ck sk pc L rest h E := by
  intro p e s m args below meth c H locs cells slots ls q ce S hR hS hl hc hs
  exact k p e s m args below meth c H locs cells slots ls q ce S hR hS hl (Nat.le_trans (Nat.add_le_add_left h1 _) hc) (Nat.le_trans (Nat.add_le_add_left h2 _) hs)
/-- what a run of a call gives -/
theorem j_run {p : Program} {e : Env} {s : State} {m : MethodId} {args a : Array Value} {below : List Frame} {meth : Method} {c : Code} {H : Heap} {locs : List Loc} {cells slots mc ms : Nat} {ls : Array Slot} {R : Room} {Q : State → Prop}
    (hr : vx_Run p l e R s m args below meth c H locs cells slots mc ms (F0 m pc ls st) rest (jQc G Post' a) (jXC G Post') (jB G)) (hS : va_S (jB G) s.heap H locs)
    (kk : ∀ (v : Option Value) (h' : jH) (H1 : Heap) (locs1 : List Loc), Post' (.inl v) h' → jR G h' H1 → va_S (jB G) s.heap H1 locs1 → W p l e R s m args below meth c H1 locs1 (cells + mc) (slots + ms) Q (F0 m (pc + 3) ls (v.toList ++ rest)))
    (kx : ∀ (E : String) (h' : jH) (H1 : Heap) (locs1 : List Loc) (q : Addr) (ce : Cell), Post' (.inr E) h' → jR G h' H1 → va_S (jB G) s.heap H1 locs1 → H1[q]? = some ce → ce.vm = .none → s.vm.findClass E = some ce.cls → vx_W p l e R s m args below meth c H1 locs1 (cells + mc) (slots + ms) Q (F0 m pc ls rest) q) :
    W p l e R s m args below meth c H locs cells slots Q (F0 m pc ls st) := by
  intro T hT X
  rcases hr T hT X with ⟨v, st₀, t, T', L, h0, X', hL, e1, e2, ⟨v', h', hv, hp, hR, hF⟩, st⟩ | ⟨q, st₀, t, T', L, E, ce, h0, X', hL, e1, e2, ⟨h', hp, hR, hF⟩, hce, hcv, hcl, st⟩
  · cases hv
    obtain ⟨-, -, k3⟩ := vx_keep h0 e1 hS (fun q _ h => h) (fun q h => h) hL hF
    obtain ⟨t2, a1, b1⟩ := kk v h' T'.heap (locs ++ L) hp (by rw [e1]; exact hR) k3 T' rfl X'
    exact ⟨t2, st t2 a1, b1⟩
  · obtain ⟨-, -, k3⟩ := vx_keep h0 e1 hS (fun q _ h => h) (fun q h => h) hL hF
    obtain ⟨t2, a1, b1⟩ := kx E h' T'.heap (locs ++ L) q ce hp (by rw [e1]; exact hR) k3 (by rw [e1]; exact hce) hcv hcl T' rfl X'
    exact ⟨t2, st.trans a1, b1⟩
def jRm (M M' : jM) : Bool := Nat.ble (M'.room.frames + 1) M.room.frames && Nat.ble (8 + (M'.nL + 11) + M'.room.locals) M.room.locals
theorem jRm_fr (hr : jRm M M' = true) : M'.room.frames + 1 ≤ M.room.frames ∧ 8 + (M'.nL + 11) + M'.room.locals ≤ M.room.locals := by
  have h2 := Bool.and_eq_true_iff.mp hr
  exact ⟨Nat.le_of_ble_eq_true h2.1, Nat.le_of_ble_eq_true h2.2⟩
/-- a call of y by the entry idx of own's file: its words -/
def jLk (own : String) (idx : Nat) (y : MethodName) (M' : jM) (n : Nat) : Prop :=
  Cond.methodLink own idx y ∈ WT ∧ Cond.initialized y.cls ∈ WT ∧ Cond.code y M'.cc M'.nL M'.ret ∈ WT ∧ (y.cls ≠ "java/lang/invoke/MethodHandle" ∧ y.cls ≠ "java/lang/invoke/VarHandle") ∧ (parseMethodDescriptor y.desc).map (fun d => d.parameters.length) = some n
theorem jLk.callB {own : String} {idx n : Nat} {y : MethodName} (V : jLk own idx y M' n) (hh : M'.hh = []) (hr : jRm M M' = true) {s : State} {args : Array Value} (hts : ∀ w ∈ WT, w.before args s = true) : CallB M.room s args own idx y M'.cc M'.nL M'.ret (jws y M') M'.room M'.room.cells M'.room.slots n := by
  obtain ⟨v1, v2, v3, v4, v5⟩ := V
  have hw : jws y M' = Cond.code y M'.cc M'.nL M'.ret :: WT := by unfold jws; rw [hh]
  refine ⟨rfl, rfl, (jRm_fr hr).1, (jRm_fr hr).2, ?_, ?_, hts _ v3, hts _ v2, v4, fun sig h => ?_, hts _ v1⟩
  · intro w hwm
    rw [hw] at hwm
    rcases List.mem_cons.mp hwm with e | e
    · rw [e]; exact WT_pay hts _ v3
    · exact WT_pay hts _ e
  · rw [hw]; exact List.mem_cons_self
  · rw [h] at v5
    exact (Option.some.inj v5).symm
theorem jPc_pre {G : jG} {av : List Value} {h : jH} {s : State} {H : Heap} {locs : List Loc} (hK : jK G s s.heap) (hS : va_S (jB G) s.heap H locs) (hR : jR G h H) : ∀ U : State, U.heap = H → s.WarmedH U.vm → jPc G av h av.toArray U :=
  fun U hU hW => ⟨rfl, by rw [hU]; exact hR, by rw [hU]; exact jK.moved hK hW hS.1 hS.2.1⟩
theorem j_callV {y : MethodName} {As : List Value} {a ci n idx : Nat} {fs : List Value} {T : u_T} {N : Nat} (V : jLk M.own idx y M' n) (V2 : Cond.instanceMethod y ∈ WT ∧ Cond.selects y.cls y y ∈ WT ∧ vwCl[ci]? = some (y.cls, T, N)) (ha : h a = some (.inr (ci, fs)))
    (C : jC l G y M' (.ref a :: As) h Post') (hh : M'.hh = []) (hst : st = As.reverse ++ .ref a :: rest) (hn : As.length = n) (hrm : jRm M M' = true) (hrest : Nat.ble (rest.map fun v => v.category).sum 8 = true) (hd : decode M.cc pc = .ok (.invokevirtual idx, 3))
    (hck : M'.room.cells + ck' ≤ ck) (hsk : M'.room.slots + sk' ≤ sk) (kk : ∀ (v : Option Value) (h' : jH), Post' (.inl v) h' → J l G M QF ck' sk' (pc + 3) L (v.toList ++ rest) h')
    (kx : ∀ (E : String) (h' : jH), Post' (.inr E) h' → jX l G M QF ck' sk' pc L rest h' E) : J l G M QF ck sk pc L st h := by
  intro p e s m args below meth c H locs cells slots ls S hR hS hl hc hs
  have hts := S.2.2.2.2.2.2.2.2.1
  have hK := S.2.2.2.2.2.2.2.2.2
  obtain ⟨r, hr1, cell, g1, g2, g3, -⟩ := (hR a _ ha).2
  have hr : r = (y.cls, T, N) := Option.some.inj (hr1.symm.trans V2.2.2)
  subst hr
  have hrun := vx_runV (g := F0 m pc ls st) (rest := rest) (l := l) (R := M.room) (locs := locs) (cells := cells) (slots := slots) (below := below) (meth := meth) (e := e) (H := H) ⟨S.1, S.2.1, S.2.2.1, S.2.2.2.2.2.2.2.1, hts⟩ C ⟨V.callB hh hrm hts, hts _ V2.1, hts _ V2.2.1⟩
    ⟨jPc.blind, ⟨cell, g1, by rw [g3]; rfl, by rw [g2]; exact (hK.1.1 ci _ V2.2.2).2.1⟩, jPc_pre hK hS hR⟩ rfl hn hl.1 hst (lv_room (Nat.le_of_ble_eq_true hrest)) hd ⟨by omega, by omega⟩
  refine j_run hrun hS (fun v h' H1 locs1 hp hR1 hS1 => ?_) (fun E h' H1 locs1 q ce hp hR1 hS1 h1 h2 h3 => ?_)
  · exact kk v h' hp p e s m args below meth c H1 locs1 _ _ ls S hR1 hS1 hl (by omega) (by omega)
  · exact kx E h' hp p e s m args below meth c H1 locs1 _ _ ls q ce S hR1 hS1 hl (by omega) (by omega) h1 h2 h3
theorem j_callS {y : MethodName} {As : List Value} {n idx : Nat} (V : jLk M.own idx y M' n) (V2 : Cond.static y ∈ WT)
    (C : jC l G y M' As h Post') (hh : M'.hh = []) (hst : st = As.reverse ++ rest) (hn : As.length = n) (hrm : jRm M M' = true) (hrest : Nat.ble (rest.map fun v => v.category).sum 8 = true) (hd : decode M.cc pc = .ok (.invokestatic idx, 3))
    (hck : M'.room.cells + ck' ≤ ck) (hsk : M'.room.slots + sk' ≤ sk) (kk : ∀ (v : Option Value) (h' : jH), Post' (.inl v) h' → J l G M QF ck' sk' (pc + 3) L (v.toList ++ rest) h')
    (kx : ∀ (E : String) (h' : jH), Post' (.inr E) h' → jX l G M QF ck' sk' pc L rest h' E) : J l G M QF ck sk pc L st h := by
  intro p e s m args below meth c H locs cells slots ls S hR hS hl hc hs
  have hts := S.2.2.2.2.2.2.2.2.1
  have hK := S.2.2.2.2.2.2.2.2.2
  have hrun := vx_runS (g := F0 m pc ls st) (rest := rest) (l := l) (R := M.room) (locs := locs) (cells := cells) (slots := slots) (below := below) (meth := meth) (e := e) (H := H) ⟨S.1, S.2.1, S.2.2.1, S.2.2.2.2.2.2.2.1, hts⟩ C ⟨V.callB hh hrm hts, hts _ V2⟩
    ⟨jPc.blind, jPc_pre hK hS hR⟩ rfl hn hl.1 hst (lv_room (Nat.le_of_ble_eq_true hrest)) hd ⟨by omega, by omega⟩
  refine j_run hrun hS (fun v h' H1 locs1 hp hR1 hS1 => ?_) (fun E h' H1 locs1 q ce hp hR1 hS1 h1 h2 h3 => ?_)
  · exact kk v h' hp p e s m args below meth c H1 locs1 _ _ ls S hR1 hS1 hl (by omega) (by omega)
  · exact kx E h' hp p e s m args below meth c H1 locs1 _ _ ls q ce S hR1 hS1 hl (by omega) (by omega) h1 h2 h3
/-- the end of a method -/
theorem j_iret {v : Int32} (hr : M.ret = some .int) (hd : decode M.cc pc = .ok (.ireturn, 1)) (hp : Post (.inl (some (.int v))) h) : J l G M (jQ G M Post) ck sk pc L [.int v] h := by
  intro p e s m args below meth c H locs cells slots ls S hR hS hl hc hs
  refine W.widen (k := M.room.cells) (n := M.room.slots) (by omega) (by omega) (vx_ret ?_)
  exact W.iret S.1 S.2.1 (S.2.2.2.1.trans hr) (fun t ht _ => ⟨_, h, rfl, hp, by rw [ht]; exact hR, hS.F ht⟩) hS.2.2 hd S.2.2.2.2.2.2.1
theorem j_zret {v : Int32} (hr : M.ret = some .boolean) (hn : narrow .boolean (.int v) = .int v) (hd : decode M.cc pc = .ok (.ireturn, 1)) (hp : Post (.inl (some (.int v))) h) : J l G M (jQ G M Post) ck sk pc L [.int v] h := by
  intro p e s m args below meth c H locs cells slots ls S hR hS hl hc hs
  refine W.widen (k := M.room.cells) (n := M.room.slots) (by omega) (by omega) (vx_ret ?_)
  exact W.zret S.1 S.2.1 (S.2.2.2.1.trans hr) hn (fun t ht _ => ⟨_, h, rfl, hp, by rw [ht]; exact hR, hS.F ht⟩) hS.2.2 hd S.2.2.2.2.2.2.1
theorem j_vret (hr : M.ret = none) (hd : decode M.cc pc = .ok (.return_, 1)) (hp : Post (.inl none) h) : J l G M (jQ G M Post) ck sk pc L [] h := by
  intro p e s m args below meth c H locs cells slots ls S hR hS hl hc hs
  refine W.widen (k := M.room.cells) (n := M.room.slots) (by omega) (by omega) (vx_ret ?_)
  exact W.vret S.1 S.2.1 (S.2.2.2.1.trans hr) (fun t ht _ => ⟨_, h, rfl, hp, by rw [ht]; exact hR, hS.F ht⟩) hS.2.2 hd S.2.2.2.2.2.2.1
theorem j_aret {a : Nat} {n : String} (hr : M.ret = some (.object n)) (hd : decode M.cc pc = .ok (.areturn, 1)) (hp : Post (.inl (some (.ref a))) h) : J l G M (jQ G M Post) ck sk pc L [.ref a] h := by
  intro p e s m args below meth c H locs cells slots ls S hR hS hl hc hs
  refine W.widen (k := M.room.cells) (n := M.room.slots) (by omega) (by omega) (vx_ret ?_)
  exact W.aret S.1 S.2.1 (S.2.2.2.1.trans hr) (Or.inl ⟨_, rfl⟩) (Or.inr ⟨_, rfl⟩) (fun t ht _ => ⟨_, h, rfl, hp, by rw [ht]; exact hR, hS.F ht⟩) hS.2.2 hd S.2.2.2.2.2.2.1
end JC
