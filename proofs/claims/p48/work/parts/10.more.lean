section JO
variable {l : Launch} {G : jG} {M M' : jM} {QF : jF} {ck sk ck' sk' pc : Nat} {L L' : List (Nat × Value)} {st rest : List Value} {h : jH} {Post Post' : jO → jH → Prop}
/-- what a run of a returning call gives -/
theorem j_runR {p : Program} {e : Env} {s : State} {m : MethodId} {args a : Array Value} {below : List Frame} {meth : Method} {c : Code} {H : Heap} {locs : List Loc} {cells slots mc ms : Nat} {ls : Array Slot} {R : Room} {Q : State → Prop}
    (hr : va_Run p l e R s m args below meth c H locs cells slots mc ms (F0 m pc ls st) rest (jQc G Post' a) (jB G)) (hS : va_S (jB G) s.heap H locs)
    (kk : ∀ (v : Option Value) (h' : jH) (H1 : Heap) (locs1 : List Loc), Post' (.inl v) h' → jR G h' H1 → va_S (jB G) s.heap H1 locs1 → W p l e R s m args below meth c H1 locs1 (cells + mc) (slots + ms) Q (F0 m (pc + 3) ls (v.toList ++ rest))) :
    W p l e R s m args below meth c H locs cells slots Q (F0 m pc ls st) := by
  intro T hT X
  obtain ⟨v, st₀, t, T', L, h0, X', hL, e1, e2, ⟨v', h', hv, hp, hR, hF⟩, st⟩ := hr T hT X
  cases hv
  obtain ⟨-, -, k3⟩ := vx_keep h0 e1 hS (fun q _ h => h) (fun q h => h) hL hF
  obtain ⟨t2, a1, b1⟩ := kk v h' T'.heap (locs ++ L) hp (by rw [e1]; exact hR) k3 T' rfl X'
  exact ⟨t2, st t2 a1, b1⟩
/-- constructors -/
theorem j_callI {y : MethodName} {As : List Value} {a n idx : Nat} (V : jLk M.own idx y M' n) (V2 : Cond.instanceMethod y ∈ WT ∧ y.name = "<init>")
    (C : jC l G y M' (.ref a :: As) h Post') (hX : ∀ E h', ¬ Post' (.inr E) h') (hh : M'.hh = []) (hret : M'.ret = none) (hst : st = As.reverse ++ .ref a :: rest) (hn : As.length = n) (hrm : jRm M M' = true) (hrest : Nat.ble (rest.map fun v => v.category).sum 8 = true) (hd : decode M.cc pc = .ok (.invokespecial idx, 3))
    (hck : M'.room.cells + ck' ≤ ck) (hsk : M'.room.slots + sk' ≤ sk) (kk : ∀ (v : Option Value) (h' : jH), Post' (.inl v) h' → J l G M QF ck' sk' (pc + 3) L (v.toList ++ rest) h') : J l G M QF ck sk pc L st h := by
  intro p e s m args below meth c H locs cells slots ls S hR hS hl hc hs
  have hts := S.2.2.2.2.2.2.2.2.1
  have hK := S.2.2.2.2.2.2.2.2.2
  have hB := V.callB hh hrm hts
  rw [hret] at hB
  have hrun := va_runI (g := F0 m pc ls st) (b := a) (As := As) (rest := rest) (l := l) (R := M.room) (locs := locs) (cells := cells) (slots := slots) (below := below) (meth := meth) (e := e) (H := H) ⟨S.1, S.2.1, S.2.2.1, S.2.2.2.2.2.2.2.1, hts⟩ (C.met hX) ⟨hB, V2.2, hts _ V2.1⟩
    ⟨jPc.blind, jPc_pre hK hS hR⟩ rfl hn hl.1 hst (lv_room (Nat.le_of_ble_eq_true hrest)) hd ⟨by omega, by omega⟩
  refine j_runR hrun hS (fun v h' H1 locs1 hp hR1 hS1 => ?_)
  exact kk v h' hp p e s m args below meth c H1 locs1 _ _ ls S hR1 hS1 hl (by omega) (by omega)
/-- nest mates: a call's words -/
def jLkN (own : String) (idx : Nat) (y : MethodName) (host : String) (M' : jM) (n : Nat) : Prop :=
  Cond.methodLinkNest own idx y host ∈ jNg ∧ Cond.initialized y.cls ∈ WT ∧ Cond.code y M'.cc M'.nL M'.ret ∈ WT ∧ (y.cls ≠ "java/lang/invoke/MethodHandle" ∧ y.cls ≠ "java/lang/invoke/VarHandle") ∧ (parseMethodDescriptor y.desc).map (fun d => d.parameters.length) = some n
theorem jLkN.cn {own host : String} {idx n : Nat} {y : MethodName} (V : jLkN own idx y host M' n) (hh : M'.hh = []) (hr : jRm M M' = true) {s : State} {args : Array Value} (hts : ∀ w ∈ WT, w.before args s = true) (hN : ∀ w ∈ jNg, va_Nw w s) : va_CN M.room s args own idx y host M'.cc M'.nL M'.ret (jws y M') M'.room M'.room.cells M'.room.slots n := by
  obtain ⟨v1, v2, v3, v4, v5⟩ := V
  have hw : jws y M' = Cond.code y M'.cc M'.nL M'.ret :: WT := by unfold jws; rw [hh]
  refine ⟨⟨rfl, rfl, (jRm_fr hr).1, (jRm_fr hr).2, ?_, ?_⟩, hts _ v3, hts _ v2, v4, fun sig h => ?_, va_Nw.use rfl (hN _ v1)⟩
  · intro w hwm
    rw [hw] at hwm
    rcases List.mem_cons.mp hwm with e | e
    · rw [e]; exact WT_pay hts _ v3
    · exact WT_pay hts _ e
  · rw [hw]; exact List.mem_cons_self
  · rw [h] at v5
    exact (Option.some.inj v5).symm
theorem j_callIN {y : MethodName} {host : String} {As : List Value} {a n idx : Nat} (V : jLkN M.own idx y host M' n) (V2 : Cond.instanceMethod y ∈ WT ∧ y.name = "<init>")
    (C : jC l G y M' (.ref a :: As) h Post') (hX : ∀ E h', ¬ Post' (.inr E) h') (hh : M'.hh = []) (hret : M'.ret = none) (hst : st = As.reverse ++ .ref a :: rest) (hn : As.length = n) (hrm : jRm M M' = true) (hrest : Nat.ble (rest.map fun v => v.category).sum 8 = true) (hd : decode M.cc pc = .ok (.invokespecial idx, 3))
    (hck : M'.room.cells + ck' ≤ ck) (hsk : M'.room.slots + sk' ≤ sk) (kk : ∀ (v : Option Value) (h' : jH), Post' (.inl v) h' → J l G M QF ck' sk' (pc + 3) L (v.toList ++ rest) h') : J l G M QF ck sk pc L st h := by
  intro p e s m args below meth c H locs cells slots ls S hR hS hl hc hs
  have hts := S.2.2.2.2.2.2.2.2.1
  have hK := S.2.2.2.2.2.2.2.2.2
  have hB := V.cn hh hrm hts hK.2.2.2.2.2.1
  rw [hret] at hB
  have hrun := va_runIN (g := F0 m pc ls st) (b := a) (As := As) (rest := rest) (l := l) (R := M.room) (locs := locs) (cells := cells) (slots := slots) (below := below) (meth := meth) (e := e) (H := H) ⟨S.1, S.2.1, S.2.2.1, S.2.2.2.2.2.2.2.1, hts⟩ (C.met hX) ⟨hB, V2.2, hts _ V2.1⟩
    ⟨jPc.blind, jPc_pre hK hS hR⟩ rfl hn hl.1 hst (lv_room (Nat.le_of_ble_eq_true hrest)) hd ⟨by omega, by omega⟩
  refine j_runR hrun hS (fun v h' H1 locs1 hp hR1 hS1 => ?_)
  exact kk v h' hp p e s m args below meth c H1 locs1 _ _ ls S hR1 hS1 hl (by omega) (by omega)
theorem j_callSN {y : MethodName} {host : String} {As : List Value} {n idx : Nat} (V : jLkN M.own idx y host M' n) (V2 : Cond.static y ∈ WT)
    (C : jC l G y M' As h Post') (hX : ∀ E h', ¬ Post' (.inr E) h') (hh : M'.hh = []) (hst : st = As.reverse ++ rest) (hn : As.length = n) (hrm : jRm M M' = true) (hrest : Nat.ble (rest.map fun v => v.category).sum 8 = true) (hd : decode M.cc pc = .ok (.invokestatic idx, 3))
    (hck : M'.room.cells + ck' ≤ ck) (hsk : M'.room.slots + sk' ≤ sk) (kk : ∀ (v : Option Value) (h' : jH), Post' (.inl v) h' → J l G M QF ck' sk' (pc + 3) L (v.toList ++ rest) h') : J l G M QF ck sk pc L st h := by
  intro p e s m args below meth c H locs cells slots ls S hR hS hl hc hs
  have hts := S.2.2.2.2.2.2.2.2.1
  have hK := S.2.2.2.2.2.2.2.2.2
  have hB := V.cn hh hrm hts hK.2.2.2.2.2.1
  have hrun := va_runSN (g := F0 m pc ls st) (As := As) (rest := rest) (l := l) (R := M.room) (locs := locs) (cells := cells) (slots := slots) (below := below) (meth := meth) (e := e) (H := H) ⟨S.1, S.2.1, S.2.2.1, S.2.2.2.2.2.2.2.1, hts⟩ (C.met hX) ⟨hB, hts _ V2, trivial⟩
    ⟨jPc.blind, jPc_pre hK hS hR⟩ rfl hn hl.1 hst (lv_room (Nat.le_of_ble_eq_true hrest)) hd ⟨by omega, by omega⟩
  refine j_runR hrun hS (fun v h' H1 locs1 hp hR1 hS1 => ?_)
  exact kk v h' hp p e s m args below meth c H1 locs1 _ _ ls S hR1 hS1 hl (by omega) (by omega)
/-- fields of a nest mate -/
def jFlN (own host : String) (idx ci k : Nat) : Prop := ∃ (C : String) (T : u_T) (N : Nat), vwCl[ci]? = some (C, T, N) ∧ k < N ∧ Cond.fieldLinkNest own idx (T k).1 (T k).2.1 (T k).2.2.1 host ∈ jNg ∧ ∀ w ∈ u_ws C T N, w ∈ WT
theorem j_getN {host : String} {idx a ci k : Nat} {fs : List Value} {v : Value} (F : jFlN M.own host idx ci k) (hd : decode M.cc pc = .ok (.getfield idx, 3)) (ha : h a = some (.inr (ci, fs))) (hv : fs[k]? = some v) (kk : J l G M QF ck sk (pc + 3) L (v :: st) h) : J l G M QF ck sk pc L (.ref a :: st) h := by
  intro p e s m args below meth c H locs cells slots ls S hR hS hl hc hs
  obtain ⟨C, T, N, hcl, hk, hw, hin⟩ := F
  exact va_getN (D := G.1) (cl := vwCl) (tys := jT G) (ws := [(a, .inr (ci, fs))]) (ref := (T k).1) S.1 S.2.1 S.2.2.2.2.2.2.2.2.1 hin S.2.2.2.2.2.2.2.1 S.2.2.2.2.2.2.2.2.2.1
    (va_P1 (hR _ _ ha).2) 0 rfl hcl k hk (va_Nw.use rfl (S.2.2.2.2.2.2.2.2.2.2.2.2.2.2.1 _ hw)) (fun _ z => z) hv hd (kk p e s m args below meth c H locs cells slots ls S hR hS hl hc hs)
theorem j_putN {host : String} {idx a ci k : Nat} {fs fs' : List Value} {v : Value} {ty : FieldType} (F : jFlN M.own host idx ci k) (Y : jTy ci k ty false) (hd : decode M.cc pc = .ok (.putfield idx, 3)) (ha : h a = some (.inr (ci, fs))) (hn : narrow ty v = v) (hfit : fits ty v = true) (hl0 : Nat.blt k fs.length = true) (hf : fs.set k v = fs') (kk : J l G M QF ck sk (pc + 3) L st (hset h a (.inr (ci, fs')))) : J l G M QF ck sk pc L (v :: .ref a :: st) h := by
  intro p e s m args below meth c H locs cells slots ls S hR hS hl hc hs
  obtain ⟨C, T, N, hcl, hk, hw, hin⟩ := F
  obtain ⟨C', T', N', ty0, hcl', hty, hnm, hpd, hfin, hC⟩ := Y
  rw [hcl] at hcl'
  cases hcl'
  subst hf
  have hts := S.2.2.2.2.2.2.2.2.1
  have hK := S.2.2.2.2.2.2.2.2.2.1
  have hap := va_apart (own := M.own) hts hin ty0 hty hnm hK hcl
  obtain ⟨r, h1, cell, q1, q2, q3, q4⟩ := (hR a _ ha).2
  have hr : r = (C, T, N) := Option.some.inj (h1.symm.trans hcl)
  subst hr
  obtain ⟨hS0, hfc, kC, hkC, hkind⟩ := hK.1 ci _ hcl
  obtain ⟨cf, kf, fi, f, hi, hsl⟩ := hS0 k hk
  have hlay := hts _ (hin _ (u_in_lay hk))
  unfold u_lay at hlay
  rw [if_neg (by rw [hfin]; decide)] at hlay
  have hst := (u_facts hfc hkC (u_lays hts hin hk) hi).1
  have h6 := u_store hfc hkC hkind hlay hi hpd hn hfit
  refine va_WputK S.1 S.2.1 (f := f) S.2.2.2.2.2.2.2.1 (va_Nw.use rfl (S.2.2.2.2.2.2.2.2.2.2.2.2.2.2.1 _ hw)) hi hst (by rw [q2]; exact h6) q1 q3 (by rw [hsl]; exact k2_hasslot (q4 k hk)) rfl rfl hd fun H' e1 e2 e3 => ?_
  rw [hsl] at e1 ⊢
  exact kk p e s m args below meth c H' _ cells slots ls S (hR.set ha ⟨_, hcl, t_OB.to (V := updV (vp_V fs) k v) ⟨_, e1, q2, q3, t_set q4 hap hk v⟩ (fun j _ => vp_updV_set (Nat.le_of_ble_eq_true hl0) v j)⟩ e3) (hS.put e2 e3 (hR a _ ha).1) hl hc hs
/-! Math -/
theorem j_mmax {idx : Nat} {x y : Int32} (hw : Cond.methodLink M.own idx Lib.Math.max.name ∈ WT ∧ Cond.static Lib.Math.max.name ∈ WT ∧ Cond.initialized "java/lang/Math" ∈ WT ∧ Cond.code Lib.Math.max.name Lib.Math.max.code 2 (some .int) ∈ WT) (hfr : Nat.ble 1 M.room.frames = true) (hlo : Nat.ble ((st.map fun v => v.category).sum + 13) M.room.locals = true)
    (hd : decode M.cc pc = .ok (.invokestatic idx, 3)) (kk : J l G M QF ck sk (pc + 3) L (.int (if x < y then y else x) :: st) h) : J l G M QF ck sk pc L (.int y :: .int x :: st) h := by
  intro p e s m args below meth c H locs cells slots ls S hR hS hl hc hs
  have hts := S.2.2.2.2.2.2.2.2.1
  exact va_mmax S.1 S.2.1 (S.2.2.1.trans hl.1.symm) S.2.2.2.2.2.2.2.1 (hts _ hw.1) (hts _ hw.2.1) (hts _ hw.2.2.1) (hts _ hw.2.2.2) (Nat.le_of_ble_eq_true hfr) (Nat.le_of_ble_eq_true hlo) (by omega) (by omega) hd (kk p e s m args below meth c H locs cells slots ls S hR hS hl hc hs)
theorem j_mmin {idx : Nat} {x y : Int32} (hw : Cond.methodLink M.own idx Lib.Math.min.name ∈ WT ∧ Cond.static Lib.Math.min.name ∈ WT ∧ Cond.initialized "java/lang/Math" ∈ WT ∧ Cond.code Lib.Math.min.name Lib.Math.min.code 2 (some .int) ∈ WT) (hfr : Nat.ble 1 M.room.frames = true) (hlo : Nat.ble ((st.map fun v => v.category).sum + 13) M.room.locals = true)
    (hd : decode M.cc pc = .ok (.invokestatic idx, 3)) (kk : J l G M QF ck sk (pc + 3) L (.int (if y < x then y else x) :: st) h) : J l G M QF ck sk pc L (.int y :: .int x :: st) h := by
  intro p e s m args below meth c H locs cells slots ls S hR hS hl hc hs
  have hts := S.2.2.2.2.2.2.2.2.1
  exact va_mmin S.1 S.2.1 (S.2.2.1.trans hl.1.symm) S.2.2.2.2.2.2.2.1 (hts _ hw.1) (hts _ hw.2.1) (hts _ hw.2.2.1) (hts _ hw.2.2.2) (Nat.le_of_ble_eq_true hfr) (Nat.le_of_ble_eq_true hlo) (by omega) (by omega) hd (kk p e s m args below meth c H locs cells slots ls S hR hS hl hc hs)
theorem j_mabs {idx : Nat} {x : Int32} (hw : Cond.methodLink M.own idx Lib.Math.abs.name ∈ WT ∧ Cond.static Lib.Math.abs.name ∈ WT ∧ Cond.initialized "java/lang/Math" ∈ WT ∧ Cond.code Lib.Math.abs.name Lib.Math.abs.code 1 (some .int) ∈ WT) (hfr : Nat.ble 1 M.room.frames = true) (hlo : Nat.ble ((st.map fun v => v.category).sum + 13) M.room.locals = true)
    (hd : decode M.cc pc = .ok (.invokestatic idx, 3)) (kk : J l G M QF ck sk (pc + 3) L (.int (if 0 ≤ x then x else 0 - x) :: st) h) : J l G M QF ck sk pc L (.int x :: st) h := by
  intro p e s m args below meth c H locs cells slots ls S hR hS hl hc hs
  have hts := S.2.2.2.2.2.2.2.2.1
  exact va_mabs S.1 S.2.1 (S.2.2.1.trans hl.1.symm) S.2.2.2.2.2.2.2.1 (hts _ hw.1) (hts _ hw.2.1) (hts _ hw.2.2.1) (hts _ hw.2.2.2) (Nat.le_of_ble_eq_true hfr) (Nat.le_of_ble_eq_true hlo) (by omega) (by omega) hd (kk p e s m args below meth c H locs cells slots ls S hR hS hl hc hs)
/-! throw new E("text") -/
def jEx : List (String × Nat) := [("java/lang/IndexOutOfBoundsException", 357), ("java/lang/IllegalArgumentException", 134), ("java/lang/IllegalStateException", 106)]
abbrev jCh : List String := ["java/lang/RuntimeException", "java/lang/Exception"]
def jThr (E : String) (ic ik : Nat) : Prop := Cond.classLink RX9 ik E ∈ WT ∧ Cond.initialized E ∈ WT ∧ Bundle.fit E = true ∧ (∀ w ∈ vx_atS RX9 ic E jCh, w ∈ WT ∨ (w ∈ jNg ∧ w.onTables = true)) ∧ ∀ w ∈ Cond.classLink RX9 ik E :: Cond.initialized E :: vx_atS RX9 ic E jCh, vx_ot w = true
theorem jCh_fit : ∀ n ∈ jCh, Bundle.fit n = true := by decide +kernel
theorem j_throwS {E text : String} {ic ik is k : Nat} (hl0 : l.stackTraces = false) (hown : M.own = RX9) (V : jThr E ic ik) (hx : jTx[k]? = some (is, text)) (hh : M.hh = [])
    (d0 : decode M.cc pc = .ok (.new ik, 3)) (d3 : decode M.cc (pc + 3) = .ok (.dup, 1)) (d4 : decode M.cc (pc + 4) = .ok (.ldc is, 2)) (d6 : decode M.cc (pc + 6) = .ok (.invokespecial ic, 3)) (d9 : decode M.cc (pc + 9) = .ok (.athrow, 1))
    (hfr : Nat.ble 6 M.room.frames = true) (hlo : Nat.ble ((st.map fun v => v.category).sum + 82) M.room.locals = true) (hck : 1 ≤ ck) (hsk : 6 ≤ sk) (hp : Post (.inr E) h) : J l G M (jQ G M Post) ck sk pc L st h := by
  intro p e s m args below meth c H locs cells slots ls S hR hS hl hc hs
  have hts := S.2.2.2.2.2.2.2.2.1
  have hK := S.2.2.2.2.2.2.2.2.2
  obtain ⟨v1, v2, v3, v4, v5⟩ := V
  have ho := S.2.2.2.2.2.2.2.1
  rw [hown] at ho
  refine vx_throwS (names := jCh) (A := jB G) S.1 S.2.1 hl0 ho v3 jCh_fit (hts _ v1) (hts _ v2) (hK.2.2.1 k _ hx) (fun w hw => ?_) v5 hK.2.2.2.1.1 hK.2.2.2.1.2 hS (hl.1.trans S.2.2.1.symm) d0 d3 d4 d6 d9 ?_ (Nat.le_of_ble_eq_true hfr) (Nat.le_of_ble_eq_true hlo) (by omega) (by omega) S.2.2.2.2.2.2.1 ?_ hS.2.2 (by omega) (by omega)
  · rcases v4 w hw with q | q
    · exact hts _ q
    · exact va_Nw.use q.2 (hK.2.2.2.2.2.1 w q.1)
  · intro x hx
    rw [S.2.2.2.2.1, hh] at hx
    cases hx
  · intro t hA hz hq
    exact ⟨h, hp, fun a e9 he => ⟨(hR a e9 he).1, (hR a e9 he).2.kept (hq a (hR a e9 he).2.lt)⟩, Nat.le_trans hS.1 hz, fun q h1 h2 => (hq q (Nat.lt_of_lt_of_le h1 hS.1)).trans (hS.2.1 q h1 h2)⟩
theorem j_throwSW {E text : String} {ic ik is k : Nat} (hl0 : l.stackTraces = false) (hown : M.own = RX9) (V : jThr E ic ik) (hx : jTx[k]? = some (is, text)) (hh : M.hh = [])
    (d0 : decode M.cc pc = .ok (.new ik, 3)) (d3 : decode M.cc (pc + 3) = .ok (.dup, 1)) (d4 : decode M.cc (pc + 4) = .ok (.ldc_w is, 3)) (d6 : decode M.cc (pc + 7) = .ok (.invokespecial ic, 3)) (d9 : decode M.cc (pc + 10) = .ok (.athrow, 1))
    (hfr : Nat.ble 6 M.room.frames = true) (hlo : Nat.ble ((st.map fun v => v.category).sum + 82) M.room.locals = true) (hck : 1 ≤ ck) (hsk : 6 ≤ sk) (hp : Post (.inr E) h) : J l G M (jQ G M Post) ck sk pc L st h := by
  intro p e s m args below meth c H locs cells slots ls S hR hS hl hc hs
  have hts := S.2.2.2.2.2.2.2.2.1
  have hK := S.2.2.2.2.2.2.2.2.2
  obtain ⟨v1, v2, v3, v4, v5⟩ := V
  have ho := S.2.2.2.2.2.2.2.1
  rw [hown] at ho
  refine vx_throwSW (names := jCh) (A := jB G) S.1 S.2.1 hl0 ho v3 jCh_fit (hts _ v1) (hts _ v2) (hK.2.2.1 k _ hx) (fun w hw => ?_) v5 hK.2.2.2.1.1 hK.2.2.2.1.2 hS (hl.1.trans S.2.2.1.symm) d0 d3 d4 d6 d9 ?_ (Nat.le_of_ble_eq_true hfr) (Nat.le_of_ble_eq_true hlo) (by omega) (by omega) S.2.2.2.2.2.2.1 ?_ hS.2.2 (by omega) (by omega)
  · rcases v4 w hw with q | q
    · exact hts _ q
    · exact va_Nw.use q.2 (hK.2.2.2.2.2.1 w q.1)
  · intro x hx
    rw [S.2.2.2.2.1, hh] at hx
    cases hx
  · intro t hA hz hq
    exact ⟨h, hp, fun a e9 he => ⟨(hR a e9 he).1, (hR a e9 he).2.kept (hq a (hR a e9 he).2.lt)⟩, Nat.le_trans hS.1 hz, fun q h1 h2 => (hq q (Nat.lt_of_lt_of_le h1 hS.1)).trans (hS.2.1 q h1 h2)⟩
/-! the other ends -/
theorem j_lret {v : Int64} (hr : M.ret = some .long) (hd : decode M.cc pc = .ok (.lreturn, 1)) (hp : Post (.inl (some (.long v))) h) : J l G M (jQ G M Post) ck sk pc L [.long v] h := by
  intro p e s m args below meth c H locs cells slots ls S hR hS hl hc hs
  refine W.widen (k := M.room.cells) (n := M.room.slots) (by omega) (by omega) (vx_ret ?_)
  exact W.lret S.1 S.2.1 (S.2.2.2.1.trans hr) (fun t ht _ => ⟨_, h, rfl, hp, by rw [ht]; exact hR, hS.F ht⟩) hS.2.2 hd S.2.2.2.2.2.2.1
theorem j_dret {v : UInt64} (hr : M.ret = some .double) (hd : decode M.cc pc = .ok (.dreturn, 1)) (hp : Post (.inl (some (.double v))) h) : J l G M (jQ G M Post) ck sk pc L [.double v] h := by
  intro p e s m args below meth c H locs cells slots ls S hR hS hl hc hs
  refine W.widen (k := M.room.cells) (n := M.room.slots) (by omega) (by omega) (vx_ret ?_)
  exact W.dret S.1 S.2.1 (S.2.2.2.1.trans hr) (fun t ht _ => ⟨_, h, rfl, hp, by rw [ht]; exact hR, hS.F ht⟩) hS.2.2 hd S.2.2.2.2.2.2.1
theorem j_aretA {a : Nat} {n : FieldType} (hr : M.ret = some (.array n)) (hd : decode M.cc pc = .ok (.areturn, 1)) (hp : Post (.inl (some (.ref a))) h) : J l G M (jQ G M Post) ck sk pc L [.ref a] h := by
  intro p e s m args below meth c H locs cells slots ls S hR hS hl hc hs
  refine W.widen (k := M.room.cells) (n := M.room.slots) (by omega) (by omega) (vx_ret ?_)
  exact W.aret S.1 S.2.1 (S.2.2.2.1.trans hr) (Or.inr ⟨_, rfl⟩) (Or.inr ⟨_, rfl⟩) (fun t ht _ => ⟨_, h, rfl, hp, by rw [ht]; exact hR, hS.F ht⟩) hS.2.2 hd S.2.2.2.2.2.2.1
end JO
