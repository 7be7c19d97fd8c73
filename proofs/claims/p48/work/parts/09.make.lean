section JM
variable {l : Launch} {G : jG} {M M' : jM} {QF : jF} {ck sk ck' sk' pc : Nat} {L L' : List (Nat × Value)} {st rest : List Value} {h : jH} {Post Post' : jO → jH → Prop}
theorem j_objInit {idx a : Nat} (hw : Cond.methodLink M.own idx objectInit ∈ WT ∧ Cond.instanceMethod objectInit ∈ WT ∧ Cond.code objectInit ⟨#[0xb1]⟩ 1 none ∈ WT) (hd : decode M.cc pc = .ok (.invokespecial idx, 3)) (hfr : Nat.ble 1 M.room.frames = true) (hlo : Nat.ble ((st.map fun v => v.category).sum + 12) M.room.locals = true)
    (kk : J l G M QF ck sk (pc + 3) L st h) : J l G M QF ck sk pc L (.ref a :: st) h := by
  intro p e s m args below meth c H locs cells slots ls S hR hS hl hc hs
  have hts := S.2.2.2.2.2.2.2.2.1
  refine W.objInit S.1 S.2.1 S.2.2.2.2.2.2.2.1 (hts _ hw.1) (hts _ hw.2.1) (hts _ hw.2.2) rfl (hl.1.trans S.2.2.1.symm) rfl hd (Nat.le_of_ble_eq_true hfr) ?_ ?_
  · have := Nat.le_of_ble_eq_true hlo
    have e0 : (F0 m pc ls (.ref a :: st)).monitorRoom = 0 := by
      have := lv_room (m := m) (pc := pc) (rest := .ref a :: st) (ls := ls) (st := []) (by simp)
      first | rfl | simp [JFrame.monitorRoom]
    rw [e0]
    omega
  · exact kk p e s m args below meth c H locs cells slots ls S hR hS hl hc hs
/-- what a 'new' wants -/
def jNe (own : String) (idx ci N : Nat) (fs : List Value) : Prop := ∃ (C : String) (T : u_T) (ty : Nat → FieldType), vwCl[ci]? = some (C, T, N) ∧ (∀ w ∈ u_ws C T N, w ∈ WT) ∧ (∀ k, k < N → parseFieldDescriptor (T k).2.2.1 = some (ty k)) ∧ Cond.classLink own idx C ∈ WT ∧ Cond.instantiable C N ∈ WT ∧ Cond.initialized C ∈ WT ∧ ∀ j, j < N → defaultValue (ty j) = vp_V fs j
theorem j_new {idx ci N : Nat} {fs : List Value} (V : jNe M.own idx ci N fs) (hd : decode M.cc pc = .ok (.new idx, 3)) (hck : ck' + 1 ≤ ck) (hsk : sk' + N ≤ sk) (kk : ∀ q : Nat, h q = none → jB G q → J l G M QF ck' sk' (pc + 3) L (.ref q :: st) (hset h q (.inr (ci, fs)))) : J l G M QF ck sk pc L st h := by
  intro p e s m args below meth c H locs cells slots ls S hR hS hl hc hs
  have hts := S.2.2.2.2.2.2.2.2.1
  have hK := S.2.2.2.2.2.2.2.2.2
  obtain ⟨C, T, ty, hcl, hin, hty, w1, w2, w3, hfs⟩ := V
  have hKn := hK.1.1 ci _ hcl
  refine W.newcK S.1 S.2.1 S.2.2.2.2.2.2.2.1 (hts _ w1) (hts _ w2) (hts _ w3) rfl hd (by omega) (by omega) hKn.2.1 rfl fun H1 kC hkC e1 z1 o1 => ?_
  have hB : jB G H.size := Nat.le_trans hK.2.2.2.2.1 hS.1
  exact kk H.size hR.none hB p e s m args below meth c H1 locs _ _ ls S (hR.new hB ⟨_, hcl, (u_born ty hts hin hKn hkC e1 hty).to hfs⟩ o1) ⟨Nat.le_trans hS.1 (by omega), fun x h1 h2 => (o1 x (Nat.lt_of_lt_of_le h1 hS.1)).trans (hS.2.1 x h1 h2), hS.2.2⟩ hl (by omega) (by omega)
/-- arrays: by their entry in jT -/
theorem j_newa {n : Int32} {N t : Nat} {atype : ArrayType} {ty : FieldType} {a0 : vp_A} (hw : Cond.arrayClass (newarray.typeOf atype) ∈ WT) (hty : newarray.typeOf atype = ty) (ht : (jT G)[t]? = some (G.2.1 t, ty)) (hra : ∀ (U : State) (cA : ClassId), va_RA U cA ty ↔ U.vm.findClass ("[" ++ ty.toString) = some cA)
    (ha : ∀ cA : ClassId, vp_cell cA a0 = arrV cA N (fun _ => defaultValue ty)) (hd : decode M.cc pc = .ok (.newarray atype, 2)) (hn : ¬ n < 0) (hN : n.toNatClampNeg = N) (hb : N * componentBytes ty ≤ 536870912) (hck : ck' + 1 ≤ ck) (hsk : sk' + N ≤ sk)
    (kk : ∀ q : Nat, h q = none → jB G q → J l G M QF ck' sk' (pc + 2) L (.ref q :: st) (hset h q (.inl (G.2.1 t, a0)))) : J l G M QF ck sk pc L (.int n :: st) h := by
  intro p e s m args below meth c H locs cells slots ls S hR hS hl hc hs
  have hts := S.2.2.2.2.2.2.2.2.1
  have hK := S.2.2.2.2.2.2.2.2.2
  subst hty
  refine va_newaK S.1 S.2.1 (hts _ hw) rfl hd rfl hn hN hb (by omega) (by omega) rfl fun H1 cA e1 z1 o1 hAr hNm => ?_
  have hcA : cA = G.2.1 t := by
    have h2 := (hra s (G.2.1 t)).mp (hK.1.2 t _ ht).2
    exact Option.some.inj (hNm.symm.trans h2)
  subst hcA
  have hB : jB G H.size := Nat.le_trans hK.2.2.2.2.1 hS.1
  refine kk H.size hR.none hB p e s m args below meth c H1 locs _ _ ls S (hR.new hB ?_ o1) ⟨Nat.le_trans hS.1 (by omega), fun x h1 h2 => (o1 x (Nat.lt_of_lt_of_le h1 hS.1)).trans (hS.2.1 x h1 h2), hS.2.2⟩ hl (by omega) (by omega)
  show H1[H.size]? = some (vp_cell _ _)
  rw [ha]
  exact e1
theorem j_newI {n : Int32} (N : Nat) (hw : Cond.arrayClass .int ∈ WT) (hd : decode M.cc pc = .ok (.newarray .int, 2)) (hn : ¬ n < 0) (hN : n.toNatClampNeg = N) (hb : N * 4 ≤ 536870912) (hck : ck' + 1 ≤ ck) (hsk : sk' + N ≤ sk)
    (kk : ∀ q : Nat, h q = none → jB G q → J l G M QF ck' sk' (pc + 2) L (.ref q :: st) (hset h q (aI G N (fun _ => 0)))) : J l G M QF ck sk pc L (.int n :: st) h :=
  j_newa (t := 0) (a0 := (N, .inl (fun _ => 0))) (atype := .int) hw rfl rfl (fun _ _ => Iff.rfl) (fun _ => by rw [vp_cell_i]; rfl) hd hn hN hb hck hsk kk
theorem j_newZ {n : Int32} (N : Nat) (hw : Cond.arrayClass .boolean ∈ WT) (hd : decode M.cc pc = .ok (.newarray .boolean, 2)) (hn : ¬ n < 0) (hN : n.toNatClampNeg = N) (hb : N * 1 ≤ 536870912) (hck : ck' + 1 ≤ ck) (hsk : sk' + N ≤ sk)
    (kk : ∀ q : Nat, h q = none → jB G q → J l G M QF ck' sk' (pc + 2) L (.ref q :: st) (hset h q (aZ G N (fun _ => 0)))) : J l G M QF ck sk pc L (.int n :: st) h :=
  j_newa (t := 1) (a0 := (N, .inl (fun _ => 0))) (atype := .boolean) hw rfl rfl (fun _ _ => Iff.rfl) (fun _ => by rw [vp_cell_i]; rfl) hd hn hN hb hck hsk kk
theorem j_newq {n : Int32} {idx t : Nat} {C : String} (N : Nat) (hw : Cond.classLink M.own idx C ∈ WT) (hg : Cond.arrayOver (.object C) ∈ jNg) (ht : (jT G)[t]? = some (G.2.1 t, .object C)) (hd : decode M.cc pc = .ok (.anewarray idx, 3)) (hn : ¬ n < 0) (hN : n.toNatClampNeg = N) (hb : N * 4 ≤ 536870912) (hck : ck' + 1 ≤ ck) (hsk : sk' + N ≤ sk)
    (kk : ∀ q : Nat, h q = none → jB G q → J l G M QF ck' sk' (pc + 3) L (.ref q :: st) (hset h q (aR G t N (fun _ => none)))) : J l G M QF ck sk pc L (.int n :: st) h := by
  intro p e s m args below meth c H locs cells slots ls S hR hS hl hc hs
  have hts := S.2.2.2.2.2.2.2.2.1
  have hK := S.2.2.2.2.2.2.2.2.2
  subst hN
  have hAO : va_AO C s := hK.2.2.2.2.2.1 _ hg
  refine W.anew S.1 S.2.1 S.2.2.2.2.2.2.2.1 (hts _ hw) (va_AO.use hAO) rfl hd rfl hn hb (by omega) (by omega) fun cA kA comp f1 f2 f3 f4 => ?_
  generalize hH1 : H.push ({ cls := cA, slots := Array.replicate n.toNatClampNeg .null, vm := .none } : Cell) = H1
  have z1 : H1.size = H.size + 1 := by rw [← hH1, Array.size_push]
  have e1 : H1[H.size]? = some (arrV cA n.toNatClampNeg (fun _ => .null)) := by rw [← hH1, Array.getElem?_push_size, ← arrV_new]
  have o1 : ∀ q : Nat, q < H.size → H1[q]? = H[q]? := fun q hq => by rw [← hH1, Array.getElem?_push, if_neg (Nat.ne_of_lt hq)]
  have hcA : cA = G.2.1 t := by
    obtain ⟨kA', comp', g1, g2, g3, g4⟩ := (hK.1.2 t _ ht).2
    exact Option.some.inj (f1.symm.trans g4)
  subst hcA
  have hB : jB G H.size := Nat.le_trans hK.2.2.2.2.1 hS.1
  refine kk H.size hR.none hB p e s m args below meth c H1 locs _ _ ls S (hR.new hB ?_ o1) ⟨Nat.le_trans hS.1 (by omega), fun x h1 h2 => (o1 x (Nat.lt_of_lt_of_le h1 hS.1)).trans (hS.2.1 x h1 h2), hS.2.2⟩ hl (by omega) (by omega)
  show H1[H.size]? = some (vp_cell _ _)
  rw [vp_cell_q]
  exact e1
/-- an object into an array of its class -/
theorem j_qast {a n v t ci : Nat} {C : String} {T : u_T} {N : Nat} {vs : List Value} {f : Nat → Option Nat} {i : Int32} (ht : (jT G)[t]? = some (G.2.1 t, .object C)) (hcl : vwCl[ci]? = some (C, T, N)) (hd : decode M.cc pc = .ok (.aastore, 1)) (ha : h a = some (aR G t n f)) (hv : h v = some (.inr (ci, vs))) (hin : vp_in i n) (kk : J l G M QF ck sk (pc + 1) L st (hset h a (aR G t n (va_up f i.toNatClampNeg (some v))))) : J l G M QF ck sk pc L (.ref v :: .int i :: .ref a :: st) h := by
  intro p e s m args below meth c H locs cells slots ls S hR hS hl hc hs
  have hK := S.2.2.2.2.2.2.2.2.2.1
  have hlt : i.toNatClampNeg < n := Nat.not_le.mp fun q => hin (Or.inr q)
  have h0 : ¬ i < 0 := fun q => hin (Or.inl q)
  obtain ⟨r', hr', cellV, g1, g2, g3, -⟩ := (hR v _ hv).2
  have hcls := (hK.1 ci _ hcl).2
  obtain ⟨kA, comp, k1, k2, k3, -⟩ := (hK.2 t _ ht).2
  have hcomp : comp = G.1.1 ci := Option.some.inj (k3.symm.trans hcls.1)
  subst hcomp
  obtain ⟨kC, hkC, -⟩ := hcls.2
  refine W.aast S.1 S.2.1 (hR a _ ha).2 (fun q h => by cases h) (fun h => by cases h) k1 k2 rfl hkC ⟨h0, by show _ < (arrV _ _ _).slots.size; rw [arrV_size]; exact hlt⟩ g1 (fun q h => by rw [g3] at h; cases h) (by rw [g2]; exact hkC) (by rw [g2]; exact va_assign hcls) rfl rfl hd fun H1 e1 z oq => ?_
  refine kk p e s m args below meth c H1 _ cells slots ls S (hR.set ha ?_ oq) (hS.put z oq (hR a _ ha).1) hl hc hs
  show H1[a]? = some (vp_cell _ _)
  rw [e1]
  rw [vp_cell_q, vp_cell_q, arrV_store]
  congr 2
  funext q
  by_cases hq : q = i.toNatClampNeg
  · subst hq
    simp [updV, va_up, va_rf]
  · simp [updV, va_up, hq]
end JM
