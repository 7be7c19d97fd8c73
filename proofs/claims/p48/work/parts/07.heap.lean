section JH
variable {l : Launch} {G : jG} {M : jM} {QF : jF} {ck sk pc : Nat} {L L' : List (Nat × Value)} {st : List Value} {h : jH}
/-- the entry idx of class own's file is field k of class ci -/
def jFl (own : String) (idx ci k : Nat) : Prop := ∃ (C : String) (T : u_T) (N : Nat), vwCl[ci]? = some (C, T, N) ∧ k < N ∧ Cond.fieldLink own idx (T k).1 (T k).2.1 (T k).2.2.1 ∈ WT ∧ ∀ w ∈ u_ws C T N, w ∈ WT
/-- what a write wants: the types, and whether the field is final -/
def jTy (ci k : Nat) (ty : FieldType) (fin : Bool) : Prop := ∃ (C : String) (T : u_T) (N : Nat) (ty0 : Nat → FieldType), vwCl[ci]? = some (C, T, N) ∧ (∀ k, k < N → parseFieldDescriptor (T k).2.2.1 = some (ty0 k)) ∧ (∀ a, a < N → ∀ b, b < N → a ≠ b → (T a).2.1 ≠ (T b).2.1) ∧ parseFieldDescriptor (T k).2.2.1 = some ty ∧ (T k).2.2.2 = fin ∧ (T k).1 = C
theorem j_get {idx a ci k : Nat} {fs : List Value} {v : Value} (F : jFl M.own idx ci k) (hd : decode M.cc pc = .ok (.getfield idx, 3)) (ha : h a = some (.inr (ci, fs))) (hv : fs[k]? = some v) (kk : J l G M QF ck sk (pc + 3) L (v :: st) h) : J l G M QF ck sk pc L (.ref a :: st) h := by
  intro p e s m args below meth c H locs cells slots ls S hR hS hl hc hs
  obtain ⟨C, T, N, hcl, hk, hw, hin⟩ := F
  exact va_get (D := G.1) (cl := vwCl) (tys := jT G) (ws := [(a, .inr (ci, fs))]) (ref := (T k).1) S.1 S.2.1 S.2.2.2.2.2.2.2.2.1 hin S.2.2.2.2.2.2.2.1 S.2.2.2.2.2.2.2.2.2.1
    (fun j q hq => by cases j with
      | zero => cases hq; exact (hR _ _ ha).2
      | succ j => cases hq) 0 rfl hcl k hk (S.2.2.2.2.2.2.2.2.1 _ hw) (fun _ z => z) hv hd (kk p e s m args below meth c H locs cells slots ls S hR hS hl hc hs)
theorem va_D1 {A : Nat → Prop} {a : Nat} {e : va_E} (ha : A a) : va_D A [(a, e)] := by
  refine ⟨fun i j p q hi hj _ => ?_, fun k q hk => ?_⟩
  · have h1 : i < 1 := (List.getElem?_eq_some_iff.mp hi).1
    have h2 : j < 1 := (List.getElem?_eq_some_iff.mp hj).1
    omega
  · cases k with
    | zero => cases hk; exact ha
    | succ k => cases hk
theorem va_P1 {D : va_G} {cl : List vw_C} {a : Nat} {e : va_E} {H : Heap} (ha : va_at D cl (a, e) H) : va_P D cl [(a, e)] H := fun k q hk => by
  cases k with
  | zero => cases hk; exact ha
  | succ k => cases hk
theorem va_P1' {D : va_G} {cl : List vw_C} {a : Nat} {e : va_E} {H : Heap} (h : va_P D cl [(a, e)] H) : va_at D cl (a, e) H := h 0 _ rfl
theorem j_put {idx a ci k : Nat} {fs fs' : List Value} {v : Value} {ty : FieldType} (F : jFl M.own idx ci k) (Y : jTy ci k ty false) (hd : decode M.cc pc = .ok (.putfield idx, 3)) (ha : h a = some (.inr (ci, fs))) (hn : narrow ty v = v) (hfit : fits ty v = true) (hl0 : Nat.blt k fs.length = true) (hf : fs.set k v = fs') (kk : J l G M QF ck sk (pc + 3) L st (hset h a (.inr (ci, fs')))) : J l G M QF ck sk pc L (v :: .ref a :: st) h := by
  intro p e s m args below meth c H locs cells slots ls S hR hS hl hc hs
  obtain ⟨C, T, N, hcl, hk, hw, hin⟩ := F
  obtain ⟨C', T', N', ty0, hcl', hty, hnm, hpd, hfin, hC⟩ := Y
  rw [hcl] at hcl'
  cases hcl'
  subst hf
  have hts := S.2.2.2.2.2.2.2.2.1
  have hK := S.2.2.2.2.2.2.2.2.2.1
  have hap := va_apart (own := M.own) hts hin ty0 hty hnm hK hcl
  obtain ⟨r, h1, cell, q1, q2, q3, q4⟩ := (hR a _ ha).2
  have hr : r = (C, T, N) := Option.some.inj (h1.symm.trans hcl)
  subst hr
  obtain ⟨hS0, hfc, kC, hkC, hkind⟩ := hK.1 ci _ hcl
  obtain ⟨cf, kf, fi, f, hi, hsl⟩ := hS0 k hk
  have hlay := hts _ (hin _ (u_in_lay hk))
  unfold u_lay at hlay
  rw [if_neg (by rw [hfin]; decide)] at hlay
  have hst := (u_facts hfc hkC (u_lays hts hin hk) hi).1
  have h6 := u_store hfc hkC hkind hlay hi hpd hn hfit
  refine W.putK S.1 S.2.1 (f := f) ⟨S.2.2.2.2.2.2.2.1, hts _ hw, ⟨_, _, _, hi⟩, hst⟩ (by rw [q2]; exact h6) q1 q3 (by rw [hsl]; exact k2_hasslot (q4 k hk)) rfl rfl hd fun H' e1 e2 e3 => ?_
  rw [hsl] at e1 ⊢
  exact kk p e s m args below meth c H' _ cells slots ls S (hR.set ha ⟨_, hcl, t_OB.to (V := updV (vp_V fs) k v) ⟨_, e1, q2, q3, t_set q4 hap hk v⟩ (fun j _ => vp_updV_set (Nat.le_of_ble_eq_true hl0) v j)⟩ e3) (hS.put e2 e3 (hR a _ ha).1) hl hc hs
theorem j_putF {idx a ci k : Nat} {fs fs' : List Value} {v : Value} {ty : FieldType} (F : jFl M.own idx ci k) (Y : jTy ci k ty true) (hin2 : M.nm = "<init>") (hown2 : ∃ T N, vwCl[ci]? = some (M.own, T, N)) (hd : decode M.cc pc = .ok (.putfield idx, 3)) (ha : h a = some (.inr (ci, fs))) (hn : narrow ty v = v) (hfit : fits ty v = true) (hl0 : Nat.blt k fs.length = true) (hf : fs.set k v = fs') (kk : J l G M QF ck sk (pc + 3) L st (hset h a (.inr (ci, fs')))) : J l G M QF ck sk pc L (v :: .ref a :: st) h := by
  intro p e s m args below meth c H locs cells slots ls S hR hS hl hc hs
  obtain ⟨C, T, N, hcl, hk, hw, hin⟩ := F
  obtain ⟨C', T', N', ty0, hcl', hty, hnm, hpd, hfin, hC⟩ := Y
  rw [hcl] at hcl'
  cases hcl'
  obtain ⟨T9, N9, h9⟩ := hown2
  rw [hcl] at h9
  have hdecl : (T k).1 = M.own := by rw [hC]; exact congrArg (fun q : vw_C => q.1) (Option.some.inj h9)
  subst hf
  have hts := S.2.2.2.2.2.2.2.2.1
  have hK := S.2.2.2.2.2.2.2.2.2.1
  have hown := S.2.2.2.2.2.2.2.1
  have hap := va_apart (own := M.own) hts hin ty0 hty hnm hK hcl
  obtain ⟨r, h1, cell, q1, q2, q3, q4⟩ := (hR a _ ha).2
  have hr : r = (C, T, N) := Option.some.inj (h1.symm.trans hcl)
  subst hr
  obtain ⟨hS0, hfc, kC, hkC, hkind⟩ := hK.1 ci _ hcl
  obtain ⟨cf, kf, fi, f, hi, hsl⟩ := hS0 k hk
  have hlay := hts _ (hin _ (u_in_lay hk))
  unfold u_lay at hlay
  rw [if_pos hfin] at hlay
  have hst := (u_facts hfc hkC (u_lays hts hin hk) hi).1
  have hcf : m.cls = cf := by
    obtain ⟨_, _, c', _, _, _, -, -, hf', -, -, -, hown2, -⟩ := Cond.laysFinal_spec hlay
    have e1 : c' = cf := by have := hi.symm.trans hf'; simp at this; exact this.1.symm
    rw [hdecl] at hown2
    rw [← e1]; exact Option.some.inj (hown.symm.trans hown2)
  have h6 := u_fits hfc hkC hkind (Or.inr hlay) hi hpd hn hfit
  refine W.putFinK S.1 S.2.1 hown (hts _ hw) hi hst hcf (S.2.2.2.2.2.1.trans hin2) (by rw [q2]; exact h6) q1 q3 (by rw [hsl]; exact k2_hasslot (q4 k hk)) rfl rfl hd fun H' e1 e2 e3 => ?_
  rw [hsl] at e1 ⊢
  exact kk p e s m args below meth c H' _ cells slots ls S (hR.set ha ⟨_, hcl, t_OB.to (V := updV (vp_V fs) k v) ⟨_, e1, q2, q3, t_set q4 hap hk v⟩ (fun j _ => vp_updV_set (Nat.le_of_ble_eq_true hl0) v j)⟩ e3) (hS.put e2 e3 (hR a _ ha).1) hl hc hs
/-! arrays -/
abbrev aI (G : jG) (n : Nat) (f : Nat → Int32) : va_E := .inl (G.2.1 0, n, .inl f)
abbrev aZ (G : jG) (n : Nat) (f : Nat → Int32) : va_E := .inl (G.2.1 1, n, .inl f)
abbrev aJ (G : jG) (n : Nat) (f : Nat → Int64) : va_E := .inl (G.2.1 2, n, .inr (.inl f))
abbrev aR (G : jG) (t n : Nat) (f : Nat → Option Nat) : va_E := .inl (G.2.1 t, n, .inr (.inr (.inr (.inr f))))
theorem j_iald {a n : Nat} {f : Nat → Int32} {i : Int32} (hd : decode M.cc pc = .ok (.iaload, 1)) (ha : h a = some (aI G n f)) (hin : vp_in i n) (kk : J l G M QF ck sk (pc + 1) L (.int (f i.toNatClampNeg) :: st) h) : J l G M QF ck sk pc L (.int i :: .ref a :: st) h := by
  intro p e s m args below meth c H locs cells slots ls S hR hS hl hc hs
  exact va_iald (tys := jT G) S.1 S.2.1 S.2.2.2.2.2.2.2.2.2.1 (va_P1 (hR a _ ha).2) 0 0 rfl rfl hin hd (kk p e s m args below meth c H locs cells slots ls S hR hS hl hc hs)
theorem j_zald {a n : Nat} {f : Nat → Int32} {i : Int32} (hd : decode M.cc pc = .ok (.baload, 1)) (ha : h a = some (aZ G n f)) (hin : vp_in i n) (kk : J l G M QF ck sk (pc + 1) L (.int (f i.toNatClampNeg) :: st) h) : J l G M QF ck sk pc L (.int i :: .ref a :: st) h := by
  intro p e s m args below meth c H locs cells slots ls S hR hS hl hc hs
  exact va_zald (tys := jT G) S.1 S.2.1 S.2.2.2.2.2.2.2.2.2.1 (va_P1 (hR a _ ha).2) 0 1 rfl rfl hin hd (kk p e s m args below meth c H locs cells slots ls S hR hS hl hc hs)
theorem j_qaldP {a n : Nat} {f : Nat → Option Nat} {i : Int32} (hd : decode M.cc pc = .ok (.aaload, 1)) (ha : h a = some (aR G 3 n f)) (hin : vp_in i n) (kk : J l G M QF ck sk (pc + 1) L (va_rf (f i.toNatClampNeg) :: st) h) : J l G M QF ck sk pc L (.int i :: .ref a :: st) h := by
  intro p e s m args below meth c H locs cells slots ls S hR hS hl hc hs
  exact va_aldq (tys := jT G) S.1 S.2.1 S.2.2.2.2.2.2.2.2.2.1 (va_P1 (hR a _ ha).2) 0 3 rfl rfl hin hd (kk p e s m args below meth c H locs cells slots ls S hR hS hl hc hs)
theorem j_iast {a n : Nat} {f : Nat → Int32} {i x : Int32} (hd : decode M.cc pc = .ok (.iastore, 1)) (ha : h a = some (aI G n f)) (hin : vp_in i n) (kk : J l G M QF ck sk (pc + 1) L st (hset h a (aI G n (upd f i.toNatClampNeg x)))) : J l G M QF ck sk pc L (.int x :: .int i :: .ref a :: st) h := by
  intro p e s m args below meth c H locs cells slots ls S hR hS hl hc hs
  have hK := S.2.2.2.2.2.2.2.2.2.1
  refine W.iast S.1 S.2.1 (hR a _ ha).2 ((hK.2 0 _ rfl).1 n (fun j => .int (f j))) (fun q => by cases q) (by show ¬ (i < 0 ∨ (arrV _ _ _).slots.size ≤ _); rw [arrV_size]; exact hin) rfl rfl hd fun H1 e1 z oq => ?_
  refine kk p e s m args below meth c H1 _ cells slots ls S (hR.set ha ?_ oq) (hS.put z oq (hR a _ ha).1) hl hc hs
  show H1[a]? = some (vp_cell _ _)
  rw [e1]
  rw [vp_cell_i, vp_cell_i, arrV_store]
  congr 2
  funext q
  by_cases hq : q = i.toNatClampNeg
  · subst hq
    simp [updV, upd]
  · simp [updV, upd, hq]
theorem j_zast {a n : Nat} {f : Nat → Int32} {i x : Int32} (hd : decode M.cc pc = .ok (.bastore, 1)) (ha : h a = some (aZ G n f)) (hin : vp_in i n) (kk : J l G M QF ck sk (pc + 1) L st (hset h a (aZ G n (upd f i.toNatClampNeg (vp_nar .boolean x))))) : J l G M QF ck sk pc L (.int x :: .int i :: .ref a :: st) h := by
  intro p e s m args below meth c H locs cells slots ls S hR hS hl hc hs
  have hK := S.2.2.2.2.2.2.2.2.2.1
  refine W.zast S.1 S.2.1 (hR a _ ha).2 ((hK.2 1 _ rfl).1 n (fun j => .int (f j))) (fun q => by cases q) (by show ¬ (i < 0 ∨ (arrV _ _ _).slots.size ≤ _); rw [arrV_size]; exact hin) rfl rfl hd fun H1 e1 z oq => ?_
  refine kk p e s m args below meth c H1 _ cells slots ls S (hR.set ha ?_ oq) (hS.put z oq (hR a _ ha).1) hl hc hs
  show H1[a]? = some (vp_cell _ _)
  rw [e1]
  rw [vp_cell_i, vp_cell_i, arrV_store]
  congr 2
  funext q
  by_cases hq : q = i.toNatClampNeg
  · subst hq
    simp [updV, upd, vp_nar]
    try rfl
  · simp [updV, upd, hq]
/-- which entry of jT an array is of -/
theorem j_alen {a : Nat} {x : vp_A} (t : Nat) {ty : FieldType} (v : Int32) (hd : decode M.cc pc = .ok (.arraylength, 1)) (ha : h a = some (.inl (G.2.1 t, x))) (ht : (jT G)[t]? = some (G.2.1 t, ty)) (hv : Int32.ofNat x.1 = v) (kk : J l G M QF ck sk (pc + 1) L (.int v :: st) h) : J l G M QF ck sk pc L (.ref a :: st) h := by
  intro p e s m args below meth c H locs cells slots ls S hR hS hl hc hs
  exact va_alen (tys := jT G) S.1 S.2.1 S.2.2.2.2.2.2.2.2.2.1 (va_P1 (hR a _ ha).2) 0 t rfl ht hv hd (kk p e s m args below meth c H locs cells slots ls S hR hS hl hc hs)
/-- static arrays -/
theorem j_gets {idx : Nat} (k : Nat) {C n : String} {N : Nat} {f : List Int32} (hst : jSt[k]? = some (C, n, N, f)) (hw : Cond.fieldLink M.own idx C n "[I" ∈ WT) (hd : decode M.cc pc = .ok (.getstatic idx, 3)) (kk : J l G M QF ck sk (pc + 3) L (.ref (jSa G k) :: st) h) : J l G M QF ck sk pc L st h := by
  intro p e s m args below meth c H locs cells slots ls S hR hS hl hc hs
  exact va_gets S.1 S.2.1 (S.2.2.2.2.2.2.2.2.2.2.1 k _ hst).1 hS S.2.2.2.2.2.2.2.1 (S.2.2.2.2.2.2.2.2.1 _ hw) (fun _ z => z) hd (kk p e s m args below meth c H locs cells slots ls S hR hS hl hc hs)
theorem j_siald (k : Nat) {C n : String} {N : Nat} {f : List Int32} {i : Int32} (hst : jSt[k]? = some (C, n, N, f)) (hin : vp_in i N) (hd : decode M.cc pc = .ok (.iaload, 1)) (kk : J l G M QF ck sk (pc + 1) L (.int (jIs f i.toNatClampNeg) :: st) h) : J l G M QF ck sk pc L (.int i :: .ref (jSa G k) :: st) h := by
  intro p e s m args below meth c H locs cells slots ls S hR hS hl hc hs
  exact va_ti S.1 S.2.1 (S.2.2.2.2.2.2.2.2.2.2.1 k _ hst).2 hS hin rfl hd (kk p e s m args below meth c H locs cells slots ls S hR hS hl hc hs)
end JH
