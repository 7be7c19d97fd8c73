/-- a body of a method of the JDK's classes gives its contract, too -/
theorem j_bodyF {l : Launch} {G : jG} {y : MethodName} {own : String} {cc : ByteArray} {nL : Nat} {ret : Option FieldType} {nm : String} {room : Room} {av : List Value} {h : jH} {Post : jO → jH → Prop} (hy : plainFor y = true) (ho : y.cls = own ∧ y.name = nm) (hl : Nat.ble (lg_sl av).length nL = true)
    (k : J l G (own, cc, nL, ret, [], nm, room) (jQ G (own, cc, nL, ret, [], nm, room) Post) room.cells room.slots 0 (lv_args 0 av) [] h) : jC l G y (own, cc, nL, ret, [], nm, room) av h Post := by
  refine MetFree.of_bodySF (code := cc) (maxLocals := nL) (ret := ret) hy ?_ ?_
  · intro args s m h hn
    obtain ⟨meth, c, h1, h2, h3, h4, h5, h6, -, -⟩ := Cond.code_spec hn (atoms_spec (ws := jws y (own, cc, nL, ret, [], nm, room)) h _ List.mem_cons_self)
    exact ⟨meth, c, h1, h2, h3, h4, h5, h6⟩
  · intro p e s m args below meth c s₁ B hml hP _
    obtain ⟨rfl, hR, hK⟩ := hP
    have hh0 : s₁.heap = s.heap := by rw [B.state]; rfl
    have ht : c.exceptionTable.toList = tableOf [] := by
      obtain ⟨meth9, c9, h1, h2, -, -, -, -, h7, -⟩ := Cond.code_spec B.named (atoms_spec (ws := jws y (own, cc, nL, ret, [], nm, room)) B.pre _ List.mem_cons_self)
      cases Option.some.inj (h1.symm.trans B.method)
      cases Option.some.inj (h2.symm.trans (Stand.of_body B).code)
      rw [table_nil]
      rw [Array.isEmpty_iff.mp h7]
    have K := k p e s m av.toArray below meth c s.heap [] 0 0 _ (jstd_of (M := (own, cc, nL, ret, [], nm, room)) B hml ht ho.1 ho.2 hK) hR va_S.rf (lv_entry av (Nat.le_of_ble_eq_true hl)) (by simp) (by simp)
    rw [← lg_entry_eq] at K
    obtain ⟨t, a1, o, b1, b2, b3⟩ := K s₁ hh0 (Stand.of_body B)
    exact ⟨t, o, a1, b1, b2, b3⟩
