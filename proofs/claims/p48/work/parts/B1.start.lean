/-! what is known at the law's start -/
theorem lt_tb {w : Cond} (i : Nat) (h : tables_1[i]? = some w) : w ∈ lw_tbl := List.mem_append_right _ (List.mem_of_getElem? h)
/-- what the statement says of a static array -/
def stC (q : String × String × Nat × List Int32) : List Cond := Cond.arrayOf (.static q.1 q.2.1 "[I") .int :: Cond.eq (.length (.static q.1 q.2.1 "[I")) (.int (Int32.ofNat q.2.2.1)) :: (List.range q.2.2.1).map (fun j => Cond.eq (.elem (.static q.1 q.2.1 "[I") (.int (Int32.ofNat j))) (.int (jIs q.2.2.2 j)))
def jFl0 : List Cond := flatC (Cond.and given_1 narrow_1)
theorem st_in : ∀ q ∈ jSt, ∀ w ∈ stC q, w ∈ jFl0 := by decide +kernel
theorem st_len : ∀ q ∈ jSt, Nat.ble q.2.2.1 1000 = true := by decide +kernel
theorem nc_in : ∀ q ∈ jNc, Cond.not (.castable q.1 q.2) ∈ jFl0 := by decide +kernel
theorem us_in : Cond.isRef (.static Bundle.tN "UNASSIGNED_STACK" Bundle.steD) ∈ jFl0 ∧ Cond.isRef (.static Bundle.tN "SUPPRESSED_SENTINEL" Bundle.listD) ∈ jFl0 := by decide +kernel
theorem st_lS : ∀ q ∈ jSt, Cond.laysStatic q.1 q.2.1 "[I" ∈ lw_tbl ∧ Cond.initialized q.1 ∈ lw_tbl := List.forall_mem_cons.mpr ⟨⟨lt_tb 860 (by decide +kernel), lt_tb 16 (by decide +kernel)⟩, List.forall_mem_cons.mpr ⟨⟨lt_tb 599 (by decide +kernel), lt_tb 16 (by decide +kernel)⟩, List.forall_mem_cons.mpr ⟨⟨lt_tb 547 (by decide +kernel), lt_tb 13 (by decide +kernel)⟩, List.forall_mem_cons.mpr ⟨⟨lt_tb 696 (by decide +kernel), lt_tb 6 (by decide +kernel)⟩, List.forall_mem_cons.mpr ⟨⟨lt_tb 698 (by decide +kernel), lt_tb 6 (by decide +kernel)⟩, fun _ h => absurd h List.not_mem_nil⟩⟩⟩⟩⟩
theorem tx_in : ∀ q ∈ jTx, Cond.stringRef RX9 q.1 q.2 ∈ lw_tbl := List.forall_mem_cons.mpr ⟨lt_tb 490 (by decide +kernel), List.forall_mem_cons.mpr ⟨lt_tb 520 (by decide +kernel), List.forall_mem_cons.mpr ⟨lt_tb 945 (by decide +kernel), List.forall_mem_cons.mpr ⟨lt_tb 811 (by decide +kernel), List.forall_mem_cons.mpr ⟨lt_tb 836 (by decide +kernel), List.forall_mem_cons.mpr ⟨lt_tb 875 (by decide +kernel), List.forall_mem_cons.mpr ⟨lt_tb 940 (by decide +kernel), List.forall_mem_cons.mpr ⟨lt_tb 950 (by decide +kernel), List.forall_mem_cons.mpr ⟨lt_tb 884 (by decide +kernel), List.forall_mem_cons.mpr ⟨lt_tb 893 (by decide +kernel), List.forall_mem_cons.mpr ⟨lt_tb 916 (by decide +kernel), List.forall_mem_cons.mpr ⟨lt_tb 902 (by decide +kernel), List.forall_mem_cons.mpr ⟨lt_tb 976 (by decide +kernel), List.forall_mem_cons.mpr ⟨lt_tb 976 (by decide +kernel), List.forall_mem_cons.mpr ⟨lt_tb 1037 (by decide +kernel), List.forall_mem_cons.mpr ⟨lt_tb 1063 (by decide +kernel), List.forall_mem_cons.mpr ⟨lt_tb 1083 (by decide +kernel), fun _ h => absurd h List.not_mem_nil⟩⟩⟩⟩⟩⟩⟩⟩⟩⟩⟩⟩⟩⟩⟩⟩⟩
theorem ng_in : ∀ w ∈ jNg, w ∈ lw_tbl := by decide +kernel
theorem ng_ot : ∀ w ∈ jNg, w.onTables = true ∨ w = Cond.arrayOver (.object RX6) := by decide +kernel
theorem cl_in : ∀ q ∈ vwCl, (∀ w ∈ u_ws q.1 q.2.1 q.2.2, w ∈ WT) ∧ Cond.instantiable q.1 q.2.2 ∈ lw_tbl := List.forall_mem_cons.mpr ⟨⟨inX0, lt_tb 77 (by decide +kernel)⟩, List.forall_mem_cons.mpr ⟨⟨inX1, lt_tb 170 (by decide +kernel)⟩, List.forall_mem_cons.mpr ⟨⟨inX2, lt_tb 186 (by decide +kernel)⟩, List.forall_mem_cons.mpr ⟨⟨inX3, lt_tb 151 (by decide +kernel)⟩, List.forall_mem_cons.mpr ⟨⟨inX4, lt_tb 217 (by decide +kernel)⟩, List.forall_mem_cons.mpr ⟨⟨inX5, lt_tb 110 (by decide +kernel)⟩, List.forall_mem_cons.mpr ⟨⟨inX6, lt_tb 30 (by decide +kernel)⟩, List.forall_mem_cons.mpr ⟨⟨inX9, lt_tb 21 (by decide +kernel)⟩, fun _ h => absurd h List.not_mem_nil⟩⟩⟩⟩⟩⟩⟩⟩
theorem arr_of {s : State} {args : Array Value} {ty : FieldType} (hp : ∀ cA : ClassId, s.vm.findClass ("[" ++ ty.toString) = some cA → va_RA s cA ty) (h : (Cond.arrayClass ty).before args s = true) : ∃ cA : ClassId, ArrOfT s cA ty ∧ va_RA s cA ty := by
  obtain ⟨cA, kA, comp, h1, h2, h3⟩ := Cond.arrayClass_spec h
  exact ⟨cA, fun n z => ⟨fun k h => (by cases h), kA, h2, comp, h3⟩, hp cA h1⟩
theorem arr_ob {s : State} {args : Array Value} {C : String} (h : (Cond.arrayOver (.object C)).before args s = true) : ∃ cA : ClassId, ArrOfT s cA (.object C) ∧ va_RA s cA (.object C) := by
  obtain ⟨comp, c, k, h1, h2, h3, h4, h5⟩ := Cond.arrayOver_spec h
  exact ⟨c, fun N z => ⟨(fun k h => by cases h), k, h3, comp, h4⟩, k, comp, h3, h4, h1, h5⟩
theorem start_K {s : State} {b L : Nat} {xs : Nat → Int32} (hX : va_X b L xs s s.heap) (hbl : b < s.heap.size) (hts : ∀ w ∈ lw_tbl, w.before #[Value.ref b] s = true) (hgv : (Cond.and given_1 narrow_1).before #[Value.ref b] s = true) : ∃ G : jG, G.2.2.1 = s.heap.size ∧ jSb G = b ∧ jSn G = L ∧ jK G s s.heap := by
  have hs : ∀ w ∈ jFl0, w.before #[Value.ref b] s = true := flat_of_before _ hgv
  have hW : ∀ w ∈ WT, w.before #[Value.ref b] s = true := fun w hw => hts w (List.mem_filter.mp hw).1
  have hA : ∀ a : Nat, a < s.heap.size → ¬ (fun q : Nat => s.heap.size ≤ q) a := fun a h1 h2 => Nat.not_le.mpr h1 h2
  have hcl : ∀ ci : Nat, ∃ D : ClassId × (Nat → Nat), ∀ q : vw_C, vwCl[ci]? = some q → u_Kn s q.1 q.2.1 q.2.2 D.1 D.2 := fun ci => by
    cases e : vwCl[ci]? with
    | none => exact ⟨(0, fun _ => 0), fun q h => by cases h⟩
    | some q =>
      obtain ⟨g1, g2⟩ := cl_in q (List.mem_of_getElem? e)
      obtain ⟨cC, iS, h⟩ := u_known hW g1 (hts _ g2)
      exact ⟨(cC, iS), fun q' h' => by cases h'; exact h⟩
  have hst : ∀ k : Nat, ∃ t : Nat, ∀ q : String × String × Nat × List Int32, jSt[k]? = some q → va_Z q.1 q.2.1 "[I" (.ref t) (fun a : Nat => s.heap.size ≤ a) s s.heap ∧ va_T .int t q.2.2.1 (fun j => .int (jIs q.2.2.2 j)) (fun a : Nat => s.heap.size ≤ a) s s.heap := fun k => by
    cases e : jSt[k]? with
    | none => exact ⟨0, fun q h => by cases h⟩
    | some q =>
      have hm := List.mem_of_getElem? e
      have h1 := st_in q hm
      have h2 := st_lS q hm
      have h3 := Nat.le_of_ble_eq_true (st_len q hm)
      obtain ⟨t, ht, hT⟩ := va_Tof (args := #[Value.ref b]) (s := s) (tm := .static q.1 q.2.1 "[I") (ty := .int) (N := q.2.2.1) (f := fun j => .int (jIs q.2.2.2 j)) (A := fun a : Nat => s.heap.size ≤ a) (Nat.lt_of_le_of_lt h3 (by decide)) (hs _ (h1 _ List.mem_cons_self)) (va_eqt (hs _ (h1 _ (List.mem_cons_of_mem _ List.mem_cons_self)))) (fun j hj => va_eqt (hs _ (h1 _ (List.mem_cons_of_mem _ (List.mem_cons_of_mem _ (List.mem_map.mpr ⟨j, List.mem_range.mpr hj, rfl⟩)))))) hA
      exact ⟨t, fun q' h' => by cases h'; exact ⟨va_Zof (hts _ h2.1) (hts _ h2.2) ht hA, hT⟩⟩
  have hfc : ∃ cur, s.vm.findClass RX9 = some cur := by
    obtain ⟨D, hD⟩ := hcl 7
    exact ⟨_, (hD _ rfl).2.1⟩
  have htx : ∀ k : Nat, ∃ t : Nat, ∀ q : Nat × String, jTx[k]? = some q → vk_R RX9 q.1 q.2 t s := fun k => by
    cases e : jTx[k]? with
    | none => exact ⟨0, fun q h => by cases h⟩
    | some q =>
      obtain ⟨cur, hcur⟩ := hfc
      have h1 := hts _ (tx_in q (List.mem_of_getElem? e))
      obtain ⟨-, -, -, a, -, -, -, -, -, h2⟩ := Cond.stringRef_spec hcur h1
      exact ⟨a, fun q' h' => by cases h'; exact vk_R.of h1 h2⟩
  obtain ⟨A0, hA0⟩ := arr_of (ty := .int) (fun _ h => h) (hW _ acI)
  obtain ⟨A1, hA1⟩ := arr_of (ty := .boolean) (fun _ h => h) (hW _ acZ)
  obtain ⟨A3, hA3⟩ := arr_ob (C := RX6) (hts _ (ng_in (Cond.arrayOver (.object RX6)) (by decide +kernel)))
  have hTs : va_T .int b L (fun j => .int (xs j)) (fun q : Nat => s.heap.size ≤ q) s s.heap := by
    obtain ⟨scr, g1, g2, g3, g4, g5⟩ := hX
    exact ⟨scr, g1, g2, g3, (by rw [g4]; try exact Nat.le_refl _), (by rw [g4]; try rfl), g5, hA b hbl⟩
  refine ⟨((fun c => (Classical.choose (hcl c)).1, fun c => (Classical.choose (hcl c)).2), (fun t => if t = 0 then A0 else if t = 1 then A1 else if t = 2 then A0 else A3), s.heap.size, fun k => Classical.choose (hst k), fun k => Classical.choose (htx k), b, L, xs), rfl, rfl, rfl, ⟨fun c q hq => Classical.choose_spec (hcl c) q hq, fun k q hk => ?_⟩, fun k q hk => Classical.choose_spec (hst k) q hk, fun k q hk => Classical.choose_spec (htx k) q hk, ⟨?_, ?_⟩, Nat.le_refl _, fun w hw => ?_, fun q hq => va_Nc.of (hs _ (nc_in q hq)), hTs⟩
  · have h5 : k < 4 := (List.getElem?_eq_some_iff.mp hk).1
    rcases (show k = 0 ∨ k = 1 ∨ k = 2 ∨ k = 3 by omega) with e | e | e | e <;> subst e <;> cases hk
    · exact hA0
    · exact hA1
    · exact hA0
    · exact hA3
  · exact vx_Zqof (hts _ (lt_tb 476 (by decide +kernel))) (hts _ (lt_tb 9 (by decide +kernel))) (hs _ us_in.1) hA
  · exact vx_Zqof (hts _ (lt_tb 478 (by decide +kernel))) (hts _ (lt_tb 9 (by decide +kernel))) (hs _ us_in.2) hA
  · have h1 := hts _ (ng_in w hw)
    rcases ng_ot w hw with e | e
    · exact va_Nw.of e h1
    · subst e; exact h1
