/-! ===== my own judgement J: a frame of a method over a picture of the heap ===== -/
abbrev jH : Type := Nat → Option va_E
def hset (h : jH) (a : Nat) (e : va_E) : jH := fun q => if q = a then some e else h q
theorem hset_s (h : jH) (a : Nat) (e : va_E) : hset h a e a = some e := by simp [hset]
theorem hset_n {h : jH} {a b : Nat} {e : va_E} (hne : b ≠ a) : hset h a e b = h b := by simp [hset, hne]
/-- the surroundings: classes' ids and slots; array classes (int, boolean, int once more, part); the first own cell; the static arrays' cells; the texts' cells; the script: its cell, its length, its numbers -/
abbrev jG : Type := va_G × (Nat → ClassId) × Nat × (Nat → Nat) × (Nat → Nat) × Nat × Nat × (Nat → Int32)
def jT (G : jG) : List (ClassId × FieldType) := [(G.2.1 0, .int), (G.2.1 1, .boolean), (G.2.1 2, .int), (G.2.1 3, .object RX6)]
def jB (G : jG) : Nat → Prop := fun q => G.2.2.1 ≤ q
def jR (G : jG) (h : jH) (H : Heap) : Prop := ∀ (a : Nat) (e : va_E), h a = some e → jB G a ∧ va_at G.1 vwCl (a, e) H
theorem jR.set {G : jG} {h : jH} {H H1 : Heap} {a : Nat} {e0 e : va_E} (hR : jR G h H) (h0 : h a = some e0) (he : va_at G.1 vwCl (a, e) H1) (oq : ∀ q : Nat, q ≠ a → H1[q]? = H[q]?) : jR G (hset h a e) H1 := by
  intro b e' hb
  by_cases hab : b = a
  · subst hab
    rw [hset_s] at hb
    cases hb
    exact ⟨(hR b e0 h0).1, he⟩
  · rw [hset_n hab] at hb
    exact ⟨(hR b e' hb).1, (hR b e' hb).2.kept (oq b hab)⟩
theorem jR.new {G : jG} {h : jH} {H H1 : Heap} {e : va_E} (hR : jR G h H) (hB : jB G H.size) (he : va_at G.1 vwCl (H.size, e) H1) (oq : ∀ q : Nat, q < H.size → H1[q]? = H[q]?) : jR G (hset h H.size e) H1 := by
  intro b e' hb
  by_cases hab : b = H.size
  · subst hab
    rw [hset_s] at hb
    cases hb
    exact ⟨hB, he⟩
  · rw [hset_n hab] at hb
    exact ⟨(hR b e' hb).1, (hR b e' hb).2.kept (oq b (hR b e' hb).2.lt)⟩
theorem jR.none {G : jG} {h : jH} {H : Heap} (hR : jR G h H) : h H.size = none := by
  cases he : h H.size with
  | none => rfl
  | some e => exact absurd (hR _ _ he).2.lt (Nat.lt_irrefl _)
/-- the static arrays: class, name, length, contents -/
def jIs (l : List Int32) : Nat → Int32 := fun k => l.getD k 0
def jSt : List (String × String × Nat × List Int32) := [
  (RX7, "HEIGHTS", 7, [0, 2, 4, 5, 7, 9, 11]), (RX7, "TURNS_AS_SHARP", 7, [1, 3, 5, 0, 2, 4, 6]), (RX8, "FALLING", 10, [96, 64, 48, 32, 24, 16, 12, 8, 6, 4]),
  (RX1, "SECOND_TONES", 4, [4, 3, 3, 4]), (RX1, "THIRD_TONES", 4, [7, 7, 6, 8])]
def jSb (G : jG) : Nat := G.2.2.2.2.2.1
def jSn (G : jG) : Nat := G.2.2.2.2.2.2.1
def jSx (G : jG) : Nat → Int32 := G.2.2.2.2.2.2.2
def jSa (G : jG) (k : Nat) : Nat := G.2.2.2.1 k
/-- the words that every method has at hand -/
def WT : List Cond := lw_tbl.filter goodWord
theorem WT_pay {args : Array Value} {s : State} (h : ∀ w ∈ WT, w.before args s = true) : ∀ w ∈ WT, ∀ (a' : Array Value) (U : State), s.WarmedH U.vm → w.before a' U = true :=
  fun w hw a' _ hW => word_at hW (good_of_word (List.mem_filter.mp hw).2) (h w hw)
/-- the texts that are thrown: the entry of ChoraleDesk's file, the text -/
def jTx : List (Nat × String) := [(355, "no such part"), (391, "no such bar"), (397, "no such pitch"), (404, "no such value"), (384, "it would end behind the end of the last bar"), (104, "the part has no event"), (361, "no such event"), (389, "the event is a rest"), (132, "no such metre"), (406, "no such key"), (150, "no such range"), (158, "no such shift"), (368, "no such sign"), (368, "no such sign"), (375, "no such moment"), (378, "no such fault"), (408, "no such width")]
/-- words that are handed on by laws of their own -/
def jNg : List Cond := [
  (Cond.arrayOver (FieldType.object "ChoraleDesk$Part")),
  (Cond.castable "java/lang/IndexOutOfBoundsException" "java/lang/IndexOutOfBoundsException"),
  (Cond.declares ({ cls := "java/lang/RuntimeException", name := "<init>", desc := "()V" } : MethodName)),
  (Cond.declares ({ cls := "java/lang/RuntimeException", name := "<init>", desc := "(Ljava/lang/String;)V" } : MethodName)),
  (Cond.declares ({ cls := "java/lang/Exception", name := "<init>", desc := "()V" } : MethodName)),
  (Cond.declares ({ cls := "java/lang/Exception", name := "<init>", desc := "(Ljava/lang/String;)V" } : MethodName)),
  (Cond.declares ({ cls := "java/lang/Throwable", name := "<init>", desc := "()V" } : MethodName)),
  (Cond.declares ({ cls := "java/lang/Throwable", name := "<init>", desc := "(Ljava/lang/String;)V" } : MethodName)),
  (Cond.castable "java/lang/IllegalArgumentException" "java/lang/IllegalArgumentException"),
  (Cond.castable "java/lang/IllegalStateException" "java/lang/IllegalStateException")]
theorem jNg_warm {s U : State} (hW : s.WarmedH U.vm) : ∀ w ∈ jNg, va_Nw w s → va_Nw w U := by
  refine List.forall_mem_cons.mpr ⟨fun h => va_AO.moved hW.alike h, List.forall_mem_cons.mpr ⟨fun h => va_Nw.warmC hW h, List.forall_mem_cons.mpr ⟨fun h => va_Nw.warmD hW h, List.forall_mem_cons.mpr ⟨fun h => va_Nw.warmD hW h, List.forall_mem_cons.mpr ⟨fun h => va_Nw.warmD hW h, List.forall_mem_cons.mpr ⟨fun h => va_Nw.warmD hW h, List.forall_mem_cons.mpr ⟨fun h => va_Nw.warmD hW h, List.forall_mem_cons.mpr ⟨fun h => va_Nw.warmD hW h, List.forall_mem_cons.mpr ⟨fun h => va_Nw.warmC hW h, List.forall_mem_cons.mpr ⟨fun h => va_Nw.warmC hW h, fun _ h => absurd h List.not_mem_nil⟩⟩⟩⟩⟩⟩⟩⟩⟩⟩
def jNc : List (String × String) := [("java/lang/IllegalArgumentException", "java/lang/IndexOutOfBoundsException"), ("java/lang/IllegalStateException", "java/lang/IndexOutOfBoundsException"), ("java/lang/IndexOutOfBoundsException", "java/lang/IllegalStateException"), ("java/lang/IllegalArgumentException", "java/lang/IllegalStateException")]
/-- what is known of the surroundings at a state -/
def jK (G : jG) (U : State) (H : Heap) : Prop :=
  va_K G.1 vwCl (jT G) U ∧
  (∀ (k : Nat) (q : String × String × Nat × List Int32), jSt[k]? = some q → va_Z q.1 q.2.1 "[I" (.ref (jSa G k)) (jB G) U H ∧ va_T .int (jSa G k) q.2.2.1 (fun j => .int (jIs q.2.2.2 j)) (jB G) U H) ∧
  (∀ (k : Nat) (q : Nat × String), jTx[k]? = some q → vk_R RX9 q.1 q.2 (G.2.2.2.2.1 k) U) ∧
  (vx_Zq Bundle.tN "UNASSIGNED_STACK" Bundle.steD (jB G) U H ∧ vx_Zq Bundle.tN "SUPPRESSED_SENTINEL" Bundle.listD (jB G) U H) ∧
  G.2.2.1 ≤ H.size ∧ (∀ w ∈ jNg, va_Nw w U) ∧ (∀ q ∈ jNc, va_Nc q.1 q.2 U) ∧ va_T .int (jSb G) (jSn G) (fun j => .int (jSx G j)) (jB G) U H
theorem jK.moved {G : jG} {s U : State} {H H1 : Heap} (h : jK G s H) (hW : s.WarmedH U.vm) (hz : H.size ≤ H1.size) (hq : ∀ a : Nat, a < H.size → ¬ jB G a → H1[a]? = H[a]?) : jK G U H1 := by
  obtain ⟨h1, h2, h3, ⟨h4, h5⟩, h6, h7, h8, h9⟩ := h
  exact ⟨va_K.moved hW.alike h1, fun k q hk => ⟨va_Z.moved hW.alike ((h2 k q hk).1.kept hq), va_T.moved hW.alike ((h2 k q hk).2.kept hq)⟩, fun k q hk => vk_R.warm hW (h3 k q hk),
    ⟨vx_Zq.moved hW.alike (h4.kept hq), vx_Zq.moved hW.alike (h5.kept hq)⟩, Nat.le_trans h6 hz, fun w hw => jNg_warm hW w hw (h7 w hw), fun q hq => va_Nc.moved hW.alike (h8 q hq), va_T.moved hW.alike (h9.kept hq)⟩
/-- a method: its class, code, locals, return type, table, name, room -/
abbrev jM : Type := String × ByteArray × Nat × Option FieldType × List (Nat × Nat × Nat × Nat) × String × Room
abbrev jM.own (M : jM) : String := M.1
abbrev jM.cc (M : jM) : ByteArray := M.2.1
abbrev jM.nL (M : jM) : Nat := M.2.2.1
abbrev jM.ret (M : jM) : Option FieldType := M.2.2.2.1
abbrev jM.hh (M : jM) : List (Nat × Nat × Nat × Nat) := M.2.2.2.2.1
abbrev jM.nm (M : jM) : String := M.2.2.2.2.2.1
abbrev jM.room (M : jM) : Room := M.2.2.2.2.2.2
def jStd (G : jG) (M : jM) (p : Program) (s : State) (m : MethodId) (args : Array Value) (meth : Method) (c : Code) : Prop :=
  p.tables.exec = Jvm.exec ∧ c.code = M.cc ∧ c.maxLocals = M.nL ∧ meth.sig.returnType = M.ret ∧ c.exceptionTable.toList = tableOf M.hh ∧ meth.name = M.nm ∧ meth.locks = false ∧
  s.vm.findClass M.own = some m.cls ∧ (∀ w ∈ WT, w.before args s = true) ∧ jK G s s.heap
abbrev jF : Type := List Frame → Array Value → State → State → Prop
/-- from here on (pc, locals L, stack st, heap's picture h; at most ck cells of sk slots may still come) the frame comes to its end QF -/
def J (l : Launch) (G : jG) (M : jM) (QF : jF) (ck sk pc : Nat) (L : List (Nat × Value)) (st : List Value) (h : jH) : Prop :=
  ∀ (p : Program) (e : Env) (s : State) (m : MethodId) (args : Array Value) (below : List Frame) (meth : Method) (c : Code) (H : Heap) (locs : List Loc) (cells slots : Nat) (ls : Array Slot),
    jStd G M p s m args meth c → jR G h H → va_S (jB G) s.heap H locs → lv_has ls M.nL L → cells + ck ≤ M.room.cells → slots + sk ≤ M.room.slots →
    W p l e M.room s m args below meth c H locs cells slots (QF below args s) (F0 m pc ls st)
/-- how a call ended: the value, or the class of what was thrown -/
abbrev jO : Type := Option Value ⊕ String
def jQc (G : jG) (Post : jO → jH → Prop) : Array Value → State → Outcome → State → Prop := fun _ st o t => ∃ (v : Option Value) (h' : jH), o = .returned v ∧ Post (.inl v) h' ∧ jR G h' t.heap ∧ va_F (jB G) st t
def jXC (G : jG) (Post : jO → jH → Prop) : String → State → State → Prop := fun E st t => ∃ h' : jH, Post (.inr E) h' ∧ jR G h' t.heap ∧ va_F (jB G) st t
def jPc (G : jG) (av : List Value) (h : jH) : Array Value → State → Prop := fun v U => v = av.toArray ∧ jR G h U.heap ∧ jK G U U.heap
def jQ (G : jG) (M : jM) (Post : jO → jH → Prop) : jF := fun below args s => vx_MQ below (jQc G Post) (jXC G Post) args s M.room.cells M.room.slots (jB G)
def jws (y : MethodName) (M : jM) : List Cond := (match M.hh with
  | [] => Cond.code y M.cc M.nL M.ret
  | hh => Cond.codeWith y M.cc M.nL M.ret hh) :: WT
/-- **THE CONTRACT**: method y (M), called with av over h, ends so that Post holds -/
def jC (l : Launch) (G : jG) (y : MethodName) (M : jM) (av : List Value) (h : jH) (Post : jO → jH → Prop) : Prop :=
  vx_Met l y (jws y M) M.room (jPc G av h) (jQc G Post) (jXC G Post) M.room.cells M.room.slots (jB G)
theorem jPc.blind {G : jG} {av : List Value} {h : jH} : FrameBlind (jPc G av h) := fun _ U _ _ q =>
  ⟨q.1, q.2.1, jK.moved q.2.2 (State.WarmedH.refl U) (Nat.le_refl _) (fun _ _ _ => rfl)⟩
theorem table_nil : tableOf [] = [] := rfl
theorem jstd_of {l : Launch} {G : jG} {y : MethodName} {M : jM} {p : Program} {e : Env} {s s₁ : State} {m : MethodId} {args : Array Value} {below : List Frame} {meth : Method} {c : Code} (B : BodyLoose p l y (headSpec (jws y M) M.room) M.cc M.nL M.ret e s m args below meth c s₁) (hml : c.maxLocals = M.nL) (ht : c.exceptionTable.toList = tableOf M.hh) (hy : y.cls = M.own) (hn : y.name = M.nm) (hk : jK G s s.heap) : jStd G M p s m args meth c := by
  have hts := atoms_spec (ws := jws y M) B.pre
  refine ⟨B.exec, B.bytes, hml, B.returns, ht, ?_, B.notSynchronized, ?_, fun w hw => hts w (List.mem_cons_of_mem _ hw), hk⟩
  · rw [← hn]; exact (name_of_methodNamed B.named B.method).1
  · rw [← hy]; exact findClass_of_methodNamed B.named
/-- a body gives its contract -/
theorem j_body {l : Launch} {G : jG} {y : MethodName} {M : jM} {av : List Value} {h : jH} {Post : jO → jH → Prop} (hy : plainName y.cls = true) (ho : y.cls = M.own ∧ y.name = M.nm) (hl : Nat.ble (lg_sl av).length M.nL = true)
    (k : J l G M (jQ G M Post) M.room.cells M.room.slots 0 (lv_args 0 av) [] h) : jC l G y M av h Post := by
  obtain ⟨own, cc, nL, ret, hh, nm, room⟩ := M
  cases hh with
  | nil =>
    refine vx_ofW (cc := cc) (maxL := nL) (ret := ret) hy rfl ?_
    intro p e s m args below meth c s₁ B hml ht hv
    obtain ⟨rfl, hR, hK⟩ := hv
    have ht2 : c.exceptionTable.toList = tableOf [] := by
      rw [table_nil]
      exact List.eq_nil_iff_forall_not_mem.mpr (fun x hx => ht x hx)
    rw [lg_entry_eq]
    exact k p e s m _ below meth c s.heap [] 0 0 _ (jstd_of (M := (own, cc, nL, ret, [], nm, room)) B hml ht2 ho.1 ho.2 hK) hR va_S.rf (lv_entry av (Nat.le_of_ble_eq_true hl)) (by simp) (by simp)
  | cons a hh =>
    refine vx_ofWH (cc := cc) (maxL := nL) (ret := ret) (hh := a :: hh) hy rfl ?_
    intro p e s m args below meth c s₁ B hml hv
    obtain ⟨rfl, hR, hK⟩ := hv
    have hts := atoms_spec (ws := jws y (own, cc, nL, ret, a :: hh, nm, room)) B.pre
    have ht2 : c.exceptionTable.toList = tableOf (a :: hh) := vx_table (x := y) B (hts _ List.mem_cons_self)
    rw [lg_entry_eq]
    exact k p e s m _ below meth c s.heap [] 0 0 _ (jstd_of (M := (own, cc, nL, ret, a :: hh, nm, room)) B hml ht2 ho.1 ho.2 hK) hR va_S.rf (lv_entry av (Nat.le_of_ble_eq_true hl)) (by simp) (by simp)
theorem jC.imp {l : Launch} {G : jG} {y : MethodName} {M : jM} {av : List Value} {h : jH} {Post Post' : jO → jH → Prop} (k : jC l G y M av h Post) (hp : ∀ r h', Post r h' → Post' r h') : jC l G y M av h Post' := by
  refine MetFree.mono k (fun _ _ h => h) (fun _ _ _ _ _ h => h) ?_
  intro a s o t _ hq
  rcases hq with ⟨⟨v, h', e1, e2, e3⟩, e4⟩ | ⟨q, e1, E, ce, L, ⟨h', e2, e3⟩, e4⟩
  · exact Or.inl ⟨⟨v, h', e1, hp _ _ e2, e3⟩, e4⟩
  · exact Or.inr ⟨q, e1, E, ce, L, ⟨h', hp _ _ e2, e3⟩, e4⟩
/-- what returns only is a contract of the kit's plain kind -/
theorem jC.met {l : Launch} {G : jG} {y : MethodName} {M : jM} {av : List Value} {h : jH} {Post : jO → jH → Prop} (k : jC l G y M av h Post) (hp : ∀ E h', ¬ Post (.inr E) h') : Met l y (jws y M) M.room (jPc G av h) (jQc G Post) M.room.cells M.room.slots (jB G) := by
  refine MetFree.mono k (fun _ _ h => h) (fun _ _ _ _ _ h => h) ?_
  intro a s o t _ hq
  rcases hq with ⟨e3, e4⟩ | ⟨q, e1, E, ce, L, ⟨h', e2, e3⟩, e4⟩
  · exact ⟨e3, e4⟩
  · exact absurd e2 (hp _ _)
