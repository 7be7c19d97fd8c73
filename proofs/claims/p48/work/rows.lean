section
/-! ===== BEGIN words of one list among another's, by their places ===== -/
theorem goodIn_r {big : List Cond} (ws : List Cond) (ps : List Nat) (hp : ws = ps.filterMap (fun i => big[i]?)) (h : ws.all goodWord = true) : GoodIn big ws := by
  intro w hw
  have h1 := List.all_eq_true.mp h w hw
  rw [hp] at hw
  obtain ⟨i, -, hi⟩ := List.mem_filterMap.mp hw
  have hm : w ∈ big := by first | exact List.mem_of_getElem? hi | exact List.getElem?_mem hi
  exact ⟨hm, good_of_word h1⟩
theorem goodIn_app {big a b : List Cond} (ha : GoodIn big a) (hb : GoodIn big b) : GoodIn big (a ++ b) := fun w h => (List.mem_append.mp h).elim (ha w) (hb w)
theorem goodIn_ca {big a b : List Cond} {c : Cond} (ha : GoodIn big (c :: a)) (hb : GoodIn big b) : GoodIn big (c :: (a ++ b)) := fun w h => (List.mem_cons.mp h).elim (fun e => ha w (List.mem_cons.mpr (Or.inl e))) (fun h => (List.mem_append.mp h).elim (fun h => ha w (List.mem_cons.mpr (Or.inr h))) (hb w))
theorem goodIn_sub {big ws : List Cond} (hm : ∀ w ∈ ws, w ∈ big) (h : ws.all goodWord = true) : GoodIn big ws := fun w hw => ⟨hm w hw, good_of_word (List.all_eq_true.mp h w hw)⟩
/-! ===== END ===== -/

/-! ===== BEGIN exceptions that leave a method, and their catching by the caller (launches without stack traces) ===== -/
section VXA
/-! The laws vx_back, vx_callV, vx_callS, vx_callSW, vx_throw0, vx_throwS follow proofs of the library, with one case more: JvmDerived/Free/Laws.lean (Back.of_free), Shelf42/LK1.lean (callV, callS), Shelf/KitTraced.lean (throwNew0V, throwNewS). -/
/-- where a method has thrown q: the class by its name, the cell, what was written, the world -/
def vx_T (XC : String → State → State → Prop) (st : State) (q : Addr) (t : State) (mc ms : Nat) (free : Addr → Prop) : Prop :=
  ∃ (E : String) (ce : Cell) (L : List Loc), XC E st t ∧ t.heap[q]? = some ce ∧ ce.vm = .none ∧ st.vm.findClass E = some ce.cls ∧ st.WarmedH t.vm ∧ st.sameButNew ({ t with vm := st.vm } : State) L mc ms ∧ ∀ z ∈ L, free z.base
def vx_Q (Qc : Array Value → State → Outcome → State → Prop) (XC : String → State → State → Prop) (mc ms : Nat) (free : Addr → Prop) : Array Value → State → Outcome → State → Prop := fun a st o t =>
  (Qc a st o t ∧ ∃ L, FrameEnd st o t L mc ms ∧ ∀ q ∈ L, free q.base) ∨ ∃ q, o = .threw q ∧ vx_T XC st q t mc ms free
/-- a callee that returns or throws -/
def vx_Met (l : Launch) (y : MethodName) (ws : List Cond) (rm : Room) (Pc : Array Value → State → Prop) (Qc : Array Value → State → Outcome → State → Prop) (XC : String → State → State → Prop) (mc ms : Nat) (free : Addr → Prop) : Prop :=
  MetFree l y (headSpec ws rm) Pc (fun _ _ _ _ _ => True) (vx_Q Qc XC mc ms free)
def vx_Post (XC : String → State → State → Prop) (mc ms : Nat) (free : Addr → Prop) : Pt → Array Value → Addr → Pt → Prop := fun A a q B =>
  ∃ (g : JFrame) (mk : MethodId) (t : State) (L : List Loc) (E : String) (ce : Cell), B.U.heap = t.heap ∧ B.U.vm = t.vm ∧ XC E (A.U.calling g mk a) t ∧ t.heap[q]? = some ce ∧ ce.vm = .none ∧ A.U.vm.findClass E = some ce.cls ∧ B.locs = A.locs ++ L ∧ (∀ z ∈ L, free z.base) ∧ B.cells = A.cells + mc ∧ B.slots = A.slots + ms
def vx_Back (l : Launch) (R : Room) (p : Program) (e : Env) (below : List Frame) (s : State) (sargs : Array Value) (y : MethodName) (len W9 : Nat)
    (Pre : Pt → Array Value → Prop) (Post : Pt → Array Value → Option Value → Pt → Prop) (PostX : Pt → Array Value → Addr → Pt → Prop) : Prop :=
  ∀ (m : MethodId) (meth : Method) (c : Code) (A : Pt) (g : JFrame) (ig : Instr) (mk : MethodId) (a : Array Value),
    Stand p l e R s m sargs below meth c A.U A.locs A.cells A.slots → g.method = m → g.locals.size = c.maxLocals → decode c.code g.pc = .ok (ig, len) →
    2 * g.monitorRoom + (g.stack.map fun v => v.category).sum ≤ W9 → A.U.methodNamed? y = some mk → Pre A a →
    (∃ (v : Option Value) (B : Pt), Stand p l e R s m sargs below meth c B.U B.locs B.cells B.slots ∧ Post A a v B ∧
      Steps p.tables e below (doInvoke e (A.U.setTop g) [] mk a).1 (B.U.setTop { g with pc := g.pc + len, stack := v.toList ++ g.stack })) ∨
    (∃ (q : Addr) (B : Pt), Stand p l e R s m sargs below meth c B.U B.locs B.cells B.slots ∧ PostX A a q B ∧
      Steps p.tables e below (doInvoke e (A.U.setTop g) [] mk a).1 ((B.U.setTop g).pushFrame (.throwing q)))
section Payer
variable {l : Launch} {R : Room} {p : Program} {e : Env} {below : List Frame} {s : State} {sargs : Array Value} {y : MethodName} {len W9 : Nat}
theorem vx_back {ws : List Cond} {rm : Room} {Pc : Array Value → State → Prop} {Qc : Array Value → State → Outcome → State → Prop} {XC : String → State → State → Prop} {mc ms : Nat} {free : Addr → Prop} {bytes : ByteArray} {maxL : Nat} {ret : Option FieldType}
    (hM : vx_Met l y ws rm Pc Qc XC mc ms free) (hblind : FrameBlind Pc) (hrc : rm.cells = mc) (hrs : rm.slots = ms)
    (hframes : rm.frames + 1 ≤ R.frames) (hlocals : W9 + (maxL + 11) + rm.locals ≤ R.locals)
    (hws : ∀ w ∈ ws, ∀ a' U, s.WarmedH U.vm → w.before a' U = true) (hcode : Cond.code y bytes maxL ret ∈ ws) (hinit : ∀ a' U, s.WarmedH U.vm → (Cond.initialized y.cls).before a' U = true) :
    vx_Back l R p e below s sargs y len W9 (PreOf R mc ms Pc) (PostOf Qc mc ms free) (vx_Post XC mc ms free) := by
  intro m meth c A g ig mk a X hg hsize hdg hW hn hp
  have h1 : (headSpec ws rm).pre.before a A.U = true := atoms_intro fun w hw => hws w hw _ _ X.warmed
  have h2 : (Cond.code y bytes maxL ret).before a A.U = true := hws _ hcode _ _ X.warmed
  have h3 : (Cond.initialized y.cls).before a A.U = true := hinit _ _ X.warmed
  have h4 : A.cells + (headSpec ws rm).room.cells ≤ R.cells := by rw [show (headSpec ws rm).room.cells = mc from hrc]; exact hp.1
  have h5 : A.slots + (headSpec ws rm).room.slots ≤ R.slots := by rw [show (headSpec ws rm).room.slots = ms from hrs]; exact hp.2.1
  have hPc : Pc a (A.U.calling g mk a) := hblind _ _ _ _ hp.2.2
  obtain ⟨U, Ls, c0, s0⟩ := A
  dsimp only [Pt.U, Pt.locs, Pt.cells, Pt.slots] at h1 h2 h3 h4 h5 X hn hPc ⊢
  obtain ⟨methY, cY, hmY, hcY, -, hlY, -, -, -, -⟩ := Cond.code_spec hn h2
  obtain ⟨kY, hkY, -⟩ := className_of_methodNamed hn
  have hinitY : kY.init = .initialized := Cond.initialized_spec (findClass_of_methodNamed hn) hkY h3
  have h : At U g.method c below := by rw [hg]; exact X.here
  have hlocals9 : W9 + (maxL + 11) + (headSpec ws rm).room.locals ≤ R.locals := hlocals
  have happ : (headSpec ws rm).appliesLoose y e.platform (U.calling g mk a) = true :=
    Spec.appliesLoose_calling (g := g) h hdg hn hkY hinitY
      (X.room_calling (g := g) (R' := (headSpec ws rm).room) hsize hmY hcY hframes (by rw [hlY]; omega) h4 h5) h1
  obtain ⟨mid, hmid⟩ := h.above
  have hfr : (U.setTop g).frames = (.java g :: mid) ++ below := by rw [State.frames_setTop' g h.top, hmid]; rfl
  obtain ⟨o, s₂, hsteps, -, hend, hq⟩ := Steps.callFree hM p X.admits X.cas X.clock (acts := []) hfr happ hPc trivial
  have hq' : vx_Q Qc XC mc ms free a (U.calling g mk a) o s₂ := hq
  rw [State.frames_setTop' g h.top] at hend
  obtain ⟨g₀, hg0⟩ := Option.isSome_iff_exists.mp h.top
  obtain ⟨r, hr⟩ := State.topJava?_eq_some.mp hg0
  have hr' : (({ U with heap := s₂.heap, slotsUsed := s₂.slotsUsed } : State).setVm s₂.vm).frames = .java g₀ :: r := hr
  rcases hq' with ⟨hqc, L, hfe, hL⟩ | ⟨q, rfl, E, ce, L, hx, hce, hcv, hcl, hW₂, hsm, hL⟩
  · obtain ⟨⟨v, rfl⟩, hW₂, e2, q2, q3, q4, q5, q6⟩ := id hfe
    have e3 : s₂ = ({ (U.calling g mk a).setFrames s₂.frames with heap := s₂.heap, slotsUsed := s₂.slotsUsed } : State).setVm s₂.vm := by
      have : s₂ = ({ s₂ with vm := (U.calling g mk a).vm } : State).setVm s₂.vm := rfl
      rw [e2] at this
      exact this
    obtain ⟨c₂, i₂, len₂, hc₂, hd₂, hf₂⟩ := hend
    have hW' : U.WarmedH s₂.vm := hW₂
    have hcc : c₂ = c := by
      have h1 : s₂.code? g.method = U.code? g.method := by
        rw [State.code?_eq, State.code?_eq, hW'.alike.method?]
      exact Option.some.inj (hc₂.symm.trans (h1.trans h.code))
    subst hcc
    have hlen : len₂ = len := by rw [hdg] at hd₂; cases hd₂; rfl
    subst hlen
    have hs₂ : s₂ = (({ U with heap := s₂.heap, slotsUsed := s₂.slotsUsed } : State).setVm s₂.vm).setTop { g with pc := g.pc + len₂, stack := v.toList ++ g.stack } := by
      refine e3.trans ?_
      rw [hf₂, State.calling_eq h.top, State.setFrames_setFrames, State.setTop_of_frames _ hr', hr]
      rfl
    have hsame : U.sameButNew ({ U with heap := s₂.heap, slotsUsed := s₂.slotsUsed } : State) L mc ms := by
      refine ⟨?_, q2, q3, q4, q5, q6⟩
      obtain ⟨t, ht, -⟩ := State.frames_cons hr
      show ({ U with heap := s₂.heap, slotsUsed := s₂.slotsUsed } : State) = { U.setFrames U.frames with heap := s₂.heap, slotsUsed := s₂.slotsUsed }
      rw [State.setFrames_self ht]
    subst hg
    refine Or.inl ⟨v, ⟨(({ U with heap := s₂.heap, slotsUsed := s₂.slotsUsed } : State).setVm s₂.vm), Ls ++ L, c0 + mc, s0 + ms⟩,
      ⟨X.admits, X.cas, X.clock, X.frames, X.room, X.hears, X.method, X.code, (X.here.setHeapUsed s₂.heap s₂.slotsUsed).setVm hW'.alike, X.tail, State.WarmedH.trans X.warmed hW', X.limits, X.bytes, X.same.trans (hsame.setVm s.vm)⟩,
      ⟨g, mk, s₂, L, rfl, rfl, hqc, rfl, hL, rfl, rfl⟩, ?_⟩
    show Steps p.tables e below _ ((({ U with heap := s₂.heap, slotsUsed := s₂.slotsUsed } : State).setVm s₂.vm).setTop { g with pc := g.pc + len₂, stack := v.toList ++ g.stack })
    rw [← hs₂]
    exact hsteps
  · obtain ⟨e2, q2, q3, q4, q5, q6⟩ := id hsm
    have e3 : s₂ = ({ (U.calling g mk a).setFrames s₂.frames with heap := s₂.heap, slotsUsed := s₂.slotsUsed } : State).setVm s₂.vm := by
      have : s₂ = ({ s₂ with vm := (U.calling g mk a).vm } : State).setVm s₂.vm := rfl
      rw [e2] at this
      exact this
    have hf₂ : s₂.frames = .throwing q :: .java g :: U.frames.tail := hend
    have hW' : U.WarmedH s₂.vm := hW₂
    have hs₂ : s₂ = ((({ U with heap := s₂.heap, slotsUsed := s₂.slotsUsed } : State).setVm s₂.vm).setTop g).pushFrame (.throwing q) := by
      refine e3.trans ?_
      rw [hf₂, State.calling_eq h.top, State.setFrames_setFrames, State.pushFrame, State.frames_setTop _ hr', State.setTop_of_frames _ hr', State.setFrames_setFrames, hr]
      rfl
    have hsame : U.sameButNew ({ U with heap := s₂.heap, slotsUsed := s₂.slotsUsed } : State) L mc ms := by
      refine ⟨?_, q2, q3, q4, q5, q6⟩
      obtain ⟨t, ht, -⟩ := State.frames_cons hr
      show ({ U with heap := s₂.heap, slotsUsed := s₂.slotsUsed } : State) = { U.setFrames U.frames with heap := s₂.heap, slotsUsed := s₂.slotsUsed }
      rw [State.setFrames_self ht]
    subst hg
    refine Or.inr ⟨q, ⟨(({ U with heap := s₂.heap, slotsUsed := s₂.slotsUsed } : State).setVm s₂.vm), Ls ++ L, c0 + mc, s0 + ms⟩,
      ⟨X.admits, X.cas, X.clock, X.frames, X.room, X.hears, X.method, X.code, (X.here.setHeapUsed s₂.heap s₂.slotsUsed).setVm hW'.alike, X.tail, State.WarmedH.trans X.warmed hW', X.limits, X.bytes, X.same.trans (hsame.setVm s.vm)⟩,
      ⟨g, mk, s₂, L, E, ce, rfl, rfl, hx, hce, hcv, hcl, rfl, hL, rfl, rfl⟩, ?_⟩
    show Steps p.tables e below _ (((({ U with heap := s₂.heap, slotsUsed := s₂.slotsUsed } : State).setVm s₂.vm).setTop g).pushFrame (.throwing q))
    rw [← hs₂]
    exact hsteps
end Payer
section Calls
variable {p : Program} {l : Launch} {e : Env} {R : Room} {s : State} {m : MethodId} {args : Array Value} {below : List Frame} {meth : Method} {c : Code} {T : State} {locs : List Loc} {cells slots : Nat}
theorem vx_callV (X : Stand p l e R s m args below meth c T locs cells slots) (hexec : p.tables.exec = Jvm.exec) {own C : String} {index : Nat} {y : MethodName} {bytes : ByteArray} {maxL : Nat} {ret : Option FieldType}
    (hown : s.vm.findClass own = some m.cls) (hlink : (Cond.methodLink own index y).before args s = true) (hinst : (Cond.instanceMethod y).before args s = true) (hsel : (Cond.selects C y y).before args s = true)
    (hcode : (Cond.code y bytes maxL ret).before args s = true) (hy : y.cls ≠ "java/lang/invoke/MethodHandle" ∧ y.cls ≠ "java/lang/invoke/VarHandle")
    {W9 : Nat} {Pre : Pt → Array Value → Prop} {Post : Pt → Array Value → Option Value → Pt → Prop} {PostX : Pt → Array Value → Addr → Pt → Prop} (hK : vx_Back l R p e below s args y 3 W9 Pre Post PostX)
    {b : Addr} {cellB : Cell} (hcell : T.heap[b]? = some cellB) (hobj : cellB.vm.isStatics = false) (hcls : s.vm.findClass C = some cellB.cls)
    {g : JFrame} (hg : g.method = m) (hsize : g.locals.size = c.maxLocals) {argsL rest : List Value} (hlen : ∀ sig, parseMethodDescriptor y.desc = some sig → argsL.length = sig.parameters.length)
    (hstack : g.stack = argsL.reverse ++ .ref b :: rest) (hW : 2 * g.monitorRoom + (rest.map fun v => v.category).sum ≤ W9) (hdg : decode c.code g.pc = .ok (.invokevirtual index, 3))
    (hpre : ∀ vm₁, s.WarmedH vm₁ → Pre ⟨T.setVm vm₁, locs, cells, slots⟩ (Value.ref b :: argsL).toArray) :
    (∃ (v : Option Value) (vm₁ : Vm) (B : Pt), s.WarmedH vm₁ ∧ Stand p l e R s m args below meth c B.U B.locs B.cells B.slots ∧ Post ⟨T.setVm vm₁, locs, cells, slots⟩ (Value.ref b :: argsL).toArray v B ∧
      ∀ target, Steps p.tables e below (B.U.setTop { g with pc := g.pc + 3, stack := v.toList ++ rest }) target → Steps p.tables e below (T.setTop g) target) ∨
    (∃ (q : Addr) (vm₁ : Vm) (B : Pt), s.WarmedH vm₁ ∧ Stand p l e R s m args below meth c B.U B.locs B.cells B.slots ∧ PostX ⟨T.setVm vm₁, locs, cells, slots⟩ (Value.ref b :: argsL).toArray q B ∧
      Steps p.tables e below (T.setTop g) ((B.U.setTop { g with stack := rest }).pushFrame (.throwing q))) := by
  obtain ⟨mk, methM, hnamed, hmethM, hstM, habM⟩ := Cond.instanceMethod_spec hinst
  obtain ⟨methM', cM, hmethM', -, -, -, -, -, -, hsigM⟩ := Cond.code_spec hnamed hcode
  cases hmethM.symm.trans hmethM'
  obtain ⟨c2, r2, m2, q1, q2, q3, q4, kP, hkP, hkPi⟩ := Cond.selects_spec hsel
  cases hcls.symm.trans q1
  cases (State.methodFound?_of_named hnamed hy).symm.trans q2
  cases hnamed.symm.trans q3
  have hselP : selectMethod e.platform s.vm cellB.cls mk = .method mk := by rw [Launch.admits_selectMethod X.admits]; exact q4
  obtain ⟨vm₁, X₁, hstep₁⟩ := X.invokevirtual hexec hown hlink hnamed hmethM hstM hkP hkPi hy (a := b) (cell := cellB) hcell
    (fun z h => by rw [h] at hobj; cases hobj) hselP hmethM habM hkP hkPi (g := g) hg (argsL := argsL) (rest := rest) (hlen _ hsigM) hstack hdg
  rcases hK m meth c ⟨T.setVm vm₁, locs, cells, slots⟩ { g with stack := rest } (.invokevirtual index) mk (Value.ref b :: argsL).toArray X₁ hg hsize hdg hW (X₁.named hnamed) (hpre vm₁ X₁.warmed) with ⟨v, B, X', hpost, hsteps⟩ | ⟨q, B, X', hpost, hsteps⟩
  · exact Or.inl ⟨v, vm₁, B, X₁.warmed, X', hpost, fun target h => hstep₁ _ fun acts => by rw [doInvoke_state]; exact hsteps.trans h⟩
  · exact Or.inr ⟨q, vm₁, B, X₁.warmed, X', hpost, hstep₁ _ fun acts => by rw [doInvoke_state]; exact hsteps⟩
theorem vx_callS (X : Stand p l e R s m args below meth c T locs cells slots) (hexec : p.tables.exec = Jvm.exec) {own : String} {index : Nat} {y : MethodName} {bytes : ByteArray} {maxL : Nat} {ret : Option FieldType}
    (hown : s.vm.findClass own = some m.cls) (hlink : (Cond.methodLink own index y).before args s = true) (hstat : (Cond.static y).before args s = true) (hinit : (Cond.initialized y.cls).before args s = true)
    (hcode : (Cond.code y bytes maxL ret).before args s = true) (hy : y.cls ≠ "java/lang/invoke/MethodHandle" ∧ y.cls ≠ "java/lang/invoke/VarHandle")
    {W9 : Nat} {Pre : Pt → Array Value → Prop} {Post : Pt → Array Value → Option Value → Pt → Prop} {PostX : Pt → Array Value → Addr → Pt → Prop} (hK : vx_Back l R p e below s args y 3 W9 Pre Post PostX)
    {g : JFrame} (hg : g.method = m) (hsize : g.locals.size = c.maxLocals) {argsL rest : List Value} (hlen : ∀ sig, parseMethodDescriptor y.desc = some sig → argsL.length = sig.parameters.length)
    (hstack : g.stack = argsL.reverse ++ rest) (hW : 2 * g.monitorRoom + (rest.map fun v => v.category).sum ≤ W9) (hdg : decode c.code g.pc = .ok (.invokestatic index, 3))
    (hpre : ∀ vm₁, s.WarmedH vm₁ → Pre ⟨T.setVm vm₁, locs, cells, slots⟩ argsL.toArray) :
    (∃ (v : Option Value) (vm₁ : Vm) (B : Pt), s.WarmedH vm₁ ∧ Stand p l e R s m args below meth c B.U B.locs B.cells B.slots ∧ Post ⟨T.setVm vm₁, locs, cells, slots⟩ argsL.toArray v B ∧
      ∀ target, Steps p.tables e below (B.U.setTop { g with pc := g.pc + 3, stack := v.toList ++ rest }) target → Steps p.tables e below (T.setTop g) target) ∨
    (∃ (q : Addr) (vm₁ : Vm) (B : Pt), s.WarmedH vm₁ ∧ Stand p l e R s m args below meth c B.U B.locs B.cells B.slots ∧ PostX ⟨T.setVm vm₁, locs, cells, slots⟩ argsL.toArray q B ∧
      Steps p.tables e below (T.setTop g) ((B.U.setTop { g with stack := rest }).pushFrame (.throwing q))) := by
  obtain ⟨mk, hnamed⟩ := Cond.code_named hcode
  obtain ⟨methM, cM, hmethM, -, -, -, -, -, -, hsigM⟩ := Cond.code_spec hnamed hcode
  have hstatic : methM.isStatic = true := Cond.static_spec hnamed hmethM hstat
  obtain ⟨kP, hkP, -⟩ := className_of_methodNamed hnamed
  have hinitP : kP.init = .initialized := Cond.initialized_spec (findClass_of_methodNamed hnamed) hkP hinit
  obtain ⟨vm₁, X₁, hstep₁⟩ := X.invokestatic hexec hown hlink hnamed hmethM hstatic hkP hinitP hy (g := g) hg (argsL := argsL) (rest := rest) (hlen _ hsigM) hstack hdg
  rcases hK m meth c ⟨T.setVm vm₁, locs, cells, slots⟩ { g with stack := rest } (.invokestatic index) mk argsL.toArray X₁ hg hsize hdg hW (X₁.named hnamed) (hpre vm₁ X₁.warmed) with ⟨v, B, X', hpost, hsteps⟩ | ⟨q, B, X', hpost, hsteps⟩
  · exact Or.inl ⟨v, vm₁, B, X₁.warmed, X', hpost, fun target h => hstep₁ _ fun acts => by rw [doInvoke_state]; exact hsteps.trans h⟩
  · exact Or.inr ⟨q, vm₁, B, X₁.warmed, X', hpost, hstep₁ _ fun acts => by rw [doInvoke_state]; exact hsteps⟩
end Calls
theorem vx_cls {s : State} {T : State} {vm₁ : Vm} {E : String} {k : ClassId} (hW : s.WarmedH vm₁) (h : (T.setVm vm₁).vm.findClass E = some k) : s.vm.findClass E = some k := by
  have h1 : vm₁.findClass E = some k := h
  rw [hW.alike.findClass] at h1
  exact h1
/-- the method's frame g, with q thrown over it -/
def vx_W (p : Program) (l : Launch) (e : Env) (R : Room) (s : State) (m : MethodId) (args : Array Value) (below : List Frame) (meth : Method) (c : Code) (H : Heap) (locs : List Loc) (cells slots : Nat) (Q : State → Prop) (g : JFrame) (q : Addr) : Prop :=
  ∀ T : State, T.heap = H → Stand p l e R s m args below meth c T locs cells slots → ∃ t, Steps p.tables e below ((T.setTop g).pushFrame (.throwing q)) t ∧ Q t
def vx_Run (p : Program) (l : Launch) (e : Env) (R : Room) (s : State) (m : MethodId) (args : Array Value) (below : List Frame) (meth : Method) (c : Code) (H : Heap) (locs : List Loc) (cells slots mc ms : Nat) (g : JFrame) (rest : List Value) (Qa : State → Outcome → State → Prop) (XC : String → State → State → Prop) (free : Addr → Prop) : Prop :=
  ∀ T : State, T.heap = H → Stand p l e R s m args below meth c T locs cells slots →
    (∃ (v : Option Value) (st₀ t T' : State) (L : List Loc), st₀.heap = H ∧ Stand p l e R s m args below meth c T' (locs ++ L) (cells + mc) (slots + ms) ∧ (∀ q ∈ L, free q.base) ∧ T'.heap = t.heap ∧ T'.vm = t.vm ∧ Qa st₀ (.returned v) t ∧
      Goes p e below T g T' { g with pc := g.pc + 3, stack := v.toList ++ rest }) ∨
    (∃ (q : Addr) (st₀ t T' : State) (L : List Loc) (E : String) (ce : Cell), st₀.heap = H ∧ Stand p l e R s m args below meth c T' (locs ++ L) (cells + mc) (slots + ms) ∧ (∀ z ∈ L, free z.base) ∧ T'.heap = t.heap ∧ T'.vm = t.vm ∧ XC E st₀ t ∧ t.heap[q]? = some ce ∧ ce.vm = .none ∧ s.vm.findClass E = some ce.cls ∧
      Steps p.tables e below (T.setTop g) ((T'.setTop { g with stack := rest }).pushFrame (.throwing q)))
def vx_X {S : Type} (px : S → Prop) (B : String → S → State → Prop) (A : Nat → Prop) : String → State → State → Prop := fun E st t => ∃ u : S, px u ∧ B E u t ∧ va_F A st t
section Runs
variable {p : Program} {l : Launch} {e : Env} {R : Room} {s : State} {m : MethodId} {args : Array Value} {below : List Frame} {meth : Method} {c : Code} {H : Heap} {locs : List Loc} {cells slots : Nat}
variable {y : MethodName} {bytes cc : ByteArray} {maxL nL mc ms n index : Nat} {ret : Option FieldType} {ws : List Cond} {rm : Room} {Pc : Array Value → State → Prop} {Qc : Array Value → State → Outcome → State → Prop} {XC : String → State → State → Prop} {free : Addr → Prop} {Ts : List Cond} {own C : String} {b : Addr} {As rest : List Value} {g : JFrame}
theorem vx_callBack (cb : CallB R s args own index y bytes maxL ret ws rm mc ms n) (hM : vx_Met l y ws rm Pc Qc XC mc ms free) (hbl : FrameBlind Pc) : vx_Back l R p e below s args y 3 8 (PreOf R mc ms Pc) (PostOf Qc mc ms free) (vx_Post XC mc ms free) := by
  obtain ⟨hrc, hrs, hfr, hlo, hws, hcw, -, hini, -⟩ := cb
  exact vx_back (bytes := bytes) (maxL := maxL) (ret := ret) hM hbl hrc hrs hfr hlo hws hcw (fun a' U hW => word_at hW (Or.inl (by first | rfl | simp [Cond.onTables, Cond.keeps, Cond.steady])) hini)
theorem vx_runV (S : CallFix p m c cc nL s args Ts own) (hM : vx_Met l y ws rm Pc Qc XC mc ms free) (cw : CallW R s args own C index y bytes maxL ret ws rm mc ms n) (hp : PreV s H C b Pc As)
    (hg : g.method = m) (hn : As.length = n) (hsize : g.locals.size = nL) (hstack : g.stack = As.reverse ++ .ref b :: rest) (hW : 2 * g.monitorRoom + (rest.map fun v => v.category).sum ≤ 8) (hdg : decode cc g.pc = .ok (.invokevirtual index, 3)) (hf : cells + mc ≤ R.cells ∧ slots + ms ≤ R.slots) :
    vx_Run p l e R s m args below meth c H locs cells slots mc ms g rest (Qc (Value.ref b :: As).toArray) XC free := by
  have hK : vx_Back l R p e below s args y 3 8 (PreOf R mc ms Pc) (PostOf Qc mc ms free) (vx_Post XC mc ms free) := vx_callBack cw.1 hM hp.1
  obtain ⟨⟨-, -, -, -, -, -, hcode, -, hy, hlen, hl⟩, hin, hse⟩ := cw
  obtain ⟨hx, hb, hml, ho, -⟩ := S
  obtain ⟨-, ⟨cellB, hcB, hoB, hclB⟩, hPc⟩ := hp
  intro T hT X
  rcases vx_callV X hx (C := C) (bytes := bytes) (maxL := maxL) (ret := ret) ho hl hin hse hcode hy hK (by rw [hT]; exact hcB) hoB hclB hg (hsize.trans hml.symm) (argsL := As) (rest := rest) (fun sig h => hn.trans (hlen sig h)) hstack hW (by rw [hb]; exact hdg)
    (fun vm₁ hW₁ => ⟨hf.1, hf.2, hPc (T.setVm vm₁) hT hW₁⟩) with ⟨v, vm₁, ⟨U', l2, c2, s2⟩, hW₁, X', ⟨g', mk, t, L, e1, e2, hq, h1, hL, h2, h3⟩, st⟩ | ⟨q, vm₁, ⟨U', l2, c2, s2⟩, hW₁, X', ⟨g', mk, t, L, E, ce, e1, e2, hq, hce, hcv, hcl, h1, hL, h2, h3⟩, st⟩
  · dsimp only [Pt.U, Pt.locs, Pt.cells, Pt.slots] at X' e1 e2 h1 h2 h3 st
    subst h1; subst h2; subst h3
    exact Or.inl ⟨v, (T.setVm vm₁).calling g' mk (Value.ref b :: As).toArray, t, U', L, hT, X', hL, e1, e2, hq, st⟩
  · dsimp only [Pt.U, Pt.locs, Pt.cells, Pt.slots] at X' e1 e2 h1 h2 h3 st hcl
    subst h1; subst h2; subst h3
    exact Or.inr ⟨q, (T.setVm vm₁).calling g' mk (Value.ref b :: As).toArray, t, U', L, E, ce, hT, X', hL, e1, e2, hq, hce, hcv, vx_cls hW₁ hcl, st⟩
theorem vx_runS (S : CallFix p m c cc nL s args Ts own) (hM : vx_Met l y ws rm Pc Qc XC mc ms free) (cw : CallB R s args own index y bytes maxL ret ws rm mc ms n ∧ (Cond.static y).before args s = true) (hp : PreS s H Pc As)
    (hg : g.method = m) (hn : As.length = n) (hsize : g.locals.size = nL) (hstack : g.stack = As.reverse ++ rest) (hW : 2 * g.monitorRoom + (rest.map fun v => v.category).sum ≤ 8) (hdg : decode cc g.pc = .ok (.invokestatic index, 3)) (hf : cells + mc ≤ R.cells ∧ slots + ms ≤ R.slots) :
    vx_Run p l e R s m args below meth c H locs cells slots mc ms g rest (Qc As.toArray) XC free := by
  have hK : vx_Back l R p e below s args y 3 8 (PreOf R mc ms Pc) (PostOf Qc mc ms free) (vx_Post XC mc ms free) := vx_callBack cw.1 hM hp.1
  obtain ⟨⟨-, -, -, -, -, -, hcode, hini, hy, hlen, hl⟩, hstt⟩ := cw
  obtain ⟨hx, hb, hml, ho, -⟩ := S
  intro T hT X
  rcases vx_callS X hx (bytes := bytes) (maxL := maxL) (ret := ret) ho hl hstt hini hcode hy hK hg (hsize.trans hml.symm) (argsL := As) (rest := rest) (fun sig h => hn.trans (hlen sig h)) hstack hW (by rw [hb]; exact hdg)
    (fun vm₁ hW₁ => ⟨hf.1, hf.2, hp.2 (T.setVm vm₁) hT hW₁⟩) with ⟨v, vm₁, ⟨U', l2, c2, s2⟩, hW₁, X', ⟨g', mk, t, L, e1, e2, hq, h1, hL, h2, h3⟩, st⟩ | ⟨q, vm₁, ⟨U', l2, c2, s2⟩, hW₁, X', ⟨g', mk, t, L, E, ce, e1, e2, hq, hce, hcv, hcl, h1, hL, h2, h3⟩, st⟩
  · dsimp only [Pt.U, Pt.locs, Pt.cells, Pt.slots] at X' e1 e2 h1 h2 h3 st
    subst h1; subst h2; subst h3
    exact Or.inl ⟨v, (T.setVm vm₁).calling g' mk As.toArray, t, U', L, hT, X', hL, e1, e2, hq, st⟩
  · dsimp only [Pt.U, Pt.locs, Pt.cells, Pt.slots] at X' e1 e2 h1 h2 h3 st hcl
    subst h1; subst h2; subst h3
    exact Or.inr ⟨q, (T.setVm vm₁).calling g' mk As.toArray, t, U', L, E, ce, hT, X', hL, e1, e2, hq, hce, hcv, vx_cls hW₁ hcl, st⟩
end Runs
section Rows
variable {p : Program} {l : Launch} {e : Env} {R : Room} {s : State} {m : MethodId} {args : Array Value} {below : List Frame} {meth : Method} {c : Code} {H : Heap} {locs : List Loc} {cells slots : Nat} {Q : State → Prop}
variable {mc ms : Nat} {free : Addr → Prop} {A0 A1 : Nat → Prop} {H0 : Heap} {a : Array Value} {pc : Nat} {ls : Array Slot} {st0 rest : List Value}
theorem vx_keep {st₀ t T' : State} {L : List Loc} (h0 : st₀.heap = H) (e1 : T'.heap = t.heap) (hS : va_S A0 H0 H locs) (hA : ∀ q, q < H.size → A1 q → A0 q) (hf : ∀ q, free q → A0 q) (hL : ∀ q ∈ L, free q.base) (hF : va_F A1 st₀ t) :
    H.size ≤ T'.heap.size ∧ (∀ q : Nat, q < H.size → ¬ A1 q → T'.heap[q]? = H[q]?) ∧ va_S A0 H0 T'.heap (locs ++ L) := by
  obtain ⟨hz, hk⟩ := hF
  rw [h0] at hz hk
  exact ⟨by rw [e1]; exact hz, fun q h1 h2 => by rw [e1]; exact hk q h1 h2,
    ⟨Nat.le_trans hS.1 (by rw [e1]; exact hz), fun q h1 h2 => by rw [e1, hk q (Nat.lt_of_lt_of_le h1 hS.1) (fun z => h2 (hA q (Nat.lt_of_lt_of_le h1 hS.1) z))]; exact hS.2.1 q h1 h2, fun q hq => by
      rcases List.mem_append.mp hq with h | h
      · exact hS.2.2 q h
      · exact hf _ (hL q h)⟩⟩
theorem vx_calli {S SX : Type} {post : Int32 → S → Prop} {px : SX → Prop} {B : S → State → Prop} {BX : String → SX → State → Prop} {AX : Nat → Prop} (hr : vx_Run p l e R s m args below meth c H locs cells slots mc ms (F0 m pc ls st0) rest (va_Qi post B A1 a) (vx_X px BX AX) free) (hS : va_S A0 H0 H locs) (hA : ∀ q, q < H.size → A1 q → A0 q) (hf : ∀ q, free q → A0 q) (hAX : ∀ q, q < H.size → AX q → A0 q)
    (kx : ∀ (E : String) (ce : Cell) (q9 : Addr) (u : SX) (t : State) (H1 : Heap) (locs1 : List Loc), t.heap = H1 → s.vm.Alike t.vm → px u → BX E u t → H.size ≤ H1.size → (∀ q : Nat, q < H.size → ¬ AX q → H1[q]? = H[q]?) → va_S A0 H0 H1 locs1 → H1[q9]? = some ce → ce.vm = .none → s.vm.findClass E = some ce.cls → vx_W p l e R s m args below meth c H1 locs1 (cells + mc) (slots + ms) Q (F0 m pc ls rest) q9)
    (kk : ∀ (r : Int32) (u : S) (t : State) (H1 : Heap) (locs1 : List Loc), t.heap = H1 → s.vm.Alike t.vm → post r u → B u t → H.size ≤ H1.size → (∀ q : Nat, q < H.size → ¬ A1 q → H1[q]? = H[q]?) → va_S A0 H0 H1 locs1 → W p l e R s m args below meth c H1 locs1 (cells + mc) (slots + ms) Q (F0 m (pc + 3) ls (.int r :: rest))) : W p l e R s m args below meth c H locs cells slots Q (F0 m pc ls st0) := by
  intro T hT X
  rcases hr T hT X with ⟨v, st₀, t, T', L, h0, X', hL, e1, e2, ⟨⟨r, u, hv, hp, hb⟩, hF⟩, st⟩ | ⟨q, st₀, t, T', L, E, ce, h0, X', hL, e1, e2, ⟨u, hp, hb, hF⟩, hce, hcv, hcl, st⟩
  · cases hv
    obtain ⟨k1, k2, k3⟩ := vx_keep h0 e1 hS hA hf hL hF
    obtain ⟨t2, a1, b1⟩ := kk r u t T'.heap (locs ++ L) e1.symm (by rw [← e2]; exact X'.warmed.alike) hp hb k1 k2 k3 T' rfl X'
    exact ⟨t2, st t2 a1, b1⟩
  · obtain ⟨k1, k2, k3⟩ := vx_keep h0 e1 hS hAX hf hL hF
    obtain ⟨t2, a1, b1⟩ := kx E ce q u t T'.heap (locs ++ L) e1.symm (by rw [← e2]; exact X'.warmed.alike) hp hb k1 k2 k3 (by rw [e1]; exact hce) hcv hcl T' rfl X'
    exact ⟨t2, st.trans a1, b1⟩
theorem vx_calll {S SX : Type} {post : Int64 → S → Prop} {px : SX → Prop} {B : S → State → Prop} {BX : String → SX → State → Prop} {AX : Nat → Prop} (hr : vx_Run p l e R s m args below meth c H locs cells slots mc ms (F0 m pc ls st0) rest (va_Ql post B A1 a) (vx_X px BX AX) free) (hS : va_S A0 H0 H locs) (hA : ∀ q, q < H.size → A1 q → A0 q) (hf : ∀ q, free q → A0 q) (hAX : ∀ q, q < H.size → AX q → A0 q)
    (kx : ∀ (E : String) (ce : Cell) (q9 : Addr) (u : SX) (t : State) (H1 : Heap) (locs1 : List Loc), t.heap = H1 → s.vm.Alike t.vm → px u → BX E u t → H.size ≤ H1.size → (∀ q : Nat, q < H.size → ¬ AX q → H1[q]? = H[q]?) → va_S A0 H0 H1 locs1 → H1[q9]? = some ce → ce.vm = .none → s.vm.findClass E = some ce.cls → vx_W p l e R s m args below meth c H1 locs1 (cells + mc) (slots + ms) Q (F0 m pc ls rest) q9)
    (kk : ∀ (r : Int64) (u : S) (t : State) (H1 : Heap) (locs1 : List Loc), t.heap = H1 → s.vm.Alike t.vm → post r u → B u t → H.size ≤ H1.size → (∀ q : Nat, q < H.size → ¬ A1 q → H1[q]? = H[q]?) → va_S A0 H0 H1 locs1 → W p l e R s m args below meth c H1 locs1 (cells + mc) (slots + ms) Q (F0 m (pc + 3) ls (.long r :: rest))) : W p l e R s m args below meth c H locs cells slots Q (F0 m pc ls st0) := by
  intro T hT X
  rcases hr T hT X with ⟨v, st₀, t, T', L, h0, X', hL, e1, e2, ⟨⟨r, u, hv, hp, hb⟩, hF⟩, st⟩ | ⟨q, st₀, t, T', L, E, ce, h0, X', hL, e1, e2, ⟨u, hp, hb, hF⟩, hce, hcv, hcl, st⟩
  · cases hv
    obtain ⟨k1, k2, k3⟩ := vx_keep h0 e1 hS hA hf hL hF
    obtain ⟨t2, a1, b1⟩ := kk r u t T'.heap (locs ++ L) e1.symm (by rw [← e2]; exact X'.warmed.alike) hp hb k1 k2 k3 T' rfl X'
    exact ⟨t2, st t2 a1, b1⟩
  · obtain ⟨k1, k2, k3⟩ := vx_keep h0 e1 hS hAX hf hL hF
    obtain ⟨t2, a1, b1⟩ := kx E ce q u t T'.heap (locs ++ L) e1.symm (by rw [← e2]; exact X'.warmed.alike) hp hb k1 k2 k3 (by rw [e1]; exact hce) hcv hcl T' rfl X'
    exact ⟨t2, st.trans a1, b1⟩
theorem vx_callf {S SX : Type} {post : UInt32 → S → Prop} {px : SX → Prop} {B : S → State → Prop} {BX : String → SX → State → Prop} {AX : Nat → Prop} (hr : vx_Run p l e R s m args below meth c H locs cells slots mc ms (F0 m pc ls st0) rest (va_Qf post B A1 a) (vx_X px BX AX) free) (hS : va_S A0 H0 H locs) (hA : ∀ q, q < H.size → A1 q → A0 q) (hf : ∀ q, free q → A0 q) (hAX : ∀ q, q < H.size → AX q → A0 q)
    (kx : ∀ (E : String) (ce : Cell) (q9 : Addr) (u : SX) (t : State) (H1 : Heap) (locs1 : List Loc), t.heap = H1 → s.vm.Alike t.vm → px u → BX E u t → H.size ≤ H1.size → (∀ q : Nat, q < H.size → ¬ AX q → H1[q]? = H[q]?) → va_S A0 H0 H1 locs1 → H1[q9]? = some ce → ce.vm = .none → s.vm.findClass E = some ce.cls → vx_W p l e R s m args below meth c H1 locs1 (cells + mc) (slots + ms) Q (F0 m pc ls rest) q9)
    (kk : ∀ (r : UInt32) (u : S) (t : State) (H1 : Heap) (locs1 : List Loc), t.heap = H1 → s.vm.Alike t.vm → post r u → B u t → H.size ≤ H1.size → (∀ q : Nat, q < H.size → ¬ A1 q → H1[q]? = H[q]?) → va_S A0 H0 H1 locs1 → W p l e R s m args below meth c H1 locs1 (cells + mc) (slots + ms) Q (F0 m (pc + 3) ls (.float r :: rest))) : W p l e R s m args below meth c H locs cells slots Q (F0 m pc ls st0) := by
  intro T hT X
  rcases hr T hT X with ⟨v, st₀, t, T', L, h0, X', hL, e1, e2, ⟨⟨r, u, hv, hp, hb⟩, hF⟩, st⟩ | ⟨q, st₀, t, T', L, E, ce, h0, X', hL, e1, e2, ⟨u, hp, hb, hF⟩, hce, hcv, hcl, st⟩
  · cases hv
    obtain ⟨k1, k2, k3⟩ := vx_keep h0 e1 hS hA hf hL hF
    obtain ⟨t2, a1, b1⟩ := kk r u t T'.heap (locs ++ L) e1.symm (by rw [← e2]; exact X'.warmed.alike) hp hb k1 k2 k3 T' rfl X'
    exact ⟨t2, st t2 a1, b1⟩
  · obtain ⟨k1, k2, k3⟩ := vx_keep h0 e1 hS hAX hf hL hF
    obtain ⟨t2, a1, b1⟩ := kx E ce q u t T'.heap (locs ++ L) e1.symm (by rw [← e2]; exact X'.warmed.alike) hp hb k1 k2 k3 (by rw [e1]; exact hce) hcv hcl T' rfl X'
    exact ⟨t2, st.trans a1, b1⟩
theorem vx_calld {S SX : Type} {post : UInt64 → S → Prop} {px : SX → Prop} {B : S → State → Prop} {BX : String → SX → State → Prop} {AX : Nat → Prop} (hr : vx_Run p l e R s m args below meth c H locs cells slots mc ms (F0 m pc ls st0) rest (va_Qd post B A1 a) (vx_X px BX AX) free) (hS : va_S A0 H0 H locs) (hA : ∀ q, q < H.size → A1 q → A0 q) (hf : ∀ q, free q → A0 q) (hAX : ∀ q, q < H.size → AX q → A0 q)
    (kx : ∀ (E : String) (ce : Cell) (q9 : Addr) (u : SX) (t : State) (H1 : Heap) (locs1 : List Loc), t.heap = H1 → s.vm.Alike t.vm → px u → BX E u t → H.size ≤ H1.size → (∀ q : Nat, q < H.size → ¬ AX q → H1[q]? = H[q]?) → va_S A0 H0 H1 locs1 → H1[q9]? = some ce → ce.vm = .none → s.vm.findClass E = some ce.cls → vx_W p l e R s m args below meth c H1 locs1 (cells + mc) (slots + ms) Q (F0 m pc ls rest) q9)
    (kk : ∀ (r : UInt64) (u : S) (t : State) (H1 : Heap) (locs1 : List Loc), t.heap = H1 → s.vm.Alike t.vm → post r u → B u t → H.size ≤ H1.size → (∀ q : Nat, q < H.size → ¬ A1 q → H1[q]? = H[q]?) → va_S A0 H0 H1 locs1 → W p l e R s m args below meth c H1 locs1 (cells + mc) (slots + ms) Q (F0 m (pc + 3) ls (.double r :: rest))) : W p l e R s m args below meth c H locs cells slots Q (F0 m pc ls st0) := by
  intro T hT X
  rcases hr T hT X with ⟨v, st₀, t, T', L, h0, X', hL, e1, e2, ⟨⟨r, u, hv, hp, hb⟩, hF⟩, st⟩ | ⟨q, st₀, t, T', L, E, ce, h0, X', hL, e1, e2, ⟨u, hp, hb, hF⟩, hce, hcv, hcl, st⟩
  · cases hv
    obtain ⟨k1, k2, k3⟩ := vx_keep h0 e1 hS hA hf hL hF
    obtain ⟨t2, a1, b1⟩ := kk r u t T'.heap (locs ++ L) e1.symm (by rw [← e2]; exact X'.warmed.alike) hp hb k1 k2 k3 T' rfl X'
    exact ⟨t2, st t2 a1, b1⟩
  · obtain ⟨k1, k2, k3⟩ := vx_keep h0 e1 hS hAX hf hL hF
    obtain ⟨t2, a1, b1⟩ := kx E ce q u t T'.heap (locs ++ L) e1.symm (by rw [← e2]; exact X'.warmed.alike) hp hb k1 k2 k3 (by rw [e1]; exact hce) hcv hcl T' rfl X'
    exact ⟨t2, st.trans a1, b1⟩
theorem vx_callv {S SX : Type} {post : S → Prop} {px : SX → Prop} {B : S → State → Prop} {BX : String → SX → State → Prop} {AX : Nat → Prop} (hr : vx_Run p l e R s m args below meth c H locs cells slots mc ms (F0 m pc ls st0) rest (va_Qv post B A1 a) (vx_X px BX AX) free) (hS : va_S A0 H0 H locs) (hA : ∀ q, q < H.size → A1 q → A0 q) (hf : ∀ q, free q → A0 q) (hAX : ∀ q, q < H.size → AX q → A0 q)
    (kx : ∀ (E : String) (ce : Cell) (q9 : Addr) (u : SX) (t : State) (H1 : Heap) (locs1 : List Loc), t.heap = H1 → s.vm.Alike t.vm → px u → BX E u t → H.size ≤ H1.size → (∀ q : Nat, q < H.size → ¬ AX q → H1[q]? = H[q]?) → va_S A0 H0 H1 locs1 → H1[q9]? = some ce → ce.vm = .none → s.vm.findClass E = some ce.cls → vx_W p l e R s m args below meth c H1 locs1 (cells + mc) (slots + ms) Q (F0 m pc ls rest) q9)
    (kk : ∀ (u : S) (t : State) (H1 : Heap) (locs1 : List Loc), t.heap = H1 → s.vm.Alike t.vm → post u → B u t → H.size ≤ H1.size → (∀ q : Nat, q < H.size → ¬ A1 q → H1[q]? = H[q]?) → va_S A0 H0 H1 locs1 → W p l e R s m args below meth c H1 locs1 (cells + mc) (slots + ms) Q (F0 m (pc + 3) ls (rest))) : W p l e R s m args below meth c H locs cells slots Q (F0 m pc ls st0) := by
  intro T hT X
  rcases hr T hT X with ⟨v, st₀, t, T', L, h0, X', hL, e1, e2, ⟨⟨u, hv, hp, hb⟩, hF⟩, st⟩ | ⟨q, st₀, t, T', L, E, ce, h0, X', hL, e1, e2, ⟨u, hp, hb, hF⟩, hce, hcv, hcl, st⟩
  · cases hv
    obtain ⟨k1, k2, k3⟩ := vx_keep h0 e1 hS hA hf hL hF
    obtain ⟨t2, a1, b1⟩ := kk u t T'.heap (locs ++ L) e1.symm (by rw [← e2]; exact X'.warmed.alike) hp hb k1 k2 k3 T' rfl X'
    exact ⟨t2, st t2 a1, b1⟩
  · obtain ⟨k1, k2, k3⟩ := vx_keep h0 e1 hS hAX hf hL hF
    obtain ⟨t2, a1, b1⟩ := kx E ce q u t T'.heap (locs ++ L) e1.symm (by rw [← e2]; exact X'.warmed.alike) hp hb k1 k2 k3 (by rw [e1]; exact hce) hcv hcl T' rfl X'
    exact ⟨t2, st.trans a1, b1⟩
/-- caught by the row x of this method's table; the rows ahead don't take it -/
theorem vx_catch {own name : String} {E : String} {ce : Cell} {q : Addr} (hown : s.vm.findClass own = some m.cls) (pre : List ExceptionTableEntry) (x : ExceptionTableEntry) (suf : List ExceptionTableEntry) (hsplit : c.exceptionTable.toList = pre ++ x :: suf)
    (hpass : ∀ z ∈ pre, covers z pc = false ∨ (z.catchType ≠ 0 ∧ ∃ nm : String, (Cond.classLink own z.catchType nm).before args s = true ∧ va_Nc E nm s)) (hx : covers x pc = true) (h0 : x.catchType ≠ 0)
    (hlink : (Cond.classLink own x.catchType name).before args s = true) (hcast : (Cond.castable E name).before args s = true) (hcell : H[q]? = some ce) (hv : ce.vm = .none) (hcl : s.vm.findClass E = some ce.cls)
    (kk : W p l e R s m args below meth c H locs cells slots Q (F0 m x.handlerPc ls [.ref q])) : vx_W p l e R s m args below meth c H locs cells slots Q (F0 m pc ls rest) q := by
  intro T hT X
  have hpl : e.platform.magicAccessors = ({} : Platform).magicAccessors := by rw [X.admits.platform]
  obtain ⟨c3, c4, hc3, hc4, hasg⟩ := Cond.castable_spec hcast
  cases Option.some.inj (hc3.symm.trans hcl)
  obtain ⟨c5, hc5, hcl5⟩ := Cond.classLink_spec hown hlink e.platform hpl
  cases Option.some.inj (hc4.symm.trans hc5)
  obtain ⟨vm', X', st⟩ := X.thenCaughtThrough q (g := F0 m pc ls rest) rfl (Steps.refl _) (by rw [hT]; exact hcell) (by rw [hv]; rfl) (by obtain ⟨k9, h9, -⟩ := Vm.findClass_spec hcl; exact ⟨k9, h9⟩) pre x suf hsplit
    (fun z hz => by
      rcases hpass z hz with h | ⟨hz0, nm, hl1, hn1⟩
      · exact Or.inl h
      · obtain ⟨c6, hc6, hcl6⟩ := Cond.classLink_spec hown hl1 e.platform hpl
        obtain ⟨a8, b8, h1, h2, h3⟩ := hn1
        cases Option.some.inj (h1.symm.trans hcl)
        cases Option.some.inj (h2.symm.trans hc6)
        exact Or.inr ⟨hz0, _, hcl6, h3⟩) hx (Or.inr ⟨h0, c4, hcl5, hasg⟩)
  obtain ⟨t, a1, b1⟩ := kk (T.setVm vm') hT X'
  exact ⟨t, st.trans a1, b1⟩
end Rows
section Ends
variable {p : Program} {l : Launch} {e : Env} {R : Room} {s : State} {m : MethodId} {args : Array Value} {below : List Frame} {meth : Method} {c : Code} {H : Heap} {locs : List Loc} {cells slots : Nat} {Q : State → Prop}
variable {mc ms : Nat} {free : Addr → Prop} {A0 A1 : Nat → Prop} {H0 : Heap} {a : Array Value} {ls : Array Slot} {st0 rest : List Value}
variable {Qc : Array Value → State → Outcome → State → Prop} {XC : String → State → State → Prop}
/-- what a body that may throw owes at its end -/
def vx_MQ (below : List Frame) (Qc : Array Value → State → Outcome → State → Prop) (XC : String → State → State → Prop) (a : Array Value) (s : State) (mc ms : Nat) (free : Addr → Prop) : State → Prop := fun t =>
  ∃ o, t.status = .running ∧ Ended t below o ∧ vx_Q Qc XC mc ms free a s o t
theorem vx_ret {g : JFrame} {mc ms : Nat} (k : W p l e R s m args below meth c H locs cells slots (MQ below Qc args s mc ms free) g) : W p l e R s m args below meth c H locs cells slots (vx_MQ below Qc XC args s mc ms free) g := by
  intro T hT X
  obtain ⟨t, a1, o, b1, b2, b3, b4⟩ := k T hT X
  exact ⟨t, a1, o, b1, b2, Or.inl ⟨b3, b4⟩⟩
/-- not caught here: it goes on to the caller -/
theorem vx_widen {g : JFrame} {q : Addr} {k n : Nat} (h1 : cells ≤ k) (h2 : slots ≤ n) (kk : vx_W p l e R s m args below meth c H locs k n Q g q) : vx_W p l e R s m args below meth c H locs cells slots Q g q := fun T hT X => kk T hT (stand_widen X h1 h2)
theorem vx_out {pc : Nat} {E : String} {ce : Cell} {q : Addr} {mc ms : Nat} (hout : ∀ x ∈ c.exceptionTable.toList, covers x pc = false) (hlocks : meth.locks = false) (hcell : H[q]? = some ce) (hv : ce.vm = .none) (hcl : s.vm.findClass E = some ce.cls)
    (hx : ∀ t : State, t.heap = H → s.vm.Alike t.vm → XC E s t) (hf : ∀ z ∈ locs, free z.base) (hc : cells ≤ mc) (hs : slots ≤ ms) :
    vx_W p l e R s m args below meth c H locs cells slots (vx_MQ below Qc XC args s mc ms free) (F0 m pc ls rest) q := by
  intro T hT X
  obtain ⟨st1, hrun, hend, hW, hsm⟩ := X.leaveThrown q (g := F0 m pc ls rest) rfl rfl rfl hout hlocks
  have hcell9 : (T.setFrames (.throwing q :: below)).heap[q]? = some ce := by
    show T.heap[q]? = some ce
    rw [hT]; exact hcell
  exact ⟨_, st1, .threw q, hrun, hend, Or.inr ⟨q, rfl, E, ce, locs, hx _ hT hW.alike, hcell9, hv, hcl, hW, hsm.mono hc hs, hf⟩⟩
theorem vx_frame {U : State} {k n : Nat} (h : s.sameButNew ({ U with vm := s.vm } : State) locs k n) : s.heap.size ≤ U.heap.size ∧ ∀ q : Nat, q < s.heap.size → (∀ z ∈ locs, z.base ≠ q) → U.heap[q]? = s.heap[q]? := by
  obtain ⟨-, h2, -, -, -, h6⟩ := h
  refine ⟨h2, fun q hq hz => ?_⟩
  obtain ⟨c9, e1, e2, e3, e4⟩ := h6 q _ (Array.getElem?_eq_getElem hq)
  have hs : c9.slots = (s.heap[q]).slots := Array.ext_getElem? fun i => e4 i fun hm => hz _ hm rfl
  have h9 : c9 = s.heap[q] := by
    rw [hs] at e2
    exact e2
  have e5 : U.heap[q]? = some c9 := e1
  rw [e5, h9, Array.getElem?_eq_getElem hq]
/-- the words of a throw but the four that speak of the heap -/
def vx_no (w : Cond) : Bool := decide (w ≠ .isRef (.static Bundle.tN "UNASSIGNED_STACK" Bundle.steD)) && decide (w ≠ .isRef (.static Bundle.tN "SUPPRESSED_SENTINEL" Bundle.listD)) && decide (w ≠ .laysStatic Bundle.tN "UNASSIGNED_STACK" Bundle.steD) && decide (w ≠ .laysStatic Bundle.tN "SUPPRESSED_SENTINEL" Bundle.listD)
def vx_at0 (own : String) (ic : Nat) (X : String) (names : List String) : List Cond := (Bundle.ownAtoms0 own ic X names).filter vx_no
def vx_atS (own : String) (ic : Nat) (X : String) (names : List String) : List Cond := (Bundle.ownAtoms own ic X names).filter vx_no
/-- a word that the tables alone decide, or a good one -/
def vx_ot (w : Cond) : Bool := w.onTables || goodWord w
theorem vx_ot_at {args a' : Array Value} {s U : State} {w : Cond} (hW : s.WarmedH U.vm) (hvm : s.vm = U.vm) (hg : vx_ot w = true) (h : w.before args s = true) : w.before a' U = true := by
  simp only [vx_ot, Bool.or_eq_true] at hg
  rcases hg with hg | hg
  · exact va_tabs hg hvm h
  · exact word_at hW (good_of_word hg) h
/-- a list's words: the good ones out of the method's own list, the others by premises of their own -/
theorem vx_hat {args : Array Value} {s : State} {L B : List Cond} (h1 : ∀ w ∈ L.filter goodWord, w.before args s = true) (h2 : ∀ w ∈ L.filter (fun w => !goodWord w), w ∈ B) (h3 : ∀ w ∈ B, w.before args s = true) : ∀ w ∈ L, w.before args s = true := by
  intro w hw
  by_cases g : goodWord w = true
  · exact h1 w (List.mem_filter.mpr ⟨hw, g⟩)
  · refine h3 w (h2 w (List.mem_filter.mpr ⟨hw, ?_⟩))
    show (!goodWord w) = true
    cases hgw : goodWord w
    · rfl
    · exact absurd hgw g
theorem vx_c {args : Array Value} {s : State} {w : Cond} {B : List Cond} (h : w.before args s = true) (t : ∀ w ∈ B, w.before args s = true) : ∀ w' ∈ w :: B, w'.before args s = true := fun w' h' => (List.mem_cons.mp h').elim (fun e => by rw [e]; exact h) (t w')
theorem vx_n {args : Array Value} {s : State} : ∀ w ∈ ([] : List Cond), w.before args s = true := fun _ h => nomatch h
theorem vx_own {args : Array Value} {s : State} {L : List Cond} (h1 : ∀ w ∈ L.filter vx_no, w.before args s = true)
    (hU : (Cond.isRef (.static Bundle.tN "UNASSIGNED_STACK" Bundle.steD)).before args s = true) (hN : (Cond.isRef (.static Bundle.tN "SUPPRESSED_SENTINEL" Bundle.listD)).before args s = true)
    (lU : (Cond.laysStatic Bundle.tN "UNASSIGNED_STACK" Bundle.steD).before args s = true) (lN : (Cond.laysStatic Bundle.tN "SUPPRESSED_SENTINEL" Bundle.listD).before args s = true) : ∀ w ∈ L, w.before args s = true := by
  intro w hw
  by_cases e1 : w = .isRef (.static Bundle.tN "UNASSIGNED_STACK" Bundle.steD)
  · rw [e1]; exact hU
  · by_cases e2 : w = .isRef (.static Bundle.tN "SUPPRESSED_SENTINEL" Bundle.listD)
    · rw [e2]; exact hN
    · by_cases e3 : w = .laysStatic Bundle.tN "UNASSIGNED_STACK" Bundle.steD
      · rw [e3]; exact lU
      · by_cases e4 : w = .laysStatic Bundle.tN "SUPPRESSED_SENTINEL" Bundle.listD
        · rw [e4]; exact lN
        · exact h1 w (List.mem_filter.mpr ⟨hw, by unfold vx_no; rw [decide_eq_true e1, decide_eq_true e2, decide_eq_true e3, decide_eq_true e4]; rfl⟩)
/-- where a static field lies, its class's statics cell in H -/
def vx_L (C n d : String) (A : Nat → Prop) (U : State) (H : Heap) : Prop := ∃ (c : ClassId) (k : Class) (i : Nat) (f : Field) (a : Nat) (cell : Cell), U.vm.findClass C = some c ∧ U.fieldFound? C n d = some (c, k, i, f) ∧ f.isStatic = true ∧ k.statics = some a ∧ H[a]? = some cell ∧ cell.vm.isStatics = true ∧ cell.cls = c ∧ f.slot < cell.slots.size ∧ k.staticTypes[f.slot]? = some f.type ∧ ¬ A a
theorem vx_L.moved {C n d : String} {A : Nat → Prop} {u U : State} {H : Heap} (hvm : u.vm.Alike U.vm) (h : vx_L C n d A u H) : vx_L C n d A U H := by
  obtain ⟨c, k, i, f, a, cell, h1, h2, h3, h4, h5, h6, h7, h8, h9, h10⟩ := h
  obtain ⟨k', hi', he⟩ := State.fieldFound?_setVm hvm h2
  exact ⟨c, k', i, f, a, cell, by rw [hvm.findClass]; exact h1, hi', h3, by rw [he]; exact h4, h5, h6, h7, h8, by rw [he]; exact h9, h10⟩
theorem vx_L.kept {C n d : String} {A : Nat → Prop} {U : State} {H H1 : Heap} (h : vx_L C n d A U H) (hq : ∀ a : Nat, a < H.size → ¬ A a → H1[a]? = H[a]?) : vx_L C n d A U H1 := by
  obtain ⟨c, k, i, f, a, cell, h1, h2, h3, h4, h5, h6, h7, h8, h9, h10⟩ := h
  exact ⟨c, k, i, f, a, cell, h1, h2, h3, h4, by rw [hq a (Array.getElem?_eq_some_iff.mp h5).1 h10]; exact h5, h6, h7, h8, h9, h10⟩
theorem vx_L.narrow {C n d : String} {A B : Nat → Prop} {U : State} {H : Heap} (h : vx_L C n d A U H) (hAB : ∀ q, B q → A q) : vx_L C n d B U H := by
  obtain ⟨c, k, i, f, a, cell, h1, h2, h3, h4, h5, h6, h7, h8, h9, h10⟩ := h
  exact ⟨c, k, i, f, a, cell, h1, h2, h3, h4, h5, h6, h7, h8, h9, fun z => h10 (hAB _ z)⟩
theorem vx_L.word {C n d : String} {A : Nat → Prop} {s : State} {args : Array Value} (h : vx_L C n d A s s.heap) : (Cond.laysStatic C n d).before args s = true := by
  obtain ⟨c, k, i, f, a, cell, h1, h2, h3, h4, h5, h6, h7, h8, h9, -⟩ := h
  show (Cond.laysStatic C n d).holds args s none s [] = true
  exact Cond.laysStatic_of h1 h2 h3 h4 h5 h6 h7 h8 h9
/-- .. and what it holds: null or some reference -/
def vx_Zq (C n d : String) (A : Nat → Prop) (U : State) (H : Heap) : Prop := va_Zq C n d A U H ∧ vx_L C n d A U H
theorem vx_Zq.moved {C n d : String} {A : Nat → Prop} {u U : State} {H : Heap} (hvm : u.vm.Alike U.vm) (h : vx_Zq C n d A u H) : vx_Zq C n d A U H := ⟨va_Zq.moved hvm h.1, vx_L.moved hvm h.2⟩
theorem vx_Zq.kept {C n d : String} {A : Nat → Prop} {U : State} {H H1 : Heap} (h : vx_Zq C n d A U H) (hq : ∀ a : Nat, a < H.size → ¬ A a → H1[a]? = H[a]?) : vx_Zq C n d A U H1 := ⟨va_Zq.kept h.1 hq, vx_L.kept h.2 hq⟩
theorem vx_Zq.narrow {C n d : String} {A B : Nat → Prop} {U : State} {H : Heap} (h : vx_Zq C n d A U H) (hAB : ∀ q, B q → A q) : vx_Zq C n d B U H := ⟨va_Zq.narrow h.1 hAB, vx_L.narrow h.2 hAB⟩
theorem vx_Zqof {args : Array Value} {s : State} {C n d : String} {A : Nat → Prop} (hl : (Cond.laysStatic C n d).before args s = true) (hini : (Cond.initialized C).before args s = true) (h : (Cond.isRef (.static C n d)).before args s = true) (hA : ∀ a : Nat, a < s.heap.size → ¬ A a) : vx_Zq C n d A s s.heap := by
  refine ⟨va_Zqof hl hini h hA, ?_⟩
  obtain ⟨c, k, i, f, a, cell, h1, h2, h3, h4, h5, h6, h7, h8, h9⟩ := Cond.laysStatic_spec hl
  exact ⟨c, k, i, f, a, cell, h1, h2, h3, h4, h5, h6, h7, h8, h9, hA a (Array.getElem?_eq_some_iff.mp h5).1⟩
theorem vx_isRef {C n d : String} {v : Value} {A : Nat → Prop} {s : State} {args : Array Value} (h : va_Z C n d v A s s.heap) (hv : v.isRef = true) : (Cond.isRef (.static C n d)).before args s = true := by
  obtain ⟨cf, kf, fi, f, a, cell, h1, h2, h3, h4, h5, h6, h7, -⟩ := h
  have he : (Term.static C n d).eval args s none [] s = some v := by
    simp [Term.eval, State.fieldNamed?, h1, h2, h4, h5, h6, h7]
  simp only [Cond.before, Cond.holds, Cond.value, he]
  cases v <;> simp_all [Value.isRef]
theorem vx_isRefq {C n d : String} {A : Nat → Prop} {s : State} {args : Array Value} (h : va_Zq C n d A s s.heap) : (Cond.isRef (.static C n d)).before args s = true := by
  rcases h with h | ⟨t, h⟩
  · exact vx_isRef h rfl
  · exact vx_isRef h rfl
/-- the same frame, seen from here: as if the method were called anew in this heap -/
theorem vx_rebase {T : State} (X : Stand p l e R s m args below meth c T locs cells slots) {R' : Room} (hf : R'.frames ≤ R.frames) (hl : R'.locals ≤ R.locals) (hc : cells + R'.cells ≤ R.cells) (hs : slots + R'.slots ≤ R.slots) :
    Stand p l e R' ((T.setVm s.vm).setFrames (.invoking m args :: below)) m args below meth c T [] 0 0 := by
  have htop : (T.setVm s.vm).topJava?.isSome := X.here.top
  have hF : ((T.setVm s.vm).setFrames (.invoking m args :: below)).frames = .invoking m args :: below := State.frames_setFrames _ (State.cur_lt_of_top htop)
  obtain ⟨g₀, hg0⟩ := Option.isSome_iff_exists.mp htop
  obtain ⟨r, hr⟩ := State.topJava?_eq_some.mp hg0
  have hl9 : e.platform.stackLimits (T.setVm s.vm).me = e.platform.stackLimits s.me := X.limits
  have hb9 : (T.setVm s.vm).me.stackBytes = s.me.stackBytes := X.bytes
  refine ⟨X.admits, X.cas, X.clock, hF, ?_, X.hears, X.method, X.code, X.here, X.tail, X.warmed, ?_, ?_, ?_⟩
  · have h := X.room
    have hU : ((T.setVm s.vm).setFrames (.invoking m args :: below)).localsInUse = s.localsInUse := by
      rw [State.localsInUse_invoking hF (meth := meth) (c := c) X.method X.code, State.localsInUse_invoking X.frames X.method X.code]
    simp only [State.hasRoom, Bool.and_eq_true, decide_eq_true_eq] at h ⊢
    obtain ⟨⟨⟨⟨h1, h2, h3, h4, h5, h6⟩, h7⟩, h8⟩, h9⟩ := h
    rw [X.frames, List.length_cons] at h2 h3
    have q1 := X.heapSize
    have q2 := X.used
    simp only [hF, hU, List.length_cons, State.stackLimits_setFrames, State.stackBytes_setFrames, hl9, hb9]
    refine ⟨⟨⟨⟨by omega, by omega, by omega, by omega, by omega, h6⟩, ?_⟩, ?_⟩, X.book⟩
    · show T.heap.size + R'.cells ≤ e.platform.maxCells
      omega
    · show T.slotsUsed + R'.slots ≤ e.platform.maxSlots
      omega
  · rw [State.stackLimits_setFrames]; rfl
  · rw [State.stackBytes_setFrames]; rfl
  · refine ⟨?_, Nat.le_refl _, Nat.le_refl _, ?_, ?_, fun a c9 h9 => ⟨c9, h9, rfl, rfl, fun _ _ => rfl⟩⟩
    · obtain ⟨t, ht, -⟩ := State.frames_cons hr
      show T.setVm s.vm = { ((T.setVm s.vm).setFrames (.invoking m args :: below)).setFrames (T.setVm s.vm).frames with heap := T.heap, slotsUsed := T.slotsUsed }
      rw [State.setFrames_setFrames, State.setFrames_self ht]
      rfl
    · show T.slotsUsed = T.slotsUsed + ((T.heap.toList.drop T.heap.size).map (·.slots.size)).sum
      rw [List.drop_eq_nil_of_le (Nat.le_of_eq Array.length_toList)]
      rfl
    · show ((T.heap.toList.drop T.heap.size).map (·.slots.size)).sum ≤ 0
      rw [List.drop_eq_nil_of_le (Nat.le_of_eq Array.length_toList)]
      exact Nat.le_refl _
/-- 'throw new E()': new; dup; invokespecial; athrow -/
theorem vx_throw0 {cc : ByteArray} {pc : Nat} (hexec : p.tables.exec = Jvm.exec) (hb : c.code = cc) (hl : l.stackTraces = false) {own cls : String} {names : List String} {ik ic mc ms : Nat} {A : Nat → Prop}
    (hown : s.vm.findClass own = some m.cls) (hcls : Bundle.fit cls = true) (hnames : ∀ n ∈ names, Bundle.fit n = true)
    (hk : (Cond.classLink own ik cls).before args s = true) (hini : (Cond.initialized cls).before args s = true) (hat : ∀ w ∈ vx_at0 own ic cls names, w.before args s = true)
    (hgood : ∀ w ∈ Cond.classLink own ik cls :: Cond.initialized cls :: vx_at0 own ic cls names, vx_ot w = true)
    (hU : vx_Zq Bundle.tN "UNASSIGNED_STACK" Bundle.steD A s s.heap) (hN : vx_Zq Bundle.tN "SUPPRESSED_SENTINEL" Bundle.listD A s s.heap) (hS : va_S A s.heap H locs) (hsize : ls.size = c.maxLocals)
    (d0 : decode cc pc = .ok (.new ik, 3)) (d3 : decode cc (pc + 3) = .ok (.dup, 1)) (d4 : decode cc (pc + 4) = .ok (.invokespecial ic, 3)) (d7 : decode cc (pc + 7) = .ok (.athrow, 1))
    (hout : ∀ x ∈ c.exceptionTable.toList, covers x (pc + 7) = false)
    (hRframes : names.length + 3 < R.frames) (hRlocals : (rest.map fun v => v.category).sum + (13 * (names.length + 1) + 42) ≤ R.locals) (hRcells : cells + 1 ≤ R.cells) (hRslots : slots + 6 ≤ R.slots) (hlocks : meth.locks = false)
    (hx : ∀ t : State, s.vm.Alike t.vm → H.size ≤ t.heap.size → (∀ q : Nat, q < H.size → t.heap[q]? = H[q]?) → XC cls s t)
    (hf : ∀ z ∈ locs, free z.base) (hc : cells + 1 ≤ mc) (hs : slots + 6 ≤ ms) :
    W p l e R s m args below meth c H locs cells slots (vx_MQ below Qc XC args s mc ms free) (F0 m pc ls rest) := by
  intro T hT X
  have htr : e.platform.stackTraces = false := (show e.platform.stackTraces = l.stackTraces by rw [X.admits.platform]).trans hl
  have Y := vx_rebase X (R' := { frames := R.frames, locals := R.locals, cells := 1, slots := 6 }) (Nat.le_refl _) (Nat.le_refl _) hRcells hRslots
  obtain ⟨s', hA⟩ : ∃ z, z = (T.setVm s.vm).setFrames (.invoking m args :: below) := ⟨_, rfl⟩
  rw [← hA] at Y
  have hvm : s'.vm = s.vm := by rw [hA]; rfl
  have hhp : s'.heap = H := by rw [hA]; exact hT
  have hW0 : s.WarmedH s'.vm := by rw [hvm]; exact State.WarmedH.refl s
  have hat' : ∀ w ∈ vx_at0 own ic cls names, w.before args s' = true := fun w hw => vx_ot_at hW0 hvm.symm (hgood w (List.mem_cons_of_mem _ (List.mem_cons_of_mem _ hw))) (hat w hw)
  have hk' : (Cond.classLink own ik cls).before args s' = true := vx_ot_at hW0 hvm.symm (hgood _ List.mem_cons_self) hk
  have hini' : (Cond.initialized cls).before args s' = true := vx_ot_at hW0 hvm.symm (hgood _ (List.mem_cons_of_mem _ List.mem_cons_self)) hini
  have hU' : vx_Zq Bundle.tN "UNASSIGNED_STACK" Bundle.steD A s' s'.heap := by rw [hhp]; exact vx_Zq.moved hW0.alike (hU.kept hS.2.1)
  have hN' : vx_Zq Bundle.tN "SUPPRESSED_SENTINEL" Bundle.listD A s' s'.heap := by rw [hhp]; exact vx_Zq.moved hW0.alike (hN.kept hS.2.1)
  have h : ∀ w ∈ Bundle.ownAtoms0 own ic cls names, w.before args s' = true := vx_own hat' (vx_isRefq hU'.1) (vx_isRefq hN'.1) hU'.2.word hN'.2.word
  have hown' : s'.vm.findClass own = some m.cls := by rw [hvm]; exact hown
  have hins : (Cond.instantiable cls 6).before args s' = true := h _ (by simp [Bundle.ownAtoms0])
  obtain ⟨vm₁, cX, kX, hfX, hkX, -, -, X₁, st1⟩ := Y.newCold hexec (own := own) (C := cls) (index := ik) (n := 6) hown' hk' hins hini'
    (g := F0 m pc ls rest) rfl (by rw [hb]; exact d0) (Nat.le_refl _) (Nat.le_refl _)
  generalize hT1 : (T.setVm vm₁).pushCell { cls := cX, slots := kX.instanceTypes.map defaultValue, vm := .none } = T1 at X₁ st1
  have hcat : (Value.ref T.heap.size).category = 1 := rfl
  have hcellA : T1.heap[T.heap.size]? = some (freshCell cX kX) := by rw [← hT1]; exact State.heap_pushCell_size _ _
  have d3' : decode c.code (pc + 3) = .ok (.dup, 1) := by rw [hb]; exact d3
  obtain ⟨U, hsteps, hrun, hend, hW, hsame, ce, hce, hO⟩ := X₁.ctorThrow0 hexec htr (own := own) (cls := cls) (names := names) (ic := ic) hown' hcls hnames h (fun x hx => nomatch hx) hfX hkX hcellA (by rw [hhp, hT]; exact Nat.le_refl _)
    (g := { method := m, pc := pc + 4, locals := ls, stack := .ref T.heap.size :: .ref T.heap.size :: rest, locked := none }) rfl hsize rfl rfl (rest := rest) rfl
    (by rw [hb]; exact d4) (by rw [hb]; exact d7) hout hRframes (by simp only [List.map_cons, List.sum_cons, hcat]; omega) hlocks
  obtain ⟨f1, f2⟩ := vx_frame hsame
  rw [hhp] at f1 f2
  have hWs : s.WarmedH U.vm := State.WarmedH.trans hW0 hW
  have hcl : s.vm.findClass cls = some ce.cls := by
    have h9 := hO.cls
    rw [hvm] at h9
    exact h9
  have hall : s.sameButNew ({ U with vm := s.vm } : State) locs mc ms := by
    subst hA
    obtain ⟨e1, e2⟩ := hsame
    rw [State.setFrames_setFrames] at e1
    have h2 : (T.setVm s.vm).sameButNew ({ U with vm := s.vm } : State) [] (0 + 1) (0 + 6) := ⟨e1, e2⟩
    have h3 := X.same.trans h2
    rw [List.append_nil] at h3
    exact h3.mono hc hs
  refine ⟨U, ?_, .threw T.heap.size, hrun, hend, Or.inr ⟨T.heap.size, rfl, cls, ce, locs, hx U hWs.alike f1 (fun q hq => f2 q hq (fun z hz => nomatch hz)), hce, hO.vm, hcl, hWs, hall, hf⟩⟩
  refine st1 _ ?_
  show Steps p.tables e below (T1.setTop { method := m, pc := pc + 3, locals := ls, stack := .ref T.heap.size :: rest, locked := none }) _
  jvm_step X₁.here [X₁.here.top, hexec, d3', Value.category]
  exact hsteps
/-- 'throw new E("text")': new; dup; ldc; invokespecial; athrow -/
theorem vx_throwS {cc : ByteArray} {pc : Nat} (hexec : p.tables.exec = Jvm.exec) (hb : c.code = cc) (hl : l.stackTraces = false) {own cls text : String} {names : List String} {ik is ic mc ms sa : Nat} {A : Nat → Prop}
    (hown : s.vm.findClass own = some m.cls) (hcls : Bundle.fit cls = true) (hnames : ∀ n ∈ names, Bundle.fit n = true)
    (hk : (Cond.classLink own ik cls).before args s = true) (hini : (Cond.initialized cls).before args s = true) (hstr : vk_R own is text sa s) (hat : ∀ w ∈ vx_atS own ic cls names, w.before args s = true)
    (hgood : ∀ w ∈ Cond.classLink own ik cls :: Cond.initialized cls :: vx_atS own ic cls names, vx_ot w = true)
    (hU : vx_Zq Bundle.tN "UNASSIGNED_STACK" Bundle.steD A s s.heap) (hN : vx_Zq Bundle.tN "SUPPRESSED_SENTINEL" Bundle.listD A s s.heap) (hS : va_S A s.heap H locs) (hsize : ls.size = c.maxLocals)
    (d0 : decode cc pc = .ok (.new ik, 3)) (d3 : decode cc (pc + 3) = .ok (.dup, 1)) (d4 : decode cc (pc + 4) = .ok (.ldc is, 2)) (d6 : decode cc (pc + 6) = .ok (.invokespecial ic, 3)) (d9 : decode cc (pc + 9) = .ok (.athrow, 1))
    (hout : ∀ x ∈ c.exceptionTable.toList, covers x (pc + 9) = false)
    (hRframes : names.length + 3 < R.frames) (hRlocals : (rest.map fun v => v.category).sum + (13 * (names.length + 1) + 43) ≤ R.locals) (hRcells : cells + 1 ≤ R.cells) (hRslots : slots + 6 ≤ R.slots) (hlocks : meth.locks = false)
    (hx : ∀ t : State, s.vm.Alike t.vm → H.size ≤ t.heap.size → (∀ q : Nat, q < H.size → t.heap[q]? = H[q]?) → XC cls s t)
    (hf : ∀ z ∈ locs, free z.base) (hc : cells + 1 ≤ mc) (hs : slots + 6 ≤ ms) :
    W p l e R s m args below meth c H locs cells slots (vx_MQ below Qc XC args s mc ms free) (F0 m pc ls rest) := by
  intro T hT X
  have htr : e.platform.stackTraces = false := (show e.platform.stackTraces = l.stackTraces by rw [X.admits.platform]).trans hl
  have Y := vx_rebase X (R' := { frames := R.frames, locals := R.locals, cells := 1, slots := 6 }) (Nat.le_refl _) (Nat.le_refl _) hRcells hRslots
  obtain ⟨s', hA⟩ : ∃ z, z = (T.setVm s.vm).setFrames (.invoking m args :: below) := ⟨_, rfl⟩
  rw [← hA] at Y
  have hvm : s'.vm = s.vm := by rw [hA]; rfl
  have hhp : s'.heap = H := by rw [hA]; exact hT
  have hW0 : s.WarmedH s'.vm := by rw [hvm]; exact State.WarmedH.refl s
  have hat' : ∀ w ∈ vx_atS own ic cls names, w.before args s' = true := fun w hw => vx_ot_at hW0 hvm.symm (hgood w (List.mem_cons_of_mem _ (List.mem_cons_of_mem _ hw))) (hat w hw)
  have hk' : (Cond.classLink own ik cls).before args s' = true := vx_ot_at hW0 hvm.symm (hgood _ List.mem_cons_self) hk
  have hini' : (Cond.initialized cls).before args s' = true := vx_ot_at hW0 hvm.symm (hgood _ (List.mem_cons_of_mem _ List.mem_cons_self)) hini
  have hU' : vx_Zq Bundle.tN "UNASSIGNED_STACK" Bundle.steD A s' s'.heap := by rw [hhp]; exact vx_Zq.moved hW0.alike (hU.kept hS.2.1)
  have hN' : vx_Zq Bundle.tN "SUPPRESSED_SENTINEL" Bundle.listD A s' s'.heap := by rw [hhp]; exact vx_Zq.moved hW0.alike (hN.kept hS.2.1)
  have h : ∀ w ∈ Bundle.ownAtoms own ic cls names, w.before args s' = true := vx_own hat' (vx_isRefq hU'.1) (vx_isRefq hN'.1) hU'.2.word hN'.2.word
  have hown' : s'.vm.findClass own = some m.cls := by rw [hvm]; exact hown
  have hins : (Cond.instantiable cls 6).before args s' = true := h _ (by simp [Bundle.ownAtoms])
  obtain ⟨vm₁, cX, kX, hfX, hkX, -, -, X₁, st1⟩ := Y.newCold hexec (own := own) (C := cls) (index := ik) (n := 6) hown' hk' hins hini'
    (g := F0 m pc ls rest) rfl (by rw [hb]; exact d0) (Nat.le_refl _) (Nat.le_refl _)
  generalize hT1 : (T.setVm vm₁).pushCell { cls := cX, slots := kX.instanceTypes.map defaultValue, vm := .none } = T1 at X₁ st1
  have hcat : (Value.ref T.heap.size).category = 1 := rfl
  have hcellA : T1.heap[T.heap.size]? = some (freshCell cX kX) := by rw [← hT1]; exact State.heap_pushCell_size _ _
  have d3' : decode c.code (pc + 3) = .ok (.dup, 1) := by rw [hb]; exact d3
  have d4' : decode c.code (pc + 4) = .ok (.ldc is, 2) := by rw [hb]; exact d4
  have hstr' : vk_R own is text sa s' := vk_R.warm hW0 hstr
  obtain ⟨U, hsteps, hrun, hend, hW, hsame, ce, hce, hO⟩ := X₁.ctorThrowS hexec htr (own := own) (cls := cls) (names := names) (ic := ic) hown' hcls hnames h (fun x hx => nomatch hx) hfX hkX hcellA (by rw [hhp, hT]; exact Nat.le_refl _) (msg := .ref sa) rfl
    (g := { method := m, pc := pc + 6, locals := ls, stack := .ref sa :: .ref T.heap.size :: .ref T.heap.size :: rest, locked := none }) rfl hsize rfl rfl (rest := rest) rfl
    (by rw [hb]; exact d6) (by rw [hb]; exact d9) hout hRframes (by simp only [List.map_cons, List.sum_cons, hcat]; omega) hlocks
  obtain ⟨f1, f2⟩ := vx_frame hsame
  rw [hhp] at f1 f2
  have hWs : s.WarmedH U.vm := State.WarmedH.trans hW0 hW
  have hcl : s.vm.findClass cls = some ce.cls := by
    have h9 := hO.cls
    rw [hvm] at h9
    exact h9
  have hall : s.sameButNew ({ U with vm := s.vm } : State) locs mc ms := by
    subst hA
    obtain ⟨e1, e2⟩ := hsame
    rw [State.setFrames_setFrames] at e1
    have h2 : (T.setVm s.vm).sameButNew ({ U with vm := s.vm } : State) [] (0 + 1) (0 + 6) := ⟨e1, e2⟩
    have h3 := X.same.trans h2
    rw [List.append_nil] at h3
    exact h3.mono hc hs
  refine ⟨U, ?_, .threw T.heap.size, hrun, hend, Or.inr ⟨T.heap.size, rfl, cls, ce, locs, hx U hWs.alike f1 (fun q hq => f2 q hq (fun z hz => nomatch hz)), hce, hO.vm, hcl, hWs, hall, hf⟩⟩
  refine st1 _ ?_
  show Steps p.tables e below (T1.setTop { method := m, pc := pc + 3, locals := ls, stack := .ref T.heap.size :: rest, locked := none }) _
  jvm_step X₁.here [X₁.here.top, hexec, d3', Value.category]
  exact X₁.ldcString hexec (own := own) (text := text) (index := is) (a := sa) hown' hstr'.1 hstr'.2
    (g := { method := m, pc := pc + 4, locals := ls, stack := .ref T.heap.size :: .ref T.heap.size :: rest, locked := none }) rfl d4' _ hsteps
/-- 'throw new E("text")', the text by a wide index -/
theorem vx_throwSW {cc : ByteArray} {pc : Nat} (hexec : p.tables.exec = Jvm.exec) (hb : c.code = cc) (hl : l.stackTraces = false) {own cls text : String} {names : List String} {ik is ic mc ms sa : Nat} {A : Nat → Prop}
    (hown : s.vm.findClass own = some m.cls) (hcls : Bundle.fit cls = true) (hnames : ∀ n ∈ names, Bundle.fit n = true)
    (hk : (Cond.classLink own ik cls).before args s = true) (hini : (Cond.initialized cls).before args s = true) (hstr : vk_R own is text sa s) (hat : ∀ w ∈ vx_atS own ic cls names, w.before args s = true)
    (hgood : ∀ w ∈ Cond.classLink own ik cls :: Cond.initialized cls :: vx_atS own ic cls names, vx_ot w = true)
    (hU : vx_Zq Bundle.tN "UNASSIGNED_STACK" Bundle.steD A s s.heap) (hN : vx_Zq Bundle.tN "SUPPRESSED_SENTINEL" Bundle.listD A s s.heap) (hS : va_S A s.heap H locs) (hsize : ls.size = c.maxLocals)
    (d0 : decode cc pc = .ok (.new ik, 3)) (d3 : decode cc (pc + 3) = .ok (.dup, 1)) (d4 : decode cc (pc + 4) = .ok (.ldc_w is, 3)) (d7 : decode cc (pc + 7) = .ok (.invokespecial ic, 3)) (d10 : decode cc (pc + 10) = .ok (.athrow, 1))
    (hout : ∀ x ∈ c.exceptionTable.toList, covers x (pc + 10) = false)
    (hRframes : names.length + 3 < R.frames) (hRlocals : (rest.map fun v => v.category).sum + (13 * (names.length + 1) + 43) ≤ R.locals) (hRcells : cells + 1 ≤ R.cells) (hRslots : slots + 6 ≤ R.slots) (hlocks : meth.locks = false)
    (hx : ∀ t : State, s.vm.Alike t.vm → H.size ≤ t.heap.size → (∀ q : Nat, q < H.size → t.heap[q]? = H[q]?) → XC cls s t)
    (hf : ∀ z ∈ locs, free z.base) (hc : cells + 1 ≤ mc) (hs : slots + 6 ≤ ms) :
    W p l e R s m args below meth c H locs cells slots (vx_MQ below Qc XC args s mc ms free) (F0 m pc ls rest) := by
  intro T hT X
  have htr : e.platform.stackTraces = false := (show e.platform.stackTraces = l.stackTraces by rw [X.admits.platform]).trans hl
  have Y := vx_rebase X (R' := { frames := R.frames, locals := R.locals, cells := 1, slots := 6 }) (Nat.le_refl _) (Nat.le_refl _) hRcells hRslots
  obtain ⟨s', hA⟩ : ∃ z, z = (T.setVm s.vm).setFrames (.invoking m args :: below) := ⟨_, rfl⟩
  rw [← hA] at Y
  have hvm : s'.vm = s.vm := by rw [hA]; rfl
  have hhp : s'.heap = H := by rw [hA]; exact hT
  have hW0 : s.WarmedH s'.vm := by rw [hvm]; exact State.WarmedH.refl s
  have hat' : ∀ w ∈ vx_atS own ic cls names, w.before args s' = true := fun w hw => vx_ot_at hW0 hvm.symm (hgood w (List.mem_cons_of_mem _ (List.mem_cons_of_mem _ hw))) (hat w hw)
  have hk' : (Cond.classLink own ik cls).before args s' = true := vx_ot_at hW0 hvm.symm (hgood _ List.mem_cons_self) hk
  have hini' : (Cond.initialized cls).before args s' = true := vx_ot_at hW0 hvm.symm (hgood _ (List.mem_cons_of_mem _ List.mem_cons_self)) hini
  have hU' : vx_Zq Bundle.tN "UNASSIGNED_STACK" Bundle.steD A s' s'.heap := by rw [hhp]; exact vx_Zq.moved hW0.alike (hU.kept hS.2.1)
  have hN' : vx_Zq Bundle.tN "SUPPRESSED_SENTINEL" Bundle.listD A s' s'.heap := by rw [hhp]; exact vx_Zq.moved hW0.alike (hN.kept hS.2.1)
  have h : ∀ w ∈ Bundle.ownAtoms own ic cls names, w.before args s' = true := vx_own hat' (vx_isRefq hU'.1) (vx_isRefq hN'.1) hU'.2.word hN'.2.word
  have hown' : s'.vm.findClass own = some m.cls := by rw [hvm]; exact hown
  have hins : (Cond.instantiable cls 6).before args s' = true := h _ (by simp [Bundle.ownAtoms])
  obtain ⟨vm₁, cX, kX, hfX, hkX, -, -, X₁, st1⟩ := Y.newCold hexec (own := own) (C := cls) (index := ik) (n := 6) hown' hk' hins hini'
    (g := F0 m pc ls rest) rfl (by rw [hb]; exact d0) (Nat.le_refl _) (Nat.le_refl _)
  generalize hT1 : (T.setVm vm₁).pushCell { cls := cX, slots := kX.instanceTypes.map defaultValue, vm := .none } = T1 at X₁ st1
  have hcat : (Value.ref T.heap.size).category = 1 := rfl
  have hcellA : T1.heap[T.heap.size]? = some (freshCell cX kX) := by rw [← hT1]; exact State.heap_pushCell_size _ _
  have d3' : decode c.code (pc + 3) = .ok (.dup, 1) := by rw [hb]; exact d3
  have d4' : decode c.code (pc + 4) = .ok (.ldc_w is, 3) := by rw [hb]; exact d4
  have hstr' : vk_R own is text sa s' := vk_R.warm hW0 hstr
  obtain ⟨U, hsteps, hrun, hend, hW, hsame, ce, hce, hO⟩ := X₁.ctorThrowS hexec htr (own := own) (cls := cls) (names := names) (ic := ic) hown' hcls hnames h (fun x hx => nomatch hx) hfX hkX hcellA (by rw [hhp, hT]; exact Nat.le_refl _) (msg := .ref sa) rfl
    (g := { method := m, pc := pc + 7, locals := ls, stack := .ref sa :: .ref T.heap.size :: .ref T.heap.size :: rest, locked := none }) rfl hsize rfl rfl (rest := rest) rfl
    (by rw [hb]; exact d7) (by rw [hb]; exact d10) hout hRframes (by simp only [List.map_cons, List.sum_cons, hcat]; omega) hlocks
  obtain ⟨f1, f2⟩ := vx_frame hsame
  rw [hhp] at f1 f2
  have hWs : s.WarmedH U.vm := State.WarmedH.trans hW0 hW
  have hcl : s.vm.findClass cls = some ce.cls := by
    have h9 := hO.cls
    rw [hvm] at h9
    exact h9
  have hall : s.sameButNew ({ U with vm := s.vm } : State) locs mc ms := by
    subst hA
    obtain ⟨e1, e2⟩ := hsame
    rw [State.setFrames_setFrames] at e1
    have h2 : (T.setVm s.vm).sameButNew ({ U with vm := s.vm } : State) [] (0 + 1) (0 + 6) := ⟨e1, e2⟩
    have h3 := X.same.trans h2
    rw [List.append_nil] at h3
    exact h3.mono hc hs
  refine ⟨U, ?_, .threw T.heap.size, hrun, hend, Or.inr ⟨T.heap.size, rfl, cls, ce, locs, hx U hWs.alike f1 (fun q hq => f2 q hq (fun z hz => nomatch hz)), hce, hO.vm, hcl, hWs, hall, hf⟩⟩
  refine st1 _ ?_
  show Steps p.tables e below (T1.setTop { method := m, pc := pc + 3, locals := ls, stack := .ref T.heap.size :: rest, locked := none }) _
  jvm_step X₁.here [X₁.here.top, hexec, d3', Value.category]
  exact X₁.ldcStringW hexec (own := own) (text := text) (index := is) (a := sa) hown' hstr'.1 hstr'.2
    (g := { method := m, pc := pc + 4, locals := ls, stack := .ref T.heap.size :: .ref T.heap.size :: rest, locked := none }) rfl d4' _ hsteps
end Ends
section Bodies
variable {l : Launch}
theorem vx_ofW {y : MethodName} {ws ws' : List Cond} {rm : Room} {Pc : Array Value → State → Prop} {Qc : Array Value → State → Outcome → State → Prop} {XC : String → State → State → Prop} {mc ms : Nat} {free : Addr → Prop} {cc : ByteArray} {maxL : Nat} {ret : Option FieldType}
    (hy : plainName y.cls = true) (hw : ws = Cond.code y cc maxL ret :: ws')
    (body : ∀ p e s m args below meth c s₁, BodyLoose p l y (headSpec ws rm) cc maxL ret e s m args below meth c s₁ → c.maxLocals = maxL → (∀ x ∈ c.exceptionTable.toList, False) → Pc args s →
      W p l e (headSpec ws rm).room s m args below meth c s.heap [] 0 0 (vx_MQ below Qc XC args s mc ms free) (entryFrame m args maxL)) : vx_Met l y ws rm Pc Qc XC mc ms free := by
  refine MetFree.of_bodyS (code := cc) (maxLocals := maxL) (ret := ret) hy ?_ ?_
  · intro args s m h hn
    obtain ⟨meth, c, h1, h2, h3, h4, h5, h6, -, -⟩ := Cond.code_spec hn (atoms_spec (ws := ws) h _ (by rw [hw]; exact List.mem_cons_self))
    exact ⟨meth, c, h1, h2, h3, h4, h5, h6⟩
  · intro p e s m args below meth c s₁ B hml hP _
    have hh0 : s₁.heap = s.heap := by rw [B.state]; rfl
    have ht : ∀ x ∈ c.exceptionTable.toList, False := by
      obtain ⟨meth9, c9, h1, h2, -, -, -, -, h7, -⟩ := Cond.code_spec B.named (atoms_spec (ws := ws) B.pre _ (by rw [hw]; exact List.mem_cons_self))
      cases Option.some.inj (h1.symm.trans B.method)
      cases Option.some.inj (h2.symm.trans (Stand.of_body B).code)
      intro x hx
      rw [Array.isEmpty_iff.mp h7] at hx
      cases hx
    obtain ⟨t, a1, o, b1, b2, b3⟩ := body p e s m args below meth c s₁ B hml ht hP s₁ hh0 (Stand.of_body B)
    exact ⟨t, o, a1, b1, b2, b3⟩
/-- the table of a body with handlers -/
theorem vx_table {p : Program} {x y : MethodName} {S : Spec} {cc bytes : ByteArray} {maxL maxL' : Nat} {ret ret' : Option FieldType} {e : Env} {s s₁ : State} {m : MethodId} {args : Array Value} {below : List Frame} {meth : Method} {c : Code} {hh : List (Nat × Nat × Nat × Nat)}
    (B : BodyLoose p l y S cc maxL ret e s m args below meth c s₁) (h : (Cond.codeWith y bytes maxL' ret' hh).before args s = true) : c.exceptionTable.toList = tableOf hh := by
  obtain ⟨m9, meth9, c9, hn9, h1, h2, -, -, h6, -⟩ := Cond.codeWith_spec h
  cases Option.some.inj (hn9.symm.trans B.named)
  cases Option.some.inj (h1.symm.trans B.method)
  cases Option.some.inj (h2.symm.trans (Stand.of_body B).code)
  rw [← h6, table_eq]
end Bodies
end VXA
/-! ===== END ===== -/
/-! ===== BEGIN a static call of a method with an exception table ===== -/
section VXS
variable {p : Program} {l : Launch} {e : Env} {R : Room} {s : State} {m : MethodId} {args : Array Value} {below : List Frame} {meth : Method} {c : Code} {T : State} {H : Heap} {locs : List Loc} {cells slots : Nat}
abbrev vx_CSW (R : Room) (s : State) (args : Array Value) (own : String) (index : Nat) (y : MethodName) (bytes : ByteArray) (maxL : Nat) (ret : Option FieldType) (hh : List (Nat × Nat × Nat × Nat)) (ws : List Cond) (rm : Room) (mc ms n : Nat) : Prop :=
  (rm.cells = mc ∧ rm.slots = ms ∧ rm.frames + 1 ≤ R.frames ∧ 8 + (maxL + 11) + rm.locals ≤ R.locals ∧ (∀ w ∈ ws, ∀ (a' : Array Value) (U : State), s.WarmedH U.vm → w.before a' U = true) ∧ Cond.codeWith y bytes maxL ret hh ∈ ws) ∧
  (Cond.codeWith y bytes maxL ret hh).before args s = true ∧ (Cond.initialized y.cls).before args s = true ∧ (y.cls ≠ "java/lang/invoke/MethodHandle" ∧ y.cls ≠ "java/lang/invoke/VarHandle") ∧
  (∀ sig, parseMethodDescriptor y.desc = some sig → n = sig.parameters.length) ∧ (Cond.methodLink own index y).before args s = true ∧ (Cond.static y).before args s = true
theorem vx_cwSW {own : String} {index maxL mc ms : Nat} {y : MethodName} {bytes : ByteArray} {ret : Option FieldType} {hh : List (Nat × Nat × Nat × Nat)} {Ts ws ws' : List Cond} {rm : Room} (n : Nat) (ht : ∀ w ∈ Ts, w.before args s = true) (hT : GoodIn Ts (va_wsS own index y ws)) (hw : ws = Cond.codeWith y bytes maxL ret hh :: ws') (hrc : rm.cells = mc) (hrs : rm.slots = ms)
    (hd : y.cls ≠ "java/lang/invoke/MethodHandle" ∧ y.cls ≠ "java/lang/invoke/VarHandle" ∧ (parseMethodDescriptor y.desc).map (fun d => d.parameters.length) = some n) (hR : rm.frames + 1 ≤ R.frames ∧ 8 + (maxL + 11) + rm.locals ≤ R.locals) :
    vx_CSW R s args own index y bytes maxL ret hh ws rm mc ms n := by
  have ok : ∀ w ∈ va_wsS own index y ws, w.before args s = true := fun w h => ht w (hT w h).1
  have hG : GoodIn Ts ws := fun w h => hT w (by unfold va_wsS; exact List.mem_append_right _ h)
  have hc : Cond.codeWith y bytes maxL ret hh ∈ ws := by rw [hw]; exact List.mem_cons_self
  refine ⟨⟨hrc, hrs, hR.1, hR.2, pay_in ht hG, hc⟩, ht _ (hG _ hc).1, ok _ (by simp [va_wsS]), ⟨hd.1, hd.2.1⟩, fun sig h => ?_, ok _ (by simp [va_wsS]), ok _ (by simp [va_wsS])⟩
  have h2 := hd.2.2
  rw [h] at h2
  exact (Option.some.inj h2).symm
theorem vx_callSW (X : Stand p l e R s m args below meth c T locs cells slots) (hexec : p.tables.exec = Jvm.exec) {own : String} {index : Nat} {y : MethodName} {bytes : ByteArray} {maxL : Nat} {ret : Option FieldType} {hh : List (Nat × Nat × Nat × Nat)}
    (hown : s.vm.findClass own = some m.cls) (hlink : (Cond.methodLink own index y).before args s = true) (hstat : (Cond.static y).before args s = true) (hinit : (Cond.initialized y.cls).before args s = true)
    (hcode : (Cond.codeWith y bytes maxL ret hh).before args s = true) (hy : y.cls ≠ "java/lang/invoke/MethodHandle" ∧ y.cls ≠ "java/lang/invoke/VarHandle")
    {W9 : Nat} {Pre : Pt → Array Value → Prop} {Post : Pt → Array Value → Option Value → Pt → Prop} (hK : Back l R p e below s args y 3 W9 Pre Post)
    {g : JFrame} (hg : g.method = m) (hsize : g.locals.size = c.maxLocals) {argsL rest : List Value} (hlen : ∀ sig, parseMethodDescriptor y.desc = some sig → argsL.length = sig.parameters.length)
    (hstack : g.stack = argsL.reverse ++ rest) (hW : 2 * g.monitorRoom + (rest.map fun v => v.category).sum ≤ W9) (hdg : decode c.code g.pc = .ok (.invokestatic index, 3))
    (hpre : ∀ vm₁, s.WarmedH vm₁ → Pre ⟨T.setVm vm₁, locs, cells, slots⟩ argsL.toArray) :
    ∃ (v : Option Value) (vm₁ : Vm) (B : Pt), s.WarmedH vm₁ ∧ Stand p l e R s m args below meth c B.U B.locs B.cells B.slots ∧ Post ⟨T.setVm vm₁, locs, cells, slots⟩ argsL.toArray v B ∧
      ∀ target, Steps p.tables e below (B.U.setTop { g with pc := g.pc + 3, stack := v.toList ++ rest }) target → Steps p.tables e below (T.setTop g) target := by
  obtain ⟨mk, methM, cM, hnamed, hmethM, -, -, -, -, -, -, hsigM⟩ := Cond.codeWith_spec hcode
  have hstatic : methM.isStatic = true := Cond.static_spec hnamed hmethM hstat
  obtain ⟨kP, hkP, -⟩ := className_of_methodNamed hnamed
  have hinitP : kP.init = .initialized := Cond.initialized_spec (findClass_of_methodNamed hnamed) hkP hinit
  obtain ⟨vm₁, X₁, hstep₁⟩ := X.invokestatic hexec hown hlink hnamed hmethM hstatic hkP hinitP hy (g := g) hg (argsL := argsL) (rest := rest) (hlen _ hsigM) hstack hdg
  obtain ⟨v, B, X', hpost, hsteps⟩ := hK m meth c ⟨T.setVm vm₁, locs, cells, slots⟩ { g with stack := rest } (.invokestatic index) mk argsL.toArray X₁ hg hsize hdg hW (X₁.named hnamed) (hpre vm₁ X₁.warmed)
  exact ⟨v, vm₁, B, X₁.warmed, X', hpost, fun target h => hstep₁ _ fun acts => by rw [doInvoke_state]; exact hsteps.trans h⟩
theorem vx_runSW {y : MethodName} {bytes cc : ByteArray} {maxL nL mc ms n index : Nat} {ret : Option FieldType} {hh : List (Nat × Nat × Nat × Nat)} {ws : List Cond} {rm : Room} {Pc : Array Value → State → Prop} {Qc : Array Value → State → Outcome → State → Prop} {free : Addr → Prop} {Ts : List Cond} {own : String} {As rest : List Value} {g : JFrame}
    (S : CallFix p m c cc nL s args Ts own) (hM : Met l y ws rm Pc Qc mc ms free) (cw : vx_CSW R s args own index y bytes maxL ret hh ws rm mc ms n) (hp : PreS s H Pc As)
    (hg : g.method = m) (hn : As.length = n) (hsize : g.locals.size = nL) (hstack : g.stack = As.reverse ++ rest) (hW : 2 * g.monitorRoom + (rest.map fun v => v.category).sum ≤ 8) (hdg : decode cc g.pc = .ok (.invokestatic index, 3)) (hf : cells + mc ≤ R.cells ∧ slots + ms ≤ R.slots) :
    va_Run p l e R s m args below meth c H locs cells slots mc ms g rest (Qc As.toArray) (free) := by
  obtain ⟨⟨hrc, hrs, hfr, hlo, hws, hcw⟩, hcode, hini, hy, hlen, hl, hstt⟩ := cw
  have hK : Back l R p e below s args y 3 8 (PreOf R mc ms Pc) (PostOf Qc mc ms free) := va_backW (hh := hh) (bytes := bytes) (maxL := maxL) (ret := ret) hM hp.1 hrc hrs hfr hlo hws hcw (fun a' U hW => word_at hW (Or.inl (by first | rfl | simp [Cond.onTables, Cond.keeps, Cond.steady])) hini)
  obtain ⟨hx, hb, hml, ho, -⟩ := S
  intro T hT X
  obtain ⟨v, vm₁, ⟨U', l2, c2, s2⟩, hW₁, X', ⟨g', mk, t, L, e1, e2, hq, h1, hL, h2, h3⟩, st⟩ := vx_callSW X hx (hh := hh) (bytes := bytes) (maxL := maxL) (ret := ret) ho hl hstt hini hcode hy hK hg (hsize.trans hml.symm) (argsL := As) (rest := rest) (fun sig h => hn.trans (hlen sig h)) hstack hW (by rw [hb]; exact hdg)
    (fun vm₁ hW₁ => ⟨hf.1, hf.2, hp.2 (T.setVm vm₁) hT hW₁⟩)
  dsimp only [Pt.U, Pt.locs, Pt.cells, Pt.slots] at X' e1 e2 h1 h2 h3 st
  subst h1; subst h2; subst h3
  exact ⟨v, (T.setVm vm₁).calling g' mk As.toArray, t, U', L, hT, X', hL, e1, e2, hq, st⟩
/-- not caught here, past rows that name other classes: it goes on to the caller -/
theorem vx_outP {p : Program} {l : Launch} {e : Env} {R : Room} {s : State} {m : MethodId} {args : Array Value} {below : List Frame} {meth : Method} {c : Code} {H : Heap} {locs : List Loc} {cells slots : Nat} {free : Addr → Prop} {ls : Array Slot} {rest : List Value} {Qc : Array Value → State → Outcome → State → Prop} {XC : String → State → State → Prop}
    {pc : Nat} {own E : String} {ce : Cell} {q : Addr} {mc ms : Nat} (hown : s.vm.findClass own = some m.cls) (hlocks : meth.locks = false)
    (hpass : ∀ z ∈ c.exceptionTable.toList, covers z pc = false ∨ (z.catchType ≠ 0 ∧ ∃ nm : String, (Cond.classLink own z.catchType nm).before args s = true ∧ va_Nc E nm s)) (hcell : H[q]? = some ce) (hv : ce.vm = .none) (hcl : s.vm.findClass E = some ce.cls)
    (hx : ∀ t : State, t.heap = H → s.vm.Alike t.vm → XC E s t) (hf : ∀ z ∈ locs, free z.base) (hc : cells ≤ mc) (hs : slots ≤ ms) :
    vx_W p l e R s m args below meth c H locs cells slots (vx_MQ below Qc XC args s mc ms free) (F0 m pc ls rest) q := by
  intro T hT X
  have hpl : e.platform.magicAccessors = ({} : Platform).magicAccessors := by rw [X.admits.platform]
  obtain ⟨vm', hW', X', st⟩ := X.outThrough hlocks q (g := F0 m pc ls rest) rfl rfl rfl (cell := ce) (by rw [hT]; exact hcell) (by rw [hv]; rfl)
    (by obtain ⟨k9, h9, -⟩ := Vm.findClass_spec hcl; exact ⟨k9, h9⟩) (fun z hz => by
      rcases hpass z hz with h | ⟨hz0, nm, hl1, hn1⟩
      · exact Or.inl h
      · obtain ⟨c6, hc6, hcl6⟩ := Cond.classLink_spec hown hl1 e.platform hpl
        obtain ⟨a8, b8, h1, h2, h3⟩ := hn1
        cases Option.some.inj (h1.symm.trans hcl)
        cases Option.some.inj (h2.symm.trans hc6)
        exact Or.inr ⟨hz0, _, hcl6, h3⟩)
  obtain ⟨g₀, hfr⟩ := X'.frames_eq
  have hcell9 : ((T.setVm vm').setFrames (.throwing q :: below)).heap[q]? = some ce := by
    show T.heap[q]? = some ce
    rw [hT]; exact hcell
  have hend : Ended ((T.setVm vm').setFrames (.throwing q :: below)) below (.threw q) := State.frames_setFrames _ (State.cur_lt_of_frames hfr)
  refine ⟨(T.setVm vm').setFrames (.throwing q :: below), ?_, .threw q, X'.here.running, hend, Or.inr ⟨q, rfl, E, ce, locs, hx _ hT (X'.ends _).1.alike, hcell9, hv, hcl, (X'.ends _).1, (X'.ends _).2.mono hc hs, hf⟩⟩
  rw [X.pushThrowing_eq]
  exact st
/-- a thing of a world lies in the heap -/
theorem vx_lt {D : va_G} {cl : List vw_C} {ws : va_W} {H1 : Heap} (h : va_P D cl ws H1) {k : Nat} {q : Nat × va_E} (hk : ws[k]? = some q) : q.1 < H1.size := (h k q hk).lt
end VXS
/-! ===== END ===== -/
/-! ===== BEGIN methods with a table of their own: called by a name, returning or throwing ===== -/
section VXH
/-! vx_backW, vx_callVX, vx_callSX, vx_callVW, vx_runVW, vx_runVX, vx_runSX, vx_ofWH follow the same proofs as their sisters above (Free/Laws.lean, Shelf42/LK1.lean); vx_outP calls Shelf42/NT130.lean (outThrough). -/
section
variable {l : Launch} {R : Room} {p : Program} {e : Env} {below : List Frame} {s : State} {sargs : Array Value} {y : MethodName} {len W9 : Nat}
theorem vx_backW {ws : List Cond} {rm : Room} {Pc : Array Value → State → Prop} {Qc : Array Value → State → Outcome → State → Prop} {XC : String → State → State → Prop} {mc ms : Nat} {free : Addr → Prop} {bytes : ByteArray} {maxL : Nat} {ret : Option FieldType} {hh : List (Nat × Nat × Nat × Nat)}
    (hM : vx_Met l y ws rm Pc Qc XC mc ms free) (hblind : FrameBlind Pc) (hrc : rm.cells = mc) (hrs : rm.slots = ms)
    (hframes : rm.frames + 1 ≤ R.frames) (hlocals : W9 + (maxL + 11) + rm.locals ≤ R.locals)
    (hws : ∀ w ∈ ws, ∀ a' U, s.WarmedH U.vm → w.before a' U = true) (hcode : Cond.codeWith y bytes maxL ret hh ∈ ws) (hinit : ∀ a' U, s.WarmedH U.vm → (Cond.initialized y.cls).before a' U = true) :
    vx_Back l R p e below s sargs y len W9 (PreOf R mc ms Pc) (PostOf Qc mc ms free) (vx_Post XC mc ms free) := by
  intro m meth c A g ig mk a X hg hsize hdg hW hn hp
  have h1 : (headSpec ws rm).pre.before a A.U = true := atoms_intro fun w hw => hws w hw _ _ X.warmed
  have h2 : (Cond.codeWith y bytes maxL ret hh).before a A.U = true := hws _ hcode _ _ X.warmed
  have h3 : (Cond.initialized y.cls).before a A.U = true := hinit _ _ X.warmed
  have h4 : A.cells + (headSpec ws rm).room.cells ≤ R.cells := by rw [show (headSpec ws rm).room.cells = mc from hrc]; exact hp.1
  have h5 : A.slots + (headSpec ws rm).room.slots ≤ R.slots := by rw [show (headSpec ws rm).room.slots = ms from hrs]; exact hp.2.1
  have hPc : Pc a (A.U.calling g mk a) := hblind _ _ _ _ hp.2.2
  obtain ⟨U, Ls, c0, s0⟩ := A
  dsimp only [Pt.U, Pt.locs, Pt.cells, Pt.slots] at h1 h2 h3 h4 h5 X hn hPc ⊢
  obtain ⟨m9, methY, cY, hn9, hmY, hcY, -, hlY, -⟩ := Cond.codeWith_spec h2
  cases Option.some.inj (hn9.symm.trans hn)
  obtain ⟨kY, hkY, -⟩ := className_of_methodNamed hn
  have hinitY : kY.init = .initialized := Cond.initialized_spec (findClass_of_methodNamed hn) hkY h3
  have h : At U g.method c below := by rw [hg]; exact X.here
  have hlocals9 : W9 + (maxL + 11) + (headSpec ws rm).room.locals ≤ R.locals := hlocals
  have happ : (headSpec ws rm).appliesLoose y e.platform (U.calling g mk a) = true :=
    Spec.appliesLoose_calling (g := g) h hdg hn hkY hinitY
      (X.room_calling (g := g) (R' := (headSpec ws rm).room) hsize hmY hcY hframes (by rw [hlY]; omega) h4 h5) h1
  obtain ⟨mid, hmid⟩ := h.above
  have hfr : (U.setTop g).frames = (.java g :: mid) ++ below := by rw [State.frames_setTop' g h.top, hmid]; rfl
  obtain ⟨o, s₂, hsteps, -, hend, hq⟩ := Steps.callFree hM p X.admits X.cas X.clock (acts := []) hfr happ hPc trivial
  have hq' : vx_Q Qc XC mc ms free a (U.calling g mk a) o s₂ := hq
  rw [State.frames_setTop' g h.top] at hend
  obtain ⟨g₀, hg0⟩ := Option.isSome_iff_exists.mp h.top
  obtain ⟨r, hr⟩ := State.topJava?_eq_some.mp hg0
  have hr' : (({ U with heap := s₂.heap, slotsUsed := s₂.slotsUsed } : State).setVm s₂.vm).frames = .java g₀ :: r := hr
  rcases hq' with ⟨hqc, L, hfe, hL⟩ | ⟨q, rfl, E, ce, L, hx, hce, hcv, hcl, hW₂, hsm, hL⟩
  · obtain ⟨⟨v, rfl⟩, hW₂, e2, q2, q3, q4, q5, q6⟩ := id hfe
    have e3 : s₂ = ({ (U.calling g mk a).setFrames s₂.frames with heap := s₂.heap, slotsUsed := s₂.slotsUsed } : State).setVm s₂.vm := by
      have : s₂ = ({ s₂ with vm := (U.calling g mk a).vm } : State).setVm s₂.vm := rfl
      rw [e2] at this
      exact this
    obtain ⟨c₂, i₂, len₂, hc₂, hd₂, hf₂⟩ := hend
    have hW' : U.WarmedH s₂.vm := hW₂
    have hcc : c₂ = c := by
      have h1 : s₂.code? g.method = U.code? g.method := by
        rw [State.code?_eq, State.code?_eq, hW'.alike.method?]
      exact Option.some.inj (hc₂.symm.trans (h1.trans h.code))
    subst hcc
    have hlen : len₂ = len := by rw [hdg] at hd₂; cases hd₂; rfl
    subst hlen
    have hs₂ : s₂ = (({ U with heap := s₂.heap, slotsUsed := s₂.slotsUsed } : State).setVm s₂.vm).setTop { g with pc := g.pc + len₂, stack := v.toList ++ g.stack } := by
      refine e3.trans ?_
      rw [hf₂, State.calling_eq h.top, State.setFrames_setFrames, State.setTop_of_frames _ hr', hr]
      rfl
    have hsame : U.sameButNew ({ U with heap := s₂.heap, slotsUsed := s₂.slotsUsed } : State) L mc ms := by
      refine ⟨?_, q2, q3, q4, q5, q6⟩
      obtain ⟨t, ht, -⟩ := State.frames_cons hr
      show ({ U with heap := s₂.heap, slotsUsed := s₂.slotsUsed } : State) = { U.setFrames U.frames with heap := s₂.heap, slotsUsed := s₂.slotsUsed }
      rw [State.setFrames_self ht]
    subst hg
    refine Or.inl ⟨v, ⟨(({ U with heap := s₂.heap, slotsUsed := s₂.slotsUsed } : State).setVm s₂.vm), Ls ++ L, c0 + mc, s0 + ms⟩,
      ⟨X.admits, X.cas, X.clock, X.frames, X.room, X.hears, X.method, X.code, (X.here.setHeapUsed s₂.heap s₂.slotsUsed).setVm hW'.alike, X.tail, State.WarmedH.trans X.warmed hW', X.limits, X.bytes, X.same.trans (hsame.setVm s.vm)⟩,
      ⟨g, mk, s₂, L, rfl, rfl, hqc, rfl, hL, rfl, rfl⟩, ?_⟩
    show Steps p.tables e below _ ((({ U with heap := s₂.heap, slotsUsed := s₂.slotsUsed } : State).setVm s₂.vm).setTop { g with pc := g.pc + len₂, stack := v.toList ++ g.stack })
    rw [← hs₂]
    exact hsteps
  · obtain ⟨e2, q2, q3, q4, q5, q6⟩ := id hsm
    have e3 : s₂ = ({ (U.calling g mk a).setFrames s₂.frames with heap := s₂.heap, slotsUsed := s₂.slotsUsed } : State).setVm s₂.vm := by
      have : s₂ = ({ s₂ with vm := (U.calling g mk a).vm } : State).setVm s₂.vm := rfl
      rw [e2] at this
      exact this
    have hf₂ : s₂.frames = .throwing q :: .java g :: U.frames.tail := hend
    have hW' : U.WarmedH s₂.vm := hW₂
    have hs₂ : s₂ = ((({ U with heap := s₂.heap, slotsUsed := s₂.slotsUsed } : State).setVm s₂.vm).setTop g).pushFrame (.throwing q) := by
      refine e3.trans ?_
      rw [hf₂, State.calling_eq h.top, State.setFrames_setFrames, State.pushFrame, State.frames_setTop _ hr', State.setTop_of_frames _ hr', State.setFrames_setFrames, hr]
      rfl
    have hsame : U.sameButNew ({ U with heap := s₂.heap, slotsUsed := s₂.slotsUsed } : State) L mc ms := by
      refine ⟨?_, q2, q3, q4, q5, q6⟩
      obtain ⟨t, ht, -⟩ := State.frames_cons hr
      show ({ U with heap := s₂.heap, slotsUsed := s₂.slotsUsed } : State) = { U.setFrames U.frames with heap := s₂.heap, slotsUsed := s₂.slotsUsed }
      rw [State.setFrames_self ht]
    subst hg
    refine Or.inr ⟨q, ⟨(({ U with heap := s₂.heap, slotsUsed := s₂.slotsUsed } : State).setVm s₂.vm), Ls ++ L, c0 + mc, s0 + ms⟩,
      ⟨X.admits, X.cas, X.clock, X.frames, X.room, X.hears, X.method, X.code, (X.here.setHeapUsed s₂.heap s₂.slotsUsed).setVm hW'.alike, X.tail, State.WarmedH.trans X.warmed hW', X.limits, X.bytes, X.same.trans (hsame.setVm s.vm)⟩,
      ⟨g, mk, s₂, L, E, ce, rfl, rfl, hx, hce, hcv, hcl, rfl, hL, rfl, rfl⟩, ?_⟩
    show Steps p.tables e below _ (((({ U with heap := s₂.heap, slotsUsed := s₂.slotsUsed } : State).setVm s₂.vm).setTop g).pushFrame (.throwing q))
    rw [← hs₂]
    exact hsteps
end
variable {p : Program} {l : Launch} {e : Env} {R : Room} {s : State} {m : MethodId} {args : Array Value} {below : List Frame} {meth : Method} {c : Code} {T : State} {H : Heap} {locs : List Loc} {cells slots : Nat}
theorem vx_callVX (X : Stand p l e R s m args below meth c T locs cells slots) (hexec : p.tables.exec = Jvm.exec) {own C : String} {index : Nat} {y : MethodName} {bytes : ByteArray} {maxL : Nat} {ret : Option FieldType} {hh : List (Nat × Nat × Nat × Nat)}
    (hown : s.vm.findClass own = some m.cls) (hlink : (Cond.methodLink own index y).before args s = true) (hinst : (Cond.instanceMethod y).before args s = true) (hsel : (Cond.selects C y y).before args s = true)
    (hcode : (Cond.codeWith y bytes maxL ret hh).before args s = true) (hy : y.cls ≠ "java/lang/invoke/MethodHandle" ∧ y.cls ≠ "java/lang/invoke/VarHandle")
    {W9 : Nat} {Pre : Pt → Array Value → Prop} {Post : Pt → Array Value → Option Value → Pt → Prop} {PostX : Pt → Array Value → Addr → Pt → Prop} (hK : vx_Back l R p e below s args y 3 W9 Pre Post PostX)
    {b : Addr} {cellB : Cell} (hcell : T.heap[b]? = some cellB) (hobj : cellB.vm.isStatics = false) (hcls : s.vm.findClass C = some cellB.cls)
    {g : JFrame} (hg : g.method = m) (hsize : g.locals.size = c.maxLocals) {argsL rest : List Value} (hlen : ∀ sig, parseMethodDescriptor y.desc = some sig → argsL.length = sig.parameters.length)
    (hstack : g.stack = argsL.reverse ++ .ref b :: rest) (hW : 2 * g.monitorRoom + (rest.map fun v => v.category).sum ≤ W9) (hdg : decode c.code g.pc = .ok (.invokevirtual index, 3))
    (hpre : ∀ vm₁, s.WarmedH vm₁ → Pre ⟨T.setVm vm₁, locs, cells, slots⟩ (Value.ref b :: argsL).toArray) :
    (∃ (v : Option Value) (vm₁ : Vm) (B : Pt), s.WarmedH vm₁ ∧ Stand p l e R s m args below meth c B.U B.locs B.cells B.slots ∧ Post ⟨T.setVm vm₁, locs, cells, slots⟩ (Value.ref b :: argsL).toArray v B ∧
      ∀ target, Steps p.tables e below (B.U.setTop { g with pc := g.pc + 3, stack := v.toList ++ rest }) target → Steps p.tables e below (T.setTop g) target) ∨
    (∃ (q : Addr) (vm₁ : Vm) (B : Pt), s.WarmedH vm₁ ∧ Stand p l e R s m args below meth c B.U B.locs B.cells B.slots ∧ PostX ⟨T.setVm vm₁, locs, cells, slots⟩ (Value.ref b :: argsL).toArray q B ∧
      Steps p.tables e below (T.setTop g) ((B.U.setTop { g with stack := rest }).pushFrame (.throwing q))) := by
  obtain ⟨mk, methM, hnamed, hmethM, hstM, habM⟩ := Cond.instanceMethod_spec hinst
  obtain ⟨m8, methM', cM, hn8, hmethM', -, -, -, -, -, -, hsigM⟩ := Cond.codeWith_spec hcode
  cases Option.some.inj (hn8.symm.trans hnamed)
  cases hmethM.symm.trans hmethM'
  obtain ⟨c2, r2, m2, q1, q2, q3, q4, kP, hkP, hkPi⟩ := Cond.selects_spec hsel
  cases hcls.symm.trans q1
  cases (State.methodFound?_of_named hnamed hy).symm.trans q2
  cases hnamed.symm.trans q3
  have hselP : selectMethod e.platform s.vm cellB.cls mk = .method mk := by rw [Launch.admits_selectMethod X.admits]; exact q4
  obtain ⟨vm₁, X₁, hstep₁⟩ := X.invokevirtual hexec hown hlink hnamed hmethM hstM hkP hkPi hy (a := b) (cell := cellB) hcell
    (fun z h => by rw [h] at hobj; cases hobj) hselP hmethM habM hkP hkPi (g := g) hg (argsL := argsL) (rest := rest) (hlen _ hsigM) hstack hdg
  rcases hK m meth c ⟨T.setVm vm₁, locs, cells, slots⟩ { g with stack := rest } (.invokevirtual index) mk (Value.ref b :: argsL).toArray X₁ hg hsize hdg hW (X₁.named hnamed) (hpre vm₁ X₁.warmed) with ⟨v, B, X', hpost, hsteps⟩ | ⟨q, B, X', hpost, hsteps⟩
  · exact Or.inl ⟨v, vm₁, B, X₁.warmed, X', hpost, fun target h => hstep₁ _ fun acts => by rw [doInvoke_state]; exact hsteps.trans h⟩
  · exact Or.inr ⟨q, vm₁, B, X₁.warmed, X', hpost, hstep₁ _ fun acts => by rw [doInvoke_state]; exact hsteps⟩
theorem vx_callSX (X : Stand p l e R s m args below meth c T locs cells slots) (hexec : p.tables.exec = Jvm.exec) {own : String} {index : Nat} {y : MethodName} {bytes : ByteArray} {maxL : Nat} {ret : Option FieldType} {hh : List (Nat × Nat × Nat × Nat)}
    (hown : s.vm.findClass own = some m.cls) (hlink : (Cond.methodLink own index y).before args s = true) (hstat : (Cond.static y).before args s = true) (hinit : (Cond.initialized y.cls).before args s = true)
    (hcode : (Cond.codeWith y bytes maxL ret hh).before args s = true) (hy : y.cls ≠ "java/lang/invoke/MethodHandle" ∧ y.cls ≠ "java/lang/invoke/VarHandle")
    {W9 : Nat} {Pre : Pt → Array Value → Prop} {Post : Pt → Array Value → Option Value → Pt → Prop} {PostX : Pt → Array Value → Addr → Pt → Prop} (hK : vx_Back l R p e below s args y 3 W9 Pre Post PostX)
    {g : JFrame} (hg : g.method = m) (hsize : g.locals.size = c.maxLocals) {argsL rest : List Value} (hlen : ∀ sig, parseMethodDescriptor y.desc = some sig → argsL.length = sig.parameters.length)
    (hstack : g.stack = argsL.reverse ++ rest) (hW : 2 * g.monitorRoom + (rest.map fun v => v.category).sum ≤ W9) (hdg : decode c.code g.pc = .ok (.invokestatic index, 3))
    (hpre : ∀ vm₁, s.WarmedH vm₁ → Pre ⟨T.setVm vm₁, locs, cells, slots⟩ argsL.toArray) :
    (∃ (v : Option Value) (vm₁ : Vm) (B : Pt), s.WarmedH vm₁ ∧ Stand p l e R s m args below meth c B.U B.locs B.cells B.slots ∧ Post ⟨T.setVm vm₁, locs, cells, slots⟩ argsL.toArray v B ∧
      ∀ target, Steps p.tables e below (B.U.setTop { g with pc := g.pc + 3, stack := v.toList ++ rest }) target → Steps p.tables e below (T.setTop g) target) ∨
    (∃ (q : Addr) (vm₁ : Vm) (B : Pt), s.WarmedH vm₁ ∧ Stand p l e R s m args below meth c B.U B.locs B.cells B.slots ∧ PostX ⟨T.setVm vm₁, locs, cells, slots⟩ argsL.toArray q B ∧
      Steps p.tables e below (T.setTop g) ((B.U.setTop { g with stack := rest }).pushFrame (.throwing q))) := by
  obtain ⟨mk, methM, cM, hnamed, hmethM, -, -, -, -, -, -, hsigM⟩ := Cond.codeWith_spec hcode
  have hstatic : methM.isStatic = true := Cond.static_spec hnamed hmethM hstat
  obtain ⟨kP, hkP, -⟩ := className_of_methodNamed hnamed
  have hinitP : kP.init = .initialized := Cond.initialized_spec (findClass_of_methodNamed hnamed) hkP hinit
  obtain ⟨vm₁, X₁, hstep₁⟩ := X.invokestatic hexec hown hlink hnamed hmethM hstatic hkP hinitP hy (g := g) hg (argsL := argsL) (rest := rest) (hlen _ hsigM) hstack hdg
  rcases hK m meth c ⟨T.setVm vm₁, locs, cells, slots⟩ { g with stack := rest } (.invokestatic index) mk argsL.toArray X₁ hg hsize hdg hW (X₁.named hnamed) (hpre vm₁ X₁.warmed) with ⟨v, B, X', hpost, hsteps⟩ | ⟨q, B, X', hpost, hsteps⟩
  · exact Or.inl ⟨v, vm₁, B, X₁.warmed, X', hpost, fun target h => hstep₁ _ fun acts => by rw [doInvoke_state]; exact hsteps.trans h⟩
  · exact Or.inr ⟨q, vm₁, B, X₁.warmed, X', hpost, hstep₁ _ fun acts => by rw [doInvoke_state]; exact hsteps⟩
theorem vx_callVW (X : Stand p l e R s m args below meth c T locs cells slots) (hexec : p.tables.exec = Jvm.exec) {own C : String} {index : Nat} {y : MethodName} {bytes : ByteArray} {maxL : Nat} {ret : Option FieldType} {hh : List (Nat × Nat × Nat × Nat)}
    (hown : s.vm.findClass own = some m.cls) (hlink : (Cond.methodLink own index y).before args s = true) (hinst : (Cond.instanceMethod y).before args s = true) (hsel : (Cond.selects C y y).before args s = true)
    (hcode : (Cond.codeWith y bytes maxL ret hh).before args s = true) (hy : y.cls ≠ "java/lang/invoke/MethodHandle" ∧ y.cls ≠ "java/lang/invoke/VarHandle")
    {W9 : Nat} {Pre : Pt → Array Value → Prop} {Post : Pt → Array Value → Option Value → Pt → Prop} (hK : Back l R p e below s args y 3 W9 Pre Post)
    {b : Addr} {cellB : Cell} (hcell : T.heap[b]? = some cellB) (hobj : cellB.vm.isStatics = false) (hcls : s.vm.findClass C = some cellB.cls)
    {g : JFrame} (hg : g.method = m) (hsize : g.locals.size = c.maxLocals) {argsL rest : List Value} (hlen : ∀ sig, parseMethodDescriptor y.desc = some sig → argsL.length = sig.parameters.length)
    (hstack : g.stack = argsL.reverse ++ .ref b :: rest) (hW : 2 * g.monitorRoom + (rest.map fun v => v.category).sum ≤ W9) (hdg : decode c.code g.pc = .ok (.invokevirtual index, 3))
    (hpre : ∀ vm₁, s.WarmedH vm₁ → Pre ⟨T.setVm vm₁, locs, cells, slots⟩ (Value.ref b :: argsL).toArray) :
    ∃ (v : Option Value) (vm₁ : Vm) (B : Pt), s.WarmedH vm₁ ∧ Stand p l e R s m args below meth c B.U B.locs B.cells B.slots ∧ Post ⟨T.setVm vm₁, locs, cells, slots⟩ (Value.ref b :: argsL).toArray v B ∧
      ∀ target, Steps p.tables e below (B.U.setTop { g with pc := g.pc + 3, stack := v.toList ++ rest }) target → Steps p.tables e below (T.setTop g) target := by
  obtain ⟨mk, methM, hnamed, hmethM, hstM, habM⟩ := Cond.instanceMethod_spec hinst
  obtain ⟨m8, methM', cM, hn8, hmethM', -, -, -, -, -, -, hsigM⟩ := Cond.codeWith_spec hcode
  cases Option.some.inj (hn8.symm.trans hnamed)
  cases hmethM.symm.trans hmethM'
  obtain ⟨c2, r2, m2, q1, q2, q3, q4, kP, hkP, hkPi⟩ := Cond.selects_spec hsel
  cases hcls.symm.trans q1
  cases (State.methodFound?_of_named hnamed hy).symm.trans q2
  cases hnamed.symm.trans q3
  have hselP : selectMethod e.platform s.vm cellB.cls mk = .method mk := by rw [Launch.admits_selectMethod X.admits]; exact q4
  obtain ⟨vm₁, X₁, hstep₁⟩ := X.invokevirtual hexec hown hlink hnamed hmethM hstM hkP hkPi hy (a := b) (cell := cellB) hcell
    (fun z h => by rw [h] at hobj; cases hobj) hselP hmethM habM hkP hkPi (g := g) hg (argsL := argsL) (rest := rest) (hlen _ hsigM) hstack hdg
  obtain ⟨v, B, X', hpost, hsteps⟩ := hK m meth c ⟨T.setVm vm₁, locs, cells, slots⟩ { g with stack := rest } (.invokevirtual index) mk (Value.ref b :: argsL).toArray X₁ hg hsize hdg hW (X₁.named hnamed) (hpre vm₁ X₁.warmed)
  exact ⟨v, vm₁, B, X₁.warmed, X', hpost, fun target h => hstep₁ _ fun acts => by rw [doInvoke_state]; exact hsteps.trans h⟩
abbrev vx_CVW (R : Room) (s : State) (args : Array Value) (own C : String) (index : Nat) (y : MethodName) (bytes : ByteArray) (maxL : Nat) (ret : Option FieldType) (hh : List (Nat × Nat × Nat × Nat)) (ws : List Cond) (rm : Room) (mc ms n : Nat) : Prop :=
  (rm.cells = mc ∧ rm.slots = ms ∧ rm.frames + 1 ≤ R.frames ∧ 8 + (maxL + 11) + rm.locals ≤ R.locals ∧ (∀ w ∈ ws, ∀ (a' : Array Value) (U : State), s.WarmedH U.vm → w.before a' U = true) ∧ Cond.codeWith y bytes maxL ret hh ∈ ws) ∧
  (Cond.codeWith y bytes maxL ret hh).before args s = true ∧ (Cond.initialized y.cls).before args s = true ∧ (y.cls ≠ "java/lang/invoke/MethodHandle" ∧ y.cls ≠ "java/lang/invoke/VarHandle") ∧
  (∀ sig, parseMethodDescriptor y.desc = some sig → n = sig.parameters.length) ∧ (Cond.methodLink own index y).before args s = true ∧ (Cond.instanceMethod y).before args s = true ∧ (Cond.selects C y y).before args s = true
theorem vx_cwVW {own C : String} {index maxL mc ms : Nat} {y : MethodName} {bytes : ByteArray} {ret : Option FieldType} {hh : List (Nat × Nat × Nat × Nat)} {Ts ws ws' : List Cond} {rm : Room} (n : Nat) (ht : ∀ w ∈ Ts, w.before args s = true) (hT : GoodIn Ts (wsV own index C y ws)) (hw : ws = Cond.codeWith y bytes maxL ret hh :: ws') (hrc : rm.cells = mc) (hrs : rm.slots = ms)
    (hd : y.cls = C ∧ y.cls ≠ "java/lang/invoke/MethodHandle" ∧ y.cls ≠ "java/lang/invoke/VarHandle" ∧ (parseMethodDescriptor y.desc).map (fun d => d.parameters.length) = some n) (hR : rm.frames + 1 ≤ R.frames ∧ 8 + (maxL + 11) + rm.locals ≤ R.locals) :
    vx_CVW R s args own C index y bytes maxL ret hh ws rm mc ms n := by
  obtain ⟨hC, hd⟩ := hd
  subst hC
  have ok : ∀ w ∈ wsV own index y.cls y ws, w.before args s = true := fun w h => ht w (hT w h).1
  have hG : GoodIn Ts ws := fun w h => hT w (by unfold wsV; exact List.mem_append_right _ h)
  have hc : Cond.codeWith y bytes maxL ret hh ∈ ws := by rw [hw]; exact List.mem_cons_self
  refine ⟨⟨hrc, hrs, hR.1, hR.2, pay_in ht hG, hc⟩, ht _ (hG _ hc).1, ok _ (by simp [wsV]), ⟨hd.1, hd.2.1⟩, fun sig h => ?_, ok _ (by simp [wsV]), ok _ (by simp [wsV]), ok _ (by simp [wsV])⟩
  have h2 := hd.2.2
  rw [h] at h2
  exact (Option.some.inj h2).symm
theorem vx_runVW {y : MethodName} {bytes cc : ByteArray} {maxL nL mc ms n index : Nat} {ret : Option FieldType} {hh : List (Nat × Nat × Nat × Nat)} {ws : List Cond} {rm : Room} {Pc : Array Value → State → Prop} {Qc : Array Value → State → Outcome → State → Prop} {free : Addr → Prop} {Ts : List Cond} {own C : String} {b : Addr} {As rest : List Value} {g : JFrame}
    (S : CallFix p m c cc nL s args Ts own) (hM : Met l y ws rm Pc Qc mc ms free) (cw : vx_CVW R s args own C index y bytes maxL ret hh ws rm mc ms n) (hp : PreV s H C b Pc As)
    (hg : g.method = m) (hn : As.length = n) (hsize : g.locals.size = nL) (hstack : g.stack = As.reverse ++ .ref b :: rest) (hW : 2 * g.monitorRoom + (rest.map fun v => v.category).sum ≤ 8) (hdg : decode cc g.pc = .ok (.invokevirtual index, 3)) (hf : cells + mc ≤ R.cells ∧ slots + ms ≤ R.slots) :
    va_Run p l e R s m args below meth c H locs cells slots mc ms g rest (Qc (Value.ref b :: As).toArray) free := by
  obtain ⟨⟨hrc, hrs, hfr, hlo, hws, hcw⟩, hcode, hini, hy, hlen, hl, hin, hse⟩ := cw
  have hK : Back l R p e below s args y 3 8 (PreOf R mc ms Pc) (PostOf Qc mc ms free) := va_backW (hh := hh) (bytes := bytes) (maxL := maxL) (ret := ret) hM hp.1 hrc hrs hfr hlo hws hcw (fun a' U hW => word_at hW (Or.inl (by first | rfl | simp [Cond.onTables, Cond.keeps, Cond.steady])) hini)
  obtain ⟨hx, hb, hml, ho, -⟩ := S
  obtain ⟨-, ⟨cellB, hcB, hoB, hclB⟩, hPc⟩ := hp
  intro T hT X
  obtain ⟨v, vm₁, ⟨U', l2, c2, s2⟩, hW₁, X', ⟨g', mk, t, L, e1, e2, hq, h1, hL, h2, h3⟩, st⟩ := vx_callVW X hx (C := C) (hh := hh) (bytes := bytes) (maxL := maxL) (ret := ret) ho hl hin hse hcode hy hK (by rw [hT]; exact hcB) hoB hclB hg (hsize.trans hml.symm) (argsL := As) (rest := rest) (fun sig h => hn.trans (hlen sig h)) hstack hW (by rw [hb]; exact hdg)
    (fun vm₁ hW₁ => ⟨hf.1, hf.2, hPc (T.setVm vm₁) hT hW₁⟩)
  dsimp only [Pt.U, Pt.locs, Pt.cells, Pt.slots] at X' e1 e2 h1 h2 h3 st
  subst h1; subst h2; subst h3
  exact ⟨v, (T.setVm vm₁).calling g' mk (Value.ref b :: As).toArray, t, U', L, hT, X', hL, e1, e2, hq, st⟩
section
variable {y : MethodName} {bytes cc : ByteArray} {maxL nL mc ms n index : Nat} {ret : Option FieldType} {ws : List Cond} {rm : Room} {Pc : Array Value → State → Prop} {Qc : Array Value → State → Outcome → State → Prop} {XC : String → State → State → Prop} {free : Addr → Prop} {Ts : List Cond} {own C : String} {b : Addr} {As rest : List Value} {g : JFrame}
theorem vx_runVX {hh : List (Nat × Nat × Nat × Nat)} (S : CallFix p m c cc nL s args Ts own) (hM : vx_Met l y ws rm Pc Qc XC mc ms free) (cw : vx_CVW R s args own C index y bytes maxL ret hh ws rm mc ms n) (hp : PreV s H C b Pc As)
    (hg : g.method = m) (hn : As.length = n) (hsize : g.locals.size = nL) (hstack : g.stack = As.reverse ++ .ref b :: rest) (hW : 2 * g.monitorRoom + (rest.map fun v => v.category).sum ≤ 8) (hdg : decode cc g.pc = .ok (.invokevirtual index, 3)) (hf : cells + mc ≤ R.cells ∧ slots + ms ≤ R.slots) :
    vx_Run p l e R s m args below meth c H locs cells slots mc ms g rest (Qc (Value.ref b :: As).toArray) XC free := by
  obtain ⟨⟨hrc, hrs, hfr, hlo, hws, hcw⟩, hcode, hini, hy, hlen, hl, hin, hse⟩ := cw
  have hK : vx_Back l R p e below s args y 3 8 (PreOf R mc ms Pc) (PostOf Qc mc ms free) (vx_Post XC mc ms free) := vx_backW (hh := hh) (bytes := bytes) (maxL := maxL) (ret := ret) hM hp.1 hrc hrs hfr hlo hws hcw (fun a' U hW => word_at hW (Or.inl (by first | rfl | simp [Cond.onTables, Cond.keeps, Cond.steady])) hini)
  obtain ⟨hx, hb, hml, ho, -⟩ := S
  obtain ⟨-, ⟨cellB, hcB, hoB, hclB⟩, hPc⟩ := hp
  intro T hT X
  rcases vx_callVX X hx (C := C) (hh := hh) (bytes := bytes) (maxL := maxL) (ret := ret) ho hl hin hse hcode hy hK (by rw [hT]; exact hcB) hoB hclB hg (hsize.trans hml.symm) (argsL := As) (rest := rest) (fun sig h => hn.trans (hlen sig h)) hstack hW (by rw [hb]; exact hdg)
    (fun vm₁ hW₁ => ⟨hf.1, hf.2, hPc (T.setVm vm₁) hT hW₁⟩) with ⟨v, vm₁, ⟨U', l2, c2, s2⟩, hW₁, X', ⟨g', mk, t, L, e1, e2, hq, h1, hL, h2, h3⟩, st⟩ | ⟨q, vm₁, ⟨U', l2, c2, s2⟩, hW₁, X', ⟨g', mk, t, L, E, ce, e1, e2, hq, hce, hcv, hcl, h1, hL, h2, h3⟩, st⟩
  · dsimp only [Pt.U, Pt.locs, Pt.cells, Pt.slots] at X' e1 e2 h1 h2 h3 st
    subst h1; subst h2; subst h3
    exact Or.inl ⟨v, (T.setVm vm₁).calling g' mk (Value.ref b :: As).toArray, t, U', L, hT, X', hL, e1, e2, hq, st⟩
  · dsimp only [Pt.U, Pt.locs, Pt.cells, Pt.slots] at X' e1 e2 h1 h2 h3 st hcl
    subst h1; subst h2; subst h3
    exact Or.inr ⟨q, (T.setVm vm₁).calling g' mk (Value.ref b :: As).toArray, t, U', L, E, ce, hT, X', hL, e1, e2, hq, hce, hcv, vx_cls hW₁ hcl, st⟩
theorem vx_runSX {hh : List (Nat × Nat × Nat × Nat)} (S : CallFix p m c cc nL s args Ts own) (hM : vx_Met l y ws rm Pc Qc XC mc ms free) (cw : vx_CSW R s args own index y bytes maxL ret hh ws rm mc ms n) (hp : PreS s H Pc As)
    (hg : g.method = m) (hn : As.length = n) (hsize : g.locals.size = nL) (hstack : g.stack = As.reverse ++ rest) (hW : 2 * g.monitorRoom + (rest.map fun v => v.category).sum ≤ 8) (hdg : decode cc g.pc = .ok (.invokestatic index, 3)) (hf : cells + mc ≤ R.cells ∧ slots + ms ≤ R.slots) :
    vx_Run p l e R s m args below meth c H locs cells slots mc ms g rest (Qc As.toArray) XC free := by
  obtain ⟨⟨hrc, hrs, hfr, hlo, hws, hcw⟩, hcode, hini, hy, hlen, hl, hstt⟩ := cw
  have hK : vx_Back l R p e below s args y 3 8 (PreOf R mc ms Pc) (PostOf Qc mc ms free) (vx_Post XC mc ms free) := vx_backW (hh := hh) (bytes := bytes) (maxL := maxL) (ret := ret) hM hp.1 hrc hrs hfr hlo hws hcw (fun a' U hW => word_at hW (Or.inl (by first | rfl | simp [Cond.onTables, Cond.keeps, Cond.steady])) hini)
  obtain ⟨hx, hb, hml, ho, -⟩ := S
  intro T hT X
  rcases vx_callSX X hx (hh := hh) (bytes := bytes) (maxL := maxL) (ret := ret) ho hl hstt hini hcode hy hK hg (hsize.trans hml.symm) (argsL := As) (rest := rest) (fun sig h => hn.trans (hlen sig h)) hstack hW (by rw [hb]; exact hdg)
    (fun vm₁ hW₁ => ⟨hf.1, hf.2, hp.2 (T.setVm vm₁) hT hW₁⟩) with ⟨v, vm₁, ⟨U', l2, c2, s2⟩, hW₁, X', ⟨g', mk, t, L, e1, e2, hq, h1, hL, h2, h3⟩, st⟩ | ⟨q, vm₁, ⟨U', l2, c2, s2⟩, hW₁, X', ⟨g', mk, t, L, E, ce, e1, e2, hq, hce, hcv, hcl, h1, hL, h2, h3⟩, st⟩
  · dsimp only [Pt.U, Pt.locs, Pt.cells, Pt.slots] at X' e1 e2 h1 h2 h3 st
    subst h1; subst h2; subst h3
    exact Or.inl ⟨v, (T.setVm vm₁).calling g' mk As.toArray, t, U', L, hT, X', hL, e1, e2, hq, st⟩
  · dsimp only [Pt.U, Pt.locs, Pt.cells, Pt.slots] at X' e1 e2 h1 h2 h3 st hcl
    subst h1; subst h2; subst h3
    exact Or.inr ⟨q, (T.setVm vm₁).calling g' mk As.toArray, t, U', L, E, ce, hT, X', hL, e1, e2, hq, hce, hcv, vx_cls hW₁ hcl, st⟩
end
end VXH
theorem vx_ofWH {l : Launch} {y : MethodName} {ws ws' : List Cond} {rm : Room} {Pc : Array Value → State → Prop} {Qc : Array Value → State → Outcome → State → Prop} {XC : String → State → State → Prop} {mc ms : Nat} {free : Addr → Prop} {cc : ByteArray} {maxL : Nat} {ret : Option FieldType} {hh : List (Nat × Nat × Nat × Nat)}
    (hy : plainName y.cls = true) (hw : ws = Cond.codeWith y cc maxL ret hh :: ws')
    (body : ∀ p e s m args below meth c s₁, BodyLoose p l y (headSpec ws rm) cc maxL ret e s m args below meth c s₁ → c.maxLocals = maxL → Pc args s →
      W p l e (headSpec ws rm).room s m args below meth c s.heap [] 0 0 (vx_MQ below Qc XC args s mc ms free) (entryFrame m args maxL)) : vx_Met l y ws rm Pc Qc XC mc ms free := by
  refine MetFree.of_bodyS (code := cc) (maxLocals := maxL) (ret := ret) hy ?_ ?_
  · intro args s m h hn
    obtain ⟨m9, meth, c, hn9, h1, h2, h3, h4, -, h5, h6, -⟩ := Cond.codeWith_spec (atoms_spec (ws := ws) h _ (by rw [hw]; exact List.mem_cons_self))
    cases hn.symm.trans hn9
    exact ⟨meth, c, h1, h2, h3, h4, h5, h6⟩
  · intro p e s m args below meth c s₁ B hml hP _
    have hh0 : s₁.heap = s.heap := by rw [B.state]; rfl
    obtain ⟨t, a1, o, b1, b2, b3⟩ := body p e s m args below meth c s₁ B hml hP s₁ hh0 (Stand.of_body B)
    exact ⟨t, o, a1, b1, b2, b3⟩
/-! ===== END ===== -/
end
section
-- ===== PART A: goes FIRST, ahead of the names: the tables' words, and 'selects' of the private methods out of them =====
/-- a private method of a class that the tables say can be made, by its rows of tables_1 -/
def lw_okq (q : MethodName × Nat) : Prop := (q.1.cls ≠ "java/lang/invoke/MethodHandle" ∧ q.1.cls ≠ "java/lang/invoke/VarHandle") ∧ Cond.instantiable q.1.cls q.2 ∈ tables_1 ∧ Cond.privateMethod q.1 ∈ tables_1 ∧ Cond.instanceMethod q.1 ∈ tables_1
theorem lw_p0 : lw_okq (⟨"ChoraleDesk", "measureWidths", "()V"⟩, 12) := ⟨⟨by decide +kernel, by decide +kernel⟩, List.mem_of_getElem? (i := 21) (by decide +kernel), List.mem_of_getElem? (i := 280) (by decide +kernel), List.mem_of_getElem? (i := 281) (by decide +kernel)⟩
theorem lw_p1 : lw_okq (⟨"ChoraleDesk", "hear", "()V"⟩, 12) := ⟨⟨by decide +kernel, by decide +kernel⟩, List.mem_of_getElem? (i := 21) (by decide +kernel), List.mem_of_getElem? (i := 284) (by decide +kernel), List.mem_of_getElem? (i := 285) (by decide +kernel)⟩
theorem lw_p2 : lw_okq (⟨"ChoraleDesk$Harmony", "nextBegin", "([LChoraleDesk$Part;)I"⟩, 4) := ⟨⟨by decide +kernel, by decide +kernel⟩, List.mem_of_getElem? (i := 151) (by decide +kernel), List.mem_of_getElem? (i := 295) (by decide +kernel), List.mem_of_getElem? (i := 296) (by decide +kernel)⟩
theorem lw_p3 : lw_okq (⟨"ChoraleDesk$Harmony", "eventGoingOn", "(LChoraleDesk$Part;II)I"⟩, 4) := ⟨⟨by decide +kernel, by decide +kernel⟩, List.mem_of_getElem? (i := 151) (by decide +kernel), List.mem_of_getElem? (i := 311) (by decide +kernel), List.mem_of_getElem? (i := 312) (by decide +kernel)⟩
theorem lw_p4 : lw_okq (⟨"ChoraleDesk", "searchFaults", "()V"⟩, 12) := ⟨⟨by decide +kernel, by decide +kernel⟩, List.mem_of_getElem? (i := 21) (by decide +kernel), List.mem_of_getElem? (i := 350) (by decide +kernel), List.mem_of_getElem? (i := 351) (by decide +kernel)⟩
theorem lw_p5 : lw_okq (⟨"ChoraleDesk$FaultList", "goOn", "([LChoraleDesk$Part;LChoraleDesk$Harmony;I)V"⟩, 8) := ⟨⟨by decide +kernel, by decide +kernel⟩, List.mem_of_getElem? (i := 186) (by decide +kernel), List.mem_of_getElem? (i := 361) (by decide +kernel), List.mem_of_getElem? (i := 362) (by decide +kernel)⟩
theorem lw_p6 : lw_okq (⟨"ChoraleDesk$FaultList", "searchParallels", "(I)V"⟩, 8) := ⟨⟨by decide +kernel, by decide +kernel⟩, List.mem_of_getElem? (i := 186) (by decide +kernel), List.mem_of_getElem? (i := 381) (by decide +kernel), List.mem_of_getElem? (i := 382) (by decide +kernel)⟩
theorem lw_p7 : lw_okq (⟨"ChoraleDesk$FaultList", "add", "(III)V"⟩, 8) := ⟨⟨by decide +kernel, by decide +kernel⟩, List.mem_of_getElem? (i := 186) (by decide +kernel), List.mem_of_getElem? (i := 388) (by decide +kernel), List.mem_of_getElem? (i := 389) (by decide +kernel)⟩
theorem lw_p8 : lw_okq (⟨"ChoraleDesk$FaultList", "searchCrossings", "(I)V"⟩, 8) := ⟨⟨by decide +kernel, by decide +kernel⟩, List.mem_of_getElem? (i := 186) (by decide +kernel), List.mem_of_getElem? (i := 392) (by decide +kernel), List.mem_of_getElem? (i := 393) (by decide +kernel)⟩
theorem lw_p9 : lw_okq (⟨"ChoraleDesk$FaultList", "searchNote", "(LChoraleDesk$Part;II)V"⟩, 8) := ⟨⟨by decide +kernel, by decide +kernel⟩, List.mem_of_getElem? (i := 186) (by decide +kernel), List.mem_of_getElem? (i := 396) (by decide +kernel), List.mem_of_getElem? (i := 397) (by decide +kernel)⟩
theorem lw_p10 : lw_okq (⟨"ChoraleDesk", "mixPart", "(JLChoraleDesk$Part;)J"⟩, 12) := ⟨⟨by decide +kernel, by decide +kernel⟩, List.mem_of_getElem? (i := 21) (by decide +kernel), List.mem_of_getElem? (i := 406) (by decide +kernel), List.mem_of_getElem? (i := 407) (by decide +kernel)⟩
theorem lw_p11 : lw_okq (⟨"ChoraleDesk", "mixBar", "(JI)J"⟩, 12) := ⟨⟨by decide +kernel, by decide +kernel⟩, List.mem_of_getElem? (i := 21) (by decide +kernel), List.mem_of_getElem? (i := 432) (by decide +kernel), List.mem_of_getElem? (i := 433) (by decide +kernel)⟩
theorem lw_p12 : lw_okq (⟨"ChoraleDesk", "measureAt", "(II)LChoraleDesk$Measure;"⟩, 12) := ⟨⟨by decide +kernel, by decide +kernel⟩, List.mem_of_getElem? (i := 21) (by decide +kernel), List.mem_of_getElem? (i := 442) (by decide +kernel), List.mem_of_getElem? (i := 443) (by decide +kernel)⟩
theorem lw_p13 : lw_okq (⟨"ChoraleDesk", "partAt", "(I)LChoraleDesk$Part;"⟩, 12) := ⟨⟨by decide +kernel, by decide +kernel⟩, List.mem_of_getElem? (i := 21) (by decide +kernel), List.mem_of_getElem? (i := 446) (by decide +kernel), List.mem_of_getElem? (i := 447) (by decide +kernel)⟩
theorem lw_p14 : lw_okq (⟨"java/lang/Throwable", "fillInStackTrace", "(I)Ljava/lang/Throwable;"⟩, 6) := ⟨⟨by decide +kernel, by decide +kernel⟩, List.mem_of_getElem? (i := 488) (by decide +kernel), List.mem_of_getElem? (i := 486) (by decide +kernel), List.mem_of_getElem? (i := 487) (by decide +kernel)⟩
theorem lw_p15 : lw_okq (⟨"ChoraleDesk$Measure", "writeStretch", "(III)V"⟩, 11) := ⟨⟨by decide +kernel, by decide +kernel⟩, List.mem_of_getElem? (i := 110) (by decide +kernel), List.mem_of_getElem? (i := 540) (by decide +kernel), List.mem_of_getElem? (i := 541) (by decide +kernel)⟩
def lw_privs_1 : List (MethodName × Nat) := [(⟨"ChoraleDesk", "measureWidths", "()V"⟩, 12), (⟨"ChoraleDesk", "hear", "()V"⟩, 12), (⟨"ChoraleDesk$Harmony", "nextBegin", "([LChoraleDesk$Part;)I"⟩, 4), (⟨"ChoraleDesk$Harmony", "eventGoingOn", "(LChoraleDesk$Part;II)I"⟩, 4), (⟨"ChoraleDesk", "searchFaults", "()V"⟩, 12), (⟨"ChoraleDesk$FaultList", "goOn", "([LChoraleDesk$Part;LChoraleDesk$Harmony;I)V"⟩, 8), (⟨"ChoraleDesk$FaultList", "searchParallels", "(I)V"⟩, 8), (⟨"ChoraleDesk$FaultList", "add", "(III)V"⟩, 8), (⟨"ChoraleDesk$FaultList", "searchCrossings", "(I)V"⟩, 8), (⟨"ChoraleDesk$FaultList", "searchNote", "(LChoraleDesk$Part;II)V"⟩, 8), (⟨"ChoraleDesk", "mixPart", "(JLChoraleDesk$Part;)J"⟩, 12), (⟨"ChoraleDesk", "mixBar", "(JI)J"⟩, 12), (⟨"ChoraleDesk", "measureAt", "(II)LChoraleDesk$Measure;"⟩, 12), (⟨"ChoraleDesk", "partAt", "(I)LChoraleDesk$Part;"⟩, 12), (⟨"java/lang/Throwable", "fillInStackTrace", "(I)Ljava/lang/Throwable;"⟩, 6), (⟨"ChoraleDesk$Measure", "writeStretch", "(III)V"⟩, 11)]
theorem lw_r1 : ∀ q ∈ lw_privs_1, lw_okq q := List.forall_mem_cons.mpr ⟨lw_p0, List.forall_mem_cons.mpr ⟨lw_p1, List.forall_mem_cons.mpr ⟨lw_p2, List.forall_mem_cons.mpr ⟨lw_p3, List.forall_mem_cons.mpr ⟨lw_p4, List.forall_mem_cons.mpr ⟨lw_p5, List.forall_mem_cons.mpr ⟨lw_p6, List.forall_mem_cons.mpr ⟨lw_p7, List.forall_mem_cons.mpr ⟨lw_p8, List.forall_mem_cons.mpr ⟨lw_p9, List.forall_mem_cons.mpr ⟨lw_p10, List.forall_mem_cons.mpr ⟨lw_p11, List.forall_mem_cons.mpr ⟨lw_p12, List.forall_mem_cons.mpr ⟨lw_p13, List.forall_mem_cons.mpr ⟨lw_p14, List.forall_mem_cons.mpr ⟨lw_p15, fun _ h => absurd h List.not_mem_nil⟩⟩⟩⟩⟩⟩⟩⟩⟩⟩⟩⟩⟩⟩⟩⟩
theorem lw_p16 : lw_okq (⟨"ChoraleDesk$Measure", "addSign", "(III)V"⟩, 11) := ⟨⟨by decide +kernel, by decide +kernel⟩, List.mem_of_getElem? (i := 110) (by decide +kernel), List.mem_of_getElem? (i := 549) (by decide +kernel), List.mem_of_getElem? (i := 550) (by decide +kernel)⟩
theorem lw_p17 : lw_okq (⟨"ChoraleDesk$Measure", "markSigns", "(LChoraleDesk$Part;I)V"⟩, 11) := ⟨⟨by decide +kernel, by decide +kernel⟩, List.mem_of_getElem? (i := 110) (by decide +kernel), List.mem_of_getElem? (i := 557) (by decide +kernel), List.mem_of_getElem? (i := 558) (by decide +kernel)⟩
theorem lw_p18 : lw_okq (⟨"ChoraleDesk$Measure", "beamSigns", "(LChoraleDesk$Part;II)V"⟩, 11) := ⟨⟨by decide +kernel, by decide +kernel⟩, List.mem_of_getElem? (i := 110) (by decide +kernel), List.mem_of_getElem? (i := 566) (by decide +kernel), List.mem_of_getElem? (i := 567) (by decide +kernel)⟩
theorem lw_p19 : lw_okq (⟨"ChoraleDesk$Measure", "joinToSignAhead", "(I)V"⟩, 11) := ⟨⟨by decide +kernel, by decide +kernel⟩, List.mem_of_getElem? (i := 110) (by decide +kernel), List.mem_of_getElem? (i := 570) (by decide +kernel), List.mem_of_getElem? (i := 571) (by decide +kernel)⟩
theorem lw_p20 : lw_okq (⟨"ChoraleDesk$Measure", "showAlters", "(LChoraleDesk$Part;I)V"⟩, 11) := ⟨⟨by decide +kernel, by decide +kernel⟩, List.mem_of_getElem? (i := 110) (by decide +kernel), List.mem_of_getElem? (i := 579) (by decide +kernel), List.mem_of_getElem? (i := 580) (by decide +kernel)⟩
theorem lw_p21 : lw_okq (⟨"ChoraleDesk$Measure", "alterToShow", "(III)I"⟩, 11) := ⟨⟨by decide +kernel, by decide +kernel⟩, List.mem_of_getElem? (i := 110) (by decide +kernel), List.mem_of_getElem? (i := 592) (by decide +kernel), List.mem_of_getElem? (i := 593) (by decide +kernel)⟩
theorem lw_p22 : lw_okq (⟨"ChoraleDesk$Measure", "showAltersAsWritten", "(LChoraleDesk$Part;I)V"⟩, 11) := ⟨⟨by decide +kernel, by decide +kernel⟩, List.mem_of_getElem? (i := 110) (by decide +kernel), List.mem_of_getElem? (i := 605) (by decide +kernel), List.mem_of_getElem? (i := 606) (by decide +kernel)⟩
theorem lw_p23 : lw_okq (⟨"ChoraleDesk", "mixSigns", "(JLChoraleDesk$Measure;)J"⟩, 12) := ⟨⟨by decide +kernel, by decide +kernel⟩, List.mem_of_getElem? (i := 21) (by decide +kernel), List.mem_of_getElem? (i := 632) (by decide +kernel), List.mem_of_getElem? (i := 633) (by decide +kernel)⟩
theorem lw_p24 : lw_okq (⟨"ChoraleDesk", "mixMoments", "(J)J"⟩, 12) := ⟨⟨by decide +kernel, by decide +kernel⟩, List.mem_of_getElem? (i := 21) (by decide +kernel), List.mem_of_getElem? (i := 660) (by decide +kernel), List.mem_of_getElem? (i := 661) (by decide +kernel)⟩
theorem lw_p25 : lw_okq (⟨"ChoraleDesk", "chordAt", "(I)LChoraleDesk$Chord;"⟩, 12) := ⟨⟨by decide +kernel, by decide +kernel⟩, List.mem_of_getElem? (i := 21) (by decide +kernel), List.mem_of_getElem? (i := 667) (by decide +kernel), List.mem_of_getElem? (i := 668) (by decide +kernel)⟩
theorem lw_p26 : lw_okq (⟨"ChoraleDesk$Chord", "forget", "()V"⟩, 3) := ⟨⟨by decide +kernel, by decide +kernel⟩, List.mem_of_getElem? (i := 170) (by decide +kernel), List.mem_of_getElem? (i := 678) (by decide +kernel), List.mem_of_getElem? (i := 679) (by decide +kernel)⟩
theorem lw_p27 : lw_okq (⟨"ChoraleDesk$Chord", "findRoot", "(II)V"⟩, 3) := ⟨⟨by decide +kernel, by decide +kernel⟩, List.mem_of_getElem? (i := 170) (by decide +kernel), List.mem_of_getElem? (i := 688) (by decide +kernel), List.mem_of_getElem? (i := 689) (by decide +kernel)⟩
theorem lw_p28 : lw_okq (⟨"ChoraleDesk$Chord", "findKind", "(III)V"⟩, 3) := ⟨⟨by decide +kernel, by decide +kernel⟩, List.mem_of_getElem? (i := 170) (by decide +kernel), List.mem_of_getElem? (i := 692) (by decide +kernel), List.mem_of_getElem? (i := 693) (by decide +kernel)⟩
theorem lw_p29 : lw_okq (⟨"ChoraleDesk", "mixFaults", "(J)J"⟩, 12) := ⟨⟨by decide +kernel, by decide +kernel⟩, List.mem_of_getElem? (i := 21) (by decide +kernel), List.mem_of_getElem? (i := 712) (by decide +kernel), List.mem_of_getElem? (i := 713) (by decide +kernel)⟩
theorem lw_p30 : lw_okq (⟨"ChoraleDesk", "lastEnd", "()I"⟩, 12) := ⟨⟨by decide +kernel, by decide +kernel⟩, List.mem_of_getElem? (i := 21) (by decide +kernel), List.mem_of_getElem? (i := 740) (by decide +kernel), List.mem_of_getElem? (i := 741) (by decide +kernel)⟩
theorem lw_p31 : lw_okq (⟨"ChoraleDesk", "mixLines", "(JI)J"⟩, 12) := ⟨⟨by decide +kernel, by decide +kernel⟩, List.mem_of_getElem? (i := 21) (by decide +kernel), List.mem_of_getElem? (i := 750) (by decide +kernel), List.mem_of_getElem? (i := 751) (by decide +kernel)⟩
def lw_privs_2 : List (MethodName × Nat) := [(⟨"ChoraleDesk$Measure", "addSign", "(III)V"⟩, 11), (⟨"ChoraleDesk$Measure", "markSigns", "(LChoraleDesk$Part;I)V"⟩, 11), (⟨"ChoraleDesk$Measure", "beamSigns", "(LChoraleDesk$Part;II)V"⟩, 11), (⟨"ChoraleDesk$Measure", "joinToSignAhead", "(I)V"⟩, 11), (⟨"ChoraleDesk$Measure", "showAlters", "(LChoraleDesk$Part;I)V"⟩, 11), (⟨"ChoraleDesk$Measure", "alterToShow", "(III)I"⟩, 11), (⟨"ChoraleDesk$Measure", "showAltersAsWritten", "(LChoraleDesk$Part;I)V"⟩, 11), (⟨"ChoraleDesk", "mixSigns", "(JLChoraleDesk$Measure;)J"⟩, 12), (⟨"ChoraleDesk", "mixMoments", "(J)J"⟩, 12), (⟨"ChoraleDesk", "chordAt", "(I)LChoraleDesk$Chord;"⟩, 12), (⟨"ChoraleDesk$Chord", "forget", "()V"⟩, 3), (⟨"ChoraleDesk$Chord", "findRoot", "(II)V"⟩, 3), (⟨"ChoraleDesk$Chord", "findKind", "(III)V"⟩, 3), (⟨"ChoraleDesk", "mixFaults", "(J)J"⟩, 12), (⟨"ChoraleDesk", "lastEnd", "()I"⟩, 12), (⟨"ChoraleDesk", "mixLines", "(JI)J"⟩, 12)]
theorem lw_r2 : ∀ q ∈ lw_privs_2, lw_okq q := List.forall_mem_cons.mpr ⟨lw_p16, List.forall_mem_cons.mpr ⟨lw_p17, List.forall_mem_cons.mpr ⟨lw_p18, List.forall_mem_cons.mpr ⟨lw_p19, List.forall_mem_cons.mpr ⟨lw_p20, List.forall_mem_cons.mpr ⟨lw_p21, List.forall_mem_cons.mpr ⟨lw_p22, List.forall_mem_cons.mpr ⟨lw_p23, List.forall_mem_cons.mpr ⟨lw_p24, List.forall_mem_cons.mpr ⟨lw_p25, List.forall_mem_cons.mpr ⟨lw_p26, List.forall_mem_cons.mpr ⟨lw_p27, List.forall_mem_cons.mpr ⟨lw_p28, List.forall_mem_cons.mpr ⟨lw_p29, List.forall_mem_cons.mpr ⟨lw_p30, List.forall_mem_cons.mpr ⟨lw_p31, fun _ h => absurd h List.not_mem_nil⟩⟩⟩⟩⟩⟩⟩⟩⟩⟩⟩⟩⟩⟩⟩⟩
theorem lw_p32 : lw_okq (⟨"ChoraleDesk", "breakLines", "(I)V"⟩, 12) := ⟨⟨by decide +kernel, by decide +kernel⟩, List.mem_of_getElem? (i := 21) (by decide +kernel), List.mem_of_getElem? (i := 754) (by decide +kernel), List.mem_of_getElem? (i := 755) (by decide +kernel)⟩
theorem lw_p33 : lw_okq (⟨"ChoraleDesk$LineBreaks", "chooseLine", "(III)V"⟩, 5) := ⟨⟨by decide +kernel, by decide +kernel⟩, List.mem_of_getElem? (i := 217) (by decide +kernel), List.mem_of_getElem? (i := 764) (by decide +kernel), List.mem_of_getElem? (i := 765) (by decide +kernel)⟩
theorem lw_p34 : lw_okq (⟨"ChoraleDesk$LineBreaks", "numberLines", "(I)V"⟩, 5) := ⟨⟨by decide +kernel, by decide +kernel⟩, List.mem_of_getElem? (i := 217) (by decide +kernel), List.mem_of_getElem? (i := 768) (by decide +kernel), List.mem_of_getElem? (i := 769) (by decide +kernel)⟩
theorem lw_p35 : lw_okq (⟨"ChoraleDesk", "checkRoom", "(LChoraleDesk$Part;I)V"⟩, 12) := ⟨⟨by decide +kernel, by decide +kernel⟩, List.mem_of_getElem? (i := 21) (by decide +kernel), List.mem_of_getElem? (i := 819) (by decide +kernel), List.mem_of_getElem? (i := 820) (by decide +kernel)⟩
theorem lw_p36 : lw_okq (⟨"ChoraleDesk", "allEvents", "()I"⟩, 12) := ⟨⟨by decide +kernel, by decide +kernel⟩, List.mem_of_getElem? (i := 21) (by decide +kernel), List.mem_of_getElem? (i := 823) (by decide +kernel), List.mem_of_getElem? (i := 824) (by decide +kernel)⟩
theorem lw_p37 : lw_okq (⟨"ChoraleDesk", "forgetWhatFollows", "()V"⟩, 12) := ⟨⟨by decide +kernel, by decide +kernel⟩, List.mem_of_getElem? (i := 21) (by decide +kernel), List.mem_of_getElem? (i := 844) (by decide +kernel), List.mem_of_getElem? (i := 845) (by decide +kernel)⟩
theorem lw_p38 : lw_okq (⟨"ChoraleDesk$Part", "writeForInstrument", "(I)V"⟩, 13) := ⟨⟨by decide +kernel, by decide +kernel⟩, List.mem_of_getElem? (i := 30) (by decide +kernel), List.mem_of_getElem? (i := 865) (by decide +kernel), List.mem_of_getElem? (i := 866) (by decide +kernel)⟩
theorem lw_p39 : lw_okq (⟨"ChoraleDesk", "partWith", "(II)LChoraleDesk$Part;"⟩, 12) := ⟨⟨by decide +kernel, by decide +kernel⟩, List.mem_of_getElem? (i := 21) (by decide +kernel), List.mem_of_getElem? (i := 936) (by decide +kernel), List.mem_of_getElem? (i := 937) (by decide +kernel)⟩
theorem lw_p40 : lw_okq (⟨"ChoraleDesk", "measureWith", "(III)LChoraleDesk$Measure;"⟩, 12) := ⟨⟨by decide +kernel, by decide +kernel⟩, List.mem_of_getElem? (i := 21) (by decide +kernel), List.mem_of_getElem? (i := 972) (by decide +kernel), List.mem_of_getElem? (i := 973) (by decide +kernel)⟩
theorem lw_p41 : lw_okq (⟨"ChoraleDesk", "checkMoment", "(I)V"⟩, 12) := ⟨⟨by decide +kernel, by decide +kernel⟩, List.mem_of_getElem? (i := 21) (by decide +kernel), List.mem_of_getElem? (i := 1033) (by decide +kernel), List.mem_of_getElem? (i := 1034) (by decide +kernel)⟩
theorem lw_p42 : lw_okq (⟨"ChoraleDesk", "checkFault", "(I)V"⟩, 12) := ⟨⟨by decide +kernel, by decide +kernel⟩, List.mem_of_getElem? (i := 21) (by decide +kernel), List.mem_of_getElem? (i := 1059) (by decide +kernel), List.mem_of_getElem? (i := 1060) (by decide +kernel)⟩
def lw_privs_3 : List (MethodName × Nat) := [(⟨"ChoraleDesk", "breakLines", "(I)V"⟩, 12), (⟨"ChoraleDesk$LineBreaks", "chooseLine", "(III)V"⟩, 5), (⟨"ChoraleDesk$LineBreaks", "numberLines", "(I)V"⟩, 5), (⟨"ChoraleDesk", "checkRoom", "(LChoraleDesk$Part;I)V"⟩, 12), (⟨"ChoraleDesk", "allEvents", "()I"⟩, 12), (⟨"ChoraleDesk", "forgetWhatFollows", "()V"⟩, 12), (⟨"ChoraleDesk$Part", "writeForInstrument", "(I)V"⟩, 13), (⟨"ChoraleDesk", "partWith", "(II)LChoraleDesk$Part;"⟩, 12), (⟨"ChoraleDesk", "measureWith", "(III)LChoraleDesk$Measure;"⟩, 12), (⟨"ChoraleDesk", "checkMoment", "(I)V"⟩, 12), (⟨"ChoraleDesk", "checkFault", "(I)V"⟩, 12)]
theorem lw_r3 : ∀ q ∈ lw_privs_3, lw_okq q := List.forall_mem_cons.mpr ⟨lw_p32, List.forall_mem_cons.mpr ⟨lw_p33, List.forall_mem_cons.mpr ⟨lw_p34, List.forall_mem_cons.mpr ⟨lw_p35, List.forall_mem_cons.mpr ⟨lw_p36, List.forall_mem_cons.mpr ⟨lw_p37, List.forall_mem_cons.mpr ⟨lw_p38, List.forall_mem_cons.mpr ⟨lw_p39, List.forall_mem_cons.mpr ⟨lw_p40, List.forall_mem_cons.mpr ⟨lw_p41, List.forall_mem_cons.mpr ⟨lw_p42, fun _ h => absurd h List.not_mem_nil⟩⟩⟩⟩⟩⟩⟩⟩⟩⟩⟩
def lw_privs : List (MethodName × Nat) := lw_privs_1 ++ (lw_privs_2 ++ (lw_privs_3))
def lw_tbl : List Cond := k2_sels lw_privs ++ tables_1
theorem lw_privs_ok : ∀ q ∈ lw_privs, lw_okq q := by
  show ∀ q ∈ lw_privs_1 ++ (lw_privs_2 ++ (lw_privs_3)), lw_okq q
  exact List.forall_mem_append.mpr ⟨lw_r1, List.forall_mem_append.mpr ⟨lw_r2, lw_r3⟩⟩
end
section
def RX0 : String := "ChoraleDesk$Calendar"
def TX0 : u_T := fun k => match k with
  | 0 => ("ChoraleDesk$Calendar", "beats", "[I", true)
  | 1 => ("ChoraleDesk$Calendar", "units", "[I", true)
  | 2 => ("ChoraleDesk$Calendar", "lengths", "[I", true)
  | 3 => ("ChoraleDesk$Calendar", "keys", "[I", true)
  | _ => ("ChoraleDesk$Calendar", "end", "I", false)
def tyX0 : Nat → FieldType := fun k => match k with
  | 0 => .array .int
  | 1 => .array .int
  | 2 => .array .int
  | 3 => .array .int
  | _ => .int
abbrev wsX00 : List Cond := u_ws RX0 TX0 5
theorem nmX0 : ∀ a, a < 5 → ∀ b, b < 5 → a ≠ b → (TX0 a).2.1 ≠ (TX0 b).2.1 := by decide +kernel
theorem tyX0_ok : ∀ k, k < 5 → parseFieldDescriptor (TX0 k).2.2.1 = some (tyX0 k) := by decide +kernel
abbrev cX0_init : ByteArray := prog_2_method_1_code
def yX0_init : MethodName := ⟨RX0, "<init>", "()V"⟩
abbrev cX0_isBar : ByteArray := prog_2_method_2_code
def yX0_isBar : MethodName := ⟨RX0, "isBar", "(I)Z"⟩
abbrev cX0_changeMetre : ByteArray := prog_2_method_3_code
def yX0_changeMetre : MethodName := ⟨RX0, "changeMetre", "(III)V"⟩
abbrev cX0_changeKey : ByteArray := prog_2_method_4_code
def yX0_changeKey : MethodName := ⟨RX0, "changeKey", "(II)V"⟩
abbrev cX0_keyAt : ByteArray := prog_2_method_5_code
def yX0_keyAt : MethodName := ⟨RX0, "keyAt", "(I)I"⟩
abbrev cX0_lengthAt : ByteArray := prog_2_method_6_code
def yX0_lengthAt : MethodName := ⟨RX0, "lengthAt", "(I)I"⟩
abbrev cX0_beginAt : ByteArray := prog_2_method_7_code
def yX0_beginAt : MethodName := ⟨RX0, "beginAt", "(I)I"⟩
abbrev cX0_end : ByteArray := prog_2_method_8_code
def yX0_end : MethodName := ⟨RX0, "end", "()I"⟩
abbrev cX0_barAt : ByteArray := prog_2_method_9_code
def yX0_barAt : MethodName := ⟨RX0, "barAt", "(I)I"⟩
abbrev cX0_barsUpTo : ByteArray := prog_2_method_10_code
def yX0_barsUpTo : MethodName := ⟨RX0, "barsUpTo", "(I)I"⟩
abbrev cX0_ticksBehind : ByteArray := prog_2_method_11_code
def yX0_ticksBehind : MethodName := ⟨RX0, "ticksBehind", "(II)I"⟩
abbrev cX0_groupLengthAt : ByteArray := prog_2_method_12_code
def yX0_groupLengthAt : MethodName := ⟨RX0, "groupLengthAt", "(I)I"⟩
def RX1 : String := "ChoraleDesk$Chord"
def TX1 : u_T := fun k => match k with
  | 0 => ("ChoraleDesk$Chord", "root", "I", false)
  | 1 => ("ChoraleDesk$Chord", "kind", "I", false)
  | _ => ("ChoraleDesk$Chord", "lowest", "I", false)
def tyX1 : Nat → FieldType := fun k => match k with
  | 0 => .int
  | 1 => .int
  | _ => .int
abbrev wsX10 : List Cond := u_ws RX1 TX1 3
theorem nmX1 : ∀ a, a < 3 → ∀ b, b < 3 → a ≠ b → (TX1 a).2.1 ≠ (TX1 b).2.1 := by decide +kernel
theorem tyX1_ok : ∀ k, k < 3 → parseFieldDescriptor (TX1 k).2.2.1 = some (tyX1 k) := by decide +kernel
abbrev cX1_init : ByteArray := prog_3_method_1_code
def yX1_init : MethodName := ⟨RX1, "<init>", "()V"⟩
abbrev cX1_rootClass : ByteArray := prog_3_method_2_code
def yX1_rootClass : MethodName := ⟨RX1, "rootClass", "()I"⟩
abbrev cX1_kindNumber : ByteArray := prog_3_method_3_code
def yX1_kindNumber : MethodName := ⟨RX1, "kindNumber", "()I"⟩
abbrev cX1_lowestTone : ByteArray := prog_3_method_4_code
def yX1_lowestTone : MethodName := ⟨RX1, "lowestTone", "()I"⟩
abbrev cX1_tell : ByteArray := prog_3_method_5_code
def yX1_tell : MethodName := ⟨RX1, "tell", "([LChoraleDesk$Part;LChoraleDesk$Harmony;I)V"⟩
abbrev cX1_forget : ByteArray := prog_3_method_6_code
def yX1_forget : MethodName := ⟨RX1, "forget", "()V"⟩
abbrev cX1_findRoot : ByteArray := prog_3_method_7_code
def yX1_findRoot : MethodName := ⟨RX1, "findRoot", "(II)V"⟩
abbrev cX1_findKind : ByteArray := prog_3_method_8_code
def yX1_findKind : MethodName := ⟨RX1, "findKind", "(III)V"⟩
def RX2 : String := "ChoraleDesk$FaultList"
def TX2 : u_T := fun k => match k with
  | 0 => ("ChoraleDesk$FaultList", "kinds", "[I", true)
  | 1 => ("ChoraleDesk$FaultList", "ticks", "[I", true)
  | 2 => ("ChoraleDesk$FaultList", "partCodes", "[I", true)
  | 3 => ("ChoraleDesk$FaultList", "heightsAhead", "[I", true)
  | 4 => ("ChoraleDesk$FaultList", "heightsNow", "[I", true)
  | 5 => ("ChoraleDesk$FaultList", "begins", "[Z", true)
  | 6 => ("ChoraleDesk$FaultList", "ways", "[I", true)
  | _ => ("ChoraleDesk$FaultList", "count", "I", false)
def tyX2 : Nat → FieldType := fun k => match k with
  | 0 => .array .int
  | 1 => .array .int
  | 2 => .array .int
  | 3 => .array .int
  | 4 => .array .int
  | 5 => .array .boolean
  | 6 => .array .int
  | _ => .int
abbrev wsX20 : List Cond := u_ws RX2 TX2 8
theorem nmX2 : ∀ a, a < 8 → ∀ b, b < 8 → a ≠ b → (TX2 a).2.1 ≠ (TX2 b).2.1 := by decide +kernel
theorem tyX2_ok : ∀ k, k < 8 → parseFieldDescriptor (TX2 k).2.2.1 = some (tyX2 k) := by decide +kernel
abbrev cX2_init : ByteArray := prog_4_method_1_code
def yX2_init : MethodName := ⟨RX2, "<init>", "()V"⟩
abbrev cX2_size : ByteArray := prog_4_method_2_code
def yX2_size : MethodName := ⟨RX2, "size", "()I"⟩
abbrev cX2_has : ByteArray := prog_4_method_3_code
def yX2_has : MethodName := ⟨RX2, "has", "(I)Z"⟩
abbrev cX2_kindAt : ByteArray := prog_4_method_4_code
def yX2_kindAt : MethodName := ⟨RX2, "kindAt", "(I)I"⟩
abbrev cX2_tickAt : ByteArray := prog_4_method_5_code
def yX2_tickAt : MethodName := ⟨RX2, "tickAt", "(I)I"⟩
abbrev cX2_partsAt : ByteArray := prog_4_method_6_code
def yX2_partsAt : MethodName := ⟨RX2, "partsAt", "(I)I"⟩
abbrev cX2_search : ByteArray := prog_4_method_7_code
def yX2_search : MethodName := ⟨RX2, "search", "([LChoraleDesk$Part;LChoraleDesk$Harmony;)V"⟩
abbrev cX2_add : ByteArray := prog_4_method_8_code
def yX2_add : MethodName := ⟨RX2, "add", "(III)V"⟩
abbrev cX2_goOn : ByteArray := prog_4_method_9_code
def yX2_goOn : MethodName := ⟨RX2, "goOn", "([LChoraleDesk$Part;LChoraleDesk$Harmony;I)V"⟩
abbrev cX2_searchParallels : ByteArray := prog_4_method_10_code
def yX2_searchParallels : MethodName := ⟨RX2, "searchParallels", "(I)V"⟩
abbrev cX2_searchCrossings : ByteArray := prog_4_method_11_code
def yX2_searchCrossings : MethodName := ⟨RX2, "searchCrossings", "(I)V"⟩
abbrev cX2_searchNote : ByteArray := prog_4_method_12_code
def yX2_searchNote : MethodName := ⟨RX2, "searchNote", "(LChoraleDesk$Part;II)V"⟩
def RX3 : String := "ChoraleDesk$Harmony"
def TX3 : u_T := fun k => match k with
  | 0 => ("ChoraleDesk$Harmony", "ticks", "[I", true)
  | 1 => ("ChoraleDesk$Harmony", "eventsThen", "[I", true)
  | 2 => ("ChoraleDesk$Harmony", "begun", "[I", true)
  | _ => ("ChoraleDesk$Harmony", "count", "I", false)
def tyX3 : Nat → FieldType := fun k => match k with
  | 0 => .array .int
  | 1 => .array .int
  | 2 => .array .int
  | _ => .int
abbrev wsX30 : List Cond := u_ws RX3 TX3 4
theorem nmX3 : ∀ a, a < 4 → ∀ b, b < 4 → a ≠ b → (TX3 a).2.1 ≠ (TX3 b).2.1 := by decide +kernel
theorem tyX3_ok : ∀ k, k < 4 → parseFieldDescriptor (TX3 k).2.2.1 = some (tyX3 k) := by decide +kernel
abbrev cX3_init : ByteArray := prog_5_method_1_code
def yX3_init : MethodName := ⟨RX3, "<init>", "()V"⟩
abbrev cX3_size : ByteArray := prog_5_method_2_code
def yX3_size : MethodName := ⟨RX3, "size", "()I"⟩
abbrev cX3_has : ByteArray := prog_5_method_3_code
def yX3_has : MethodName := ⟨RX3, "has", "(I)Z"⟩
abbrev cX3_tickAt : ByteArray := prog_5_method_4_code
def yX3_tickAt : MethodName := ⟨RX3, "tickAt", "(I)I"⟩
abbrev cX3_eventAt : ByteArray := prog_5_method_5_code
def yX3_eventAt : MethodName := ⟨RX3, "eventAt", "(II)I"⟩
abbrev cX3_listen : ByteArray := prog_5_method_6_code
def yX3_listen : MethodName := ⟨RX3, "listen", "([LChoraleDesk$Part;)V"⟩
abbrev cX3_nextBegin : ByteArray := prog_5_method_7_code
def yX3_nextBegin : MethodName := ⟨RX3, "nextBegin", "([LChoraleDesk$Part;)I"⟩
abbrev cX3_eventGoingOn : ByteArray := prog_5_method_8_code
def yX3_eventGoingOn : MethodName := ⟨RX3, "eventGoingOn", "(LChoraleDesk$Part;II)I"⟩
def RX4 : String := "ChoraleDesk$LineBreaks"
def TX4 : u_T := fun k => match k with
  | 0 => ("ChoraleDesk$LineBreaks", "widths", "[I", true)
  | 1 => ("ChoraleDesk$LineBreaks", "costs", "[I", true)
  | 2 => ("ChoraleDesk$LineBreaks", "nextLines", "[I", true)
  | 3 => ("ChoraleDesk$LineBreaks", "lineNumbers", "[I", true)
  | _ => ("ChoraleDesk$LineBreaks", "lineCount", "I", false)
def tyX4 : Nat → FieldType := fun k => match k with
  | 0 => .array .int
  | 1 => .array .int
  | 2 => .array .int
  | 3 => .array .int
  | _ => .int
abbrev wsX40 : List Cond := u_ws RX4 TX4 5
theorem nmX4 : ∀ a, a < 5 → ∀ b, b < 5 → a ≠ b → (TX4 a).2.1 ≠ (TX4 b).2.1 := by decide +kernel
theorem tyX4_ok : ∀ k, k < 5 → parseFieldDescriptor (TX4 k).2.2.1 = some (tyX4 k) := by decide +kernel
abbrev cX4_init : ByteArray := prog_6_method_1_code
def yX4_init : MethodName := ⟨RX4, "<init>", "()V"⟩
abbrev cX4_size : ByteArray := prog_6_method_2_code
def yX4_size : MethodName := ⟨RX4, "size", "()I"⟩
abbrev cX4_leastCost : ByteArray := prog_6_method_3_code
def yX4_leastCost : MethodName := ⟨RX4, "leastCost", "()I"⟩
abbrev cX4_widthAt : ByteArray := prog_6_method_4_code
def yX4_widthAt : MethodName := ⟨RX4, "widthAt", "(I)I"⟩
abbrev cX4_lineAt : ByteArray := prog_6_method_5_code
def yX4_lineAt : MethodName := ⟨RX4, "lineAt", "(I)I"⟩
abbrev cX4_measureWidths : ByteArray := prog_6_method_6_code
def yX4_measureWidths : MethodName := ⟨RX4, "measureWidths", "(LChoraleDesk$Calendar;LChoraleDesk$Harmony;)V"⟩
abbrev cX4_widthOfGap : ByteArray := prog_6_method_7_code
def yX4_widthOfGap : MethodName := ⟨RX4, "widthOfGap", "(I)I"⟩
abbrev cX4_breakUp : ByteArray := prog_6_method_8_code
def yX4_breakUp : MethodName := ⟨RX4, "breakUp", "(II)V"⟩
abbrev cX4_chooseLine : ByteArray := prog_6_method_9_code
def yX4_chooseLine : MethodName := ⟨RX4, "chooseLine", "(III)V"⟩
abbrev cX4_numberLines : ByteArray := prog_6_method_10_code
def yX4_numberLines : MethodName := ⟨RX4, "numberLines", "(I)V"⟩
def RX5 : String := "ChoraleDesk$Measure"
def TX5 : u_T := fun k => match k with
  | 0 => ("ChoraleDesk$Measure", "signEvents", "[I", true)
  | 1 => ("ChoraleDesk$Measure", "ticks", "[I", true)
  | 2 => ("ChoraleDesk$Measure", "lengths", "[I", true)
  | 3 => ("ChoraleDesk$Measure", "firstOfNote", "[Z", true)
  | 4 => ("ChoraleDesk$Measure", "tied", "[Z", true)
  | 5 => ("ChoraleDesk$Measure", "shownAlters", "[I", true)
  | 6 => ("ChoraleDesk$Measure", "shownAltersAsWritten", "[I", true)
  | 7 => ("ChoraleDesk$Measure", "beamNumbers", "[I", true)
  | 8 => ("ChoraleDesk$Measure", "altersInForce", "[I", true)
  | 9 => ("ChoraleDesk$Measure", "count", "I", false)
  | _ => ("ChoraleDesk$Measure", "beamCount", "I", false)
def tyX5 : Nat → FieldType := fun k => match k with
  | 0 => .array .int
  | 1 => .array .int
  | 2 => .array .int
  | 3 => .array .boolean
  | 4 => .array .boolean
  | 5 => .array .int
  | 6 => .array .int
  | 7 => .array .int
  | 8 => .array .int
  | 9 => .int
  | _ => .int
abbrev wsX50 : List Cond := u_ws RX5 TX5 11
theorem nmX5 : ∀ a, a < 11 → ∀ b, b < 11 → a ≠ b → (TX5 a).2.1 ≠ (TX5 b).2.1 := by decide +kernel
theorem tyX5_ok : ∀ k, k < 11 → parseFieldDescriptor (TX5 k).2.2.1 = some (tyX5 k) := by decide +kernel
abbrev cX5_init : ByteArray := prog_7_method_1_code
def yX5_init : MethodName := ⟨RX5, "<init>", "()V"⟩
abbrev cX5_size : ByteArray := prog_7_method_2_code
def yX5_size : MethodName := ⟨RX5, "size", "()I"⟩
abbrev cX5_beamTotal : ByteArray := prog_7_method_3_code
def yX5_beamTotal : MethodName := ⟨RX5, "beamTotal", "()I"⟩
abbrev cX5_has : ByteArray := prog_7_method_4_code
def yX5_has : MethodName := ⟨RX5, "has", "(I)Z"⟩
abbrev cX5_eventAt : ByteArray := prog_7_method_5_code
def yX5_eventAt : MethodName := ⟨RX5, "eventAt", "(I)I"⟩
abbrev cX5_lengthAt : ByteArray := prog_7_method_6_code
def yX5_lengthAt : MethodName := ⟨RX5, "lengthAt", "(I)I"⟩
abbrev cX5_tiedAt : ByteArray := prog_7_method_7_code
def yX5_tiedAt : MethodName := ⟨RX5, "tiedAt", "(I)Z"⟩
abbrev cX5_shownAt : ByteArray := prog_7_method_8_code
def yX5_shownAt : MethodName := ⟨RX5, "shownAt", "(I)I"⟩
abbrev cX5_shownAsWrittenAt : ByteArray := prog_7_method_9_code
def yX5_shownAsWrittenAt : MethodName := ⟨RX5, "shownAsWrittenAt", "(I)I"⟩
abbrev cX5_beamAt : ByteArray := prog_7_method_10_code
def yX5_beamAt : MethodName := ⟨RX5, "beamAt", "(I)I"⟩
abbrev cX5_write : ByteArray := prog_7_method_11_code
def yX5_write : MethodName := ⟨RX5, "write", "(LChoraleDesk$Part;LChoraleDesk$Calendar;I)V"⟩
abbrev cX5_writeStretch : ByteArray := prog_7_method_12_code
def yX5_writeStretch : MethodName := ⟨RX5, "writeStretch", "(III)V"⟩
abbrev cX5_addSign : ByteArray := prog_7_method_13_code
def yX5_addSign : MethodName := ⟨RX5, "addSign", "(III)V"⟩
abbrev cX5_markSigns : ByteArray := prog_7_method_14_code
def yX5_markSigns : MethodName := ⟨RX5, "markSigns", "(LChoraleDesk$Part;I)V"⟩
abbrev cX5_beamSigns : ByteArray := prog_7_method_15_code
def yX5_beamSigns : MethodName := ⟨RX5, "beamSigns", "(LChoraleDesk$Part;II)V"⟩
abbrev cX5_joinToSignAhead : ByteArray := prog_7_method_16_code
def yX5_joinToSignAhead : MethodName := ⟨RX5, "joinToSignAhead", "(I)V"⟩
abbrev cX5_showAlters : ByteArray := prog_7_method_17_code
def yX5_showAlters : MethodName := ⟨RX5, "showAlters", "(LChoraleDesk$Part;I)V"⟩
abbrev cX5_showAltersAsWritten : ByteArray := prog_7_method_18_code
def yX5_showAltersAsWritten : MethodName := ⟨RX5, "showAltersAsWritten", "(LChoraleDesk$Part;I)V"⟩
abbrev cX5_alterToShow : ByteArray := prog_7_method_19_code
def yX5_alterToShow : MethodName := ⟨RX5, "alterToShow", "(III)I"⟩
def RX6 : String := "ChoraleDesk$Part"
def TX6 : u_T := fun k => match k with
  | 0 => ("ChoraleDesk$Part", "places", "[I", true)
  | 1 => ("ChoraleDesk$Part", "alters", "[I", true)
  | 2 => ("ChoraleDesk$Part", "heights", "[I", true)
  | 3 => ("ChoraleDesk$Part", "begins", "[I", true)
  | 4 => ("ChoraleDesk$Part", "lengths", "[I", true)
  | 5 => ("ChoraleDesk$Part", "writtenPlaces", "[I", true)
  | 6 => ("ChoraleDesk$Part", "writtenAlters", "[I", true)
  | 7 => ("ChoraleDesk$Part", "count", "I", false)
  | 8 => ("ChoraleDesk$Part", "end", "I", false)
  | 9 => ("ChoraleDesk$Part", "lowest", "I", false)
  | 10 => ("ChoraleDesk$Part", "highest", "I", false)
  | 11 => ("ChoraleDesk$Part", "fifths", "I", false)
  | _ => ("ChoraleDesk$Part", "octaves", "I", false)
def tyX6 : Nat → FieldType := fun k => match k with
  | 0 => .array .int
  | 1 => .array .int
  | 2 => .array .int
  | 3 => .array .int
  | 4 => .array .int
  | 5 => .array .int
  | 6 => .array .int
  | 7 => .int
  | 8 => .int
  | 9 => .int
  | 10 => .int
  | 11 => .int
  | _ => .int
abbrev wsX60 : List Cond := u_ws RX6 TX6 13
theorem nmX6 : ∀ a, a < 13 → ∀ b, b < 13 → a ≠ b → (TX6 a).2.1 ≠ (TX6 b).2.1 := by decide +kernel
theorem tyX6_ok : ∀ k, k < 13 → parseFieldDescriptor (TX6 k).2.2.1 = some (tyX6 k) := by decide +kernel
abbrev cX6_init : ByteArray := prog_8_method_1_code
def yX6_init : MethodName := ⟨RX6, "<init>", "()V"⟩
abbrev cX6_size : ByteArray := prog_8_method_2_code
def yX6_size : MethodName := ⟨RX6, "size", "()I"⟩
abbrev cX6_end : ByteArray := prog_8_method_3_code
def yX6_end : MethodName := ⟨RX6, "end", "()I"⟩
abbrev cX6_has : ByteArray := prog_8_method_4_code
def yX6_has : MethodName := ⟨RX6, "has", "(I)Z"⟩
abbrev cX6_append : ByteArray := prog_8_method_5_code
def yX6_append : MethodName := ⟨RX6, "append", "(III)I"⟩
abbrev cX6_removeLast : ByteArray := prog_8_method_6_code
def yX6_removeLast : MethodName := ⟨RX6, "removeLast", "()I"⟩
abbrev cX6_givePitch : ByteArray := prog_8_method_7_code
def yX6_givePitch : MethodName := ⟨RX6, "givePitch", "(III)V"⟩
abbrev cX6_writeForInstrument : ByteArray := prog_8_method_8_code
def yX6_writeForInstrument : MethodName := ⟨RX6, "writeForInstrument", "(I)V"⟩
abbrev cX6_changeRange : ByteArray := prog_8_method_9_code
def yX6_changeRange : MethodName := ⟨RX6, "changeRange", "(II)V"⟩
abbrev cX6_changeShift : ByteArray := prog_8_method_10_code
def yX6_changeShift : MethodName := ⟨RX6, "changeShift", "(II)V"⟩
abbrev cX6_isNote : ByteArray := prog_8_method_11_code
def yX6_isNote : MethodName := ⟨RX6, "isNote", "(I)Z"⟩
abbrev cX6_placeAt : ByteArray := prog_8_method_12_code
def yX6_placeAt : MethodName := ⟨RX6, "placeAt", "(I)I"⟩
abbrev cX6_alterAt : ByteArray := prog_8_method_13_code
def yX6_alterAt : MethodName := ⟨RX6, "alterAt", "(I)I"⟩
abbrev cX6_heightAt : ByteArray := prog_8_method_14_code
def yX6_heightAt : MethodName := ⟨RX6, "heightAt", "(I)I"⟩
abbrev cX6_beginAt : ByteArray := prog_8_method_15_code
def yX6_beginAt : MethodName := ⟨RX6, "beginAt", "(I)I"⟩
abbrev cX6_endAt : ByteArray := prog_8_method_16_code
def yX6_endAt : MethodName := ⟨RX6, "endAt", "(I)I"⟩
abbrev cX6_firstEndingBehind : ByteArray := prog_8_method_17_code
def yX6_firstEndingBehind : MethodName := ⟨RX6, "firstEndingBehind", "(I)I"⟩
abbrev cX6_isOutOfRange : ByteArray := prog_8_method_18_code
def yX6_isOutOfRange : MethodName := ⟨RX6, "isOutOfRange", "(I)Z"⟩
abbrev cX6_writtenPlaceAt : ByteArray := prog_8_method_19_code
def yX6_writtenPlaceAt : MethodName := ⟨RX6, "writtenPlaceAt", "(I)I"⟩
abbrev cX6_writtenAlterAt : ByteArray := prog_8_method_20_code
def yX6_writtenAlterAt : MethodName := ⟨RX6, "writtenAlterAt", "(I)I"⟩
abbrev cX6_keyAsWritten : ByteArray := prog_8_method_21_code
def yX6_keyAsWritten : MethodName := ⟨RX6, "keyAsWritten", "(I)I"⟩
abbrev cX6_notesOutOfRange : ByteArray := prog_8_method_23_code
def yX6_notesOutOfRange : MethodName := ⟨RX6, "notesOutOfRange", "()I"⟩
abbrev cX6_notesWithoutWrittenPitch : ByteArray := prog_8_method_24_code
def yX6_notesWithoutWrittenPitch : MethodName := ⟨RX6, "notesWithoutWrittenPitch", "()I"⟩
def RX7 : String := "ChoraleDesk$Scale"
def TX7 : u_T := fun k => match k with
  | _ => ("", "", "", false)
def tyX7 : Nat → FieldType := fun k => match k with
  | _ => .int
abbrev wsX70 : List Cond := u_ws RX7 TX7 0
theorem nmX7 : ∀ a, a < 0 → ∀ b, b < 0 → a ≠ b → (TX7 a).2.1 ≠ (TX7 b).2.1 := by decide +kernel
theorem tyX7_ok : ∀ k, k < 0 → parseFieldDescriptor (TX7 k).2.2.1 = some (tyX7 k) := by decide +kernel
abbrev cX7_isPitch : ByteArray := prog_9_method_2_code
def yX7_isPitch : MethodName := ⟨RX7, "isPitch", "(II)Z"⟩
abbrev cX7_plainHeight : ByteArray := prog_9_method_3_code
def yX7_plainHeight : MethodName := ⟨RX7, "plainHeight", "(I)I"⟩
abbrev cX7_alterByKey : ByteArray := prog_9_method_4_code
def yX7_alterByKey : MethodName := ⟨RX7, "alterByKey", "(II)I"⟩
def RX8 : String := "ChoraleDesk$Values"
def TX8 : u_T := fun k => match k with
  | _ => ("", "", "", false)
def tyX8 : Nat → FieldType := fun k => match k with
  | _ => .int
abbrev wsX80 : List Cond := u_ws RX8 TX8 0
theorem nmX8 : ∀ a, a < 0 → ∀ b, b < 0 → a ≠ b → (TX8 a).2.1 ≠ (TX8 b).2.1 := by decide +kernel
theorem tyX8_ok : ∀ k, k < 0 → parseFieldDescriptor (TX8 k).2.2.1 = some (tyX8 k) := by decide +kernel
abbrev cX8_isValue : ByteArray := prog_10_method_2_code
def yX8_isValue : MethodName := ⟨RX8, "isValue", "(I)Z"⟩
abbrev cX8_greatestIn : ByteArray := prog_10_method_3_code
def yX8_greatestIn : MethodName := ⟨RX8, "greatestIn", "(I)I"⟩
def RX9 : String := "ChoraleDesk"
def TX9 : u_T := fun k => match k with
  | 0 => ("ChoraleDesk", "parts", "[LChoraleDesk$Part;", true)
  | 1 => ("ChoraleDesk", "calendar", "LChoraleDesk$Calendar;", true)
  | 2 => ("ChoraleDesk", "measure", "LChoraleDesk$Measure;", true)
  | 3 => ("ChoraleDesk", "harmony", "LChoraleDesk$Harmony;", true)
  | 4 => ("ChoraleDesk", "chord", "LChoraleDesk$Chord;", true)
  | 5 => ("ChoraleDesk", "faultList", "LChoraleDesk$FaultList;", true)
  | 6 => ("ChoraleDesk", "breaks", "LChoraleDesk$LineBreaks;", true)
  | 7 => ("ChoraleDesk", "heard", "Z", false)
  | 8 => ("ChoraleDesk", "searched", "Z", false)
  | 9 => ("ChoraleDesk", "widthsKnown", "Z", false)
  | 10 => ("ChoraleDesk", "laidPart", "I", false)
  | _ => ("ChoraleDesk", "laidBar", "I", false)
def tyX9 : Nat → FieldType := fun k => match k with
  | 0 => .array (.object "ChoraleDesk$Part")
  | 1 => .object "ChoraleDesk$Calendar"
  | 2 => .object "ChoraleDesk$Measure"
  | 3 => .object "ChoraleDesk$Harmony"
  | 4 => .object "ChoraleDesk$Chord"
  | 5 => .object "ChoraleDesk$FaultList"
  | 6 => .object "ChoraleDesk$LineBreaks"
  | 7 => .boolean
  | 8 => .boolean
  | 9 => .boolean
  | 10 => .int
  | _ => .int
abbrev wsX90 : List Cond := u_ws RX9 TX9 12
theorem nmX9 : ∀ a, a < 12 → ∀ b, b < 12 → a ≠ b → (TX9 a).2.1 ≠ (TX9 b).2.1 := by decide +kernel
theorem tyX9_ok : ∀ k, k < 12 → parseFieldDescriptor (TX9 k).2.2.1 = some (tyX9 k) := by decide +kernel
abbrev cX9_init : ByteArray := prog_1_method_1_code
def yX9_init : MethodName := ⟨RX9, "<init>", "()V"⟩
abbrev cX9_addNote : ByteArray := prog_1_method_2_code
def yX9_addNote : MethodName := ⟨RX9, "addNote", "(IIII)I"⟩
abbrev cX9_addRest : ByteArray := prog_1_method_3_code
def yX9_addRest : MethodName := ⟨RX9, "addRest", "(II)I"⟩
abbrev cX9_takeLast : ByteArray := prog_1_method_4_code
def yX9_takeLast : MethodName := ⟨RX9, "takeLast", "(I)I"⟩
abbrev cX9_setPitch : ByteArray := prog_1_method_5_code
def yX9_setPitch : MethodName := ⟨RX9, "setPitch", "(IIII)I"⟩
abbrev cX9_setMetre : ByteArray := prog_1_method_6_code
def yX9_setMetre : MethodName := ⟨RX9, "setMetre", "(III)I"⟩
abbrev cX9_setKey : ByteArray := prog_1_method_7_code
def yX9_setKey : MethodName := ⟨RX9, "setKey", "(II)I"⟩
abbrev cX9_setRange : ByteArray := prog_1_method_8_code
def yX9_setRange : MethodName := ⟨RX9, "setRange", "(III)I"⟩
abbrev cX9_setShift : ByteArray := prog_1_method_9_code
def yX9_setShift : MethodName := ⟨RX9, "setShift", "(III)I"⟩
abbrev cX9_events : ByteArray := prog_1_method_10_code
def yX9_events : MethodName := ⟨RX9, "events", "(I)I"⟩
abbrev cX9_heightOf : ByteArray := prog_1_method_12_code
def yX9_heightOf : MethodName := ⟨RX9, "heightOf", "(II)I"⟩
abbrev cX9_writtenPlace : ByteArray := prog_1_method_14_code
def yX9_writtenPlace : MethodName := ⟨RX9, "writtenPlace", "(II)I"⟩
abbrev cX9_writtenAlter : ByteArray := prog_1_method_15_code
def yX9_writtenAlter : MethodName := ⟨RX9, "writtenAlter", "(II)I"⟩
abbrev cX9_beginOfBar : ByteArray := prog_1_method_18_code
def yX9_beginOfBar : MethodName := ⟨RX9, "beginOfBar", "(I)I"⟩
abbrev cX9_lengthOfBar : ByteArray := prog_1_method_19_code
def yX9_lengthOfBar : MethodName := ⟨RX9, "lengthOfBar", "(I)I"⟩
abbrev cX9_signs : ByteArray := prog_1_method_20_code
def yX9_signs : MethodName := ⟨RX9, "signs", "(II)I"⟩
abbrev cX9_eventOf : ByteArray := prog_1_method_21_code
def yX9_eventOf : MethodName := ⟨RX9, "eventOf", "(III)I"⟩
abbrev cX9_lengthOf : ByteArray := prog_1_method_22_code
def yX9_lengthOf : MethodName := ⟨RX9, "lengthOf", "(III)I"⟩
abbrev cX9_isTied : ByteArray := prog_1_method_23_code
def yX9_isTied : MethodName := ⟨RX9, "isTied", "(III)Z"⟩
abbrev cX9_shown : ByteArray := prog_1_method_24_code
def yX9_shown : MethodName := ⟨RX9, "shown", "(III)I"⟩
abbrev cX9_shownWritten : ByteArray := prog_1_method_25_code
def yX9_shownWritten : MethodName := ⟨RX9, "shownWritten", "(III)I"⟩
abbrev cX9_beams : ByteArray := prog_1_method_26_code
def yX9_beams : MethodName := ⟨RX9, "beams", "(II)I"⟩
abbrev cX9_beamOf : ByteArray := prog_1_method_27_code
def yX9_beamOf : MethodName := ⟨RX9, "beamOf", "(III)I"⟩
abbrev cX9_missing : ByteArray := prog_1_method_28_code
def yX9_missing : MethodName := ⟨RX9, "missing", "(II)I"⟩
abbrev cX9_moments : ByteArray := prog_1_method_29_code
def yX9_moments : MethodName := ⟨RX9, "moments", "()I"⟩
abbrev cX9_tickOf : ByteArray := prog_1_method_30_code
def yX9_tickOf : MethodName := ⟨RX9, "tickOf", "(I)I"⟩
abbrev cX9_root : ByteArray := prog_1_method_32_code
def yX9_root : MethodName := ⟨RX9, "root", "(I)I"⟩
abbrev cX9_kind : ByteArray := prog_1_method_33_code
def yX9_kind : MethodName := ⟨RX9, "kind", "(I)I"⟩
abbrev cX9_inversion : ByteArray := prog_1_method_34_code
def yX9_inversion : MethodName := ⟨RX9, "inversion", "(I)I"⟩
abbrev cX9_faults : ByteArray := prog_1_method_35_code
def yX9_faults : MethodName := ⟨RX9, "faults", "()I"⟩
abbrev cX9_kindOfFault : ByteArray := prog_1_method_36_code
def yX9_kindOfFault : MethodName := ⟨RX9, "kindOfFault", "(I)I"⟩
abbrev cX9_tickOfFault : ByteArray := prog_1_method_37_code
def yX9_tickOfFault : MethodName := ⟨RX9, "tickOfFault", "(I)I"⟩
abbrev cX9_partsOfFault : ByteArray := prog_1_method_38_code
def yX9_partsOfFault : MethodName := ⟨RX9, "partsOfFault", "(I)I"⟩
abbrev cX9_bars : ByteArray := prog_1_method_40_code
def yX9_bars : MethodName := ⟨RX9, "bars", "()I"⟩
abbrev cX9_widthOf : ByteArray := prog_1_method_41_code
def yX9_widthOf : MethodName := ⟨RX9, "widthOf", "(I)I"⟩
abbrev cX9_lines : ByteArray := prog_1_method_42_code
def yX9_lines : MethodName := ⟨RX9, "lines", "(I)I"⟩
abbrev cX9_lineOf : ByteArray := prog_1_method_43_code
def yX9_lineOf : MethodName := ⟨RX9, "lineOf", "(II)I"⟩
abbrev cX9_costOf : ByteArray := prog_1_method_44_code
def yX9_costOf : MethodName := ⟨RX9, "costOf", "(I)I"⟩
abbrev cX9_digest : ByteArray := prog_1_method_46_code
def yX9_digest : MethodName := ⟨RX9, "digest", "()J"⟩
abbrev cX9_mix : ByteArray := prog_1_method_47_code
def yX9_mix : MethodName := ⟨RX9, "mix", "(JJ)J"⟩
abbrev cX9_mixPart : ByteArray := prog_1_method_48_code
def yX9_mixPart : MethodName := ⟨RX9, "mixPart", "(JLChoraleDesk$Part;)J"⟩
abbrev cX9_mixBar : ByteArray := prog_1_method_49_code
def yX9_mixBar : MethodName := ⟨RX9, "mixBar", "(JI)J"⟩
abbrev cX9_mixSigns : ByteArray := prog_1_method_50_code
def yX9_mixSigns : MethodName := ⟨RX9, "mixSigns", "(JLChoraleDesk$Measure;)J"⟩
abbrev cX9_mixMoments : ByteArray := prog_1_method_51_code
def yX9_mixMoments : MethodName := ⟨RX9, "mixMoments", "(J)J"⟩
abbrev cX9_mixFaults : ByteArray := prog_1_method_52_code
def yX9_mixFaults : MethodName := ⟨RX9, "mixFaults", "(J)J"⟩
abbrev cX9_mixLines : ByteArray := prog_1_method_53_code
def yX9_mixLines : MethodName := ⟨RX9, "mixLines", "(JI)J"⟩
abbrev cX9_forgetWhatFollows : ByteArray := prog_1_method_54_code
def yX9_forgetWhatFollows : MethodName := ⟨RX9, "forgetWhatFollows", "()V"⟩
abbrev cX9_hear : ByteArray := prog_1_method_55_code
def yX9_hear : MethodName := ⟨RX9, "hear", "()V"⟩
abbrev cX9_searchFaults : ByteArray := prog_1_method_56_code
def yX9_searchFaults : MethodName := ⟨RX9, "searchFaults", "()V"⟩
abbrev cX9_measureWidths : ByteArray := prog_1_method_57_code
def yX9_measureWidths : MethodName := ⟨RX9, "measureWidths", "()V"⟩
abbrev cX9_breakLines : ByteArray := prog_1_method_58_code
def yX9_breakLines : MethodName := ⟨RX9, "breakLines", "(I)V"⟩
abbrev cX9_lastEnd : ByteArray := prog_1_method_59_code
def yX9_lastEnd : MethodName := ⟨RX9, "lastEnd", "()I"⟩
abbrev cX9_allEvents : ByteArray := prog_1_method_60_code
def yX9_allEvents : MethodName := ⟨RX9, "allEvents", "()I"⟩
abbrev cX9_partAt : ByteArray := prog_1_method_61_code
def yX9_partAt : MethodName := ⟨RX9, "partAt", "(I)LChoraleDesk$Part;"⟩
abbrev cX9_partWith : ByteArray := prog_1_method_62_code
def yX9_partWith : MethodName := ⟨RX9, "partWith", "(II)LChoraleDesk$Part;"⟩
abbrev cX9_measureAt : ByteArray := prog_1_method_63_code
def yX9_measureAt : MethodName := ⟨RX9, "measureAt", "(II)LChoraleDesk$Measure;"⟩
abbrev cX9_measureWith : ByteArray := prog_1_method_64_code
def yX9_measureWith : MethodName := ⟨RX9, "measureWith", "(III)LChoraleDesk$Measure;"⟩
abbrev cX9_chordAt : ByteArray := prog_1_method_65_code
def yX9_chordAt : MethodName := ⟨RX9, "chordAt", "(I)LChoraleDesk$Chord;"⟩
abbrev cX9_checkMoment : ByteArray := prog_1_method_66_code
def yX9_checkMoment : MethodName := ⟨RX9, "checkMoment", "(I)V"⟩
abbrev cX9_checkFault : ByteArray := prog_1_method_67_code
def yX9_checkFault : MethodName := ⟨RX9, "checkFault", "(I)V"⟩
abbrev cX9_checkRoom : ByteArray := prog_1_method_68_code
def yX9_checkRoom : MethodName := ⟨RX9, "checkRoom", "(LChoraleDesk$Part;I)V"⟩
abbrev cX9_checkNote : ByteArray := prog_1_method_69_code
def yX9_checkNote : MethodName := ⟨RX9, "checkNote", "(LChoraleDesk$Part;I)V"⟩
abbrev cX9_checkBar : ByteArray := prog_1_method_70_code
def yX9_checkBar : MethodName := ⟨RX9, "checkBar", "(I)V"⟩
abbrev cX9_checkPitch : ByteArray := prog_1_method_71_code
def yX9_checkPitch : MethodName := ⟨RX9, "checkPitch", "(II)V"⟩
abbrev cX9_checkValue : ByteArray := prog_1_method_72_code
def yX9_checkValue : MethodName := ⟨RX9, "checkValue", "(I)V"⟩
abbrev cX9_checkKey : ByteArray := prog_1_method_73_code
def yX9_checkKey : MethodName := ⟨RX9, "checkKey", "(I)V"⟩
abbrev cX9_checkWidth : ByteArray := prog_1_method_74_code
def yX9_checkWidth : MethodName := ⟨RX9, "checkWidth", "(I)V"⟩
def RX10 : String := "ChoraleDeskModel$Part"
def TX10 : u_T := fun k => match k with
  | _ => ("", "", "", false)
def tyX10 : Nat → FieldType := fun k => match k with
  | _ => .int
abbrev wsX100 : List Cond := u_ws RX10 TX10 0
theorem nmX10 : ∀ a, a < 0 → ∀ b, b < 0 → a ≠ b → (TX10 a).2.1 ≠ (TX10 b).2.1 := by decide +kernel
theorem tyX10_ok : ∀ k, k < 0 → parseFieldDescriptor (TX10 k).2.2.1 = some (tyX10 k) := by decide +kernel
def RX11 : String := "ChoraleDeskModel"
def TX11 : u_T := fun k => match k with
  | _ => ("", "", "", false)
def tyX11 : Nat → FieldType := fun k => match k with
  | _ => .int
abbrev wsX110 : List Cond := u_ws RX11 TX11 0
theorem nmX11 : ∀ a, a < 0 → ∀ b, b < 0 → a ≠ b → (TX11 a).2.1 ≠ (TX11 b).2.1 := by decide +kernel
theorem tyX11_ok : ∀ k, k < 0 → parseFieldDescriptor (TX11 k).2.2.1 = some (tyX11 k) := by decide +kernel
def RJx145de : String := "java/io/Serializable"
def RJ6 : String := "java/lang/Integer"
abbrev cJ6_compare_7cf53 : ByteArray := prog_18_method_40_code
def yJ6_compare_7cf53 : MethodName := ⟨RJ6, "compare", "(II)I"⟩
abbrev cJ6_bitCount_0f7a4 : ByteArray := prog_18_method_49_code
def yJ6_bitCount_0f7a4 : MethodName := ⟨RJ6, "bitCount", "(I)I"⟩
def RJ9 : String := "java/lang/Math"
abbrev cJ9_floorDiv_7cf53 : ByteArray := prog_19_method_47_code
def yJ9_floorDiv_7cf53 : MethodName := ⟨RJ9, "floorDiv", "(II)I"⟩
abbrev cJ9_floorMod_7cf53 : ByteArray := prog_19_method_50_code
def yJ9_floorMod_7cf53 : MethodName := ⟨RJ9, "floorMod", "(II)I"⟩
abbrev cJ9_abs_0f7a4 : ByteArray := prog_19_method_59_code
def yJ9_abs_0f7a4 : MethodName := ⟨RJ9, "abs", "(I)I"⟩
abbrev cJ9_max_7cf53 : ByteArray := prog_19_method_65_code
def yJ9_max_7cf53 : MethodName := ⟨RJ9, "max", "(II)I"⟩
abbrev cJ9_min_7cf53 : ByteArray := prog_19_method_69_code
def yJ9_min_7cf53 : MethodName := ⟨RJ9, "min", "(II)I"⟩
def RJ0 : String := "java/lang/String"
def RJ7 : String := "java/util/Arrays"
abbrev cJ7_fill_53178 : ByteArray := prog_23_method_103_code
def yJ7_fill_53178 : MethodName := ⟨RJ7, "fill", "([II)V"⟩
def RL : String := "ChoraleDeskLaw"
abbrev cL_below : ByteArray := method_2_code
def yL_below : MethodName := ⟨RL, "below", "(II)I"⟩
abbrev cL_cell : ByteArray := method_3_code
def yL_cell : MethodName := ⟨RL, "cell", "([II)I"⟩
abbrev cL_law : ByteArray := code
def yL_law : MethodName := ⟨RL, "law", "([I)Z"⟩
abbrev cL_act : ByteArray := method_5_code
def yL_act : MethodName := ⟨RL, "act", "(LChoraleDesk;I)V"⟩
abbrev cL_isBarSound : ByteArray := method_6_code
def yL_isBarSound : MethodName := ⟨RL, "isBarSound", "(LChoraleDesk;II)Z"⟩
abbrev cL_areMomentsSound : ByteArray := method_7_code
def yL_areMomentsSound : MethodName := ⟨RL, "areMomentsSound", "(LChoraleDesk;)Z"⟩
abbrev cL_areLinesSound : ByteArray := method_8_code
def yL_areLinesSound : MethodName := ⟨RL, "areLinesSound", "(LChoraleDesk;I)Z"⟩
abbrev vwCl : List vw_C := [(RX0, TX0, 5), (RX1, TX1, 3), (RX2, TX2, 8), (RX3, TX3, 4), (RX4, TX4, 5), (RX5, TX5, 11), (RX6, TX6, 13), (RX9, TX9, 12)]
end
section
/-! ===== my own judgement J: a frame of a method over a picture of the heap ===== -/
abbrev jH : Type := Nat → Option va_E
def hset (h : jH) (a : Nat) (e : va_E) : jH := fun q => if q = a then some e else h q
theorem hset_s (h : jH) (a : Nat) (e : va_E) : hset h a e a = some e := by simp [hset]
theorem hset_n {h : jH} {a b : Nat} {e : va_E} (hne : b ≠ a) : hset h a e b = h b := by simp [hset, hne]
/-- the surroundings: classes' ids and slots; array classes (int, boolean, int once more, part); the first own cell; the static arrays' cells; the texts' cells; the script: its cell, its length, its numbers -/
abbrev jG : Type := va_G × (Nat → ClassId) × Nat × (Nat → Nat) × (Nat → Nat) × Nat × Nat × (Nat → Int32)
def jT (G : jG) : List (ClassId × FieldType) := [(G.2.1 0, .int), (G.2.1 1, .boolean), (G.2.1 2, .int), (G.2.1 3, .object RX6)]
def jB (G : jG) : Nat → Prop := fun q => G.2.2.1 ≤ q
def jR (G : jG) (h : jH) (H : Heap) : Prop := ∀ (a : Nat) (e : va_E), h a = some e → jB G a ∧ va_at G.1 vwCl (a, e) H
theorem jR.set {G : jG} {h : jH} {H H1 : Heap} {a : Nat} {e0 e : va_E} (hR : jR G h H) (h0 : h a = some e0) (he : va_at G.1 vwCl (a, e) H1) (oq : ∀ q : Nat, q ≠ a → H1[q]? = H[q]?) : jR G (hset h a e) H1 := by
  intro b e' hb
  by_cases hab : b = a
  · subst hab
    rw [hset_s] at hb
    cases hb
    exact ⟨(hR b e0 h0).1, he⟩
  · rw [hset_n hab] at hb
    exact ⟨(hR b e' hb).1, (hR b e' hb).2.kept (oq b hab)⟩
theorem jR.new {G : jG} {h : jH} {H H1 : Heap} {e : va_E} (hR : jR G h H) (hB : jB G H.size) (he : va_at G.1 vwCl (H.size, e) H1) (oq : ∀ q : Nat, q < H.size → H1[q]? = H[q]?) : jR G (hset h H.size e) H1 := by
  intro b e' hb
  by_cases hab : b = H.size
  · subst hab
    rw [hset_s] at hb
    cases hb
    exact ⟨hB, he⟩
  · rw [hset_n hab] at hb
    exact ⟨(hR b e' hb).1, (hR b e' hb).2.kept (oq b (hR b e' hb).2.lt)⟩
theorem jR.none {G : jG} {h : jH} {H : Heap} (hR : jR G h H) : h H.size = none := by
  cases he : h H.size with
  | none => rfl
  | some e => exact absurd (hR _ _ he).2.lt (Nat.lt_irrefl _)
/-- the static arrays: class, name, length, contents -/
def jIs (l : List Int32) : Nat → Int32 := fun k => l.getD k 0
def jSt : List (String × String × Nat × List Int32) := [
  (RX7, "HEIGHTS", 7, [0, 2, 4, 5, 7, 9, 11]), (RX7, "TURNS_AS_SHARP", 7, [1, 3, 5, 0, 2, 4, 6]), (RX8, "FALLING", 10, [96, 64, 48, 32, 24, 16, 12, 8, 6, 4]),
  (RX1, "SECOND_TONES", 4, [4, 3, 3, 4]), (RX1, "THIRD_TONES", 4, [7, 7, 6, 8])]
def jSb (G : jG) : Nat := G.2.2.2.2.2.1
def jSn (G : jG) : Nat := G.2.2.2.2.2.2.1
def jSx (G : jG) : Nat → Int32 := G.2.2.2.2.2.2.2
def jSa (G : jG) (k : Nat) : Nat := G.2.2.2.1 k
/-- the words that every method has at hand -/
def WT : List Cond := lw_tbl.filter goodWord
theorem WT_pay {args : Array Value} {s : State} (h : ∀ w ∈ WT, w.before args s = true) : ∀ w ∈ WT, ∀ (a' : Array Value) (U : State), s.WarmedH U.vm → w.before a' U = true :=
  fun w hw a' _ hW => word_at hW (good_of_word (List.mem_filter.mp hw).2) (h w hw)
/-- the texts that are thrown: the entry of ChoraleDesk's file, the text -/
def jTx : List (Nat × String) := [(355, "no such part"), (391, "no such bar"), (397, "no such pitch"), (404, "no such value"), (384, "it would end behind the end of the last bar"), (104, "the part has no event"), (361, "no such event"), (389, "the event is a rest"), (132, "no such metre"), (406, "no such key"), (150, "no such range"), (158, "no such shift"), (368, "no such sign"), (368, "no such sign"), (375, "no such moment"), (378, "no such fault"), (408, "no such width")]
/-- words that are handed on by laws of their own -/
def jNg : List Cond := [
  (Cond.arrayOver (FieldType.object "ChoraleDesk$Part")),
  (Cond.castable "java/lang/IndexOutOfBoundsException" "java/lang/IndexOutOfBoundsException"),
  (Cond.declares ({ cls := "java/lang/RuntimeException", name := "<init>", desc := "()V" } : MethodName)),
  (Cond.declares ({ cls := "java/lang/RuntimeException", name := "<init>", desc := "(Ljava/lang/String;)V" } : MethodName)),
  (Cond.declares ({ cls := "java/lang/Exception", name := "<init>", desc := "()V" } : MethodName)),
  (Cond.declares ({ cls := "java/lang/Exception", name := "<init>", desc := "(Ljava/lang/String;)V" } : MethodName)),
  (Cond.declares ({ cls := "java/lang/Throwable", name := "<init>", desc := "()V" } : MethodName)),
  (Cond.declares ({ cls := "java/lang/Throwable", name := "<init>", desc := "(Ljava/lang/String;)V" } : MethodName)),
  (Cond.castable "java/lang/IllegalArgumentException" "java/lang/IllegalArgumentException"),
  (Cond.castable "java/lang/IllegalStateException" "java/lang/IllegalStateException")]
theorem jNg_warm {s U : State} (hW : s.WarmedH U.vm) : ∀ w ∈ jNg, va_Nw w s → va_Nw w U := by
  refine List.forall_mem_cons.mpr ⟨fun h => va_AO.moved hW.alike h, List.forall_mem_cons.mpr ⟨fun h => va_Nw.warmC hW h, List.forall_mem_cons.mpr ⟨fun h => va_Nw.warmD hW h, List.forall_mem_cons.mpr ⟨fun h => va_Nw.warmD hW h, List.forall_mem_cons.mpr ⟨fun h => va_Nw.warmD hW h, List.forall_mem_cons.mpr ⟨fun h => va_Nw.warmD hW h, List.forall_mem_cons.mpr ⟨fun h => va_Nw.warmD hW h, List.forall_mem_cons.mpr ⟨fun h => va_Nw.warmD hW h, List.forall_mem_cons.mpr ⟨fun h => va_Nw.warmC hW h, List.forall_mem_cons.mpr ⟨fun h => va_Nw.warmC hW h, fun _ h => absurd h List.not_mem_nil⟩⟩⟩⟩⟩⟩⟩⟩⟩⟩
def jNc : List (String × String) := [("java/lang/IllegalArgumentException", "java/lang/IndexOutOfBoundsException"), ("java/lang/IllegalStateException", "java/lang/IndexOutOfBoundsException"), ("java/lang/IndexOutOfBoundsException", "java/lang/IllegalStateException"), ("java/lang/IllegalArgumentException", "java/lang/IllegalStateException")]
/-- what is known of the surroundings at a state -/
def jK (G : jG) (U : State) (H : Heap) : Prop :=
  va_K G.1 vwCl (jT G) U ∧
  (∀ (k : Nat) (q : String × String × Nat × List Int32), jSt[k]? = some q → va_Z q.1 q.2.1 "[I" (.ref (jSa G k)) (jB G) U H ∧ va_T .int (jSa G k) q.2.2.1 (fun j => .int (jIs q.2.2.2 j)) (jB G) U H) ∧
  (∀ (k : Nat) (q : Nat × String), jTx[k]? = some q → vk_R RX9 q.1 q.2 (G.2.2.2.2.1 k) U) ∧
  (vx_Zq Bundle.tN "UNASSIGNED_STACK" Bundle.steD (jB G) U H ∧ vx_Zq Bundle.tN "SUPPRESSED_SENTINEL" Bundle.listD (jB G) U H) ∧
  G.2.2.1 ≤ H.size ∧ (∀ w ∈ jNg, va_Nw w U) ∧ (∀ q ∈ jNc, va_Nc q.1 q.2 U) ∧ va_T .int (jSb G) (jSn G) (fun j => .int (jSx G j)) (jB G) U H
theorem jK.moved {G : jG} {s U : State} {H H1 : Heap} (h : jK G s H) (hW : s.WarmedH U.vm) (hz : H.size ≤ H1.size) (hq : ∀ a : Nat, a < H.size → ¬ jB G a → H1[a]? = H[a]?) : jK G U H1 := by
  obtain ⟨h1, h2, h3, ⟨h4, h5⟩, h6, h7, h8, h9⟩ := h
  exact ⟨va_K.moved hW.alike h1, fun k q hk => ⟨va_Z.moved hW.alike ((h2 k q hk).1.kept hq), va_T.moved hW.alike ((h2 k q hk).2.kept hq)⟩, fun k q hk => vk_R.warm hW (h3 k q hk),
    ⟨vx_Zq.moved hW.alike (h4.kept hq), vx_Zq.moved hW.alike (h5.kept hq)⟩, Nat.le_trans h6 hz, fun w hw => jNg_warm hW w hw (h7 w hw), fun q hq => va_Nc.moved hW.alike (h8 q hq), va_T.moved hW.alike (h9.kept hq)⟩
/-- a method: its class, code, locals, return type, table, name, room -/
abbrev jM : Type := String × ByteArray × Nat × Option FieldType × List (Nat × Nat × Nat × Nat) × String × Room
abbrev jM.own (M : jM) : String := M.1
abbrev jM.cc (M : jM) : ByteArray := M.2.1
abbrev jM.nL (M : jM) : Nat := M.2.2.1
abbrev jM.ret (M : jM) : Option FieldType := M.2.2.2.1
abbrev jM.hh (M : jM) : List (Nat × Nat × Nat × Nat) := M.2.2.2.2.1
abbrev jM.nm (M : jM) : String := M.2.2.2.2.2.1
abbrev jM.room (M : jM) : Room := M.2.2.2.2.2.2
def jStd (G : jG) (M : jM) (p : Program) (s : State) (m : MethodId) (args : Array Value) (meth : Method) (c : Code) : Prop :=
  p.tables.exec = Jvm.exec ∧ c.code = M.cc ∧ c.maxLocals = M.nL ∧ meth.sig.returnType = M.ret ∧ c.exceptionTable.toList = tableOf M.hh ∧ meth.name = M.nm ∧ meth.locks = false ∧
  s.vm.findClass M.own = some m.cls ∧ (∀ w ∈ WT, w.before args s = true) ∧ jK G s s.heap
abbrev jF : Type := List Frame → Array Value → State → State → Prop
/-- from here on (pc, locals L, stack st, heap's picture h; at most ck cells of sk slots may still come) the frame comes to its end QF -/
def J (l : Launch) (G : jG) (M : jM) (QF : jF) (ck sk pc : Nat) (L : List (Nat × Value)) (st : List Value) (h : jH) : Prop :=
  ∀ (p : Program) (e : Env) (s : State) (m : MethodId) (args : Array Value) (below : List Frame) (meth : Method) (c : Code) (H : Heap) (locs : List Loc) (cells slots : Nat) (ls : Array Slot),
    jStd G M p s m args meth c → jR G h H → va_S (jB G) s.heap H locs → lv_has ls M.nL L → cells + ck ≤ M.room.cells → slots + sk ≤ M.room.slots →
    W p l e M.room s m args below meth c H locs cells slots (QF below args s) (F0 m pc ls st)
/-- how a call ended: the value, or the class of what was thrown -/
abbrev jO : Type := Option Value ⊕ String
def jQc (G : jG) (Post : jO → jH → Prop) : Array Value → State → Outcome → State → Prop := fun _ st o t => ∃ (v : Option Value) (h' : jH), o = .returned v ∧ Post (.inl v) h' ∧ jR G h' t.heap ∧ va_F (jB G) st t
def jXC (G : jG) (Post : jO → jH → Prop) : String → State → State → Prop := fun E st t => ∃ h' : jH, Post (.inr E) h' ∧ jR G h' t.heap ∧ va_F (jB G) st t
def jPc (G : jG) (av : List Value) (h : jH) : Array Value → State → Prop := fun v U => v = av.toArray ∧ jR G h U.heap ∧ jK G U U.heap
def jQ (G : jG) (M : jM) (Post : jO → jH → Prop) : jF := fun below args s => vx_MQ below (jQc G Post) (jXC G Post) args s M.room.cells M.room.slots (jB G)
def jws (y : MethodName) (M : jM) : List Cond := (match M.hh with
  | [] => Cond.code y M.cc M.nL M.ret
  | hh => Cond.codeWith y M.cc M.nL M.ret hh) :: WT
/-- **THE CONTRACT**: method y (M), called with av over h, ends so that Post holds -/
def jC (l : Launch) (G : jG) (y : MethodName) (M : jM) (av : List Value) (h : jH) (Post : jO → jH → Prop) : Prop :=
  vx_Met l y (jws y M) M.room (jPc G av h) (jQc G Post) (jXC G Post) M.room.cells M.room.slots (jB G)
theorem jPc.blind {G : jG} {av : List Value} {h : jH} : FrameBlind (jPc G av h) := fun _ U _ _ q =>
  ⟨q.1, q.2.1, jK.moved q.2.2 (State.WarmedH.refl U) (Nat.le_refl _) (fun _ _ _ => rfl)⟩
theorem table_nil : tableOf [] = [] := rfl
theorem jstd_of {l : Launch} {G : jG} {y : MethodName} {M : jM} {p : Program} {e : Env} {s s₁ : State} {m : MethodId} {args : Array Value} {below : List Frame} {meth : Method} {c : Code} (B : BodyLoose p l y (headSpec (jws y M) M.room) M.cc M.nL M.ret e s m args below meth c s₁) (hml : c.maxLocals = M.nL) (ht : c.exceptionTable.toList = tableOf M.hh) (hy : y.cls = M.own) (hn : y.name = M.nm) (hk : jK G s s.heap) : jStd G M p s m args meth c := by
  have hts := atoms_spec (ws := jws y M) B.pre
  refine ⟨B.exec, B.bytes, hml, B.returns, ht, ?_, B.notSynchronized, ?_, fun w hw => hts w (List.mem_cons_of_mem _ hw), hk⟩
  · rw [← hn]; exact (name_of_methodNamed B.named B.method).1
  · rw [← hy]; exact findClass_of_methodNamed B.named
/-- a body gives its contract -/
theorem j_body {l : Launch} {G : jG} {y : MethodName} {M : jM} {av : List Value} {h : jH} {Post : jO → jH → Prop} (hy : plainName y.cls = true) (ho : y.cls = M.own ∧ y.name = M.nm) (hl : Nat.ble (lg_sl av).length M.nL = true)
    (k : J l G M (jQ G M Post) M.room.cells M.room.slots 0 (lv_args 0 av) [] h) : jC l G y M av h Post := by
  obtain ⟨own, cc, nL, ret, hh, nm, room⟩ := M
  cases hh with
  | nil =>
    refine vx_ofW (cc := cc) (maxL := nL) (ret := ret) hy rfl ?_
    intro p e s m args below meth c s₁ B hml ht hv
    obtain ⟨rfl, hR, hK⟩ := hv
    have ht2 : c.exceptionTable.toList = tableOf [] := by
      rw [table_nil]
      exact List.eq_nil_iff_forall_not_mem.mpr (fun x hx => ht x hx)
    rw [lg_entry_eq]
    exact k p e s m _ below meth c s.heap [] 0 0 _ (jstd_of (M := (own, cc, nL, ret, [], nm, room)) B hml ht2 ho.1 ho.2 hK) hR va_S.rf (lv_entry av (Nat.le_of_ble_eq_true hl)) (by simp) (by simp)
  | cons a hh =>
    refine vx_ofWH (cc := cc) (maxL := nL) (ret := ret) (hh := a :: hh) hy rfl ?_
    intro p e s m args below meth c s₁ B hml hv
    obtain ⟨rfl, hR, hK⟩ := hv
    have hts := atoms_spec (ws := jws y (own, cc, nL, ret, a :: hh, nm, room)) B.pre
    have ht2 : c.exceptionTable.toList = tableOf (a :: hh) := vx_table (x := y) B (hts _ List.mem_cons_self)
    rw [lg_entry_eq]
    exact k p e s m _ below meth c s.heap [] 0 0 _ (jstd_of (M := (own, cc, nL, ret, a :: hh, nm, room)) B hml ht2 ho.1 ho.2 hK) hR va_S.rf (lv_entry av (Nat.le_of_ble_eq_true hl)) (by simp) (by simp)
theorem jC.imp {l : Launch} {G : jG} {y : MethodName} {M : jM} {av : List Value} {h : jH} {Post Post' : jO → jH → Prop} (k : jC l G y M av h Post) (hp : ∀ r h', Post r h' → Post' r h') : jC l G y M av h Post' := by
  refine MetFree.mono k (fun _ _ h => h) (fun _ _ _ _ _ h => h) ?_
  intro a s o t _ hq
  rcases hq with ⟨⟨v, h', e1, e2, e3⟩, e4⟩ | ⟨q, e1, E, ce, L, ⟨h', e2, e3⟩, e4⟩
  · exact Or.inl ⟨⟨v, h', e1, hp _ _ e2, e3⟩, e4⟩
  · exact Or.inr ⟨q, e1, E, ce, L, ⟨h', hp _ _ e2, e3⟩, e4⟩
/-- what returns only is a contract of the kit's plain kind -/
theorem jC.met {l : Launch} {G : jG} {y : MethodName} {M : jM} {av : List Value} {h : jH} {Post : jO → jH → Prop} (k : jC l G y M av h Post) (hp : ∀ E h', ¬ Post (.inr E) h') : Met l y (jws y M) M.room (jPc G av h) (jQc G Post) M.room.cells M.room.slots (jB G) := by
  refine MetFree.mono k (fun _ _ h => h) (fun _ _ _ _ _ h => h) ?_
  intro a s o t _ hq
  rcases hq with ⟨e3, e4⟩ | ⟨q, e1, E, ce, L, ⟨h', e2, e3⟩, e4⟩
  · exact ⟨e3, e4⟩
  · exact absurd e2 (hp _ _)
end
section
section JR
variable {l : Launch} {G : jG} {M : jM} {QF : jF} {ck sk pc : Nat} {L L' : List (Nat × Value)} {st : List Value} {h : jH}
theorem j_iadd {x y : Int32} (hd : decode M.cc pc = .ok (.iadd, 1)) (k : J l G M QF ck sk (pc + 1) L (.int (x + y) :: st) h) : J l G M QF ck sk pc L (.int y :: .int x :: st) h := by
  intro p e s m args below meth c H locs cells slots ls S hR hS hl hc hs
  exact lv_iadd S.1 S.2.1 hd (k p e s m args below meth c H locs cells slots ls S hR hS hl hc hs)
theorem j_isub {x y : Int32} (hd : decode M.cc pc = .ok (.isub, 1)) (k : J l G M QF ck sk (pc + 1) L (.int (x - y) :: st) h) : J l G M QF ck sk pc L (.int y :: .int x :: st) h := by
  intro p e s m args below meth c H locs cells slots ls S hR hS hl hc hs
  exact lv_isub S.1 S.2.1 hd (k p e s m args below meth c H locs cells slots ls S hR hS hl hc hs)
theorem j_imul {x y : Int32} (hd : decode M.cc pc = .ok (.imul, 1)) (k : J l G M QF ck sk (pc + 1) L (.int (x * y) :: st) h) : J l G M QF ck sk pc L (.int y :: .int x :: st) h := by
  intro p e s m args below meth c H locs cells slots ls S hR hS hl hc hs
  exact lv_imul S.1 S.2.1 hd (k p e s m args below meth c H locs cells slots ls S hR hS hl hc hs)
theorem j_iand {x y : Int32} (hd : decode M.cc pc = .ok (.iand, 1)) (k : J l G M QF ck sk (pc + 1) L (.int (x &&& y) :: st) h) : J l G M QF ck sk pc L (.int y :: .int x :: st) h := by
  intro p e s m args below meth c H locs cells slots ls S hR hS hl hc hs
  exact lv_iand S.1 S.2.1 hd (k p e s m args below meth c H locs cells slots ls S hR hS hl hc hs)
theorem j_ior {x y : Int32} (hd : decode M.cc pc = .ok (.ior, 1)) (k : J l G M QF ck sk (pc + 1) L (.int (x ||| y) :: st) h) : J l G M QF ck sk pc L (.int y :: .int x :: st) h := by
  intro p e s m args below meth c H locs cells slots ls S hR hS hl hc hs
  exact lv_ior S.1 S.2.1 hd (k p e s m args below meth c H locs cells slots ls S hR hS hl hc hs)
theorem j_ishl {x y : Int32} (hd : decode M.cc pc = .ok (.ishl, 1)) (k : J l G M QF ck sk (pc + 1) L (.int (x <<< (y &&& 31)) :: st) h) : J l G M QF ck sk pc L (.int y :: .int x :: st) h := by
  intro p e s m args below meth c H locs cells slots ls S hR hS hl hc hs
  exact lv_ishl S.1 S.2.1 hd (k p e s m args below meth c H locs cells slots ls S hR hS hl hc hs)
theorem j_ishr {x y : Int32} (hd : decode M.cc pc = .ok (.ishr, 1)) (k : J l G M QF ck sk (pc + 1) L (.int (x >>> (y &&& 31)) :: st) h) : J l G M QF ck sk pc L (.int y :: .int x :: st) h := by
  intro p e s m args below meth c H locs cells slots ls S hR hS hl hc hs
  exact lv_ishr S.1 S.2.1 hd (k p e s m args below meth c H locs cells slots ls S hR hS hl hc hs)
theorem j_iushr {x y : Int32} (hd : decode M.cc pc = .ok (.iushr, 1)) (k : J l G M QF ck sk (pc + 1) L (.int (x.toUInt32 >>> (y.toUInt32 &&& Int32.toUInt32 31)).toInt32 :: st) h) : J l G M QF ck sk pc L (.int y :: .int x :: st) h := by
  intro p e s m args below meth c H locs cells slots ls S hR hS hl hc hs
  exact lv_iushr S.1 S.2.1 hd rfl (k p e s m args below meth c H locs cells slots ls S hR hS hl hc hs)
theorem j_idiv {x y : Int32} (hd : decode M.cc pc = .ok (.idiv, 1)) (hne : ¬ y = 0) (k : J l G M QF ck sk (pc + 1) L (.int (x / y) :: st) h) : J l G M QF ck sk pc L (.int y :: .int x :: st) h := by
  intro p e s m args below meth c H locs cells slots ls S hR hS hl hc hs
  exact lv_idiv S.1 S.2.1 hd hne (k p e s m args below meth c H locs cells slots ls S hR hS hl hc hs)
theorem j_irem {x y : Int32} (hd : decode M.cc pc = .ok (.irem, 1)) (hne : ¬ y = 0) (k : J l G M QF ck sk (pc + 1) L (.int (x - x / y * y) :: st) h) : J l G M QF ck sk pc L (.int y :: .int x :: st) h := by
  intro p e s m args below meth c H locs cells slots ls S hR hS hl hc hs
  exact lv_irem S.1 S.2.1 hd hne (k p e s m args below meth c H locs cells slots ls S hR hS hl hc hs)
theorem j_ineg {x : Int32} (hd : decode M.cc pc = .ok (.ineg, 1)) (k : J l G M QF ck sk (pc + 1) L (.int (-x) :: st) h) : J l G M QF ck sk pc L (.int x :: st) h := by
  intro p e s m args below meth c H locs cells slots ls S hR hS hl hc hs
  exact lv_ineg S.1 S.2.1 hd (k p e s m args below meth c H locs cells slots ls S hR hS hl hc hs)
theorem j_ladd {x y : Int64} (hd : decode M.cc pc = .ok (.ladd, 1)) (k : J l G M QF ck sk (pc + 1) L (.long (x + y) :: st) h) : J l G M QF ck sk pc L (.long y :: .long x :: st) h := by
  intro p e s m args below meth c H locs cells slots ls S hR hS hl hc hs
  exact lv_ladd S.1 S.2.1 hd (k p e s m args below meth c H locs cells slots ls S hR hS hl hc hs)
theorem j_lmul {x y : Int64} (hd : decode M.cc pc = .ok (.lmul, 1)) (k : J l G M QF ck sk (pc + 1) L (.long (x * y) :: st) h) : J l G M QF ck sk pc L (.long y :: .long x :: st) h := by
  intro p e s m args below meth c H locs cells slots ls S hR hS hl hc hs
  exact lv_lmul S.1 S.2.1 hd (k p e s m args below meth c H locs cells slots ls S hR hS hl hc hs)
theorem j_i2l {x : Int32} (hd : decode M.cc pc = .ok (.i2l, 1)) (k : J l G M QF ck sk (pc + 1) L (.long x.toInt64 :: st) h) : J l G M QF ck sk pc L (.int x :: st) h := by
  intro p e s m args below meth c H locs cells slots ls S hR hS hl hc hs
  exact lv_i2l S.1 S.2.1 hd rfl (k p e s m args below meth c H locs cells slots ls S hR hS hl hc hs)
theorem j_i2d {x : Int32} (hd : decode M.cc pc = .ok (.i2d, 1)) (k : J l G M QF ck sk (pc + 1) L (.double (FP.i2d x) :: st) h) : J l G M QF ck sk pc L (.int x :: st) h := by
  intro p e s m args below meth c H locs cells slots ls S hR hS hl hc hs
  exact lv_i2d S.1 S.2.1 hd (k p e s m args below meth c H locs cells slots ls S hR hS hl hc hs)
theorem j_lcmp {x y : Int64} (hd : decode M.cc pc = .ok (.lcmp, 1)) (k : J l G M QF ck sk (pc + 1) L (.int (lg_cmp x y) :: st) h) : J l G M QF ck sk pc L (.long y :: .long x :: st) h := by
  intro p e s m args below meth c H locs cells slots ls S hR hS hl hc hs
  exact W.lcmp S.1 S.2.1 hd (k p e s m args below meth c H locs cells slots ls S hR hS hl hc hs)
theorem j_dcmp {x y : UInt64} {op : CmpOp} (hd : decode M.cc pc = .ok (.dcmp op, 1)) (k : J l G M QF ck sk (pc + 1) L (.int (Op.cmpValue (FP.dcmp x y) op) :: st) h) : J l G M QF ck sk pc L (.double y :: .double x :: st) h := by
  intro p e s m args below meth c H locs cells slots ls S hR hS hl hc hs
  exact lv_dcmp S.1 S.2.1 hd (k p e s m args below meth c H locs cells slots ls S hR hS hl hc hs)
theorem j_ddiv {x y : UInt64} (hd : decode M.cc pc = .ok (.ddiv, 1)) (hne : vf_n64 (FP.ddiv x y)) (k : J l G M QF ck sk (pc + 1) L (.double (FP.ddiv x y) :: st) h) : J l G M QF ck sk pc L (.double y :: .double x :: st) h := by
  intro p e s m args below meth c H locs cells slots ls S hR hS hl hc hs
  exact lv_ddiv S.1 S.2.1 hd hne (k p e s m args below meth c H locs cells slots ls S hR hS hl hc hs)
theorem j_iconst {n : Int} (v : Int32) (hd : decode M.cc pc = .ok (.iconst n, 1)) (hv : Int32.ofInt n = v) (k : J l G M QF ck sk (pc + 1) L (.int v :: st) h) : J l G M QF ck sk pc L (st) h := by
  intro p e s m args below meth c H locs cells slots ls S hR hS hl hc hs
  exact lv_iconst S.1 S.2.1 hd hv (k p e s m args below meth c H locs cells slots ls S hR hS hl hc hs)
theorem j_bipush {n : Int} (v : Int32) (hd : decode M.cc pc = .ok (.bipush n, 2)) (hv : (Int8.ofInt n).toInt32 = v) (k : J l G M QF ck sk (pc + 2) L (.int v :: st) h) : J l G M QF ck sk pc L (st) h := by
  intro p e s m args below meth c H locs cells slots ls S hR hS hl hc hs
  exact lv_bipush S.1 S.2.1 hd hv (k p e s m args below meth c H locs cells slots ls S hR hS hl hc hs)
theorem j_sipush {n : Int} (v : Int32) (hd : decode M.cc pc = .ok (.sipush n, 3)) (hv : (Int16.ofInt n).toInt32 = v) (k : J l G M QF ck sk (pc + 3) L (.int v :: st) h) : J l G M QF ck sk pc L (st) h := by
  intro p e s m args below meth c H locs cells slots ls S hR hS hl hc hs
  exact lv_sipush S.1 S.2.1 hd hv (k p e s m args below meth c H locs cells slots ls S hR hS hl hc hs)
theorem j_lconst {n : Fin 2} (v : Int64) (hd : decode M.cc pc = .ok (.lconst n, 1)) (hv : Int64.ofNat (n : Nat) = v) (k : J l G M QF ck sk (pc + 1) L (.long v :: st) h) : J l G M QF ck sk pc L (st) h := by
  intro p e s m args below meth c H locs cells slots ls S hR hS hl hc hs
  exact lv_lconst S.1 S.2.1 hd hv (k p e s m args below meth c H locs cells slots ls S hR hS hl hc hs)
theorem j_dconst0  (hd : decode M.cc pc = .ok (.dconst 0, 1)) (k : J l G M QF ck sk (pc + 1) L (.double FP.dconst0 :: st) h) : J l G M QF ck sk pc L (st) h := by
  intro p e s m args below meth c H locs cells slots ls S hR hS hl hc hs
  exact lv_dconst0 S.1 S.2.1 hd (k p e s m args below meth c H locs cells slots ls S hR hS hl hc hs)
theorem j_dup {v : Value} (hd : decode M.cc pc = .ok (.dup, 1)) (hv : v.category = 1) (k : J l G M QF ck sk (pc + 1) L (v :: v :: st) h) : J l G M QF ck sk pc L (v :: st) h := by
  intro p e s m args below meth c H locs cells slots ls S hR hS hl hc hs
  exact lv_dup S.1 S.2.1 hd hv (k p e s m args below meth c H locs cells slots ls S hR hS hl hc hs)
theorem j_pop {v : Value} (hd : decode M.cc pc = .ok (.pop, 1)) (hv : v.category = 1) (k : J l G M QF ck sk (pc + 1) L (st) h) : J l G M QF ck sk pc L (v :: st) h := by
  intro p e s m args below meth c H locs cells slots ls S hR hS hl hc hs
  exact lv_pop S.1 S.2.1 hd hv (k p e s m args below meth c H locs cells slots ls S hR hS hl hc hs)
theorem j_dup_x1 {v w : Value} (hd : decode M.cc pc = .ok (.dup_x1, 1)) (hv : v.category = 1) (hw : w.category = 1) (k : J l G M QF ck sk (pc + 1) L (v :: w :: v :: st) h) : J l G M QF ck sk pc L (v :: w :: st) h := by
  intro p e s m args below meth c H locs cells slots ls S hR hS hl hc hs
  exact lv_dup_x1 S.1 S.2.1 hd hv hw (k p e s m args below meth c H locs cells slots ls S hR hS hl hc hs)
theorem j_dup2 {v w : Value} (hd : decode M.cc pc = .ok (.dup2, 1)) (hv : v.category = 1) (hw : w.category = 1) (k : J l G M QF ck sk (pc + 1) L (v :: w :: v :: w :: st) h) : J l G M QF ck sk pc L (v :: w :: st) h := by
  intro p e s m args below meth c H locs cells slots ls S hR hS hl hc hs
  exact lv_dup2_11 S.1 S.2.1 hd hv hw (k p e s m args below meth c H locs cells slots ls S hR hS hl hc hs)
theorem j_ldc {n : Nat} (v : Int32) (hd : decode M.cc pc = .ok (.ldc n, 2)) (hw : Cond.constant M.own n v ∈ WT) (k : J l G M QF ck sk (pc + 2) L (.int v :: st) h) : J l G M QF ck sk pc L (st) h := by
  intro p e s m args below meth c H locs cells slots ls S hR hS hl hc hs
  exact lv_ldc S.1 S.2.1 S.2.2.2.2.2.2.2.1 (S.2.2.2.2.2.2.2.2.1 _ hw) hd (k p e s m args below meth c H locs cells slots ls S hR hS hl hc hs)
theorem j_ldcw {n : Nat} (v : Int32) (hd : decode M.cc pc = .ok (.ldc_w n, 3)) (hw : Cond.constant M.own n v ∈ WT) (k : J l G M QF ck sk (pc + 3) L (.int v :: st) h) : J l G M QF ck sk pc L (st) h := by
  intro p e s m args below meth c H locs cells slots ls S hR hS hl hc hs
  exact lv_ldcw S.1 S.2.1 S.2.2.2.2.2.2.2.1 (S.2.2.2.2.2.2.2.2.1 _ hw) hd (k p e s m args below meth c H locs cells slots ls S hR hS hl hc hs)
theorem j_ldc2 {n : Nat} (v : Int64) (hd : decode M.cc pc = .ok (.ldc2_w n, 3)) (hw : Cond.constantLong M.own n v ∈ WT) (k : J l G M QF ck sk (pc + 3) L (.long v :: st) h) : J l G M QF ck sk pc L (st) h := by
  intro p e s m args below meth c H locs cells slots ls S hR hS hl hc hs
  exact lv_ldc2 S.1 S.2.1 S.2.2.2.2.2.2.2.1 (S.2.2.2.2.2.2.2.2.1 _ hw) hd (k p e s m args below meth c H locs cells slots ls S hR hS hl hc hs)
theorem j_if_eq {x : Int32} {off : Int} (tgt : Nat) (hd : decode M.cc pc = .ok (.ifCond .eq off, 3)) (ht : (pc : Int) + off = (tgt : Int)) (kt : x = 0 → J l G M QF ck sk tgt L st h) (kf : ¬ x = 0 → J l G M QF ck sk (pc + 3) L st h) : J l G M QF ck sk pc L (.int x :: st) h := by
  intro p e s m args below meth c H locs cells slots ls S hR hS hl hc hs
  exact lv_if_eq S.1 S.2.1 hd ht (fun q => kt q p e s m args below meth c H locs cells slots ls S hR hS hl hc hs) (fun q => kf q p e s m args below meth c H locs cells slots ls S hR hS hl hc hs)
theorem j_icmp_eq {x y : Int32} {off : Int} (tgt : Nat) (hd : decode M.cc pc = .ok (.if_icmp .eq off, 3)) (ht : (pc : Int) + off = (tgt : Int)) (kt : x = y → J l G M QF ck sk tgt L st h) (kf : ¬ x = y → J l G M QF ck sk (pc + 3) L st h) : J l G M QF ck sk pc L (.int y :: .int x :: st) h := by
  intro p e s m args below meth c H locs cells slots ls S hR hS hl hc hs
  exact lv_icmp_eq S.1 S.2.1 hd ht (fun q => kt q p e s m args below meth c H locs cells slots ls S hR hS hl hc hs) (fun q => kf q p e s m args below meth c H locs cells slots ls S hR hS hl hc hs)
theorem j_if_ne {x : Int32} {off : Int} (tgt : Nat) (hd : decode M.cc pc = .ok (.ifCond .ne off, 3)) (ht : (pc : Int) + off = (tgt : Int)) (kt : ¬ x = 0 → J l G M QF ck sk tgt L st h) (kf : x = 0 → J l G M QF ck sk (pc + 3) L st h) : J l G M QF ck sk pc L (.int x :: st) h := by
  intro p e s m args below meth c H locs cells slots ls S hR hS hl hc hs
  exact lv_if_ne S.1 S.2.1 hd ht (fun q => kt q p e s m args below meth c H locs cells slots ls S hR hS hl hc hs) (fun q => kf q p e s m args below meth c H locs cells slots ls S hR hS hl hc hs)
theorem j_icmp_ne {x y : Int32} {off : Int} (tgt : Nat) (hd : decode M.cc pc = .ok (.if_icmp .ne off, 3)) (ht : (pc : Int) + off = (tgt : Int)) (kt : ¬ x = y → J l G M QF ck sk tgt L st h) (kf : x = y → J l G M QF ck sk (pc + 3) L st h) : J l G M QF ck sk pc L (.int y :: .int x :: st) h := by
  intro p e s m args below meth c H locs cells slots ls S hR hS hl hc hs
  exact lv_icmp_ne S.1 S.2.1 hd ht (fun q => kt q p e s m args below meth c H locs cells slots ls S hR hS hl hc hs) (fun q => kf q p e s m args below meth c H locs cells slots ls S hR hS hl hc hs)
theorem j_if_lt {x : Int32} {off : Int} (tgt : Nat) (hd : decode M.cc pc = .ok (.ifCond .lt off, 3)) (ht : (pc : Int) + off = (tgt : Int)) (kt : x < 0 → J l G M QF ck sk tgt L st h) (kf : ¬ x < 0 → J l G M QF ck sk (pc + 3) L st h) : J l G M QF ck sk pc L (.int x :: st) h := by
  intro p e s m args below meth c H locs cells slots ls S hR hS hl hc hs
  exact lv_if_lt S.1 S.2.1 hd ht (fun q => kt q p e s m args below meth c H locs cells slots ls S hR hS hl hc hs) (fun q => kf q p e s m args below meth c H locs cells slots ls S hR hS hl hc hs)
theorem j_icmp_lt {x y : Int32} {off : Int} (tgt : Nat) (hd : decode M.cc pc = .ok (.if_icmp .lt off, 3)) (ht : (pc : Int) + off = (tgt : Int)) (kt : x < y → J l G M QF ck sk tgt L st h) (kf : ¬ x < y → J l G M QF ck sk (pc + 3) L st h) : J l G M QF ck sk pc L (.int y :: .int x :: st) h := by
  intro p e s m args below meth c H locs cells slots ls S hR hS hl hc hs
  exact lv_icmp_lt S.1 S.2.1 hd ht (fun q => kt q p e s m args below meth c H locs cells slots ls S hR hS hl hc hs) (fun q => kf q p e s m args below meth c H locs cells slots ls S hR hS hl hc hs)
theorem j_if_ge {x : Int32} {off : Int} (tgt : Nat) (hd : decode M.cc pc = .ok (.ifCond .ge off, 3)) (ht : (pc : Int) + off = (tgt : Int)) (kt : 0 ≤ x → J l G M QF ck sk tgt L st h) (kf : ¬ 0 ≤ x → J l G M QF ck sk (pc + 3) L st h) : J l G M QF ck sk pc L (.int x :: st) h := by
  intro p e s m args below meth c H locs cells slots ls S hR hS hl hc hs
  exact lv_if_ge S.1 S.2.1 hd ht (fun q => kt q p e s m args below meth c H locs cells slots ls S hR hS hl hc hs) (fun q => kf q p e s m args below meth c H locs cells slots ls S hR hS hl hc hs)
theorem j_icmp_ge {x y : Int32} {off : Int} (tgt : Nat) (hd : decode M.cc pc = .ok (.if_icmp .ge off, 3)) (ht : (pc : Int) + off = (tgt : Int)) (kt : y ≤ x → J l G M QF ck sk tgt L st h) (kf : ¬ y ≤ x → J l G M QF ck sk (pc + 3) L st h) : J l G M QF ck sk pc L (.int y :: .int x :: st) h := by
  intro p e s m args below meth c H locs cells slots ls S hR hS hl hc hs
  exact lv_icmp_ge S.1 S.2.1 hd ht (fun q => kt q p e s m args below meth c H locs cells slots ls S hR hS hl hc hs) (fun q => kf q p e s m args below meth c H locs cells slots ls S hR hS hl hc hs)
theorem j_if_gt {x : Int32} {off : Int} (tgt : Nat) (hd : decode M.cc pc = .ok (.ifCond .gt off, 3)) (ht : (pc : Int) + off = (tgt : Int)) (kt : 0 < x → J l G M QF ck sk tgt L st h) (kf : ¬ 0 < x → J l G M QF ck sk (pc + 3) L st h) : J l G M QF ck sk pc L (.int x :: st) h := by
  intro p e s m args below meth c H locs cells slots ls S hR hS hl hc hs
  exact lv_if_gt S.1 S.2.1 hd ht (fun q => kt q p e s m args below meth c H locs cells slots ls S hR hS hl hc hs) (fun q => kf q p e s m args below meth c H locs cells slots ls S hR hS hl hc hs)
theorem j_icmp_gt {x y : Int32} {off : Int} (tgt : Nat) (hd : decode M.cc pc = .ok (.if_icmp .gt off, 3)) (ht : (pc : Int) + off = (tgt : Int)) (kt : y < x → J l G M QF ck sk tgt L st h) (kf : ¬ y < x → J l G M QF ck sk (pc + 3) L st h) : J l G M QF ck sk pc L (.int y :: .int x :: st) h := by
  intro p e s m args below meth c H locs cells slots ls S hR hS hl hc hs
  exact lv_icmp_gt S.1 S.2.1 hd ht (fun q => kt q p e s m args below meth c H locs cells slots ls S hR hS hl hc hs) (fun q => kf q p e s m args below meth c H locs cells slots ls S hR hS hl hc hs)
theorem j_if_le {x : Int32} {off : Int} (tgt : Nat) (hd : decode M.cc pc = .ok (.ifCond .le off, 3)) (ht : (pc : Int) + off = (tgt : Int)) (kt : x ≤ 0 → J l G M QF ck sk tgt L st h) (kf : ¬ x ≤ 0 → J l G M QF ck sk (pc + 3) L st h) : J l G M QF ck sk pc L (.int x :: st) h := by
  intro p e s m args below meth c H locs cells slots ls S hR hS hl hc hs
  exact lv_if_le S.1 S.2.1 hd ht (fun q => kt q p e s m args below meth c H locs cells slots ls S hR hS hl hc hs) (fun q => kf q p e s m args below meth c H locs cells slots ls S hR hS hl hc hs)
theorem j_icmp_le {x y : Int32} {off : Int} (tgt : Nat) (hd : decode M.cc pc = .ok (.if_icmp .le off, 3)) (ht : (pc : Int) + off = (tgt : Int)) (kt : x ≤ y → J l G M QF ck sk tgt L st h) (kf : ¬ x ≤ y → J l G M QF ck sk (pc + 3) L st h) : J l G M QF ck sk pc L (.int y :: .int x :: st) h := by
  intro p e s m args below meth c H locs cells slots ls S hR hS hl hc hs
  exact lv_icmp_le S.1 S.2.1 hd ht (fun q => kt q p e s m args below meth c H locs cells slots ls S hR hS hl hc hs) (fun q => kf q p e s m args below meth c H locs cells slots ls S hR hS hl hc hs)
theorem j_goto {off : Int} (tgt : Nat) (hd : decode M.cc pc = .ok (.goto off, 3)) (ht : (pc : Int) + off = (tgt : Int)) (k : J l G M QF ck sk tgt L st h) : J l G M QF ck sk pc L st h := by
  intro p e s m args below meth c H locs cells slots ls S hR hS hl hc hs
  exact lv_goto S.1 S.2.1 hd ht (k p e s m args below meth c H locs cells slots ls S hR hS hl hc hs)
theorem j_tableOut {dflt lo hi : Int} {offs : Array Int} {len : Nat} {x : Int32} (tgt : Nat) (hd : decode M.cc pc = .ok (.tableswitch dflt lo hi offs, len)) (hx : x.toInt < lo ∨ hi < x.toInt) (ht : (pc : Int) + dflt = (tgt : Int)) (k : J l G M QF ck sk tgt L st h) : J l G M QF ck sk pc L (.int x :: st) h := by
  intro p e s m args below meth c H locs cells slots ls S hR hS hl hc hs
  exact lv_tableOut S.1 S.2.1 hd hx ht (k p e s m args below meth c H locs cells slots ls S hR hS hl hc hs)
theorem j_tableIn {dflt lo hi : Int} {offs : Array Int} {len : Nat} {x : Int32} {off : Int} (tgt : Nat) (hd : decode M.cc pc = .ok (.tableswitch dflt lo hi offs, len)) (h1 : ¬ x.toInt < lo) (h2 : ¬ hi < x.toInt) (ho : offs[(x.toInt - lo).toNat]? = some off) (ht : (pc : Int) + off = (tgt : Int)) (k : J l G M QF ck sk tgt L st h) : J l G M QF ck sk pc L (.int x :: st) h := by
  intro p e s m args below meth c H locs cells slots ls S hR hS hl hc hs
  exact lv_tableIn S.1 S.2.1 hd h1 h2 ho ht (k p e s m args below meth c H locs cells slots ls S hR hS hl hc hs)
def jget : List (Nat × Value) → Nat → Option Value
  | [], _ => none
  | q :: L, i => if q.1 == i then some q.2 else jget L i
theorem jget_mem : ∀ (L : List (Nat × Value)) (i : Nat) (v : Value), jget L i = some v → (i, v) ∈ L
  | [], i, v, h => by cases h
  | q :: L, i, v, h => by
    unfold jget at h
    by_cases hq : (q.1 == i) = true
    · rw [if_pos hq] at h
      cases h
      have e : q.1 = i := by simpa using hq
      subst e
      exact List.mem_cons_self
    · rw [if_neg hq] at h
      exact List.mem_cons_of_mem _ (jget_mem L i v h)
theorem jget_at {ls : Array Slot} {nL : Nat} {L : List (Nat × Value)} (hl : lv_has ls nL L) {i : Nat} {v : Value} (hg : jget L i = some v) : ls[i]? = some (.val v) := hl.2.2 _ (jget_mem L i v hg)
def jput (L : List (Nat × Value)) (i : Nat) (v : Value) : List (Nat × Value) := (i, v) :: L.filter (fun q => !(q.1 == i) && !(q.1 + 1 == i && q.2.category == 2))
def jput2 (L : List (Nat × Value)) (i : Nat) (v : Value) : List (Nat × Value) := (i, v) :: L.filter (fun q => !(q.1 == i) && (!(q.1 == i + 1) && !(q.1 + 1 == i && q.2.category == 2)))
theorem j_iload_n {k : Fin 4} {x : Int32} (i : Nat) (hd : decode M.cc pc = .ok (.iload_n k, 1)) (hi : (k : Nat) = i) (hg : jget L i = some (.int x)) (k : J l G M QF ck sk (pc + 1) L (.int x :: st) h) : J l G M QF ck sk pc L st h := by
  intro p e s m args below meth c H locs cells slots ls S hR hS hl hc hs
  exact lv_iload_n S.1 S.2.1 hd hi (jget_at hl hg) (k p e s m args below meth c H locs cells slots ls S hR hS hl hc hs)
theorem j_iload {i : Nat} {x : Int32} (hd : decode M.cc pc = .ok (.iload i, 2)) (hg : jget L i = some (.int x)) (k : J l G M QF ck sk (pc + 2) L (.int x :: st) h) : J l G M QF ck sk pc L st h := by
  intro p e s m args below meth c H locs cells slots ls S hR hS hl hc hs
  exact lv_iload S.1 S.2.1 hd (jget_at hl hg) (k p e s m args below meth c H locs cells slots ls S hR hS hl hc hs)
theorem j_istore_n {k : Fin 4} {x : Int32} (i : Nat) (hd : decode M.cc pc = .ok (.istore_n k, 1)) (hi : (k : Nat) = i) (hn : Nat.blt (i) M.nL = true) (hp : jput L i (.int x) = L') (k : J l G M QF ck sk (pc + 1) L' st h) : J l G M QF ck sk pc L (.int x :: st) h := by
  intro p e s m args below meth c H locs cells slots ls S hR hS hl hc hs
  exact lv_istore_n S.1 S.2.1 hd hi hl (Nat.le_of_ble_eq_true hn) hp (fun ls hl => k p e s m args below meth c H locs cells slots ls S hR hS hl hc hs)
theorem j_istore {i : Nat} {x : Int32} (hd : decode M.cc pc = .ok (.istore i, 2)) (hn : Nat.blt (i) M.nL = true) (hp : jput L i (.int x) = L') (k : J l G M QF ck sk (pc + 2) L' st h) : J l G M QF ck sk pc L (.int x :: st) h := by
  intro p e s m args below meth c H locs cells slots ls S hR hS hl hc hs
  exact lv_istore S.1 S.2.1 hd hl (Nat.le_of_ble_eq_true hn) hp (fun ls hl => k p e s m args below meth c H locs cells slots ls S hR hS hl hc hs)
theorem j_aload_n {k : Fin 4} {x : Nat} (i : Nat) (hd : decode M.cc pc = .ok (.aload_n k, 1)) (hi : (k : Nat) = i) (hg : jget L i = some (.ref x)) (k : J l G M QF ck sk (pc + 1) L (.ref x :: st) h) : J l G M QF ck sk pc L st h := by
  intro p e s m args below meth c H locs cells slots ls S hR hS hl hc hs
  exact lv_aload_n S.1 S.2.1 hd hi (jget_at hl hg) (k p e s m args below meth c H locs cells slots ls S hR hS hl hc hs)
theorem j_aload {i : Nat} {x : Nat} (hd : decode M.cc pc = .ok (.aload i, 2)) (hg : jget L i = some (.ref x)) (k : J l G M QF ck sk (pc + 2) L (.ref x :: st) h) : J l G M QF ck sk pc L st h := by
  intro p e s m args below meth c H locs cells slots ls S hR hS hl hc hs
  exact lv_aload S.1 S.2.1 hd (jget_at hl hg) (k p e s m args below meth c H locs cells slots ls S hR hS hl hc hs)
theorem j_astore_n {k : Fin 4} {x : Nat} (i : Nat) (hd : decode M.cc pc = .ok (.astore_n k, 1)) (hi : (k : Nat) = i) (hn : Nat.blt (i) M.nL = true) (hp : jput L i (.ref x) = L') (k : J l G M QF ck sk (pc + 1) L' st h) : J l G M QF ck sk pc L (.ref x :: st) h := by
  intro p e s m args below meth c H locs cells slots ls S hR hS hl hc hs
  exact lv_astore_n S.1 S.2.1 hd hi hl (Nat.le_of_ble_eq_true hn) hp (fun ls hl => k p e s m args below meth c H locs cells slots ls S hR hS hl hc hs)
theorem j_astore {i : Nat} {x : Nat} (hd : decode M.cc pc = .ok (.astore i, 2)) (hn : Nat.blt (i) M.nL = true) (hp : jput L i (.ref x) = L') (k : J l G M QF ck sk (pc + 2) L' st h) : J l G M QF ck sk pc L (.ref x :: st) h := by
  intro p e s m args below meth c H locs cells slots ls S hR hS hl hc hs
  exact lv_astore S.1 S.2.1 hd hl (Nat.le_of_ble_eq_true hn) hp (fun ls hl => k p e s m args below meth c H locs cells slots ls S hR hS hl hc hs)
theorem j_lload_n {k : Fin 4} {x : Int64} (i : Nat) (hd : decode M.cc pc = .ok (.lload_n k, 1)) (hi : (k : Nat) = i) (hg : jget L i = some (.long x)) (k : J l G M QF ck sk (pc + 1) L (.long x :: st) h) : J l G M QF ck sk pc L st h := by
  intro p e s m args below meth c H locs cells slots ls S hR hS hl hc hs
  exact lv_lload_n S.1 S.2.1 hd hi (jget_at hl hg) (k p e s m args below meth c H locs cells slots ls S hR hS hl hc hs)
theorem j_lload {i : Nat} {x : Int64} (hd : decode M.cc pc = .ok (.lload i, 2)) (hg : jget L i = some (.long x)) (k : J l G M QF ck sk (pc + 2) L (.long x :: st) h) : J l G M QF ck sk pc L st h := by
  intro p e s m args below meth c H locs cells slots ls S hR hS hl hc hs
  exact lv_lload S.1 S.2.1 hd (jget_at hl hg) (k p e s m args below meth c H locs cells slots ls S hR hS hl hc hs)
theorem j_lstore_n {k : Fin 4} {x : Int64} (i : Nat) (hd : decode M.cc pc = .ok (.lstore_n k, 1)) (hi : (k : Nat) = i) (hn : Nat.blt (i + 1) M.nL = true) (hp : jput2 L i (.long x) = L') (k : J l G M QF ck sk (pc + 1) L' st h) : J l G M QF ck sk pc L (.long x :: st) h := by
  intro p e s m args below meth c H locs cells slots ls S hR hS hl hc hs
  exact lv_lstore_n S.1 S.2.1 hd hi hl (Nat.le_of_ble_eq_true hn) hp (fun ls hl => k p e s m args below meth c H locs cells slots ls S hR hS hl hc hs)
theorem j_lstore {i : Nat} {x : Int64} (hd : decode M.cc pc = .ok (.lstore i, 2)) (hn : Nat.blt (i + 1) M.nL = true) (hp : jput2 L i (.long x) = L') (k : J l G M QF ck sk (pc + 2) L' st h) : J l G M QF ck sk pc L (.long x :: st) h := by
  intro p e s m args below meth c H locs cells slots ls S hR hS hl hc hs
  exact lv_lstore S.1 S.2.1 hd hl (Nat.le_of_ble_eq_true hn) hp (fun ls hl => k p e s m args below meth c H locs cells slots ls S hR hS hl hc hs)
theorem j_dload_n {k : Fin 4} {x : UInt64} (i : Nat) (hd : decode M.cc pc = .ok (.dload_n k, 1)) (hi : (k : Nat) = i) (hg : jget L i = some (.double x)) (k : J l G M QF ck sk (pc + 1) L (.double x :: st) h) : J l G M QF ck sk pc L st h := by
  intro p e s m args below meth c H locs cells slots ls S hR hS hl hc hs
  exact lv_dload_n S.1 S.2.1 hd hi (jget_at hl hg) (k p e s m args below meth c H locs cells slots ls S hR hS hl hc hs)
theorem j_dload {i : Nat} {x : UInt64} (hd : decode M.cc pc = .ok (.dload i, 2)) (hg : jget L i = some (.double x)) (k : J l G M QF ck sk (pc + 2) L (.double x :: st) h) : J l G M QF ck sk pc L st h := by
  intro p e s m args below meth c H locs cells slots ls S hR hS hl hc hs
  exact lv_dload S.1 S.2.1 hd (jget_at hl hg) (k p e s m args below meth c H locs cells slots ls S hR hS hl hc hs)
theorem j_dstore_n {k : Fin 4} {x : UInt64} (i : Nat) (hd : decode M.cc pc = .ok (.dstore_n k, 1)) (hi : (k : Nat) = i) (hn : Nat.blt (i + 1) M.nL = true) (hp : jput2 L i (.double x) = L') (k : J l G M QF ck sk (pc + 1) L' st h) : J l G M QF ck sk pc L (.double x :: st) h := by
  intro p e s m args below meth c H locs cells slots ls S hR hS hl hc hs
  exact lv_dstore_n S.1 S.2.1 hd hi hl (Nat.le_of_ble_eq_true hn) hp (fun ls hl => k p e s m args below meth c H locs cells slots ls S hR hS hl hc hs)
theorem j_dstore {i : Nat} {x : UInt64} (hd : decode M.cc pc = .ok (.dstore i, 2)) (hn : Nat.blt (i + 1) M.nL = true) (hp : jput2 L i (.double x) = L') (k : J l G M QF ck sk (pc + 2) L' st h) : J l G M QF ck sk pc L (.double x :: st) h := by
  intro p e s m args below meth c H locs cells slots ls S hR hS hl hc hs
  exact lv_dstore S.1 S.2.1 hd hl (Nat.le_of_ble_eq_true hn) hp (fun ls hl => k p e s m args below meth c H locs cells slots ls S hR hS hl hc hs)
theorem jget_place : ∀ (L : List (Nat × Value)) (i : Nat) (v : Value), jget L i = some v → ∃ k : Nat, L[k]? = some (i, v) := fun L i v h => List.getElem?_of_mem (jget_mem L i v h)
theorem j_iinc {i : Nat} {n : Int} {x : Int32} (v : Int32) (hd : decode M.cc pc = .ok (.iinc i n, 3)) (hg : jget L i = some (.int x)) (hv : x + Int32.ofInt n = v) (hn : Nat.blt i M.nL = true) (hp : jput L i (.int v) = L') (k : J l G M QF ck sk (pc + 3) L' st h) : J l G M QF ck sk pc L st h := by
  intro p e s m args below meth c H locs cells slots ls S hR hS hl hc hs
  obtain ⟨j, hj⟩ := jget_place L i _ hg
  exact lv_iinc S.1 S.2.1 hd hl hj hv (Nat.le_of_ble_eq_true hn) hp (fun ls hl => k p e s m args below meth c H locs cells slots ls S hR hS hl hc hs)
/-- fewer locals, less room -/
theorem j_sub (hsub : ∀ q ∈ L', q ∈ L) (k : J l G M QF ck sk pc L' st h) : J l G M QF ck sk pc L st h := by
  intro p e s m args below meth c H locs cells slots ls S hR hS hl hc hs
  exact k p e s m args below meth c H locs cells slots ls S hR hS ⟨hl.1, hl.2.1, fun q hq => hl.2.2 q (hsub q hq)⟩ hc hs
def jle : List (Nat × Value) → List (Nat × Value) → Prop
  | [], _ => True
  | q :: L', L => jget L q.1 = some q.2 ∧ jle L' L
theorem jle_sub : ∀ (L' L : List (Nat × Value)), jle L' L → ∀ q ∈ L', q ∈ L
  | [], _, _, q, hq => by cases hq
  | a :: L', L, hh, q, hq => by
    rcases List.mem_cons.mp hq with e | e
    · rw [e]; exact jget_mem L a.1 a.2 hh.1
    · exact jle_sub L' L hh.2 q e
theorem j_loc (hsub : jle L' L) (k : J l G M QF ck sk pc L' st h) : J l G M QF ck sk pc L st h := j_sub (jle_sub L' L hsub) k
theorem j_room {ck' sk' : Nat} (h1 : ck' ≤ ck) (h2 : sk' ≤ sk) (k : J l G M QF ck' sk' pc L st h) : J l G M QF ck sk pc L st h := by
  intro p e s m args below meth c H locs cells slots ls S hR hS hl hc hs
  exact k p e s m args below meth c H locs cells slots ls S hR hS hl (Nat.le_trans (Nat.add_le_add_left h1 _) hc) (Nat.le_trans (Nat.add_le_add_left h2 _) hs)
/-- a number on the stack gets a name -/
theorem j_top {v : Value} (k : ∀ w, w = v → J l G M QF ck sk pc L (w :: st) h) : J l G M QF ck sk pc L (v :: st) h := k v rfl
theorem j_topi {x y : Int32} (e : x = y) (k : J l G M QF ck sk pc L (.int y :: st) h) : J l G M QF ck sk pc L (.int x :: st) h := by rw [e]; exact k
theorem j_eq {st' : List Value} (e : st = st') (k : J l G M QF ck sk pc L st' h) : J l G M QF ck sk pc L st h := by rw [e]; exact k
end JR
end
section
section JH
variable {l : Launch} {G : jG} {M : jM} {QF : jF} {ck sk pc : Nat} {L L' : List (Nat × Value)} {st : List Value} {h : jH}
/-- the entry idx of class own's file is field k of class ci -/
def jFl (own : String) (idx ci k : Nat) : Prop := ∃ (C : String) (T : u_T) (N : Nat), vwCl[ci]? = some (C, T, N) ∧ k < N ∧ Cond.fieldLink own idx (T k).1 (T k).2.1 (T k).2.2.1 ∈ WT ∧ ∀ w ∈ u_ws C T N, w ∈ WT
/-- what a write wants: the types, and whether the field is final -/
def jTy (ci k : Nat) (ty : FieldType) (fin : Bool) : Prop := ∃ (C : String) (T : u_T) (N : Nat) (ty0 : Nat → FieldType), vwCl[ci]? = some (C, T, N) ∧ (∀ k, k < N → parseFieldDescriptor (T k).2.2.1 = some (ty0 k)) ∧ (∀ a, a < N → ∀ b, b < N → a ≠ b → (T a).2.1 ≠ (T b).2.1) ∧ parseFieldDescriptor (T k).2.2.1 = some ty ∧ (T k).2.2.2 = fin ∧ (T k).1 = C
theorem j_get {idx a ci k : Nat} {fs : List Value} {v : Value} (F : jFl M.own idx ci k) (hd : decode M.cc pc = .ok (.getfield idx, 3)) (ha : h a = some (.inr (ci, fs))) (hv : fs[k]? = some v) (kk : J l G M QF ck sk (pc + 3) L (v :: st) h) : J l G M QF ck sk pc L (.ref a :: st) h := by
  intro p e s m args below meth c H locs cells slots ls S hR hS hl hc hs
  obtain ⟨C, T, N, hcl, hk, hw, hin⟩ := F
  exact va_get (D := G.1) (cl := vwCl) (tys := jT G) (ws := [(a, .inr (ci, fs))]) (ref := (T k).1) S.1 S.2.1 S.2.2.2.2.2.2.2.2.1 hin S.2.2.2.2.2.2.2.1 S.2.2.2.2.2.2.2.2.2.1
    (fun j q hq => by cases j with
      | zero => cases hq; exact (hR _ _ ha).2
      | succ j => cases hq) 0 rfl hcl k hk (S.2.2.2.2.2.2.2.2.1 _ hw) (fun _ z => z) hv hd (kk p e s m args below meth c H locs cells slots ls S hR hS hl hc hs)
theorem va_D1 {A : Nat → Prop} {a : Nat} {e : va_E} (ha : A a) : va_D A [(a, e)] := by
  refine ⟨fun i j p q hi hj _ => ?_, fun k q hk => ?_⟩
  · have h1 : i < 1 := (List.getElem?_eq_some_iff.mp hi).1
    have h2 : j < 1 := (List.getElem?_eq_some_iff.mp hj).1
    omega
  · cases k with
    | zero => cases hk; exact ha
    | succ k => cases hk
theorem va_P1 {D : va_G} {cl : List vw_C} {a : Nat} {e : va_E} {H : Heap} (ha : va_at D cl (a, e) H) : va_P D cl [(a, e)] H := fun k q hk => by
  cases k with
  | zero => cases hk; exact ha
  | succ k => cases hk
theorem va_P1' {D : va_G} {cl : List vw_C} {a : Nat} {e : va_E} {H : Heap} (h : va_P D cl [(a, e)] H) : va_at D cl (a, e) H := h 0 _ rfl
theorem j_put {idx a ci k : Nat} {fs fs' : List Value} {v : Value} {ty : FieldType} (F : jFl M.own idx ci k) (Y : jTy ci k ty false) (hd : decode M.cc pc = .ok (.putfield idx, 3)) (ha : h a = some (.inr (ci, fs))) (hn : narrow ty v = v) (hfit : fits ty v = true) (hl0 : Nat.blt k fs.length = true) (hf : fs.set k v = fs') (kk : J l G M QF ck sk (pc + 3) L st (hset h a (.inr (ci, fs')))) : J l G M QF ck sk pc L (v :: .ref a :: st) h := by
  intro p e s m args below meth c H locs cells slots ls S hR hS hl hc hs
  obtain ⟨C, T, N, hcl, hk, hw, hin⟩ := F
  obtain ⟨C', T', N', ty0, hcl', hty, hnm, hpd, hfin, hC⟩ := Y
  rw [hcl] at hcl'
  cases hcl'
  subst hf
  have hts := S.2.2.2.2.2.2.2.2.1
  have hK := S.2.2.2.2.2.2.2.2.2.1
  have hap := va_apart (own := M.own) hts hin ty0 hty hnm hK hcl
  obtain ⟨r, h1, cell, q1, q2, q3, q4⟩ := (hR a _ ha).2
  have hr : r = (C, T, N) := Option.some.inj (h1.symm.trans hcl)
  subst hr
  obtain ⟨hS0, hfc, kC, hkC, hkind⟩ := hK.1 ci _ hcl
  obtain ⟨cf, kf, fi, f, hi, hsl⟩ := hS0 k hk
  have hlay := hts _ (hin _ (u_in_lay hk))
  unfold u_lay at hlay
  rw [if_neg (by rw [hfin]; decide)] at hlay
  have hst := (u_facts hfc hkC (u_lays hts hin hk) hi).1
  have h6 := u_store hfc hkC hkind hlay hi hpd hn hfit
  refine W.putK S.1 S.2.1 (f := f) ⟨S.2.2.2.2.2.2.2.1, hts _ hw, ⟨_, _, _, hi⟩, hst⟩ (by rw [q2]; exact h6) q1 q3 (by rw [hsl]; exact k2_hasslot (q4 k hk)) rfl rfl hd fun H' e1 e2 e3 => ?_
  rw [hsl] at e1 ⊢
  exact kk p e s m args below meth c H' _ cells slots ls S (hR.set ha ⟨_, hcl, t_OB.to (V := updV (vp_V fs) k v) ⟨_, e1, q2, q3, t_set q4 hap hk v⟩ (fun j _ => vp_updV_set (Nat.le_of_ble_eq_true hl0) v j)⟩ e3) (hS.put e2 e3 (hR a _ ha).1) hl hc hs
theorem j_putF {idx a ci k : Nat} {fs fs' : List Value} {v : Value} {ty : FieldType} (F : jFl M.own idx ci k) (Y : jTy ci k ty true) (hin2 : M.nm = "<init>") (hown2 : ∃ T N, vwCl[ci]? = some (M.own, T, N)) (hd : decode M.cc pc = .ok (.putfield idx, 3)) (ha : h a = some (.inr (ci, fs))) (hn : narrow ty v = v) (hfit : fits ty v = true) (hl0 : Nat.blt k fs.length = true) (hf : fs.set k v = fs') (kk : J l G M QF ck sk (pc + 3) L st (hset h a (.inr (ci, fs')))) : J l G M QF ck sk pc L (v :: .ref a :: st) h := by
  intro p e s m args below meth c H locs cells slots ls S hR hS hl hc hs
  obtain ⟨C, T, N, hcl, hk, hw, hin⟩ := F
  obtain ⟨C', T', N', ty0, hcl', hty, hnm, hpd, hfin, hC⟩ := Y
  rw [hcl] at hcl'
  cases hcl'
  obtain ⟨T9, N9, h9⟩ := hown2
  rw [hcl] at h9
  have hdecl : (T k).1 = M.own := by rw [hC]; exact congrArg (fun q : vw_C => q.1) (Option.some.inj h9)
  subst hf
  have hts := S.2.2.2.2.2.2.2.2.1
  have hK := S.2.2.2.2.2.2.2.2.2.1
  have hown := S.2.2.2.2.2.2.2.1
  have hap := va_apart (own := M.own) hts hin ty0 hty hnm hK hcl
  obtain ⟨r, h1, cell, q1, q2, q3, q4⟩ := (hR a _ ha).2
  have hr : r = (C, T, N) := Option.some.inj (h1.symm.trans hcl)
  subst hr
  obtain ⟨hS0, hfc, kC, hkC, hkind⟩ := hK.1 ci _ hcl
  obtain ⟨cf, kf, fi, f, hi, hsl⟩ := hS0 k hk
  have hlay := hts _ (hin _ (u_in_lay hk))
  unfold u_lay at hlay
  rw [if_pos hfin] at hlay
  have hst := (u_facts hfc hkC (u_lays hts hin hk) hi).1
  have hcf : m.cls = cf := by
    obtain ⟨_, _, c', _, _, _, -, -, hf', -, -, -, hown2, -⟩ := Cond.laysFinal_spec hlay
    have e1 : c' = cf := by have := hi.symm.trans hf'; simp at this; exact this.1.symm
    rw [hdecl] at hown2
    rw [← e1]; exact Option.some.inj (hown.symm.trans hown2)
  have h6 := u_fits hfc hkC hkind (Or.inr hlay) hi hpd hn hfit
  refine W.putFinK S.1 S.2.1 hown (hts _ hw) hi hst hcf (S.2.2.2.2.2.1.trans hin2) (by rw [q2]; exact h6) q1 q3 (by rw [hsl]; exact k2_hasslot (q4 k hk)) rfl rfl hd fun H' e1 e2 e3 => ?_
  rw [hsl] at e1 ⊢
  exact kk p e s m args below meth c H' _ cells slots ls S (hR.set ha ⟨_, hcl, t_OB.to (V := updV (vp_V fs) k v) ⟨_, e1, q2, q3, t_set q4 hap hk v⟩ (fun j _ => vp_updV_set (Nat.le_of_ble_eq_true hl0) v j)⟩ e3) (hS.put e2 e3 (hR a _ ha).1) hl hc hs
/-! arrays -/
abbrev aI (G : jG) (n : Nat) (f : Nat → Int32) : va_E := .inl (G.2.1 0, n, .inl f)
abbrev aZ (G : jG) (n : Nat) (f : Nat → Int32) : va_E := .inl (G.2.1 1, n, .inl f)
abbrev aJ (G : jG) (n : Nat) (f : Nat → Int64) : va_E := .inl (G.2.1 2, n, .inr (.inl f))
abbrev aR (G : jG) (t n : Nat) (f : Nat → Option Nat) : va_E := .inl (G.2.1 t, n, .inr (.inr (.inr (.inr f))))
theorem j_iald {a n : Nat} {f : Nat → Int32} {i : Int32} (hd : decode M.cc pc = .ok (.iaload, 1)) (ha : h a = some (aI G n f)) (hin : vp_in i n) (kk : J l G M QF ck sk (pc + 1) L (.int (f i.toNatClampNeg) :: st) h) : J l G M QF ck sk pc L (.int i :: .ref a :: st) h := by
  intro p e s m args below meth c H locs cells slots ls S hR hS hl hc hs
  exact va_iald (tys := jT G) S.1 S.2.1 S.2.2.2.2.2.2.2.2.2.1 (va_P1 (hR a _ ha).2) 0 0 rfl rfl hin hd (kk p e s m args below meth c H locs cells slots ls S hR hS hl hc hs)
theorem j_zald {a n : Nat} {f : Nat → Int32} {i : Int32} (hd : decode M.cc pc = .ok (.baload, 1)) (ha : h a = some (aZ G n f)) (hin : vp_in i n) (kk : J l G M QF ck sk (pc + 1) L (.int (f i.toNatClampNeg) :: st) h) : J l G M QF ck sk pc L (.int i :: .ref a :: st) h := by
  intro p e s m args below meth c H locs cells slots ls S hR hS hl hc hs
  exact va_zald (tys := jT G) S.1 S.2.1 S.2.2.2.2.2.2.2.2.2.1 (va_P1 (hR a _ ha).2) 0 1 rfl rfl hin hd (kk p e s m args below meth c H locs cells slots ls S hR hS hl hc hs)
theorem j_qaldP {a n : Nat} {f : Nat → Option Nat} {i : Int32} (hd : decode M.cc pc = .ok (.aaload, 1)) (ha : h a = some (aR G 3 n f)) (hin : vp_in i n) (kk : J l G M QF ck sk (pc + 1) L (va_rf (f i.toNatClampNeg) :: st) h) : J l G M QF ck sk pc L (.int i :: .ref a :: st) h := by
  intro p e s m args below meth c H locs cells slots ls S hR hS hl hc hs
  exact va_aldq (tys := jT G) S.1 S.2.1 S.2.2.2.2.2.2.2.2.2.1 (va_P1 (hR a _ ha).2) 0 3 rfl rfl hin hd (kk p e s m args below meth c H locs cells slots ls S hR hS hl hc hs)
theorem j_iast {a n : Nat} {f : Nat → Int32} {i x : Int32} (hd : decode M.cc pc = .ok (.iastore, 1)) (ha : h a = some (aI G n f)) (hin : vp_in i n) (kk : J l G M QF ck sk (pc + 1) L st (hset h a (aI G n (upd f i.toNatClampNeg x)))) : J l G M QF ck sk pc L (.int x :: .int i :: .ref a :: st) h := by
  intro p e s m args below meth c H locs cells slots ls S hR hS hl hc hs
  have hK := S.2.2.2.2.2.2.2.2.2.1
  refine W.iast S.1 S.2.1 (hR a _ ha).2 ((hK.2 0 _ rfl).1 n (fun j => .int (f j))) (fun q => by cases q) (by show ¬ (i < 0 ∨ (arrV _ _ _).slots.size ≤ _); rw [arrV_size]; exact hin) rfl rfl hd fun H1 e1 z oq => ?_
  refine kk p e s m args below meth c H1 _ cells slots ls S (hR.set ha ?_ oq) (hS.put z oq (hR a _ ha).1) hl hc hs
  show H1[a]? = some (vp_cell _ _)
  rw [e1]
  rw [vp_cell_i, vp_cell_i, arrV_store]
  congr 2
  funext q
  by_cases hq : q = i.toNatClampNeg
  · subst hq
    simp [updV, upd]
  · simp [updV, upd, hq]
theorem j_zast {a n : Nat} {f : Nat → Int32} {i x : Int32} (hd : decode M.cc pc = .ok (.bastore, 1)) (ha : h a = some (aZ G n f)) (hin : vp_in i n) (kk : J l G M QF ck sk (pc + 1) L st (hset h a (aZ G n (upd f i.toNatClampNeg (vp_nar .boolean x))))) : J l G M QF ck sk pc L (.int x :: .int i :: .ref a :: st) h := by
  intro p e s m args below meth c H locs cells slots ls S hR hS hl hc hs
  have hK := S.2.2.2.2.2.2.2.2.2.1
  refine W.zast S.1 S.2.1 (hR a _ ha).2 ((hK.2 1 _ rfl).1 n (fun j => .int (f j))) (fun q => by cases q) (by show ¬ (i < 0 ∨ (arrV _ _ _).slots.size ≤ _); rw [arrV_size]; exact hin) rfl rfl hd fun H1 e1 z oq => ?_
  refine kk p e s m args below meth c H1 _ cells slots ls S (hR.set ha ?_ oq) (hS.put z oq (hR a _ ha).1) hl hc hs
  show H1[a]? = some (vp_cell _ _)
  rw [e1]
  rw [vp_cell_i, vp_cell_i, arrV_store]
  congr 2
  funext q
  by_cases hq : q = i.toNatClampNeg
  · subst hq
    simp [updV, upd, vp_nar]
    try rfl
  · simp [updV, upd, hq]
/-- which entry of jT an array is of -/
theorem j_alen {a : Nat} {x : vp_A} (t : Nat) {ty : FieldType} (v : Int32) (hd : decode M.cc pc = .ok (.arraylength, 1)) (ha : h a = some (.inl (G.2.1 t, x))) (ht : (jT G)[t]? = some (G.2.1 t, ty)) (hv : Int32.ofNat x.1 = v) (kk : J l G M QF ck sk (pc + 1) L (.int v :: st) h) : J l G M QF ck sk pc L (.ref a :: st) h := by
  intro p e s m args below meth c H locs cells slots ls S hR hS hl hc hs
  exact va_alen (tys := jT G) S.1 S.2.1 S.2.2.2.2.2.2.2.2.2.1 (va_P1 (hR a _ ha).2) 0 t rfl ht hv hd (kk p e s m args below meth c H locs cells slots ls S hR hS hl hc hs)
/-- static arrays -/
theorem j_gets {idx : Nat} (k : Nat) {C n : String} {N : Nat} {f : List Int32} (hst : jSt[k]? = some (C, n, N, f)) (hw : Cond.fieldLink M.own idx C n "[I" ∈ WT) (hd : decode M.cc pc = .ok (.getstatic idx, 3)) (kk : J l G M QF ck sk (pc + 3) L (.ref (jSa G k) :: st) h) : J l G M QF ck sk pc L st h := by
  intro p e s m args below meth c H locs cells slots ls S hR hS hl hc hs
  exact va_gets S.1 S.2.1 (S.2.2.2.2.2.2.2.2.2.2.1 k _ hst).1 hS S.2.2.2.2.2.2.2.1 (S.2.2.2.2.2.2.2.2.1 _ hw) (fun _ z => z) hd (kk p e s m args below meth c H locs cells slots ls S hR hS hl hc hs)
theorem j_siald (k : Nat) {C n : String} {N : Nat} {f : List Int32} {i : Int32} (hst : jSt[k]? = some (C, n, N, f)) (hin : vp_in i N) (hd : decode M.cc pc = .ok (.iaload, 1)) (kk : J l G M QF ck sk (pc + 1) L (.int (jIs f i.toNatClampNeg) :: st) h) : J l G M QF ck sk pc L (.int i :: .ref (jSa G k) :: st) h := by
  intro p e s m args below meth c H locs cells slots ls S hR hS hl hc hs
  exact va_ti S.1 S.2.1 (S.2.2.2.2.2.2.2.2.2.2.1 k _ hst).2 hS hin rfl hd (kk p e s m args below meth c H locs cells slots ls S hR hS hl hc hs)
end JH
end
section
section JC
variable {l : Launch} {G : jG} {M M' : jM} {QF : jF} {ck sk ck' sk' pc : Nat} {L L' : List (Nat × Value)} {st rest : List Value} {h : jH} {Post Post' : jO → jH → Prop}
/-- an exception of class E stands over the frame -/
def jX (l : Launch) (G : jG) (M : jM) (QF : jF) (ck sk pc : Nat) (L : List (Nat × Value)) (rest : List Value) (h : jH) (E : String) : Prop :=
  ∀ (p : Program) (e : Env) (s : State) (m : MethodId) (args : Array Value) (below : List Frame) (meth : Method) (c : Code) (H : Heap) (locs : List Loc) (cells slots : Nat) (ls : Array Slot) (q : Addr) (ce : Cell),
    jStd G M p s m args meth c → jR G h H → va_S (jB G) s.heap H locs → lv_has ls M.nL L → cells + ck ≤ M.room.cells → slots + sk ≤ M.room.slots →
    H[q]? = some ce → ce.vm = .none → s.vm.findClass E = some ce.cls → vx_W p l e M.room s m args below meth c H locs cells slots (QF below args s) (F0 m pc ls rest) q
theorem jX_out {E : String} (hh : M.hh = []) (hp : Post (.inr E) h) : jX l G M (jQ G M Post) ck sk pc L rest h E := by
  intro p e s m args below meth c H locs cells slots ls q ce S hR hS hl hc hs h1 h2 h3
  refine vx_out ?_ S.2.2.2.2.2.2.1 h1 h2 h3 (fun t ht hA => ⟨h, hp, by rw [ht]; exact hR, hS.F ht⟩) hS.2.2 (by omega) (by omega)
  intro x hx
  rw [S.2.2.2.2.1, hh] at hx
  cases hx
theorem jX_room (h1 : ck' ≤ ck) (h2 : sk' ≤ sk) {E : String} (k : jX l G M QF ck' sk' pc L rest h E) : jX l G M QF ck sk pc L rest h E := by
  intro p e s m args below meth c H locs cells slots ls q ce S hR hS hl hc hs
  exact k p e s m args below meth c H locs cells slots ls q ce S hR hS hl (Nat.le_trans (Nat.add_le_add_left h1 _) hc) (Nat.le_trans (Nat.add_le_add_left h2 _) hs)
/-- what a run of a call gives -/
theorem j_run {p : Program} {e : Env} {s : State} {m : MethodId} {args a : Array Value} {below : List Frame} {meth : Method} {c : Code} {H : Heap} {locs : List Loc} {cells slots mc ms : Nat} {ls : Array Slot} {R : Room} {Q : State → Prop}
    (hr : vx_Run p l e R s m args below meth c H locs cells slots mc ms (F0 m pc ls st) rest (jQc G Post' a) (jXC G Post') (jB G)) (hS : va_S (jB G) s.heap H locs)
    (kk : ∀ (v : Option Value) (h' : jH) (H1 : Heap) (locs1 : List Loc), Post' (.inl v) h' → jR G h' H1 → va_S (jB G) s.heap H1 locs1 → W p l e R s m args below meth c H1 locs1 (cells + mc) (slots + ms) Q (F0 m (pc + 3) ls (v.toList ++ rest)))
    (kx : ∀ (E : String) (h' : jH) (H1 : Heap) (locs1 : List Loc) (q : Addr) (ce : Cell), Post' (.inr E) h' → jR G h' H1 → va_S (jB G) s.heap H1 locs1 → H1[q]? = some ce → ce.vm = .none → s.vm.findClass E = some ce.cls → vx_W p l e R s m args below meth c H1 locs1 (cells + mc) (slots + ms) Q (F0 m pc ls rest) q) :
    W p l e R s m args below meth c H locs cells slots Q (F0 m pc ls st) := by
  intro T hT X
  rcases hr T hT X with ⟨v, st₀, t, T', L, h0, X', hL, e1, e2, ⟨v', h', hv, hp, hR, hF⟩, st⟩ | ⟨q, st₀, t, T', L, E, ce, h0, X', hL, e1, e2, ⟨h', hp, hR, hF⟩, hce, hcv, hcl, st⟩
  · cases hv
    obtain ⟨-, -, k3⟩ := vx_keep h0 e1 hS (fun q _ h => h) (fun q h => h) hL hF
    obtain ⟨t2, a1, b1⟩ := kk v h' T'.heap (locs ++ L) hp (by rw [e1]; exact hR) k3 T' rfl X'
    exact ⟨t2, st t2 a1, b1⟩
  · obtain ⟨-, -, k3⟩ := vx_keep h0 e1 hS (fun q _ h => h) (fun q h => h) hL hF
    obtain ⟨t2, a1, b1⟩ := kx E h' T'.heap (locs ++ L) q ce hp (by rw [e1]; exact hR) k3 (by rw [e1]; exact hce) hcv hcl T' rfl X'
    exact ⟨t2, st.trans a1, b1⟩
def jRm (M M' : jM) : Bool := Nat.ble (M'.room.frames + 1) M.room.frames && Nat.ble (8 + (M'.nL + 11) + M'.room.locals) M.room.locals
theorem jRm_fr (hr : jRm M M' = true) : M'.room.frames + 1 ≤ M.room.frames ∧ 8 + (M'.nL + 11) + M'.room.locals ≤ M.room.locals := by
  have h2 := Bool.and_eq_true_iff.mp hr
  exact ⟨Nat.le_of_ble_eq_true h2.1, Nat.le_of_ble_eq_true h2.2⟩
/-- a call of y by the entry idx of own's file: its words -/
def jLk (own : String) (idx : Nat) (y : MethodName) (M' : jM) (n : Nat) : Prop :=
  Cond.methodLink own idx y ∈ WT ∧ Cond.initialized y.cls ∈ WT ∧ Cond.code y M'.cc M'.nL M'.ret ∈ WT ∧ (y.cls ≠ "java/lang/invoke/MethodHandle" ∧ y.cls ≠ "java/lang/invoke/VarHandle") ∧ (parseMethodDescriptor y.desc).map (fun d => d.parameters.length) = some n
theorem jLk.callB {own : String} {idx n : Nat} {y : MethodName} (V : jLk own idx y M' n) (hh : M'.hh = []) (hr : jRm M M' = true) {s : State} {args : Array Value} (hts : ∀ w ∈ WT, w.before args s = true) : CallB M.room s args own idx y M'.cc M'.nL M'.ret (jws y M') M'.room M'.room.cells M'.room.slots n := by
  obtain ⟨v1, v2, v3, v4, v5⟩ := V
  have hw : jws y M' = Cond.code y M'.cc M'.nL M'.ret :: WT := by unfold jws; rw [hh]
  refine ⟨rfl, rfl, (jRm_fr hr).1, (jRm_fr hr).2, ?_, ?_, hts _ v3, hts _ v2, v4, fun sig h => ?_, hts _ v1⟩
  · intro w hwm
    rw [hw] at hwm
    rcases List.mem_cons.mp hwm with e | e
    · rw [e]; exact WT_pay hts _ v3
    · exact WT_pay hts _ e
  · rw [hw]; exact List.mem_cons_self
  · rw [h] at v5
    exact (Option.some.inj v5).symm
theorem jPc_pre {G : jG} {av : List Value} {h : jH} {s : State} {H : Heap} {locs : List Loc} (hK : jK G s s.heap) (hS : va_S (jB G) s.heap H locs) (hR : jR G h H) : ∀ U : State, U.heap = H → s.WarmedH U.vm → jPc G av h av.toArray U :=
  fun U hU hW => ⟨rfl, by rw [hU]; exact hR, by rw [hU]; exact jK.moved hK hW hS.1 hS.2.1⟩
theorem j_callV {y : MethodName} {As : List Value} {a ci n idx : Nat} {fs : List Value} {T : u_T} {N : Nat} (V : jLk M.own idx y M' n) (V2 : Cond.instanceMethod y ∈ WT ∧ Cond.selects y.cls y y ∈ WT ∧ vwCl[ci]? = some (y.cls, T, N)) (ha : h a = some (.inr (ci, fs)))
    (C : jC l G y M' (.ref a :: As) h Post') (hh : M'.hh = []) (hst : st = As.reverse ++ .ref a :: rest) (hn : As.length = n) (hrm : jRm M M' = true) (hrest : Nat.ble (rest.map fun v => v.category).sum 8 = true) (hd : decode M.cc pc = .ok (.invokevirtual idx, 3))
    (hck : M'.room.cells + ck' ≤ ck) (hsk : M'.room.slots + sk' ≤ sk) (kk : ∀ (v : Option Value) (h' : jH), Post' (.inl v) h' → J l G M QF ck' sk' (pc + 3) L (v.toList ++ rest) h')
    (kx : ∀ (E : String) (h' : jH), Post' (.inr E) h' → jX l G M QF ck' sk' pc L rest h' E) : J l G M QF ck sk pc L st h := by
  intro p e s m args below meth c H locs cells slots ls S hR hS hl hc hs
  have hts := S.2.2.2.2.2.2.2.2.1
  have hK := S.2.2.2.2.2.2.2.2.2
  obtain ⟨r, hr1, cell, g1, g2, g3, -⟩ := (hR a _ ha).2
  have hr : r = (y.cls, T, N) := Option.some.inj (hr1.symm.trans V2.2.2)
  subst hr
  have hrun := vx_runV (g := F0 m pc ls st) (rest := rest) (l := l) (R := M.room) (locs := locs) (cells := cells) (slots := slots) (below := below) (meth := meth) (e := e) (H := H) ⟨S.1, S.2.1, S.2.2.1, S.2.2.2.2.2.2.2.1, hts⟩ C ⟨V.callB hh hrm hts, hts _ V2.1, hts _ V2.2.1⟩
    ⟨jPc.blind, ⟨cell, g1, by rw [g3]; rfl, by rw [g2]; exact (hK.1.1 ci _ V2.2.2).2.1⟩, jPc_pre hK hS hR⟩ rfl hn hl.1 hst (lv_room (Nat.le_of_ble_eq_true hrest)) hd ⟨by omega, by omega⟩
  refine j_run hrun hS (fun v h' H1 locs1 hp hR1 hS1 => ?_) (fun E h' H1 locs1 q ce hp hR1 hS1 h1 h2 h3 => ?_)
  · exact kk v h' hp p e s m args below meth c H1 locs1 _ _ ls S hR1 hS1 hl (by omega) (by omega)
  · exact kx E h' hp p e s m args below meth c H1 locs1 _ _ ls q ce S hR1 hS1 hl (by omega) (by omega) h1 h2 h3
theorem j_callS {y : MethodName} {As : List Value} {n idx : Nat} (V : jLk M.own idx y M' n) (V2 : Cond.static y ∈ WT)
    (C : jC l G y M' As h Post') (hh : M'.hh = []) (hst : st = As.reverse ++ rest) (hn : As.length = n) (hrm : jRm M M' = true) (hrest : Nat.ble (rest.map fun v => v.category).sum 8 = true) (hd : decode M.cc pc = .ok (.invokestatic idx, 3))
    (hck : M'.room.cells + ck' ≤ ck) (hsk : M'.room.slots + sk' ≤ sk) (kk : ∀ (v : Option Value) (h' : jH), Post' (.inl v) h' → J l G M QF ck' sk' (pc + 3) L (v.toList ++ rest) h')
    (kx : ∀ (E : String) (h' : jH), Post' (.inr E) h' → jX l G M QF ck' sk' pc L rest h' E) : J l G M QF ck sk pc L st h := by
  intro p e s m args below meth c H locs cells slots ls S hR hS hl hc hs
  have hts := S.2.2.2.2.2.2.2.2.1
  have hK := S.2.2.2.2.2.2.2.2.2
  have hrun := vx_runS (g := F0 m pc ls st) (rest := rest) (l := l) (R := M.room) (locs := locs) (cells := cells) (slots := slots) (below := below) (meth := meth) (e := e) (H := H) ⟨S.1, S.2.1, S.2.2.1, S.2.2.2.2.2.2.2.1, hts⟩ C ⟨V.callB hh hrm hts, hts _ V2⟩
    ⟨jPc.blind, jPc_pre hK hS hR⟩ rfl hn hl.1 hst (lv_room (Nat.le_of_ble_eq_true hrest)) hd ⟨by omega, by omega⟩
  refine j_run hrun hS (fun v h' H1 locs1 hp hR1 hS1 => ?_) (fun E h' H1 locs1 q ce hp hR1 hS1 h1 h2 h3 => ?_)
  · exact kk v h' hp p e s m args below meth c H1 locs1 _ _ ls S hR1 hS1 hl (by omega) (by omega)
  · exact kx E h' hp p e s m args below meth c H1 locs1 _ _ ls q ce S hR1 hS1 hl (by omega) (by omega) h1 h2 h3
/-- the end of a method -/
theorem j_iret {v : Int32} (hr : M.ret = some .int) (hd : decode M.cc pc = .ok (.ireturn, 1)) (hp : Post (.inl (some (.int v))) h) : J l G M (jQ G M Post) ck sk pc L [.int v] h := by
  intro p e s m args below meth c H locs cells slots ls S hR hS hl hc hs
  refine W.widen (k := M.room.cells) (n := M.room.slots) (by omega) (by omega) (vx_ret ?_)
  exact W.iret S.1 S.2.1 (S.2.2.2.1.trans hr) (fun t ht _ => ⟨_, h, rfl, hp, by rw [ht]; exact hR, hS.F ht⟩) hS.2.2 hd S.2.2.2.2.2.2.1
theorem j_zret {v : Int32} (hr : M.ret = some .boolean) (hn : narrow .boolean (.int v) = .int v) (hd : decode M.cc pc = .ok (.ireturn, 1)) (hp : Post (.inl (some (.int v))) h) : J l G M (jQ G M Post) ck sk pc L [.int v] h := by
  intro p e s m args below meth c H locs cells slots ls S hR hS hl hc hs
  refine W.widen (k := M.room.cells) (n := M.room.slots) (by omega) (by omega) (vx_ret ?_)
  exact W.zret S.1 S.2.1 (S.2.2.2.1.trans hr) hn (fun t ht _ => ⟨_, h, rfl, hp, by rw [ht]; exact hR, hS.F ht⟩) hS.2.2 hd S.2.2.2.2.2.2.1
theorem j_vret (hr : M.ret = none) (hd : decode M.cc pc = .ok (.return_, 1)) (hp : Post (.inl none) h) : J l G M (jQ G M Post) ck sk pc L [] h := by
  intro p e s m args below meth c H locs cells slots ls S hR hS hl hc hs
  refine W.widen (k := M.room.cells) (n := M.room.slots) (by omega) (by omega) (vx_ret ?_)
  exact W.vret S.1 S.2.1 (S.2.2.2.1.trans hr) (fun t ht _ => ⟨_, h, rfl, hp, by rw [ht]; exact hR, hS.F ht⟩) hS.2.2 hd S.2.2.2.2.2.2.1
theorem j_aret {a : Nat} {n : String} (hr : M.ret = some (.object n)) (hd : decode M.cc pc = .ok (.areturn, 1)) (hp : Post (.inl (some (.ref a))) h) : J l G M (jQ G M Post) ck sk pc L [.ref a] h := by
  intro p e s m args below meth c H locs cells slots ls S hR hS hl hc hs
  refine W.widen (k := M.room.cells) (n := M.room.slots) (by omega) (by omega) (vx_ret ?_)
  exact W.aret S.1 S.2.1 (S.2.2.2.1.trans hr) (Or.inl ⟨_, rfl⟩) (Or.inr ⟨_, rfl⟩) (fun t ht _ => ⟨_, h, rfl, hp, by rw [ht]; exact hR, hS.F ht⟩) hS.2.2 hd S.2.2.2.2.2.2.1
end JC
end
section
section JM
variable {l : Launch} {G : jG} {M M' : jM} {QF : jF} {ck sk ck' sk' pc : Nat} {L L' : List (Nat × Value)} {st rest : List Value} {h : jH} {Post Post' : jO → jH → Prop}
theorem j_objInit {idx a : Nat} (hw : Cond.methodLink M.own idx objectInit ∈ WT ∧ Cond.instanceMethod objectInit ∈ WT ∧ Cond.code objectInit ⟨#[0xb1]⟩ 1 none ∈ WT) (hd : decode M.cc pc = .ok (.invokespecial idx, 3)) (hfr : Nat.ble 1 M.room.frames = true) (hlo : Nat.ble ((st.map fun v => v.category).sum + 12) M.room.locals = true)
    (kk : J l G M QF ck sk (pc + 3) L st h) : J l G M QF ck sk pc L (.ref a :: st) h := by
  intro p e s m args below meth c H locs cells slots ls S hR hS hl hc hs
  have hts := S.2.2.2.2.2.2.2.2.1
  refine W.objInit S.1 S.2.1 S.2.2.2.2.2.2.2.1 (hts _ hw.1) (hts _ hw.2.1) (hts _ hw.2.2) rfl (hl.1.trans S.2.2.1.symm) rfl hd (Nat.le_of_ble_eq_true hfr) ?_ ?_
  · have := Nat.le_of_ble_eq_true hlo
    have e0 : (F0 m pc ls (.ref a :: st)).monitorRoom = 0 := by
      have := lv_room (m := m) (pc := pc) (rest := .ref a :: st) (ls := ls) (st := []) (by simp)
      first | rfl | simp [JFrame.monitorRoom]
    rw [e0]
    omega
  · exact kk p e s m args below meth c H locs cells slots ls S hR hS hl hc hs
/-- what a 'new' wants -/
def jNe (own : String) (idx ci N : Nat) (fs : List Value) : Prop := ∃ (C : String) (T : u_T) (ty : Nat → FieldType), vwCl[ci]? = some (C, T, N) ∧ (∀ w ∈ u_ws C T N, w ∈ WT) ∧ (∀ k, k < N → parseFieldDescriptor (T k).2.2.1 = some (ty k)) ∧ Cond.classLink own idx C ∈ WT ∧ Cond.instantiable C N ∈ WT ∧ Cond.initialized C ∈ WT ∧ ∀ j, j < N → defaultValue (ty j) = vp_V fs j
theorem j_new {idx ci N : Nat} {fs : List Value} (V : jNe M.own idx ci N fs) (hd : decode M.cc pc = .ok (.new idx, 3)) (hck : ck' + 1 ≤ ck) (hsk : sk' + N ≤ sk) (kk : ∀ q : Nat, h q = none → jB G q → J l G M QF ck' sk' (pc + 3) L (.ref q :: st) (hset h q (.inr (ci, fs)))) : J l G M QF ck sk pc L st h := by
  intro p e s m args below meth c H locs cells slots ls S hR hS hl hc hs
  have hts := S.2.2.2.2.2.2.2.2.1
  have hK := S.2.2.2.2.2.2.2.2.2
  obtain ⟨C, T, ty, hcl, hin, hty, w1, w2, w3, hfs⟩ := V
  have hKn := hK.1.1 ci _ hcl
  refine W.newcK S.1 S.2.1 S.2.2.2.2.2.2.2.1 (hts _ w1) (hts _ w2) (hts _ w3) rfl hd (by omega) (by omega) hKn.2.1 rfl fun H1 kC hkC e1 z1 o1 => ?_
  have hB : jB G H.size := Nat.le_trans hK.2.2.2.2.1 hS.1
  exact kk H.size hR.none hB p e s m args below meth c H1 locs _ _ ls S (hR.new hB ⟨_, hcl, (u_born ty hts hin hKn hkC e1 hty).to hfs⟩ o1) ⟨Nat.le_trans hS.1 (by omega), fun x h1 h2 => (o1 x (Nat.lt_of_lt_of_le h1 hS.1)).trans (hS.2.1 x h1 h2), hS.2.2⟩ hl (by omega) (by omega)
/-- arrays: by their entry in jT -/
theorem j_newa {n : Int32} {N t : Nat} {atype : ArrayType} {ty : FieldType} {a0 : vp_A} (hw : Cond.arrayClass (newarray.typeOf atype) ∈ WT) (hty : newarray.typeOf atype = ty) (ht : (jT G)[t]? = some (G.2.1 t, ty)) (hra : ∀ (U : State) (cA : ClassId), va_RA U cA ty ↔ U.vm.findClass ("[" ++ ty.toString) = some cA)
    (ha : ∀ cA : ClassId, vp_cell cA a0 = arrV cA N (fun _ => defaultValue ty)) (hd : decode M.cc pc = .ok (.newarray atype, 2)) (hn : ¬ n < 0) (hN : n.toNatClampNeg = N) (hb : N * componentBytes ty ≤ 536870912) (hck : ck' + 1 ≤ ck) (hsk : sk' + N ≤ sk)
    (kk : ∀ q : Nat, h q = none → jB G q → J l G M QF ck' sk' (pc + 2) L (.ref q :: st) (hset h q (.inl (G.2.1 t, a0)))) : J l G M QF ck sk pc L (.int n :: st) h := by
  intro p e s m args below meth c H locs cells slots ls S hR hS hl hc hs
  have hts := S.2.2.2.2.2.2.2.2.1
  have hK := S.2.2.2.2.2.2.2.2.2
  subst hty
  refine va_newaK S.1 S.2.1 (hts _ hw) rfl hd rfl hn hN hb (by omega) (by omega) rfl fun H1 cA e1 z1 o1 hAr hNm => ?_
  have hcA : cA = G.2.1 t := by
    have h2 := (hra s (G.2.1 t)).mp (hK.1.2 t _ ht).2
    exact Option.some.inj (hNm.symm.trans h2)
  subst hcA
  have hB : jB G H.size := Nat.le_trans hK.2.2.2.2.1 hS.1
  refine kk H.size hR.none hB p e s m args below meth c H1 locs _ _ ls S (hR.new hB ?_ o1) ⟨Nat.le_trans hS.1 (by omega), fun x h1 h2 => (o1 x (Nat.lt_of_lt_of_le h1 hS.1)).trans (hS.2.1 x h1 h2), hS.2.2⟩ hl (by omega) (by omega)
  show H1[H.size]? = some (vp_cell _ _)
  rw [ha]
  exact e1
theorem j_newI {n : Int32} (N : Nat) (hw : Cond.arrayClass .int ∈ WT) (hd : decode M.cc pc = .ok (.newarray .int, 2)) (hn : ¬ n < 0) (hN : n.toNatClampNeg = N) (hb : N * 4 ≤ 536870912) (hck : ck' + 1 ≤ ck) (hsk : sk' + N ≤ sk)
    (kk : ∀ q : Nat, h q = none → jB G q → J l G M QF ck' sk' (pc + 2) L (.ref q :: st) (hset h q (aI G N (fun _ => 0)))) : J l G M QF ck sk pc L (.int n :: st) h :=
  j_newa (t := 0) (a0 := (N, .inl (fun _ => 0))) (atype := .int) hw rfl rfl (fun _ _ => Iff.rfl) (fun _ => by rw [vp_cell_i]; rfl) hd hn hN hb hck hsk kk
theorem j_newZ {n : Int32} (N : Nat) (hw : Cond.arrayClass .boolean ∈ WT) (hd : decode M.cc pc = .ok (.newarray .boolean, 2)) (hn : ¬ n < 0) (hN : n.toNatClampNeg = N) (hb : N * 1 ≤ 536870912) (hck : ck' + 1 ≤ ck) (hsk : sk' + N ≤ sk)
    (kk : ∀ q : Nat, h q = none → jB G q → J l G M QF ck' sk' (pc + 2) L (.ref q :: st) (hset h q (aZ G N (fun _ => 0)))) : J l G M QF ck sk pc L (.int n :: st) h :=
  j_newa (t := 1) (a0 := (N, .inl (fun _ => 0))) (atype := .boolean) hw rfl rfl (fun _ _ => Iff.rfl) (fun _ => by rw [vp_cell_i]; rfl) hd hn hN hb hck hsk kk
theorem j_newq {n : Int32} {idx t : Nat} {C : String} (N : Nat) (hw : Cond.classLink M.own idx C ∈ WT) (hg : Cond.arrayOver (.object C) ∈ jNg) (ht : (jT G)[t]? = some (G.2.1 t, .object C)) (hd : decode M.cc pc = .ok (.anewarray idx, 3)) (hn : ¬ n < 0) (hN : n.toNatClampNeg = N) (hb : N * 4 ≤ 536870912) (hck : ck' + 1 ≤ ck) (hsk : sk' + N ≤ sk)
    (kk : ∀ q : Nat, h q = none → jB G q → J l G M QF ck' sk' (pc + 3) L (.ref q :: st) (hset h q (aR G t N (fun _ => none)))) : J l G M QF ck sk pc L (.int n :: st) h := by
  intro p e s m args below meth c H locs cells slots ls S hR hS hl hc hs
  have hts := S.2.2.2.2.2.2.2.2.1
  have hK := S.2.2.2.2.2.2.2.2.2
  subst hN
  have hAO : va_AO C s := hK.2.2.2.2.2.1 _ hg
  refine W.anew S.1 S.2.1 S.2.2.2.2.2.2.2.1 (hts _ hw) (va_AO.use hAO) rfl hd rfl hn hb (by omega) (by omega) fun cA kA comp f1 f2 f3 f4 => ?_
  generalize hH1 : H.push ({ cls := cA, slots := Array.replicate n.toNatClampNeg .null, vm := .none } : Cell) = H1
  have z1 : H1.size = H.size + 1 := by rw [← hH1, Array.size_push]
  have e1 : H1[H.size]? = some (arrV cA n.toNatClampNeg (fun _ => .null)) := by rw [← hH1, Array.getElem?_push_size, ← arrV_new]
  have o1 : ∀ q : Nat, q < H.size → H1[q]? = H[q]? := fun q hq => by rw [← hH1, Array.getElem?_push, if_neg (Nat.ne_of_lt hq)]
  have hcA : cA = G.2.1 t := by
    obtain ⟨kA', comp', g1, g2, g3, g4⟩ := (hK.1.2 t _ ht).2
    exact Option.some.inj (f1.symm.trans g4)
  subst hcA
  have hB : jB G H.size := Nat.le_trans hK.2.2.2.2.1 hS.1
  refine kk H.size hR.none hB p e s m args below meth c H1 locs _ _ ls S (hR.new hB ?_ o1) ⟨Nat.le_trans hS.1 (by omega), fun x h1 h2 => (o1 x (Nat.lt_of_lt_of_le h1 hS.1)).trans (hS.2.1 x h1 h2), hS.2.2⟩ hl (by omega) (by omega)
  show H1[H.size]? = some (vp_cell _ _)
  rw [vp_cell_q]
  exact e1
/-- an object into an array of its class -/
theorem j_qast {a n v t ci : Nat} {C : String} {T : u_T} {N : Nat} {vs : List Value} {f : Nat → Option Nat} {i : Int32} (ht : (jT G)[t]? = some (G.2.1 t, .object C)) (hcl : vwCl[ci]? = some (C, T, N)) (hd : decode M.cc pc = .ok (.aastore, 1)) (ha : h a = some (aR G t n f)) (hv : h v = some (.inr (ci, vs))) (hin : vp_in i n) (kk : J l G M QF ck sk (pc + 1) L st (hset h a (aR G t n (va_up f i.toNatClampNeg (some v))))) : J l G M QF ck sk pc L (.ref v :: .int i :: .ref a :: st) h := by
  intro p e s m args below meth c H locs cells slots ls S hR hS hl hc hs
  have hK := S.2.2.2.2.2.2.2.2.2.1
  have hlt : i.toNatClampNeg < n := Nat.not_le.mp fun q => hin (Or.inr q)
  have h0 : ¬ i < 0 := fun q => hin (Or.inl q)
  obtain ⟨r', hr', cellV, g1, g2, g3, -⟩ := (hR v _ hv).2
  have hcls := (hK.1 ci _ hcl).2
  obtain ⟨kA, comp, k1, k2, k3, -⟩ := (hK.2 t _ ht).2
  have hcomp : comp = G.1.1 ci := Option.some.inj (k3.symm.trans hcls.1)
  subst hcomp
  obtain ⟨kC, hkC, -⟩ := hcls.2
  refine W.aast S.1 S.2.1 (hR a _ ha).2 (fun q h => by cases h) (fun h => by cases h) k1 k2 rfl hkC ⟨h0, by show _ < (arrV _ _ _).slots.size; rw [arrV_size]; exact hlt⟩ g1 (fun q h => by rw [g3] at h; cases h) (by rw [g2]; exact hkC) (by rw [g2]; exact va_assign hcls) rfl rfl hd fun H1 e1 z oq => ?_
  refine kk p e s m args below meth c H1 _ cells slots ls S (hR.set ha ?_ oq) (hS.put z oq (hR a _ ha).1) hl hc hs
  show H1[a]? = some (vp_cell _ _)
  rw [e1]
  rw [vp_cell_q, vp_cell_q, arrV_store]
  congr 2
  funext q
  by_cases hq : q = i.toNatClampNeg
  · subst hq
    simp [updV, va_up, va_rf]
  · simp [updV, va_up, hq]
end JM
end
section
section JO
variable {l : Launch} {G : jG} {M M' : jM} {QF : jF} {ck sk ck' sk' pc : Nat} {L L' : List (Nat × Value)} {st rest : List Value} {h : jH} {Post Post' : jO → jH → Prop}
/-- what a run of a returning call gives -/
theorem j_runR {p : Program} {e : Env} {s : State} {m : MethodId} {args a : Array Value} {below : List Frame} {meth : Method} {c : Code} {H : Heap} {locs : List Loc} {cells slots mc ms : Nat} {ls : Array Slot} {R : Room} {Q : State → Prop}
    (hr : va_Run p l e R s m args below meth c H locs cells slots mc ms (F0 m pc ls st) rest (jQc G Post' a) (jB G)) (hS : va_S (jB G) s.heap H locs)
    (kk : ∀ (v : Option Value) (h' : jH) (H1 : Heap) (locs1 : List Loc), Post' (.inl v) h' → jR G h' H1 → va_S (jB G) s.heap H1 locs1 → W p l e R s m args below meth c H1 locs1 (cells + mc) (slots + ms) Q (F0 m (pc + 3) ls (v.toList ++ rest))) :
    W p l e R s m args below meth c H locs cells slots Q (F0 m pc ls st) := by
  intro T hT X
  obtain ⟨v, st₀, t, T', L, h0, X', hL, e1, e2, ⟨v', h', hv, hp, hR, hF⟩, st⟩ := hr T hT X
  cases hv
  obtain ⟨-, -, k3⟩ := vx_keep h0 e1 hS (fun q _ h => h) (fun q h => h) hL hF
  obtain ⟨t2, a1, b1⟩ := kk v h' T'.heap (locs ++ L) hp (by rw [e1]; exact hR) k3 T' rfl X'
  exact ⟨t2, st t2 a1, b1⟩
/-- constructors -/
theorem j_callI {y : MethodName} {As : List Value} {a n idx : Nat} (V : jLk M.own idx y M' n) (V2 : Cond.instanceMethod y ∈ WT ∧ y.name = "<init>")
    (C : jC l G y M' (.ref a :: As) h Post') (hX : ∀ E h', ¬ Post' (.inr E) h') (hh : M'.hh = []) (hret : M'.ret = none) (hst : st = As.reverse ++ .ref a :: rest) (hn : As.length = n) (hrm : jRm M M' = true) (hrest : Nat.ble (rest.map fun v => v.category).sum 8 = true) (hd : decode M.cc pc = .ok (.invokespecial idx, 3))
    (hck : M'.room.cells + ck' ≤ ck) (hsk : M'.room.slots + sk' ≤ sk) (kk : ∀ (v : Option Value) (h' : jH), Post' (.inl v) h' → J l G M QF ck' sk' (pc + 3) L (v.toList ++ rest) h') : J l G M QF ck sk pc L st h := by
  intro p e s m args below meth c H locs cells slots ls S hR hS hl hc hs
  have hts := S.2.2.2.2.2.2.2.2.1
  have hK := S.2.2.2.2.2.2.2.2.2
  have hB := V.callB hh hrm hts
  rw [hret] at hB
  have hrun := va_runI (g := F0 m pc ls st) (b := a) (As := As) (rest := rest) (l := l) (R := M.room) (locs := locs) (cells := cells) (slots := slots) (below := below) (meth := meth) (e := e) (H := H) ⟨S.1, S.2.1, S.2.2.1, S.2.2.2.2.2.2.2.1, hts⟩ (C.met hX) ⟨hB, V2.2, hts _ V2.1⟩
    ⟨jPc.blind, jPc_pre hK hS hR⟩ rfl hn hl.1 hst (lv_room (Nat.le_of_ble_eq_true hrest)) hd ⟨by omega, by omega⟩
  refine j_runR hrun hS (fun v h' H1 locs1 hp hR1 hS1 => ?_)
  exact kk v h' hp p e s m args below meth c H1 locs1 _ _ ls S hR1 hS1 hl (by omega) (by omega)
/-- nest mates: a call's words -/
def jLkN (own : String) (idx : Nat) (y : MethodName) (host : String) (M' : jM) (n : Nat) : Prop :=
  Cond.methodLinkNest own idx y host ∈ jNg ∧ Cond.initialized y.cls ∈ WT ∧ Cond.code y M'.cc M'.nL M'.ret ∈ WT ∧ (y.cls ≠ "java/lang/invoke/MethodHandle" ∧ y.cls ≠ "java/lang/invoke/VarHandle") ∧ (parseMethodDescriptor y.desc).map (fun d => d.parameters.length) = some n
theorem jLkN.cn {own host : String} {idx n : Nat} {y : MethodName} (V : jLkN own idx y host M' n) (hh : M'.hh = []) (hr : jRm M M' = true) {s : State} {args : Array Value} (hts : ∀ w ∈ WT, w.before args s = true) (hN : ∀ w ∈ jNg, va_Nw w s) : va_CN M.room s args own idx y host M'.cc M'.nL M'.ret (jws y M') M'.room M'.room.cells M'.room.slots n := by
  obtain ⟨v1, v2, v3, v4, v5⟩ := V
  have hw : jws y M' = Cond.code y M'.cc M'.nL M'.ret :: WT := by unfold jws; rw [hh]
  refine ⟨⟨rfl, rfl, (jRm_fr hr).1, (jRm_fr hr).2, ?_, ?_⟩, hts _ v3, hts _ v2, v4, fun sig h => ?_, va_Nw.use rfl (hN _ v1)⟩
  · intro w hwm
    rw [hw] at hwm
    rcases List.mem_cons.mp hwm with e | e
    · rw [e]; exact WT_pay hts _ v3
    · exact WT_pay hts _ e
  · rw [hw]; exact List.mem_cons_self
  · rw [h] at v5
    exact (Option.some.inj v5).symm
theorem j_callIN {y : MethodName} {host : String} {As : List Value} {a n idx : Nat} (V : jLkN M.own idx y host M' n) (V2 : Cond.instanceMethod y ∈ WT ∧ y.name = "<init>")
    (C : jC l G y M' (.ref a :: As) h Post') (hX : ∀ E h', ¬ Post' (.inr E) h') (hh : M'.hh = []) (hret : M'.ret = none) (hst : st = As.reverse ++ .ref a :: rest) (hn : As.length = n) (hrm : jRm M M' = true) (hrest : Nat.ble (rest.map fun v => v.category).sum 8 = true) (hd : decode M.cc pc = .ok (.invokespecial idx, 3))
    (hck : M'.room.cells + ck' ≤ ck) (hsk : M'.room.slots + sk' ≤ sk) (kk : ∀ (v : Option Value) (h' : jH), Post' (.inl v) h' → J l G M QF ck' sk' (pc + 3) L (v.toList ++ rest) h') : J l G M QF ck sk pc L st h := by
  intro p e s m args below meth c H locs cells slots ls S hR hS hl hc hs
  have hts := S.2.2.2.2.2.2.2.2.1
  have hK := S.2.2.2.2.2.2.2.2.2
  have hB := V.cn hh hrm hts hK.2.2.2.2.2.1
  rw [hret] at hB
  have hrun := va_runIN (g := F0 m pc ls st) (b := a) (As := As) (rest := rest) (l := l) (R := M.room) (locs := locs) (cells := cells) (slots := slots) (below := below) (meth := meth) (e := e) (H := H) ⟨S.1, S.2.1, S.2.2.1, S.2.2.2.2.2.2.2.1, hts⟩ (C.met hX) ⟨hB, V2.2, hts _ V2.1⟩
    ⟨jPc.blind, jPc_pre hK hS hR⟩ rfl hn hl.1 hst (lv_room (Nat.le_of_ble_eq_true hrest)) hd ⟨by omega, by omega⟩
  refine j_runR hrun hS (fun v h' H1 locs1 hp hR1 hS1 => ?_)
  exact kk v h' hp p e s m args below meth c H1 locs1 _ _ ls S hR1 hS1 hl (by omega) (by omega)
theorem j_callSN {y : MethodName} {host : String} {As : List Value} {n idx : Nat} (V : jLkN M.own idx y host M' n) (V2 : Cond.static y ∈ WT)
    (C : jC l G y M' As h Post') (hX : ∀ E h', ¬ Post' (.inr E) h') (hh : M'.hh = []) (hst : st = As.reverse ++ rest) (hn : As.length = n) (hrm : jRm M M' = true) (hrest : Nat.ble (rest.map fun v => v.category).sum 8 = true) (hd : decode M.cc pc = .ok (.invokestatic idx, 3))
    (hck : M'.room.cells + ck' ≤ ck) (hsk : M'.room.slots + sk' ≤ sk) (kk : ∀ (v : Option Value) (h' : jH), Post' (.inl v) h' → J l G M QF ck' sk' (pc + 3) L (v.toList ++ rest) h') : J l G M QF ck sk pc L st h := by
  intro p e s m args below meth c H locs cells slots ls S hR hS hl hc hs
  have hts := S.2.2.2.2.2.2.2.2.1
  have hK := S.2.2.2.2.2.2.2.2.2
  have hB := V.cn hh hrm hts hK.2.2.2.2.2.1
  have hrun := va_runSN (g := F0 m pc ls st) (As := As) (rest := rest) (l := l) (R := M.room) (locs := locs) (cells := cells) (slots := slots) (below := below) (meth := meth) (e := e) (H := H) ⟨S.1, S.2.1, S.2.2.1, S.2.2.2.2.2.2.2.1, hts⟩ (C.met hX) ⟨hB, hts _ V2, trivial⟩
    ⟨jPc.blind, jPc_pre hK hS hR⟩ rfl hn hl.1 hst (lv_room (Nat.le_of_ble_eq_true hrest)) hd ⟨by omega, by omega⟩
  refine j_runR hrun hS (fun v h' H1 locs1 hp hR1 hS1 => ?_)
  exact kk v h' hp p e s m args below meth c H1 locs1 _ _ ls S hR1 hS1 hl (by omega) (by omega)
/-- fields of a nest mate -/
def jFlN (own host : String) (idx ci k : Nat) : Prop := ∃ (C : String) (T : u_T) (N : Nat), vwCl[ci]? = some (C, T, N) ∧ k < N ∧ Cond.fieldLinkNest own idx (T k).1 (T k).2.1 (T k).2.2.1 host ∈ jNg ∧ ∀ w ∈ u_ws C T N, w ∈ WT
theorem j_getN {host : String} {idx a ci k : Nat} {fs : List Value} {v : Value} (F : jFlN M.own host idx ci k) (hd : decode M.cc pc = .ok (.getfield idx, 3)) (ha : h a = some (.inr (ci, fs))) (hv : fs[k]? = some v) (kk : J l G M QF ck sk (pc + 3) L (v :: st) h) : J l G M QF ck sk pc L (.ref a :: st) h := by
  intro p e s m args below meth c H locs cells slots ls S hR hS hl hc hs
  obtain ⟨C, T, N, hcl, hk, hw, hin⟩ := F
  exact va_getN (D := G.1) (cl := vwCl) (tys := jT G) (ws := [(a, .inr (ci, fs))]) (ref := (T k).1) S.1 S.2.1 S.2.2.2.2.2.2.2.2.1 hin S.2.2.2.2.2.2.2.1 S.2.2.2.2.2.2.2.2.2.1
    (va_P1 (hR _ _ ha).2) 0 rfl hcl k hk (va_Nw.use rfl (S.2.2.2.2.2.2.2.2.2.2.2.2.2.2.1 _ hw)) (fun _ z => z) hv hd (kk p e s m args below meth c H locs cells slots ls S hR hS hl hc hs)
theorem j_putN {host : String} {idx a ci k : Nat} {fs fs' : List Value} {v : Value} {ty : FieldType} (F : jFlN M.own host idx ci k) (Y : jTy ci k ty false) (hd : decode M.cc pc = .ok (.putfield idx, 3)) (ha : h a = some (.inr (ci, fs))) (hn : narrow ty v = v) (hfit : fits ty v = true) (hl0 : Nat.blt k fs.length = true) (hf : fs.set k v = fs') (kk : J l G M QF ck sk (pc + 3) L st (hset h a (.inr (ci, fs')))) : J l G M QF ck sk pc L (v :: .ref a :: st) h := by
  intro p e s m args below meth c H locs cells slots ls S hR hS hl hc hs
  obtain ⟨C, T, N, hcl, hk, hw, hin⟩ := F
  obtain ⟨C', T', N', ty0, hcl', hty, hnm, hpd, hfin, hC⟩ := Y
  rw [hcl] at hcl'
  cases hcl'
  subst hf
  have hts := S.2.2.2.2.2.2.2.2.1
  have hK := S.2.2.2.2.2.2.2.2.2.1
  have hap := va_apart (own := M.own) hts hin ty0 hty hnm hK hcl
  obtain ⟨r, h1, cell, q1, q2, q3, q4⟩ := (hR a _ ha).2
  have hr : r = (C, T, N) := Option.some.inj (h1.symm.trans hcl)
  subst hr
  obtain ⟨hS0, hfc, kC, hkC, hkind⟩ := hK.1 ci _ hcl
  obtain ⟨cf, kf, fi, f, hi, hsl⟩ := hS0 k hk
  have hlay := hts _ (hin _ (u_in_lay hk))
  unfold u_lay at hlay
  rw [if_neg (by rw [hfin]; decide)] at hlay
  have hst := (u_facts hfc hkC (u_lays hts hin hk) hi).1
  have h6 := u_store hfc hkC hkind hlay hi hpd hn hfit
  refine va_WputK S.1 S.2.1 (f := f) S.2.2.2.2.2.2.2.1 (va_Nw.use rfl (S.2.2.2.2.2.2.2.2.2.2.2.2.2.2.1 _ hw)) hi hst (by rw [q2]; exact h6) q1 q3 (by rw [hsl]; exact k2_hasslot (q4 k hk)) rfl rfl hd fun H' e1 e2 e3 => ?_
  rw [hsl] at e1 ⊢
  exact kk p e s m args below meth c H' _ cells slots ls S (hR.set ha ⟨_, hcl, t_OB.to (V := updV (vp_V fs) k v) ⟨_, e1, q2, q3, t_set q4 hap hk v⟩ (fun j _ => vp_updV_set (Nat.le_of_ble_eq_true hl0) v j)⟩ e3) (hS.put e2 e3 (hR a _ ha).1) hl hc hs
/-! Math -/
theorem j_mmax {idx : Nat} {x y : Int32} (hw : Cond.methodLink M.own idx Lib.Math.max.name ∈ WT ∧ Cond.static Lib.Math.max.name ∈ WT ∧ Cond.initialized "java/lang/Math" ∈ WT ∧ Cond.code Lib.Math.max.name Lib.Math.max.code 2 (some .int) ∈ WT) (hfr : Nat.ble 1 M.room.frames = true) (hlo : Nat.ble ((st.map fun v => v.category).sum + 13) M.room.locals = true)
    (hd : decode M.cc pc = .ok (.invokestatic idx, 3)) (kk : J l G M QF ck sk (pc + 3) L (.int (if x < y then y else x) :: st) h) : J l G M QF ck sk pc L (.int y :: .int x :: st) h := by
  intro p e s m args below meth c H locs cells slots ls S hR hS hl hc hs
  have hts := S.2.2.2.2.2.2.2.2.1
  exact va_mmax S.1 S.2.1 (S.2.2.1.trans hl.1.symm) S.2.2.2.2.2.2.2.1 (hts _ hw.1) (hts _ hw.2.1) (hts _ hw.2.2.1) (hts _ hw.2.2.2) (Nat.le_of_ble_eq_true hfr) (Nat.le_of_ble_eq_true hlo) (by omega) (by omega) hd (kk p e s m args below meth c H locs cells slots ls S hR hS hl hc hs)
theorem j_mmin {idx : Nat} {x y : Int32} (hw : Cond.methodLink M.own idx Lib.Math.min.name ∈ WT ∧ Cond.static Lib.Math.min.name ∈ WT ∧ Cond.initialized "java/lang/Math" ∈ WT ∧ Cond.code Lib.Math.min.name Lib.Math.min.code 2 (some .int) ∈ WT) (hfr : Nat.ble 1 M.room.frames = true) (hlo : Nat.ble ((st.map fun v => v.category).sum + 13) M.room.locals = true)
    (hd : decode M.cc pc = .ok (.invokestatic idx, 3)) (kk : J l G M QF ck sk (pc + 3) L (.int (if y < x then y else x) :: st) h) : J l G M QF ck sk pc L (.int y :: .int x :: st) h := by
  intro p e s m args below meth c H locs cells slots ls S hR hS hl hc hs
  have hts := S.2.2.2.2.2.2.2.2.1
  exact va_mmin S.1 S.2.1 (S.2.2.1.trans hl.1.symm) S.2.2.2.2.2.2.2.1 (hts _ hw.1) (hts _ hw.2.1) (hts _ hw.2.2.1) (hts _ hw.2.2.2) (Nat.le_of_ble_eq_true hfr) (Nat.le_of_ble_eq_true hlo) (by omega) (by omega) hd (kk p e s m args below meth c H locs cells slots ls S hR hS hl hc hs)
theorem j_mabs {idx : Nat} {x : Int32} (hw : Cond.methodLink M.own idx Lib.Math.abs.name ∈ WT ∧ Cond.static Lib.Math.abs.name ∈ WT ∧ Cond.initialized "java/lang/Math" ∈ WT ∧ Cond.code Lib.Math.abs.name Lib.Math.abs.code 1 (some .int) ∈ WT) (hfr : Nat.ble 1 M.room.frames = true) (hlo : Nat.ble ((st.map fun v => v.category).sum + 13) M.room.locals = true)
    (hd : decode M.cc pc = .ok (.invokestatic idx, 3)) (kk : J l G M QF ck sk (pc + 3) L (.int (if 0 ≤ x then x else 0 - x) :: st) h) : J l G M QF ck sk pc L (.int x :: st) h := by
  intro p e s m args below meth c H locs cells slots ls S hR hS hl hc hs
  have hts := S.2.2.2.2.2.2.2.2.1
  exact va_mabs S.1 S.2.1 (S.2.2.1.trans hl.1.symm) S.2.2.2.2.2.2.2.1 (hts _ hw.1) (hts _ hw.2.1) (hts _ hw.2.2.1) (hts _ hw.2.2.2) (Nat.le_of_ble_eq_true hfr) (Nat.le_of_ble_eq_true hlo) (by omega) (by omega) hd (kk p e s m args below meth c H locs cells slots ls S hR hS hl hc hs)
/-! throw new E("text") -/
def jEx : List (String × Nat) := [("java/lang/IndexOutOfBoundsException", 357), ("java/lang/IllegalArgumentException", 134), ("java/lang/IllegalStateException", 106)]
abbrev jCh : List String := ["java/lang/RuntimeException", "java/lang/Exception"]
def jThr (E : String) (ic ik : Nat) : Prop := Cond.classLink RX9 ik E ∈ WT ∧ Cond.initialized E ∈ WT ∧ Bundle.fit E = true ∧ (∀ w ∈ vx_atS RX9 ic E jCh, w ∈ WT ∨ (w ∈ jNg ∧ w.onTables = true)) ∧ ∀ w ∈ Cond.classLink RX9 ik E :: Cond.initialized E :: vx_atS RX9 ic E jCh, vx_ot w = true
theorem jCh_fit : ∀ n ∈ jCh, Bundle.fit n = true := by decide +kernel
theorem j_throwS {E text : String} {ic ik is k : Nat} (hl0 : l.stackTraces = false) (hown : M.own = RX9) (V : jThr E ic ik) (hx : jTx[k]? = some (is, text)) (hh : M.hh = [])
    (d0 : decode M.cc pc = .ok (.new ik, 3)) (d3 : decode M.cc (pc + 3) = .ok (.dup, 1)) (d4 : decode M.cc (pc + 4) = .ok (.ldc is, 2)) (d6 : decode M.cc (pc + 6) = .ok (.invokespecial ic, 3)) (d9 : decode M.cc (pc + 9) = .ok (.athrow, 1))
    (hfr : Nat.ble 6 M.room.frames = true) (hlo : Nat.ble ((st.map fun v => v.category).sum + 82) M.room.locals = true) (hck : 1 ≤ ck) (hsk : 6 ≤ sk) (hp : Post (.inr E) h) : J l G M (jQ G M Post) ck sk pc L st h := by
  intro p e s m args below meth c H locs cells slots ls S hR hS hl hc hs
  have hts := S.2.2.2.2.2.2.2.2.1
  have hK := S.2.2.2.2.2.2.2.2.2
  obtain ⟨v1, v2, v3, v4, v5⟩ := V
  have ho := S.2.2.2.2.2.2.2.1
  rw [hown] at ho
  refine vx_throwS (names := jCh) (A := jB G) S.1 S.2.1 hl0 ho v3 jCh_fit (hts _ v1) (hts _ v2) (hK.2.2.1 k _ hx) (fun w hw => ?_) v5 hK.2.2.2.1.1 hK.2.2.2.1.2 hS (hl.1.trans S.2.2.1.symm) d0 d3 d4 d6 d9 ?_ (Nat.le_of_ble_eq_true hfr) (Nat.le_of_ble_eq_true hlo) (by omega) (by omega) S.2.2.2.2.2.2.1 ?_ hS.2.2 (by omega) (by omega)
  · rcases v4 w hw with q | q
    · exact hts _ q
    · exact va_Nw.use q.2 (hK.2.2.2.2.2.1 w q.1)
  · intro x hx
    rw [S.2.2.2.2.1, hh] at hx
    cases hx
  · intro t hA hz hq
    exact ⟨h, hp, fun a e9 he => ⟨(hR a e9 he).1, (hR a e9 he).2.kept (hq a (hR a e9 he).2.lt)⟩, Nat.le_trans hS.1 hz, fun q h1 h2 => (hq q (Nat.lt_of_lt_of_le h1 hS.1)).trans (hS.2.1 q h1 h2)⟩
theorem j_throwSW {E text : String} {ic ik is k : Nat} (hl0 : l.stackTraces = false) (hown : M.own = RX9) (V : jThr E ic ik) (hx : jTx[k]? = some (is, text)) (hh : M.hh = [])
    (d0 : decode M.cc pc = .ok (.new ik, 3)) (d3 : decode M.cc (pc + 3) = .ok (.dup, 1)) (d4 : decode M.cc (pc + 4) = .ok (.ldc_w is, 3)) (d6 : decode M.cc (pc + 7) = .ok (.invokespecial ic, 3)) (d9 : decode M.cc (pc + 10) = .ok (.athrow, 1))
    (hfr : Nat.ble 6 M.room.frames = true) (hlo : Nat.ble ((st.map fun v => v.category).sum + 82) M.room.locals = true) (hck : 1 ≤ ck) (hsk : 6 ≤ sk) (hp : Post (.inr E) h) : J l G M (jQ G M Post) ck sk pc L st h := by
  intro p e s m args below meth c H locs cells slots ls S hR hS hl hc hs
  have hts := S.2.2.2.2.2.2.2.2.1
  have hK := S.2.2.2.2.2.2.2.2.2
  obtain ⟨v1, v2, v3, v4, v5⟩ := V
  have ho := S.2.2.2.2.2.2.2.1
  rw [hown] at ho
  refine vx_throwSW (names := jCh) (A := jB G) S.1 S.2.1 hl0 ho v3 jCh_fit (hts _ v1) (hts _ v2) (hK.2.2.1 k _ hx) (fun w hw => ?_) v5 hK.2.2.2.1.1 hK.2.2.2.1.2 hS (hl.1.trans S.2.2.1.symm) d0 d3 d4 d6 d9 ?_ (Nat.le_of_ble_eq_true hfr) (Nat.le_of_ble_eq_true hlo) (by omega) (by omega) S.2.2.2.2.2.2.1 ?_ hS.2.2 (by omega) (by omega)
  · rcases v4 w hw with q | q
    · exact hts _ q
    · exact va_Nw.use q.2 (hK.2.2.2.2.2.1 w q.1)
  · intro x hx
    rw [S.2.2.2.2.1, hh] at hx
    cases hx
  · intro t hA hz hq
    exact ⟨h, hp, fun a e9 he => ⟨(hR a e9 he).1, (hR a e9 he).2.kept (hq a (hR a e9 he).2.lt)⟩, Nat.le_trans hS.1 hz, fun q h1 h2 => (hq q (Nat.lt_of_lt_of_le h1 hS.1)).trans (hS.2.1 q h1 h2)⟩
/-! the other ends -/
theorem j_lret {v : Int64} (hr : M.ret = some .long) (hd : decode M.cc pc = .ok (.lreturn, 1)) (hp : Post (.inl (some (.long v))) h) : J l G M (jQ G M Post) ck sk pc L [.long v] h := by
  intro p e s m args below meth c H locs cells slots ls S hR hS hl hc hs
  refine W.widen (k := M.room.cells) (n := M.room.slots) (by omega) (by omega) (vx_ret ?_)
  exact W.lret S.1 S.2.1 (S.2.2.2.1.trans hr) (fun t ht _ => ⟨_, h, rfl, hp, by rw [ht]; exact hR, hS.F ht⟩) hS.2.2 hd S.2.2.2.2.2.2.1
theorem j_dret {v : UInt64} (hr : M.ret = some .double) (hd : decode M.cc pc = .ok (.dreturn, 1)) (hp : Post (.inl (some (.double v))) h) : J l G M (jQ G M Post) ck sk pc L [.double v] h := by
  intro p e s m args below meth c H locs cells slots ls S hR hS hl hc hs
  refine W.widen (k := M.room.cells) (n := M.room.slots) (by omega) (by omega) (vx_ret ?_)
  exact W.dret S.1 S.2.1 (S.2.2.2.1.trans hr) (fun t ht _ => ⟨_, h, rfl, hp, by rw [ht]; exact hR, hS.F ht⟩) hS.2.2 hd S.2.2.2.2.2.2.1
theorem j_aretA {a : Nat} {n : FieldType} (hr : M.ret = some (.array n)) (hd : decode M.cc pc = .ok (.areturn, 1)) (hp : Post (.inl (some (.ref a))) h) : J l G M (jQ G M Post) ck sk pc L [.ref a] h := by
  intro p e s m args below meth c H locs cells slots ls S hR hS hl hc hs
  refine W.widen (k := M.room.cells) (n := M.room.slots) (by omega) (by omega) (vx_ret ?_)
  exact W.aret S.1 S.2.1 (S.2.2.2.1.trans hr) (Or.inr ⟨_, rfl⟩) (Or.inr ⟨_, rfl⟩) (fun t ht _ => ⟨_, h, rfl, hp, by rw [ht]; exact hR, hS.F ht⟩) hS.2.2 hd S.2.2.2.2.2.2.1
end JO
end
section
theorem wt {w : Cond} (i : Nat) (h : tables_1[i]? = some w) (g : goodWord w = true) : w ∈ WT := List.mem_filter.mpr ⟨List.mem_append_right _ (List.mem_of_getElem? h), g⟩
theorem wt_p {y : MethodName} {n : Nat} (i : Nat) (h : lw_privs[i]? = some (y, n)) : Cond.selects y.cls y y ∈ WT := List.mem_filter.mpr ⟨List.mem_append_left _ (List.mem_map.mpr ⟨(y, n), List.mem_of_getElem? h, rfl⟩), rfl⟩
theorem wt_l {ws : List Cond} (ps : List Nat) (h : ws = ps.filterMap (fun i => tables_1[i]?)) (g : ws.all goodWord = true) : ∀ w ∈ ws, w ∈ WT := by
  intro w hw
  have h1 := List.all_eq_true.mp g w hw
  rw [h] at hw
  obtain ⟨i, -, hi⟩ := List.mem_filterMap.mp hw
  exact wt i hi h1
theorem wt_init {C : String} (i : Nat) (h : tables_1[i]? = some (Cond.initialized C)) : Cond.initialized C ∈ WT := wt i h rfl
/-- what a call wants of the callee -/
def jCe (y : MethodName) (M' : jM) (n : Nat) : Prop := Cond.initialized y.cls ∈ WT ∧ Cond.code y M'.cc M'.nL M'.ret ∈ WT ∧ (y.cls ≠ "java/lang/invoke/MethodHandle" ∧ y.cls ≠ "java/lang/invoke/VarHandle") ∧ (parseMethodDescriptor y.desc).map (fun d => d.parameters.length) = some n
theorem jLk.mk {own : String} {idx n : Nat} {y : MethodName} {M' : jM} (h1 : Cond.methodLink own idx y ∈ WT) (h : jCe y M' n) : jLk own idx y M' n := ⟨h1, h⟩
theorem inX0 : ∀ w ∈ u_ws RX0 TX0 5, w ∈ WT := wt_l [98, 100, 102, 104, 106] (by decide +kernel) (by decide +kernel)
theorem inX1 : ∀ w ∈ u_ws RX1 TX1 3, w ∈ WT := wt_l [178, 180, 182] (by decide +kernel) (by decide +kernel)
theorem inX2 : ∀ w ∈ u_ws RX2 TX2 8, w ∈ WT := wt_l [199, 201, 203, 205, 207, 209, 211, 213] (by decide +kernel) (by decide +kernel)
theorem inX3 : ∀ w ∈ u_ws RX3 TX3 4, w ∈ WT := wt_l [160, 162, 164, 166] (by decide +kernel) (by decide +kernel)
theorem inX4 : ∀ w ∈ u_ws RX4 TX4 5, w ∈ WT := wt_l [227, 229, 231, 233, 235] (by decide +kernel) (by decide +kernel)
theorem inX5 : ∀ w ∈ u_ws RX5 TX5 11, w ∈ WT := wt_l [126, 128, 130, 132, 134, 136, 138, 140, 142, 144, 146] (by decide +kernel) (by decide +kernel)
theorem inX6 : ∀ w ∈ u_ws RX6 TX6 13, w ∈ WT := wt_l [48, 50, 52, 54, 56, 58, 60, 62, 64, 66, 68, 70, 72] (by decide +kernel) (by decide +kernel)
theorem inX9 : ∀ w ∈ u_ws RX9 TX9 12, w ∈ WT := wt_l [250, 252, 254, 256, 258, 260, 262, 264, 266, 268, 270, 272] (by decide +kernel) (by decide +kernel)
theorem tyX0_beats : jTy 0 0 (.array .int) true := ⟨RX0, TX0, 5, tyX0, rfl, tyX0_ok, nmX0, by decide +kernel, rfl, rfl⟩
theorem tyX0_units : jTy 0 1 (.array .int) true := ⟨RX0, TX0, 5, tyX0, rfl, tyX0_ok, nmX0, by decide +kernel, rfl, rfl⟩
theorem tyX0_lengths : jTy 0 2 (.array .int) true := ⟨RX0, TX0, 5, tyX0, rfl, tyX0_ok, nmX0, by decide +kernel, rfl, rfl⟩
theorem tyX0_keys : jTy 0 3 (.array .int) true := ⟨RX0, TX0, 5, tyX0, rfl, tyX0_ok, nmX0, by decide +kernel, rfl, rfl⟩
theorem tyX0_end : jTy 0 4 .int false := ⟨RX0, TX0, 5, tyX0, rfl, tyX0_ok, nmX0, by decide +kernel, rfl, rfl⟩
theorem tyX1_root : jTy 1 0 .int false := ⟨RX1, TX1, 3, tyX1, rfl, tyX1_ok, nmX1, by decide +kernel, rfl, rfl⟩
theorem tyX1_kind : jTy 1 1 .int false := ⟨RX1, TX1, 3, tyX1, rfl, tyX1_ok, nmX1, by decide +kernel, rfl, rfl⟩
theorem tyX1_lowest : jTy 1 2 .int false := ⟨RX1, TX1, 3, tyX1, rfl, tyX1_ok, nmX1, by decide +kernel, rfl, rfl⟩
theorem tyX2_kinds : jTy 2 0 (.array .int) true := ⟨RX2, TX2, 8, tyX2, rfl, tyX2_ok, nmX2, by decide +kernel, rfl, rfl⟩
theorem tyX2_ticks : jTy 2 1 (.array .int) true := ⟨RX2, TX2, 8, tyX2, rfl, tyX2_ok, nmX2, by decide +kernel, rfl, rfl⟩
theorem tyX2_partCodes : jTy 2 2 (.array .int) true := ⟨RX2, TX2, 8, tyX2, rfl, tyX2_ok, nmX2, by decide +kernel, rfl, rfl⟩
theorem tyX2_heightsAhead : jTy 2 3 (.array .int) true := ⟨RX2, TX2, 8, tyX2, rfl, tyX2_ok, nmX2, by decide +kernel, rfl, rfl⟩
theorem tyX2_heightsNow : jTy 2 4 (.array .int) true := ⟨RX2, TX2, 8, tyX2, rfl, tyX2_ok, nmX2, by decide +kernel, rfl, rfl⟩
theorem tyX2_begins : jTy 2 5 (.array .boolean) true := ⟨RX2, TX2, 8, tyX2, rfl, tyX2_ok, nmX2, by decide +kernel, rfl, rfl⟩
theorem tyX2_ways : jTy 2 6 (.array .int) true := ⟨RX2, TX2, 8, tyX2, rfl, tyX2_ok, nmX2, by decide +kernel, rfl, rfl⟩
theorem tyX2_count : jTy 2 7 .int false := ⟨RX2, TX2, 8, tyX2, rfl, tyX2_ok, nmX2, by decide +kernel, rfl, rfl⟩
theorem tyX3_ticks : jTy 3 0 (.array .int) true := ⟨RX3, TX3, 4, tyX3, rfl, tyX3_ok, nmX3, by decide +kernel, rfl, rfl⟩
theorem tyX3_eventsThen : jTy 3 1 (.array .int) true := ⟨RX3, TX3, 4, tyX3, rfl, tyX3_ok, nmX3, by decide +kernel, rfl, rfl⟩
theorem tyX3_begun : jTy 3 2 (.array .int) true := ⟨RX3, TX3, 4, tyX3, rfl, tyX3_ok, nmX3, by decide +kernel, rfl, rfl⟩
theorem tyX3_count : jTy 3 3 .int false := ⟨RX3, TX3, 4, tyX3, rfl, tyX3_ok, nmX3, by decide +kernel, rfl, rfl⟩
theorem tyX4_widths : jTy 4 0 (.array .int) true := ⟨RX4, TX4, 5, tyX4, rfl, tyX4_ok, nmX4, by decide +kernel, rfl, rfl⟩
theorem tyX4_costs : jTy 4 1 (.array .int) true := ⟨RX4, TX4, 5, tyX4, rfl, tyX4_ok, nmX4, by decide +kernel, rfl, rfl⟩
theorem tyX4_nextLines : jTy 4 2 (.array .int) true := ⟨RX4, TX4, 5, tyX4, rfl, tyX4_ok, nmX4, by decide +kernel, rfl, rfl⟩
theorem tyX4_lineNumbers : jTy 4 3 (.array .int) true := ⟨RX4, TX4, 5, tyX4, rfl, tyX4_ok, nmX4, by decide +kernel, rfl, rfl⟩
theorem tyX4_lineCount : jTy 4 4 .int false := ⟨RX4, TX4, 5, tyX4, rfl, tyX4_ok, nmX4, by decide +kernel, rfl, rfl⟩
theorem tyX5_signEvents : jTy 5 0 (.array .int) true := ⟨RX5, TX5, 11, tyX5, rfl, tyX5_ok, nmX5, by decide +kernel, rfl, rfl⟩
theorem tyX5_ticks : jTy 5 1 (.array .int) true := ⟨RX5, TX5, 11, tyX5, rfl, tyX5_ok, nmX5, by decide +kernel, rfl, rfl⟩
theorem tyX5_lengths : jTy 5 2 (.array .int) true := ⟨RX5, TX5, 11, tyX5, rfl, tyX5_ok, nmX5, by decide +kernel, rfl, rfl⟩
theorem tyX5_firstOfNote : jTy 5 3 (.array .boolean) true := ⟨RX5, TX5, 11, tyX5, rfl, tyX5_ok, nmX5, by decide +kernel, rfl, rfl⟩
theorem tyX5_tied : jTy 5 4 (.array .boolean) true := ⟨RX5, TX5, 11, tyX5, rfl, tyX5_ok, nmX5, by decide +kernel, rfl, rfl⟩
theorem tyX5_shownAlters : jTy 5 5 (.array .int) true := ⟨RX5, TX5, 11, tyX5, rfl, tyX5_ok, nmX5, by decide +kernel, rfl, rfl⟩
theorem tyX5_shownAltersAsWritten : jTy 5 6 (.array .int) true := ⟨RX5, TX5, 11, tyX5, rfl, tyX5_ok, nmX5, by decide +kernel, rfl, rfl⟩
theorem tyX5_beamNumbers : jTy 5 7 (.array .int) true := ⟨RX5, TX5, 11, tyX5, rfl, tyX5_ok, nmX5, by decide +kernel, rfl, rfl⟩
theorem tyX5_altersInForce : jTy 5 8 (.array .int) true := ⟨RX5, TX5, 11, tyX5, rfl, tyX5_ok, nmX5, by decide +kernel, rfl, rfl⟩
theorem tyX5_count : jTy 5 9 .int false := ⟨RX5, TX5, 11, tyX5, rfl, tyX5_ok, nmX5, by decide +kernel, rfl, rfl⟩
theorem tyX5_beamCount : jTy 5 10 .int false := ⟨RX5, TX5, 11, tyX5, rfl, tyX5_ok, nmX5, by decide +kernel, rfl, rfl⟩
theorem tyX6_places : jTy 6 0 (.array .int) true := ⟨RX6, TX6, 13, tyX6, rfl, tyX6_ok, nmX6, by decide +kernel, rfl, rfl⟩
theorem tyX6_alters : jTy 6 1 (.array .int) true := ⟨RX6, TX6, 13, tyX6, rfl, tyX6_ok, nmX6, by decide +kernel, rfl, rfl⟩
theorem tyX6_heights : jTy 6 2 (.array .int) true := ⟨RX6, TX6, 13, tyX6, rfl, tyX6_ok, nmX6, by decide +kernel, rfl, rfl⟩
theorem tyX6_begins : jTy 6 3 (.array .int) true := ⟨RX6, TX6, 13, tyX6, rfl, tyX6_ok, nmX6, by decide +kernel, rfl, rfl⟩
theorem tyX6_lengths : jTy 6 4 (.array .int) true := ⟨RX6, TX6, 13, tyX6, rfl, tyX6_ok, nmX6, by decide +kernel, rfl, rfl⟩
theorem tyX6_writtenPlaces : jTy 6 5 (.array .int) true := ⟨RX6, TX6, 13, tyX6, rfl, tyX6_ok, nmX6, by decide +kernel, rfl, rfl⟩
theorem tyX6_writtenAlters : jTy 6 6 (.array .int) true := ⟨RX6, TX6, 13, tyX6, rfl, tyX6_ok, nmX6, by decide +kernel, rfl, rfl⟩
theorem tyX6_count : jTy 6 7 .int false := ⟨RX6, TX6, 13, tyX6, rfl, tyX6_ok, nmX6, by decide +kernel, rfl, rfl⟩
theorem tyX6_end : jTy 6 8 .int false := ⟨RX6, TX6, 13, tyX6, rfl, tyX6_ok, nmX6, by decide +kernel, rfl, rfl⟩
theorem tyX6_lowest : jTy 6 9 .int false := ⟨RX6, TX6, 13, tyX6, rfl, tyX6_ok, nmX6, by decide +kernel, rfl, rfl⟩
theorem tyX6_highest : jTy 6 10 .int false := ⟨RX6, TX6, 13, tyX6, rfl, tyX6_ok, nmX6, by decide +kernel, rfl, rfl⟩
theorem tyX6_fifths : jTy 6 11 .int false := ⟨RX6, TX6, 13, tyX6, rfl, tyX6_ok, nmX6, by decide +kernel, rfl, rfl⟩
theorem tyX6_octaves : jTy 6 12 .int false := ⟨RX6, TX6, 13, tyX6, rfl, tyX6_ok, nmX6, by decide +kernel, rfl, rfl⟩
theorem tyX9_parts : jTy 7 0 (.array (.object "ChoraleDesk$Part")) true := ⟨RX9, TX9, 12, tyX9, rfl, tyX9_ok, nmX9, by decide +kernel, rfl, rfl⟩
theorem tyX9_calendar : jTy 7 1 (.object "ChoraleDesk$Calendar") true := ⟨RX9, TX9, 12, tyX9, rfl, tyX9_ok, nmX9, by decide +kernel, rfl, rfl⟩
theorem tyX9_measure : jTy 7 2 (.object "ChoraleDesk$Measure") true := ⟨RX9, TX9, 12, tyX9, rfl, tyX9_ok, nmX9, by decide +kernel, rfl, rfl⟩
theorem tyX9_harmony : jTy 7 3 (.object "ChoraleDesk$Harmony") true := ⟨RX9, TX9, 12, tyX9, rfl, tyX9_ok, nmX9, by decide +kernel, rfl, rfl⟩
theorem tyX9_chord : jTy 7 4 (.object "ChoraleDesk$Chord") true := ⟨RX9, TX9, 12, tyX9, rfl, tyX9_ok, nmX9, by decide +kernel, rfl, rfl⟩
theorem tyX9_faultList : jTy 7 5 (.object "ChoraleDesk$FaultList") true := ⟨RX9, TX9, 12, tyX9, rfl, tyX9_ok, nmX9, by decide +kernel, rfl, rfl⟩
theorem tyX9_breaks : jTy 7 6 (.object "ChoraleDesk$LineBreaks") true := ⟨RX9, TX9, 12, tyX9, rfl, tyX9_ok, nmX9, by decide +kernel, rfl, rfl⟩
theorem tyX9_heard : jTy 7 7 .boolean false := ⟨RX9, TX9, 12, tyX9, rfl, tyX9_ok, nmX9, by decide +kernel, rfl, rfl⟩
theorem tyX9_searched : jTy 7 8 .boolean false := ⟨RX9, TX9, 12, tyX9, rfl, tyX9_ok, nmX9, by decide +kernel, rfl, rfl⟩
theorem tyX9_widthsKnown : jTy 7 9 .boolean false := ⟨RX9, TX9, 12, tyX9, rfl, tyX9_ok, nmX9, by decide +kernel, rfl, rfl⟩
theorem tyX9_laidPart : jTy 7 10 .int false := ⟨RX9, TX9, 12, tyX9, rfl, tyX9_ok, nmX9, by decide +kernel, rfl, rfl⟩
theorem tyX9_laidBar : jTy 7 11 .int false := ⟨RX9, TX9, 12, tyX9, rfl, tyX9_ok, nmX9, by decide +kernel, rfl, rfl⟩
abbrev mX0_init : jM := (RX0, cX0_init, 1, none, [], "<init>", { frames := 2, cells := 4, slots := 96, locals := 47 })
abbrev mX0_isBar : jM := (RX0, cX0_isBar, 1, some .boolean, [], "isBar", { frames := 0, cells := 0, slots := 0, locals := 0 })
abbrev mX0_changeMetre : jM := (RX0, cX0_changeMetre, 5, none, [], "changeMetre", { frames := 1, cells := 0, slots := 0, locals := 23 })
abbrev mX0_changeKey : jM := (RX0, cX0_changeKey, 4, none, [], "changeKey", { frames := 1, cells := 0, slots := 0, locals := 20 })
abbrev mX0_keyAt : jM := (RX0, cX0_keyAt, 2, some .int, [], "keyAt", { frames := 1, cells := 0, slots := 0, locals := 20 })
abbrev mX0_lengthAt : jM := (RX0, cX0_lengthAt, 2, some .int, [], "lengthAt", { frames := 1, cells := 0, slots := 0, locals := 20 })
abbrev mX0_beginAt : jM := (RX0, cX0_beginAt, 4, some .int, [], "beginAt", { frames := 0, cells := 0, slots := 0, locals := 0 })
abbrev mX0_end : jM := (RX0, cX0_end, 1, some .int, [], "end", { frames := 0, cells := 0, slots := 0, locals := 0 })
abbrev mX0_barAt : jM := (RX0, cX0_barAt, 4, some .int, [], "barAt", { frames := 0, cells := 0, slots := 0, locals := 0 })
abbrev mX0_barsUpTo : jM := (RX0, cX0_barsUpTo, 2, some .int, [], "barsUpTo", { frames := 1, cells := 0, slots := 0, locals := 23 })
abbrev mX0_ticksBehind : jM := (RX0, cX0_ticksBehind, 4, some .int, [], "ticksBehind", { frames := 2, cells := 0, slots := 0, locals := 41 })
abbrev mX0_groupLengthAt : jM := (RX0, cX0_groupLengthAt, 2, some .int, [], "groupLengthAt", { frames := 1, cells := 0, slots := 0, locals := 20 })
abbrev mX1_init : jM := (RX1, cX1_init, 1, none, [], "<init>", { frames := 1, cells := 0, slots := 0, locals := 20 })
abbrev mX1_rootClass : jM := (RX1, cX1_rootClass, 1, some .int, [], "rootClass", { frames := 0, cells := 0, slots := 0, locals := 0 })
abbrev mX1_kindNumber : jM := (RX1, cX1_kindNumber, 1, some .int, [], "kindNumber", { frames := 0, cells := 0, slots := 0, locals := 0 })
abbrev mX1_lowestTone : jM := (RX1, cX1_lowestTone, 1, some .int, [], "lowestTone", { frames := 0, cells := 0, slots := 0, locals := 0 })
abbrev mX1_tell : jM := (RX1, cX1_tell, 8, none, [], "tell", { frames := 2, cells := 0, slots := 0, locals := 50 })
abbrev mX1_forget : jM := (RX1, cX1_forget, 1, none, [], "forget", { frames := 0, cells := 0, slots := 0, locals := 0 })
abbrev mX1_findRoot : jM := (RX1, cX1_findRoot, 4, none, [], "findRoot", { frames := 1, cells := 0, slots := 0, locals := 27 })
abbrev mX1_findKind : jM := (RX1, cX1_findKind, 8, none, [], "findKind", { frames := 0, cells := 0, slots := 0, locals := 0 })
abbrev mX2_init : jM := (RX2, cX2_init, 1, none, [], "<init>", { frames := 1, cells := 7, slots := 7696, locals := 20 })
abbrev mX2_size : jM := (RX2, cX2_size, 1, some .int, [], "size", { frames := 0, cells := 0, slots := 0, locals := 0 })
abbrev mX2_has : jM := (RX2, cX2_has, 2, some .boolean, [], "has", { frames := 0, cells := 0, slots := 0, locals := 0 })
abbrev mX2_kindAt : jM := (RX2, cX2_kindAt, 2, some .int, [], "kindAt", { frames := 1, cells := 0, slots := 0, locals := 21 })
abbrev mX2_tickAt : jM := (RX2, cX2_tickAt, 2, some .int, [], "tickAt", { frames := 1, cells := 0, slots := 0, locals := 21 })
abbrev mX2_partsAt : jM := (RX2, cX2_partsAt, 2, some .int, [], "partsAt", { frames := 1, cells := 0, slots := 0, locals := 21 })
abbrev mX2_search : jM := (RX2, cX2_search, 6, none, [], "search", { frames := 3, cells := 0, slots := 0, locals := 68 })
abbrev mX2_add : jM := (RX2, cX2_add, 4, none, [], "add", { frames := 0, cells := 0, slots := 0, locals := 0 })
abbrev mX2_goOn : jM := (RX2, cX2_goOn, 6, none, [], "goOn", { frames := 2, cells := 0, slots := 0, locals := 43 })
abbrev mX2_searchParallels : jM := (RX2, cX2_searchParallels, 6, none, [], "searchParallels", { frames := 1, cells := 0, slots := 0, locals := 23 })
abbrev mX2_searchCrossings : jM := (RX2, cX2_searchCrossings, 5, none, [], "searchCrossings", { frames := 1, cells := 0, slots := 0, locals := 23 })
abbrev mX2_searchNote : jM := (RX2, cX2_searchNote, 5, none, [], "searchNote", { frames := 2, cells := 0, slots := 0, locals := 42 })
abbrev mX3_init : jM := (RX3, cX3_init, 1, none, [], "<init>", { frames := 1, cells := 3, slots := 2564, locals := 20 })
abbrev mX3_size : jM := (RX3, cX3_size, 1, some .int, [], "size", { frames := 0, cells := 0, slots := 0, locals := 0 })
abbrev mX3_has : jM := (RX3, cX3_has, 2, some .boolean, [], "has", { frames := 0, cells := 0, slots := 0, locals := 0 })
abbrev mX3_tickAt : jM := (RX3, cX3_tickAt, 2, some .int, [], "tickAt", { frames := 1, cells := 0, slots := 0, locals := 21 })
abbrev mX3_eventAt : jM := (RX3, cX3_eventAt, 3, some .int, [], "eventAt", { frames := 1, cells := 0, slots := 0, locals := 21 })
abbrev mX3_listen : jM := (RX3, cX3_listen, 5, none, [], "listen", { frames := 3, cells := 0, slots := 0, locals := 67 })
abbrev mX3_nextBegin : jM := (RX3, cX3_nextBegin, 6, some .int, [], "nextBegin", { frames := 2, cells := 0, slots := 0, locals := 42 })
abbrev mX3_eventGoingOn : jM := (RX3, cX3_eventGoingOn, 5, some .int, [], "eventGoingOn", { frames := 2, cells := 0, slots := 0, locals := 42 })
abbrev mX4_init : jM := (RX4, cX4_init, 1, none, [], "<init>", { frames := 1, cells := 4, slots := 97, locals := 20 })
abbrev mX4_size : jM := (RX4, cX4_size, 1, some .int, [], "size", { frames := 0, cells := 0, slots := 0, locals := 0 })
abbrev mX4_leastCost : jM := (RX4, cX4_leastCost, 1, some .int, [], "leastCost", { frames := 0, cells := 0, slots := 0, locals := 0 })
abbrev mX4_widthAt : jM := (RX4, cX4_widthAt, 2, some .int, [], "widthAt", { frames := 0, cells := 0, slots := 0, locals := 0 })
abbrev mX4_lineAt : jM := (RX4, cX4_lineAt, 2, some .int, [], "lineAt", { frames := 0, cells := 0, slots := 0, locals := 0 })
abbrev mX4_measureWidths : jM := (RX4, cX4_measureWidths, 9, none, [], "measureWidths", { frames := 2, cells := 0, slots := 0, locals := 42 })
abbrev mX4_widthOfGap : jM := (RX4, cX4_widthOfGap, 3, some .int, [], "widthOfGap", { frames := 0, cells := 0, slots := 0, locals := 0 })
abbrev mX4_breakUp : jM := (RX4, cX4_breakUp, 5, none, [], "breakUp", { frames := 1, cells := 0, slots := 0, locals := 28 })
abbrev mX4_chooseLine : jM := (RX4, cX4_chooseLine, 9, none, [], "chooseLine", { frames := 0, cells := 0, slots := 0, locals := 0 })
abbrev mX4_numberLines : jM := (RX4, cX4_numberLines, 4, none, [], "numberLines", { frames := 0, cells := 0, slots := 0, locals := 0 })
abbrev mX5_init : jM := (RX5, cX5_init, 1, none, [], "<init>", { frames := 1, cells := 9, slots := 1087, locals := 20 })
abbrev mX5_size : jM := (RX5, cX5_size, 1, some .int, [], "size", { frames := 0, cells := 0, slots := 0, locals := 0 })
abbrev mX5_beamTotal : jM := (RX5, cX5_beamTotal, 1, some .int, [], "beamTotal", { frames := 0, cells := 0, slots := 0, locals := 0 })
abbrev mX5_has : jM := (RX5, cX5_has, 2, some .boolean, [], "has", { frames := 0, cells := 0, slots := 0, locals := 0 })
abbrev mX5_eventAt : jM := (RX5, cX5_eventAt, 2, some .int, [], "eventAt", { frames := 1, cells := 0, slots := 0, locals := 21 })
abbrev mX5_lengthAt : jM := (RX5, cX5_lengthAt, 2, some .int, [], "lengthAt", { frames := 1, cells := 0, slots := 0, locals := 21 })
abbrev mX5_tiedAt : jM := (RX5, cX5_tiedAt, 2, some .boolean, [], "tiedAt", { frames := 1, cells := 0, slots := 0, locals := 21 })
abbrev mX5_shownAt : jM := (RX5, cX5_shownAt, 2, some .int, [], "shownAt", { frames := 1, cells := 0, slots := 0, locals := 21 })
abbrev mX5_shownAsWrittenAt : jM := (RX5, cX5_shownAsWrittenAt, 2, some .int, [], "shownAsWrittenAt", { frames := 1, cells := 0, slots := 0, locals := 21 })
abbrev mX5_beamAt : jM := (RX5, cX5_beamAt, 2, some .int, [], "beamAt", { frames := 1, cells := 0, slots := 0, locals := 21 })
abbrev mX5_write : jM := (RX5, cX5_write, 8, none, [], "write", { frames := 3, cells := 0, slots := 0, locals := 70 })
abbrev mX5_writeStretch : jM := (RX5, cX5_writeStretch, 7, none, [], "writeStretch", { frames := 1, cells := 0, slots := 0, locals := 23 })
abbrev mX5_addSign : jM := (RX5, cX5_addSign, 4, none, [], "addSign", { frames := 0, cells := 0, slots := 0, locals := 0 })
abbrev mX5_markSigns : jM := (RX5, cX5_markSigns, 6, none, [], "markSigns", { frames := 2, cells := 0, slots := 0, locals := 42 })
abbrev mX5_beamSigns : jM := (RX5, cX5_beamSigns, 7, none, [], "beamSigns", { frames := 2, cells := 0, slots := 0, locals := 42 })
abbrev mX5_joinToSignAhead : jM := (RX5, cX5_joinToSignAhead, 2, none, [], "joinToSignAhead", { frames := 1, cells := 0, slots := 0, locals := 21 })
abbrev mX5_showAlters : jM := (RX5, cX5_showAlters, 5, none, [], "showAlters", { frames := 2, cells := 0, slots := 0, locals := 46 })
abbrev mX5_showAltersAsWritten : jM := (RX5, cX5_showAltersAsWritten, 5, none, [], "showAltersAsWritten", { frames := 2, cells := 0, slots := 0, locals := 46 })
abbrev mX5_alterToShow : jM := (RX5, cX5_alterToShow, 5, some .int, [], "alterToShow", { frames := 1, cells := 0, slots := 0, locals := 22 })
abbrev mX6_init : jM := (RX6, cX6_init, 1, none, [], "<init>", { frames := 1, cells := 7, slots := 3584, locals := 20 })
abbrev mX6_size : jM := (RX6, cX6_size, 1, some .int, [], "size", { frames := 0, cells := 0, slots := 0, locals := 0 })
abbrev mX6_end : jM := (RX6, cX6_end, 1, some .int, [], "end", { frames := 0, cells := 0, slots := 0, locals := 0 })
abbrev mX6_has : jM := (RX6, cX6_has, 2, some .boolean, [], "has", { frames := 0, cells := 0, slots := 0, locals := 0 })
abbrev mX6_append : jM := (RX6, cX6_append, 5, some .int, [], "append", { frames := 4, cells := 0, slots := 0, locals := 91 })
abbrev mX6_removeLast : jM := (RX6, cX6_removeLast, 2, some .int, [], "removeLast", { frames := 1, cells := 0, slots := 0, locals := 21 })
abbrev mX6_givePitch : jM := (RX6, cX6_givePitch, 4, none, [], "givePitch", { frames := 3, cells := 0, slots := 0, locals := 68 })
abbrev mX6_writeForInstrument : jM := (RX6, cX6_writeForInstrument, 5, none, [], "writeForInstrument", { frames := 2, cells := 0, slots := 0, locals := 44 })
abbrev mX6_changeRange : jM := (RX6, cX6_changeRange, 3, none, [], "changeRange", { frames := 0, cells := 0, slots := 0, locals := 0 })
abbrev mX6_changeShift : jM := (RX6, cX6_changeShift, 4, none, [], "changeShift", { frames := 3, cells := 0, slots := 0, locals := 68 })
abbrev mX6_isNote : jM := (RX6, cX6_isNote, 2, some .boolean, [], "isNote", { frames := 1, cells := 0, slots := 0, locals := 21 })
abbrev mX6_placeAt : jM := (RX6, cX6_placeAt, 2, some .int, [], "placeAt", { frames := 1, cells := 0, slots := 0, locals := 21 })
abbrev mX6_alterAt : jM := (RX6, cX6_alterAt, 2, some .int, [], "alterAt", { frames := 1, cells := 0, slots := 0, locals := 21 })
abbrev mX6_heightAt : jM := (RX6, cX6_heightAt, 2, some .int, [], "heightAt", { frames := 1, cells := 0, slots := 0, locals := 21 })
abbrev mX6_beginAt : jM := (RX6, cX6_beginAt, 2, some .int, [], "beginAt", { frames := 1, cells := 0, slots := 0, locals := 21 })
abbrev mX6_endAt : jM := (RX6, cX6_endAt, 2, some .int, [], "endAt", { frames := 1, cells := 0, slots := 0, locals := 21 })
abbrev mX6_firstEndingBehind : jM := (RX6, cX6_firstEndingBehind, 6, some .int, [], "firstEndingBehind", { frames := 2, cells := 0, slots := 0, locals := 42 })
abbrev mX6_isOutOfRange : jM := (RX6, cX6_isOutOfRange, 2, some .boolean, [], "isOutOfRange", { frames := 1, cells := 0, slots := 0, locals := 21 })
abbrev mX6_writtenPlaceAt : jM := (RX6, cX6_writtenPlaceAt, 2, some .int, [], "writtenPlaceAt", { frames := 1, cells := 0, slots := 0, locals := 21 })
abbrev mX6_writtenAlterAt : jM := (RX6, cX6_writtenAlterAt, 2, some .int, [], "writtenAlterAt", { frames := 1, cells := 0, slots := 0, locals := 21 })
abbrev mX6_keyAsWritten : jM := (RX6, cX6_keyAsWritten, 3, some .int, [], "keyAsWritten", { frames := 0, cells := 0, slots := 0, locals := 0 })
abbrev mX6_notesOutOfRange : jM := (RX6, cX6_notesOutOfRange, 3, some .int, [], "notesOutOfRange", { frames := 2, cells := 0, slots := 0, locals := 42 })
abbrev mX6_notesWithoutWrittenPitch : jM := (RX6, cX6_notesWithoutWrittenPitch, 3, some .int, [], "notesWithoutWrittenPitch", { frames := 2, cells := 0, slots := 0, locals := 42 })
abbrev mX7_isPitch : jM := (RX7, cX7_isPitch, 2, some .boolean, [], "isPitch", { frames := 0, cells := 0, slots := 0, locals := 0 })
abbrev mX7_plainHeight : jM := (RX7, cX7_plainHeight, 3, some .int, [], "plainHeight", { frames := 1, cells := 0, slots := 0, locals := 22 })
abbrev mX7_alterByKey : jM := (RX7, cX7_alterByKey, 3, some .int, [], "alterByKey", { frames := 0, cells := 0, slots := 0, locals := 0 })
abbrev mX8_isValue : jM := (RX8, cX8_isValue, 2, some .boolean, [], "isValue", { frames := 0, cells := 0, slots := 0, locals := 0 })
abbrev mX8_greatestIn : jM := (RX8, cX8_greatestIn, 2, some .int, [], "greatestIn", { frames := 0, cells := 0, slots := 0, locals := 0 })
abbrev mX9_init : jM := (RX9, cX9_init, 2, none, [], "<init>", { frames := 3, cells := 66, slots := 25968, locals := 67 })
abbrev mX9_addNote : jM := (RX9, cX9_addNote, 6, some .int, [], "addNote", { frames := 7, cells := 1, slots := 6, locals := 115 })
abbrev mX9_addRest : jM := (RX9, cX9_addRest, 4, some .int, [], "addRest", { frames := 7, cells := 1, slots := 6, locals := 115 })
abbrev mX9_takeLast : jM := (RX9, cX9_takeLast, 3, some .int, [], "takeLast", { frames := 7, cells := 1, slots := 6, locals := 111 })
abbrev mX9_setPitch : jM := (RX9, cX9_setPitch, 7, some .int, [], "setPitch", { frames := 8, cells := 1, slots := 6, locals := 134 })
abbrev mX9_setMetre : jM := (RX9, cX9_setMetre, 4, some .int, [], "setMetre", { frames := 7, cells := 1, slots := 6, locals := 110 })
abbrev mX9_setKey : jM := (RX9, cX9_setKey, 4, some .int, [], "setKey", { frames := 7, cells := 1, slots := 6, locals := 110 })
abbrev mX9_setRange : jM := (RX9, cX9_setRange, 5, some .int, [], "setRange", { frames := 7, cells := 1, slots := 6, locals := 111 })
abbrev mX9_setShift : jM := (RX9, cX9_setShift, 5, some .int, [], "setShift", { frames := 7, cells := 1, slots := 6, locals := 111 })
abbrev mX9_events : jM := (RX9, cX9_events, 2, some .int, [], "events", { frames := 7, cells := 1, slots := 6, locals := 111 })
abbrev mX9_heightOf : jM := (RX9, cX9_heightOf, 3, some .int, [], "heightOf", { frames := 8, cells := 1, slots := 6, locals := 134 })
abbrev mX9_writtenPlace : jM := (RX9, cX9_writtenPlace, 3, some .int, [], "writtenPlace", { frames := 8, cells := 1, slots := 6, locals := 134 })
abbrev mX9_writtenAlter : jM := (RX9, cX9_writtenAlter, 3, some .int, [], "writtenAlter", { frames := 8, cells := 1, slots := 6, locals := 134 })
abbrev mX9_beginOfBar : jM := (RX9, cX9_beginOfBar, 2, some .int, [], "beginOfBar", { frames := 7, cells := 1, slots := 6, locals := 110 })
abbrev mX9_lengthOfBar : jM := (RX9, cX9_lengthOfBar, 2, some .int, [], "lengthOfBar", { frames := 7, cells := 1, slots := 6, locals := 110 })
abbrev mX9_signs : jM := (RX9, cX9_signs, 3, some .int, [], "signs", { frames := 8, cells := 1, slots := 6, locals := 134 })
abbrev mX9_eventOf : jM := (RX9, cX9_eventOf, 4, some .int, [], "eventOf", { frames := 9, cells := 1, slots := 6, locals := 158 })
abbrev mX9_lengthOf : jM := (RX9, cX9_lengthOf, 4, some .int, [], "lengthOf", { frames := 9, cells := 1, slots := 6, locals := 158 })
abbrev mX9_isTied : jM := (RX9, cX9_isTied, 4, some .boolean, [], "isTied", { frames := 9, cells := 1, slots := 6, locals := 158 })
abbrev mX9_shown : jM := (RX9, cX9_shown, 4, some .int, [], "shown", { frames := 9, cells := 1, slots := 6, locals := 158 })
abbrev mX9_shownWritten : jM := (RX9, cX9_shownWritten, 4, some .int, [], "shownWritten", { frames := 9, cells := 1, slots := 6, locals := 158 })
abbrev mX9_beams : jM := (RX9, cX9_beams, 3, some .int, [], "beams", { frames := 8, cells := 1, slots := 6, locals := 134 })
abbrev mX9_beamOf : jM := (RX9, cX9_beamOf, 4, some .int, [], "beamOf", { frames := 9, cells := 1, slots := 6, locals := 158 })
abbrev mX9_missing : jM := (RX9, cX9_missing, 4, some .int, [], "missing", { frames := 7, cells := 1, slots := 6, locals := 111 })
abbrev mX9_moments : jM := (RX9, cX9_moments, 1, some .int, [], "moments", { frames := 5, cells := 0, slots := 0, locals := 111 })
abbrev mX9_tickOf : jM := (RX9, cX9_tickOf, 2, some .int, [], "tickOf", { frames := 7, cells := 1, slots := 6, locals := 132 })
abbrev mX9_root : jM := (RX9, cX9_root, 2, some .int, [], "root", { frames := 7, cells := 1, slots := 6, locals := 132 })
abbrev mX9_kind : jM := (RX9, cX9_kind, 2, some .int, [], "kind", { frames := 7, cells := 1, slots := 6, locals := 132 })
abbrev mX9_inversion : jM := (RX9, cX9_inversion, 2, some .int, [], "inversion", { frames := 7, cells := 1, slots := 6, locals := 132 })
abbrev mX9_faults : jM := (RX9, cX9_faults, 1, some .int, [], "faults", { frames := 6, cells := 0, slots := 0, locals := 131 })
abbrev mX9_kindOfFault : jM := (RX9, cX9_kindOfFault, 2, some .int, [], "kindOfFault", { frames := 7, cells := 1, slots := 6, locals := 131 })
abbrev mX9_tickOfFault : jM := (RX9, cX9_tickOfFault, 2, some .int, [], "tickOfFault", { frames := 7, cells := 1, slots := 6, locals := 131 })
abbrev mX9_partsOfFault : jM := (RX9, cX9_partsOfFault, 2, some .int, [], "partsOfFault", { frames := 7, cells := 1, slots := 6, locals := 131 })
abbrev mX9_bars : jM := (RX9, cX9_bars, 1, some .int, [], "bars", { frames := 2, cells := 0, slots := 0, locals := 44 })
abbrev mX9_widthOf : jM := (RX9, cX9_widthOf, 2, some .int, [], "widthOf", { frames := 7, cells := 1, slots := 6, locals := 131 })
abbrev mX9_lines : jM := (RX9, cX9_lines, 2, some .int, [], "lines", { frames := 7, cells := 1, slots := 6, locals := 131 })
abbrev mX9_lineOf : jM := (RX9, cX9_lineOf, 3, some .int, [], "lineOf", { frames := 7, cells := 1, slots := 6, locals := 131 })
abbrev mX9_costOf : jM := (RX9, cX9_costOf, 2, some .int, [], "costOf", { frames := 7, cells := 1, slots := 6, locals := 131 })
abbrev mX9_digest : jM := (RX9, cX9_digest, 4, some .long, [], "digest", { frames := 9, cells := 1, slots := 6, locals := 159 })
abbrev mX9_mix : jM := (RX9, cX9_mix, 4, some .long, [], "mix", { frames := 0, cells := 0, slots := 0, locals := 0 })
abbrev mX9_mixPart : jM := (RX9, cX9_mixPart, 5, some .long, [], "mixPart", { frames := 2, cells := 0, slots := 0, locals := 42 })
abbrev mX9_mixBar : jM := (RX9, cX9_mixBar, 6, some .long, [], "mixBar", { frames := 8, cells := 1, slots := 6, locals := 134 })
abbrev mX9_mixSigns : jM := (RX9, cX9_mixSigns, 5, some .long, [], "mixSigns", { frames := 2, cells := 0, slots := 0, locals := 42 })
abbrev mX9_mixMoments : jM := (RX9, cX9_mixMoments, 5, some .long, [], "mixMoments", { frames := 4, cells := 0, slots := 0, locals := 98 })
abbrev mX9_mixFaults : jM := (RX9, cX9_mixFaults, 4, some .long, [], "mixFaults", { frames := 2, cells := 0, slots := 0, locals := 42 })
abbrev mX9_mixLines : jM := (RX9, cX9_mixLines, 4, some .long, [], "mixLines", { frames := 3, cells := 0, slots := 0, locals := 73 })
abbrev mX9_forgetWhatFollows : jM := (RX9, cX9_forgetWhatFollows, 1, none, [], "forgetWhatFollows", { frames := 0, cells := 0, slots := 0, locals := 0 })
abbrev mX9_hear : jM := (RX9, cX9_hear, 1, none, [], "hear", { frames := 4, cells := 0, slots := 0, locals := 91 })
abbrev mX9_searchFaults : jM := (RX9, cX9_searchFaults, 1, none, [], "searchFaults", { frames := 5, cells := 0, slots := 0, locals := 111 })
abbrev mX9_measureWidths : jM := (RX9, cX9_measureWidths, 1, none, [], "measureWidths", { frames := 5, cells := 0, slots := 0, locals := 111 })
abbrev mX9_breakLines : jM := (RX9, cX9_breakLines, 2, none, [], "breakLines", { frames := 2, cells := 0, slots := 0, locals := 52 })
abbrev mX9_lastEnd : jM := (RX9, cX9_lastEnd, 3, some .int, [], "lastEnd", { frames := 1, cells := 0, slots := 0, locals := 21 })
abbrev mX9_allEvents : jM := (RX9, cX9_allEvents, 3, some .int, [], "allEvents", { frames := 1, cells := 0, slots := 0, locals := 20 })
abbrev mX9_partAt : jM := (RX9, cX9_partAt, 2, some (.object "ChoraleDesk$Part"), [], "partAt", { frames := 6, cells := 1, slots := 6, locals := 90 })
abbrev mX9_partWith : jM := (RX9, cX9_partWith, 4, some (.object "ChoraleDesk$Part"), [], "partWith", { frames := 7, cells := 1, slots := 6, locals := 111 })
abbrev mX9_measureAt : jM := (RX9, cX9_measureAt, 4, some (.object "ChoraleDesk$Measure"), [], "measureAt", { frames := 7, cells := 1, slots := 6, locals := 111 })
abbrev mX9_measureWith : jM := (RX9, cX9_measureWith, 5, some (.object "ChoraleDesk$Measure"), [], "measureWith", { frames := 8, cells := 1, slots := 6, locals := 134 })
abbrev mX9_chordAt : jM := (RX9, cX9_chordAt, 2, some (.object "ChoraleDesk$Chord"), [], "chordAt", { frames := 3, cells := 0, slots := 0, locals := 77 })
abbrev mX9_checkMoment : jM := (RX9, cX9_checkMoment, 2, none, [], "checkMoment", { frames := 6, cells := 1, slots := 6, locals := 111 })
abbrev mX9_checkFault : jM := (RX9, cX9_checkFault, 2, none, [], "checkFault", { frames := 6, cells := 1, slots := 6, locals := 90 })
abbrev mX9_checkRoom : jM := (RX9, cX9_checkRoom, 3, none, [], "checkRoom", { frames := 6, cells := 1, slots := 6, locals := 90 })
abbrev mX9_checkNote : jM := (RX9, cX9_checkNote, 2, none, [], "checkNote", { frames := 6, cells := 1, slots := 6, locals := 90 })
abbrev mX9_checkBar : jM := (RX9, cX9_checkBar, 1, none, [], "checkBar", { frames := 6, cells := 1, slots := 6, locals := 90 })
abbrev mX9_checkPitch : jM := (RX9, cX9_checkPitch, 2, none, [], "checkPitch", { frames := 6, cells := 1, slots := 6, locals := 90 })
abbrev mX9_checkValue : jM := (RX9, cX9_checkValue, 1, none, [], "checkValue", { frames := 6, cells := 1, slots := 6, locals := 90 })
abbrev mX9_checkKey : jM := (RX9, cX9_checkKey, 1, none, [], "checkKey", { frames := 6, cells := 1, slots := 6, locals := 90 })
abbrev mX9_checkWidth : jM := (RX9, cX9_checkWidth, 1, none, [], "checkWidth", { frames := 6, cells := 1, slots := 6, locals := 90 })
abbrev mJ6_compare_7cf53 : jM := (RJ6, cJ6_compare_7cf53, 2, some .int, [], "compare", { frames := 0, cells := 0, slots := 0, locals := 0 })
abbrev mJ6_bitCount_0f7a4 : jM := (RJ6, cJ6_bitCount_0f7a4, 1, some .int, [], "bitCount", { frames := 0, cells := 0, slots := 0, locals := 0 })
abbrev mJ9_floorDiv_7cf53 : jM := (RJ9, cJ9_floorDiv_7cf53, 3, some .int, [], "floorDiv", { frames := 0, cells := 0, slots := 0, locals := 0 })
abbrev mJ9_floorMod_7cf53 : jM := (RJ9, cJ9_floorMod_7cf53, 3, some .int, [], "floorMod", { frames := 0, cells := 0, slots := 0, locals := 0 })
abbrev mJ9_abs_0f7a4 : jM := (RJ9, cJ9_abs_0f7a4, 1, some .int, [], "abs", { frames := 0, cells := 0, slots := 0, locals := 0 })
abbrev mJ9_max_7cf53 : jM := (RJ9, cJ9_max_7cf53, 2, some .int, [], "max", { frames := 0, cells := 0, slots := 0, locals := 0 })
abbrev mJ9_min_7cf53 : jM := (RJ9, cJ9_min_7cf53, 2, some .int, [], "min", { frames := 0, cells := 0, slots := 0, locals := 0 })
abbrev mJ7_fill_53178 : jM := (RJ7, cJ7_fill_53178, 4, none, [], "fill", { frames := 0, cells := 0, slots := 0, locals := 0 })
abbrev mL_below : jM := (RL, cL_below, 2, some .int, [], "below", { frames := 0, cells := 0, slots := 0, locals := 0 })
abbrev mL_cell : jM := (RL, cL_cell, 2, some .int, [], "cell", { frames := 0, cells := 0, slots := 0, locals := 0 })
abbrev mL_act : jM := (RL, cL_act, 6, none, [((76), (369), (372), (77)), ((76), (369), (375), (79))], "act", { frames := 9, cells := 1, slots := 6, locals := 160 })
abbrev mL_isBarSound : jM := (RL, cL_isBarSound, 13, some .boolean, [], "isBarSound", { frames := 10, cells := 1, slots := 6, locals := 181 })
abbrev mL_areMomentsSound : jM := (RL, cL_areMomentsSound, 9, some .boolean, [], "areMomentsSound", { frames := 8, cells := 1, slots := 6, locals := 153 })
abbrev mL_areLinesSound : jM := (RL, cL_areLinesSound, 8, some .boolean, [], "areLinesSound", { frames := 8, cells := 1, slots := 6, locals := 153 })
theorem ceX0_changeMetre : jCe yX0_changeMetre mX0_changeMetre 3 := ⟨wt 3 (by decide +kernel) rfl, wt 85 (by decide +kernel) rfl, by decide +kernel, by decide +kernel⟩
theorem cvX0_changeMetre : Cond.instanceMethod yX0_changeMetre ∈ WT ∧ Cond.selects yX0_changeMetre.cls yX0_changeMetre yX0_changeMetre ∈ WT ∧ vwCl[0]? = some (yX0_changeMetre.cls, TX0, 5) := ⟨wt 83 (by decide +kernel) rfl, wt 84 (by decide +kernel) rfl, rfl⟩
theorem ceX0_isBar : jCe yX0_isBar mX0_isBar 1 := ⟨wt 3 (by decide +kernel) rfl, wt 88 (by decide +kernel) rfl, by decide +kernel, by decide +kernel⟩
theorem csX0_isBar : Cond.static yX0_isBar ∈ WT := wt 87 (by decide +kernel) rfl
theorem ceX0_beginAt : jCe yX0_beginAt mX0_beginAt 1 := ⟨wt 3 (by decide +kernel) rfl, wt 92 (by decide +kernel) rfl, by decide +kernel, by decide +kernel⟩
theorem cvX0_beginAt : Cond.instanceMethod yX0_beginAt ∈ WT ∧ Cond.selects yX0_beginAt.cls yX0_beginAt yX0_beginAt ∈ WT ∧ vwCl[0]? = some (yX0_beginAt.cls, TX0, 5) := ⟨wt 90 (by decide +kernel) rfl, wt 91 (by decide +kernel) rfl, rfl⟩
theorem ceX0_barAt : jCe yX0_barAt mX0_barAt 1 := ⟨wt 3 (by decide +kernel) rfl, wt 422 (by decide +kernel) rfl, by decide +kernel, by decide +kernel⟩
theorem cvX0_barAt : Cond.instanceMethod yX0_barAt ∈ WT ∧ Cond.selects yX0_barAt.cls yX0_barAt yX0_barAt ∈ WT ∧ vwCl[0]? = some (yX0_barAt.cls, TX0, 5) := ⟨wt 420 (by decide +kernel) rfl, wt 421 (by decide +kernel) rfl, rfl⟩
theorem ceX0_lengthAt : jCe yX0_lengthAt mX0_lengthAt 1 := ⟨wt 3 (by decide +kernel) rfl, wt 326 (by decide +kernel) rfl, by decide +kernel, by decide +kernel⟩
theorem cvX0_lengthAt : Cond.instanceMethod yX0_lengthAt ∈ WT ∧ Cond.selects yX0_lengthAt.cls yX0_lengthAt yX0_lengthAt ∈ WT ∧ vwCl[0]? = some (yX0_lengthAt.cls, TX0, 5) := ⟨wt 324 (by decide +kernel) rfl, wt 325 (by decide +kernel) rfl, rfl⟩
theorem ceJ9_min_7cf53 : jCe yJ9_min_7cf53 mJ9_min_7cf53 2 := ⟨wt 17 (by decide +kernel) rfl, wt 309 (by decide +kernel) rfl, by decide +kernel, by decide +kernel⟩
theorem csJ9_min_7cf53 : Cond.static yJ9_min_7cf53 ∈ WT := wt 308 (by decide +kernel) rfl
theorem ceJ9_max_7cf53 : jCe yJ9_max_7cf53 mJ9_max_7cf53 2 := ⟨wt 17 (by decide +kernel) rfl, wt 538 (by decide +kernel) rfl, by decide +kernel, by decide +kernel⟩
theorem csJ9_max_7cf53 : Cond.static yJ9_max_7cf53 ∈ WT := wt 537 (by decide +kernel) rfl
theorem ceX3_eventAt : jCe yX3_eventAt mX3_eventAt 2 := ⟨wt 5 (by decide +kernel) rfl, wt 367 (by decide +kernel) rfl, by decide +kernel, by decide +kernel⟩
theorem cvX3_eventAt : Cond.instanceMethod yX3_eventAt ∈ WT ∧ Cond.selects yX3_eventAt.cls yX3_eventAt yX3_eventAt ∈ WT ∧ vwCl[3]? = some (yX3_eventAt.cls, TX3, 4) := ⟨wt 365 (by decide +kernel) rfl, wt 366 (by decide +kernel) rfl, rfl⟩
theorem ceX6_heightAt : jCe yX6_heightAt mX6_heightAt 1 := ⟨wt 2 (by decide +kernel) rfl, wt 371 (by decide +kernel) rfl, by decide +kernel, by decide +kernel⟩
theorem cvX6_heightAt : Cond.instanceMethod yX6_heightAt ∈ WT ∧ Cond.selects yX6_heightAt.cls yX6_heightAt yX6_heightAt ∈ WT ∧ vwCl[6]? = some (yX6_heightAt.cls, TX6, 13) := ⟨wt 369 (by decide +kernel) rfl, wt 370 (by decide +kernel) rfl, rfl⟩
theorem ceX1_forget : jCe yX1_forget mX1_forget 0 := ⟨wt 6 (by decide +kernel) rfl, wt 680 (by decide +kernel) rfl, by decide +kernel, by decide +kernel⟩
theorem cvX1_forget : Cond.instanceMethod yX1_forget ∈ WT ∧ Cond.selects yX1_forget.cls yX1_forget yX1_forget ∈ WT ∧ vwCl[1]? = some (yX1_forget.cls, TX1, 3) := ⟨wt 679 (by decide +kernel) rfl, wt_p 26 (by decide +kernel : _ = some (_, 3)), rfl⟩
theorem ceJ6_bitCount_0f7a4 : jCe yJ6_bitCount_0f7a4 mJ6_bitCount_0f7a4 1 := ⟨wt 19 (by decide +kernel) rfl, wt 683 (by decide +kernel) rfl, by decide +kernel, by decide +kernel⟩
theorem csJ6_bitCount_0f7a4 : Cond.static yJ6_bitCount_0f7a4 ∈ WT := wt 682 (by decide +kernel) rfl
theorem ceX1_findRoot : jCe yX1_findRoot mX1_findRoot 2 := ⟨wt 6 (by decide +kernel) rfl, wt 690 (by decide +kernel) rfl, by decide +kernel, by decide +kernel⟩
theorem cvX1_findRoot : Cond.instanceMethod yX1_findRoot ∈ WT ∧ Cond.selects yX1_findRoot.cls yX1_findRoot yX1_findRoot ∈ WT ∧ vwCl[1]? = some (yX1_findRoot.cls, TX1, 3) := ⟨wt 689 (by decide +kernel) rfl, wt_p 27 (by decide +kernel : _ = some (_, 3)), rfl⟩
theorem ceX1_findKind : jCe yX1_findKind mX1_findKind 3 := ⟨wt 6 (by decide +kernel) rfl, wt 694 (by decide +kernel) rfl, by decide +kernel, by decide +kernel⟩
theorem cvX1_findKind : Cond.instanceMethod yX1_findKind ∈ WT ∧ Cond.selects yX1_findKind.cls yX1_findKind yX1_findKind ∈ WT ∧ vwCl[1]? = some (yX1_findKind.cls, TX1, 3) := ⟨wt 693 (by decide +kernel) rfl, wt_p 28 (by decide +kernel : _ = some (_, 3)), rfl⟩
theorem ceX2_has : jCe yX2_has mX2_has 1 := ⟨wt 7 (by decide +kernel) rfl, wt 726 (by decide +kernel) rfl, by decide +kernel, by decide +kernel⟩
theorem cvX2_has : Cond.instanceMethod yX2_has ∈ WT ∧ Cond.selects yX2_has.cls yX2_has yX2_has ∈ WT ∧ vwCl[2]? = some (yX2_has.cls, TX2, 8) := ⟨wt 724 (by decide +kernel) rfl, wt 725 (by decide +kernel) rfl, rfl⟩
theorem ceJ7_fill_53178 : jCe yJ7_fill_53178 mJ7_fill_53178 2 := ⟨wt 18 (by decide +kernel) rfl, wt 293 (by decide +kernel) rfl, by decide +kernel, by decide +kernel⟩
theorem csJ7_fill_53178 : Cond.static yJ7_fill_53178 ∈ WT := wt 292 (by decide +kernel) rfl
theorem ceX3_size : jCe yX3_size mX3_size 0 := ⟨wt 5 (by decide +kernel) rfl, wt 337 (by decide +kernel) rfl, by decide +kernel, by decide +kernel⟩
theorem cvX3_size : Cond.instanceMethod yX3_size ∈ WT ∧ Cond.selects yX3_size.cls yX3_size yX3_size ∈ WT ∧ vwCl[3]? = some (yX3_size.cls, TX3, 4) := ⟨wt 335 (by decide +kernel) rfl, wt 336 (by decide +kernel) rfl, rfl⟩
theorem ceX3_tickAt : jCe yX3_tickAt mX3_tickAt 1 := ⟨wt 5 (by decide +kernel) rfl, wt 341 (by decide +kernel) rfl, by decide +kernel, by decide +kernel⟩
theorem cvX3_tickAt : Cond.instanceMethod yX3_tickAt ∈ WT ∧ Cond.selects yX3_tickAt.cls yX3_tickAt yX3_tickAt ∈ WT ∧ vwCl[3]? = some (yX3_tickAt.cls, TX3, 4) := ⟨wt 339 (by decide +kernel) rfl, wt 340 (by decide +kernel) rfl, rfl⟩
theorem ceX2_goOn : jCe yX2_goOn mX2_goOn 3 := ⟨wt 7 (by decide +kernel) rfl, wt 363 (by decide +kernel) rfl, by decide +kernel, by decide +kernel⟩
theorem cvX2_goOn : Cond.instanceMethod yX2_goOn ∈ WT ∧ Cond.selects yX2_goOn.cls yX2_goOn yX2_goOn ∈ WT ∧ vwCl[2]? = some (yX2_goOn.cls, TX2, 8) := ⟨wt 362 (by decide +kernel) rfl, wt_p 5 (by decide +kernel : _ = some (_, 8)), rfl⟩
theorem ceX2_searchParallels : jCe yX2_searchParallels mX2_searchParallels 1 := ⟨wt 7 (by decide +kernel) rfl, wt 383 (by decide +kernel) rfl, by decide +kernel, by decide +kernel⟩
theorem cvX2_searchParallels : Cond.instanceMethod yX2_searchParallels ∈ WT ∧ Cond.selects yX2_searchParallels.cls yX2_searchParallels yX2_searchParallels ∈ WT ∧ vwCl[2]? = some (yX2_searchParallels.cls, TX2, 8) := ⟨wt 382 (by decide +kernel) rfl, wt_p 6 (by decide +kernel : _ = some (_, 8)), rfl⟩
theorem ceX2_searchCrossings : jCe yX2_searchCrossings mX2_searchCrossings 1 := ⟨wt 7 (by decide +kernel) rfl, wt 394 (by decide +kernel) rfl, by decide +kernel, by decide +kernel⟩
theorem cvX2_searchCrossings : Cond.instanceMethod yX2_searchCrossings ∈ WT ∧ Cond.selects yX2_searchCrossings.cls yX2_searchCrossings yX2_searchCrossings ∈ WT ∧ vwCl[2]? = some (yX2_searchCrossings.cls, TX2, 8) := ⟨wt 393 (by decide +kernel) rfl, wt_p 8 (by decide +kernel : _ = some (_, 8)), rfl⟩
theorem ceX2_searchNote : jCe yX2_searchNote mX2_searchNote 3 := ⟨wt 7 (by decide +kernel) rfl, wt 398 (by decide +kernel) rfl, by decide +kernel, by decide +kernel⟩
theorem cvX2_searchNote : Cond.instanceMethod yX2_searchNote ∈ WT ∧ Cond.selects yX2_searchNote.cls yX2_searchNote yX2_searchNote ∈ WT ∧ vwCl[2]? = some (yX2_searchNote.cls, TX2, 8) := ⟨wt 397 (by decide +kernel) rfl, wt_p 9 (by decide +kernel : _ = some (_, 8)), rfl⟩
theorem ceX6_isNote : jCe yX6_isNote mX6_isNote 1 := ⟨wt 2 (by decide +kernel) rfl, wt 375 (by decide +kernel) rfl, by decide +kernel, by decide +kernel⟩
theorem cvX6_isNote : Cond.instanceMethod yX6_isNote ∈ WT ∧ Cond.selects yX6_isNote.cls yX6_isNote yX6_isNote ∈ WT ∧ vwCl[6]? = some (yX6_isNote.cls, TX6, 13) := ⟨wt 373 (by decide +kernel) rfl, wt 374 (by decide +kernel) rfl, rfl⟩
theorem ceX6_beginAt : jCe yX6_beginAt mX6_beginAt 1 := ⟨wt 2 (by decide +kernel) rfl, wt 305 (by decide +kernel) rfl, by decide +kernel, by decide +kernel⟩
theorem cvX6_beginAt : Cond.instanceMethod yX6_beginAt ∈ WT ∧ Cond.selects yX6_beginAt.cls yX6_beginAt yX6_beginAt ∈ WT ∧ vwCl[6]? = some (yX6_beginAt.cls, TX6, 13) := ⟨wt 303 (by decide +kernel) rfl, wt 304 (by decide +kernel) rfl, rfl⟩
theorem ceJ6_compare_7cf53 : jCe yJ6_compare_7cf53 mJ6_compare_7cf53 2 := ⟨wt 19 (by decide +kernel) rfl, wt 379 (by decide +kernel) rfl, by decide +kernel, by decide +kernel⟩
theorem csJ6_compare_7cf53 : Cond.static yJ6_compare_7cf53 ∈ WT := wt 378 (by decide +kernel) rfl
theorem ceJ9_floorMod_7cf53 : jCe yJ9_floorMod_7cf53 mJ9_floorMod_7cf53 2 := ⟨wt 17 (by decide +kernel) rfl, wt 386 (by decide +kernel) rfl, by decide +kernel, by decide +kernel⟩
theorem csJ9_floorMod_7cf53 : Cond.static yJ9_floorMod_7cf53 ∈ WT := wt 385 (by decide +kernel) rfl
theorem ceX2_add : jCe yX2_add mX2_add 3 := ⟨wt 7 (by decide +kernel) rfl, wt 390 (by decide +kernel) rfl, by decide +kernel, by decide +kernel⟩
theorem cvX2_add : Cond.instanceMethod yX2_add ∈ WT ∧ Cond.selects yX2_add.cls yX2_add yX2_add ∈ WT ∧ vwCl[2]? = some (yX2_add.cls, TX2, 8) := ⟨wt 389 (by decide +kernel) rfl, wt_p 7 (by decide +kernel : _ = some (_, 8)), rfl⟩
theorem ceJ9_abs_0f7a4 : jCe yJ9_abs_0f7a4 mJ9_abs_0f7a4 1 := ⟨wt 17 (by decide +kernel) rfl, wt 333 (by decide +kernel) rfl, by decide +kernel, by decide +kernel⟩
theorem csJ9_abs_0f7a4 : Cond.static yJ9_abs_0f7a4 ∈ WT := wt 332 (by decide +kernel) rfl
theorem ceX6_isOutOfRange : jCe yX6_isOutOfRange mX6_isOutOfRange 1 := ⟨wt 2 (by decide +kernel) rfl, wt 403 (by decide +kernel) rfl, by decide +kernel, by decide +kernel⟩
theorem cvX6_isOutOfRange : Cond.instanceMethod yX6_isOutOfRange ∈ WT ∧ Cond.selects yX6_isOutOfRange.cls yX6_isOutOfRange yX6_isOutOfRange ∈ WT ∧ vwCl[6]? = some (yX6_isOutOfRange.cls, TX6, 13) := ⟨wt 401 (by decide +kernel) rfl, wt 402 (by decide +kernel) rfl, rfl⟩
theorem ceX3_has : jCe yX3_has mX3_has 1 := ⟨wt 5 (by decide +kernel) rfl, wt 345 (by decide +kernel) rfl, by decide +kernel, by decide +kernel⟩
theorem cvX3_has : Cond.instanceMethod yX3_has ∈ WT ∧ Cond.selects yX3_has.cls yX3_has yX3_has ∈ WT ∧ vwCl[3]? = some (yX3_has.cls, TX3, 4) := ⟨wt 343 (by decide +kernel) rfl, wt 344 (by decide +kernel) rfl, rfl⟩
theorem ceX3_nextBegin : jCe yX3_nextBegin mX3_nextBegin 1 := ⟨wt 5 (by decide +kernel) rfl, wt 297 (by decide +kernel) rfl, by decide +kernel, by decide +kernel⟩
theorem cvX3_nextBegin : Cond.instanceMethod yX3_nextBegin ∈ WT ∧ Cond.selects yX3_nextBegin.cls yX3_nextBegin yX3_nextBegin ∈ WT ∧ vwCl[3]? = some (yX3_nextBegin.cls, TX3, 4) := ⟨wt 296 (by decide +kernel) rfl, wt_p 2 (by decide +kernel : _ = some (_, 4)), rfl⟩
theorem ceX3_eventGoingOn : jCe yX3_eventGoingOn mX3_eventGoingOn 3 := ⟨wt 5 (by decide +kernel) rfl, wt 313 (by decide +kernel) rfl, by decide +kernel, by decide +kernel⟩
theorem cvX3_eventGoingOn : Cond.instanceMethod yX3_eventGoingOn ∈ WT ∧ Cond.selects yX3_eventGoingOn.cls yX3_eventGoingOn yX3_eventGoingOn ∈ WT ∧ vwCl[3]? = some (yX3_eventGoingOn.cls, TX3, 4) := ⟨wt 312 (by decide +kernel) rfl, wt_p 3 (by decide +kernel : _ = some (_, 4)), rfl⟩
theorem ceX6_has : jCe yX6_has mX6_has 1 := ⟨wt 2 (by decide +kernel) rfl, wt 301 (by decide +kernel) rfl, by decide +kernel, by decide +kernel⟩
theorem cvX6_has : Cond.instanceMethod yX6_has ∈ WT ∧ Cond.selects yX6_has.cls yX6_has yX6_has ∈ WT ∧ vwCl[6]? = some (yX6_has.cls, TX6, 13) := ⟨wt 299 (by decide +kernel) rfl, wt 300 (by decide +kernel) rfl, rfl⟩
theorem ceX6_endAt : jCe yX6_endAt mX6_endAt 1 := ⟨wt 2 (by decide +kernel) rfl, wt 317 (by decide +kernel) rfl, by decide +kernel, by decide +kernel⟩
theorem cvX6_endAt : Cond.instanceMethod yX6_endAt ∈ WT ∧ Cond.selects yX6_endAt.cls yX6_endAt yX6_endAt ∈ WT ∧ vwCl[6]? = some (yX6_endAt.cls, TX6, 13) := ⟨wt 315 (by decide +kernel) rfl, wt 316 (by decide +kernel) rfl, rfl⟩
theorem ceX0_keyAt : jCe yX0_keyAt mX0_keyAt 1 := ⟨wt 3 (by decide +kernel) rfl, wt 330 (by decide +kernel) rfl, by decide +kernel, by decide +kernel⟩
theorem cvX0_keyAt : Cond.instanceMethod yX0_keyAt ∈ WT ∧ Cond.selects yX0_keyAt.cls yX0_keyAt yX0_keyAt ∈ WT ∧ vwCl[0]? = some (yX0_keyAt.cls, TX0, 5) := ⟨wt 328 (by decide +kernel) rfl, wt 329 (by decide +kernel) rfl, rfl⟩
theorem ceX4_widthOfGap : jCe yX4_widthOfGap mX4_widthOfGap 1 := ⟨wt 8 (by decide +kernel) rfl, wt 348 (by decide +kernel) rfl, by decide +kernel, by decide +kernel⟩
theorem csX4_widthOfGap : Cond.static yX4_widthOfGap ∈ WT := wt 347 (by decide +kernel) rfl
theorem ceX4_chooseLine : jCe yX4_chooseLine mX4_chooseLine 3 := ⟨wt 8 (by decide +kernel) rfl, wt 766 (by decide +kernel) rfl, by decide +kernel, by decide +kernel⟩
theorem cvX4_chooseLine : Cond.instanceMethod yX4_chooseLine ∈ WT ∧ Cond.selects yX4_chooseLine.cls yX4_chooseLine yX4_chooseLine ∈ WT ∧ vwCl[4]? = some (yX4_chooseLine.cls, TX4, 5) := ⟨wt 765 (by decide +kernel) rfl, wt_p 33 (by decide +kernel : _ = some (_, 5)), rfl⟩
theorem ceX4_numberLines : jCe yX4_numberLines mX4_numberLines 1 := ⟨wt 8 (by decide +kernel) rfl, wt 770 (by decide +kernel) rfl, by decide +kernel, by decide +kernel⟩
theorem cvX4_numberLines : Cond.instanceMethod yX4_numberLines ∈ WT ∧ Cond.selects yX4_numberLines.cls yX4_numberLines yX4_numberLines ∈ WT ∧ vwCl[4]? = some (yX4_numberLines.cls, TX4, 5) := ⟨wt 769 (by decide +kernel) rfl, wt_p 34 (by decide +kernel : _ = some (_, 5)), rfl⟩
theorem ceX5_has : jCe yX5_has mX5_has 1 := ⟨wt 4 (by decide +kernel) rfl, wt 576 (by decide +kernel) rfl, by decide +kernel, by decide +kernel⟩
theorem cvX5_has : Cond.instanceMethod yX5_has ∈ WT ∧ Cond.selects yX5_has.cls yX5_has yX5_has ∈ WT ∧ vwCl[5]? = some (yX5_has.cls, TX5, 11) := ⟨wt 574 (by decide +kernel) rfl, wt 575 (by decide +kernel) rfl, rfl⟩
theorem ceX6_firstEndingBehind : jCe yX6_firstEndingBehind mX6_firstEndingBehind 1 := ⟨wt 2 (by decide +kernel) rfl, wt 530 (by decide +kernel) rfl, by decide +kernel, by decide +kernel⟩
theorem cvX6_firstEndingBehind : Cond.instanceMethod yX6_firstEndingBehind ∈ WT ∧ Cond.selects yX6_firstEndingBehind.cls yX6_firstEndingBehind yX6_firstEndingBehind ∈ WT ∧ vwCl[6]? = some (yX6_firstEndingBehind.cls, TX6, 13) := ⟨wt 528 (by decide +kernel) rfl, wt 529 (by decide +kernel) rfl, rfl⟩
theorem ceX6_size : jCe yX6_size mX6_size 0 := ⟨wt 2 (by decide +kernel) rfl, wt 412 (by decide +kernel) rfl, by decide +kernel, by decide +kernel⟩
theorem cvX6_size : Cond.instanceMethod yX6_size ∈ WT ∧ Cond.selects yX6_size.cls yX6_size yX6_size ∈ WT ∧ vwCl[6]? = some (yX6_size.cls, TX6, 13) := ⟨wt 410 (by decide +kernel) rfl, wt 411 (by decide +kernel) rfl, rfl⟩
theorem ceX5_writeStretch : jCe yX5_writeStretch mX5_writeStretch 3 := ⟨wt 4 (by decide +kernel) rfl, wt 542 (by decide +kernel) rfl, by decide +kernel, by decide +kernel⟩
theorem cvX5_writeStretch : Cond.instanceMethod yX5_writeStretch ∈ WT ∧ Cond.selects yX5_writeStretch.cls yX5_writeStretch yX5_writeStretch ∈ WT ∧ vwCl[5]? = some (yX5_writeStretch.cls, TX5, 11) := ⟨wt 541 (by decide +kernel) rfl, wt_p 15 (by decide +kernel : _ = some (_, 11)), rfl⟩
theorem ceX0_end : jCe yX0_end mX0_end 0 := ⟨wt 3 (by decide +kernel) rfl, wt 555 (by decide +kernel) rfl, by decide +kernel, by decide +kernel⟩
theorem cvX0_end : Cond.instanceMethod yX0_end ∈ WT ∧ Cond.selects yX0_end.cls yX0_end yX0_end ∈ WT ∧ vwCl[0]? = some (yX0_end.cls, TX0, 5) := ⟨wt 553 (by decide +kernel) rfl, wt 554 (by decide +kernel) rfl, rfl⟩
theorem ceX5_markSigns : jCe yX5_markSigns mX5_markSigns 2 := ⟨wt 4 (by decide +kernel) rfl, wt 559 (by decide +kernel) rfl, by decide +kernel, by decide +kernel⟩
theorem cvX5_markSigns : Cond.instanceMethod yX5_markSigns ∈ WT ∧ Cond.selects yX5_markSigns.cls yX5_markSigns yX5_markSigns ∈ WT ∧ vwCl[5]? = some (yX5_markSigns.cls, TX5, 11) := ⟨wt 558 (by decide +kernel) rfl, wt_p 17 (by decide +kernel : _ = some (_, 11)), rfl⟩
theorem ceX0_groupLengthAt : jCe yX0_groupLengthAt mX0_groupLengthAt 1 := ⟨wt 3 (by decide +kernel) rfl, wt 564 (by decide +kernel) rfl, by decide +kernel, by decide +kernel⟩
theorem cvX0_groupLengthAt : Cond.instanceMethod yX0_groupLengthAt ∈ WT ∧ Cond.selects yX0_groupLengthAt.cls yX0_groupLengthAt yX0_groupLengthAt ∈ WT ∧ vwCl[0]? = some (yX0_groupLengthAt.cls, TX0, 5) := ⟨wt 562 (by decide +kernel) rfl, wt 563 (by decide +kernel) rfl, rfl⟩
theorem ceX5_beamSigns : jCe yX5_beamSigns mX5_beamSigns 3 := ⟨wt 4 (by decide +kernel) rfl, wt 568 (by decide +kernel) rfl, by decide +kernel, by decide +kernel⟩
theorem cvX5_beamSigns : Cond.instanceMethod yX5_beamSigns ∈ WT ∧ Cond.selects yX5_beamSigns.cls yX5_beamSigns yX5_beamSigns ∈ WT ∧ vwCl[5]? = some (yX5_beamSigns.cls, TX5, 11) := ⟨wt 567 (by decide +kernel) rfl, wt_p 18 (by decide +kernel : _ = some (_, 11)), rfl⟩
theorem ceX5_showAlters : jCe yX5_showAlters mX5_showAlters 2 := ⟨wt 4 (by decide +kernel) rfl, wt 581 (by decide +kernel) rfl, by decide +kernel, by decide +kernel⟩
theorem cvX5_showAlters : Cond.instanceMethod yX5_showAlters ∈ WT ∧ Cond.selects yX5_showAlters.cls yX5_showAlters yX5_showAlters ∈ WT ∧ vwCl[5]? = some (yX5_showAlters.cls, TX5, 11) := ⟨wt 580 (by decide +kernel) rfl, wt_p 20 (by decide +kernel : _ = some (_, 11)), rfl⟩
theorem ceX6_keyAsWritten : jCe yX6_keyAsWritten mX6_keyAsWritten 1 := ⟨wt 2 (by decide +kernel) rfl, wt 603 (by decide +kernel) rfl, by decide +kernel, by decide +kernel⟩
theorem cvX6_keyAsWritten : Cond.instanceMethod yX6_keyAsWritten ∈ WT ∧ Cond.selects yX6_keyAsWritten.cls yX6_keyAsWritten yX6_keyAsWritten ∈ WT ∧ vwCl[6]? = some (yX6_keyAsWritten.cls, TX6, 13) := ⟨wt 601 (by decide +kernel) rfl, wt 602 (by decide +kernel) rfl, rfl⟩
theorem ceX5_showAltersAsWritten : jCe yX5_showAltersAsWritten mX5_showAltersAsWritten 2 := ⟨wt 4 (by decide +kernel) rfl, wt 607 (by decide +kernel) rfl, by decide +kernel, by decide +kernel⟩
theorem cvX5_showAltersAsWritten : Cond.instanceMethod yX5_showAltersAsWritten ∈ WT ∧ Cond.selects yX5_showAltersAsWritten.cls yX5_showAltersAsWritten yX5_showAltersAsWritten ∈ WT ∧ vwCl[5]? = some (yX5_showAltersAsWritten.cls, TX5, 11) := ⟨wt 606 (by decide +kernel) rfl, wt_p 22 (by decide +kernel : _ = some (_, 11)), rfl⟩
theorem ceX8_greatestIn : jCe yX8_greatestIn mX8_greatestIn 1 := ⟨wt 13 (by decide +kernel) rfl, wt 545 (by decide +kernel) rfl, by decide +kernel, by decide +kernel⟩
theorem csX8_greatestIn : Cond.static yX8_greatestIn ∈ WT := wt 544 (by decide +kernel) rfl
theorem ceX5_addSign : jCe yX5_addSign mX5_addSign 3 := ⟨wt 4 (by decide +kernel) rfl, wt 551 (by decide +kernel) rfl, by decide +kernel, by decide +kernel⟩
theorem cvX5_addSign : Cond.instanceMethod yX5_addSign ∈ WT ∧ Cond.selects yX5_addSign.cls yX5_addSign yX5_addSign ∈ WT ∧ vwCl[5]? = some (yX5_addSign.cls, TX5, 11) := ⟨wt 550 (by decide +kernel) rfl, wt_p 16 (by decide +kernel : _ = some (_, 11)), rfl⟩
theorem ceX5_joinToSignAhead : jCe yX5_joinToSignAhead mX5_joinToSignAhead 1 := ⟨wt 4 (by decide +kernel) rfl, wt 572 (by decide +kernel) rfl, by decide +kernel, by decide +kernel⟩
theorem cvX5_joinToSignAhead : Cond.instanceMethod yX5_joinToSignAhead ∈ WT ∧ Cond.selects yX5_joinToSignAhead.cls yX5_joinToSignAhead yX5_joinToSignAhead ∈ WT ∧ vwCl[5]? = some (yX5_joinToSignAhead.cls, TX5, 11) := ⟨wt 571 (by decide +kernel) rfl, wt_p 19 (by decide +kernel : _ = some (_, 11)), rfl⟩
theorem ceX6_placeAt : jCe yX6_placeAt mX6_placeAt 1 := ⟨wt 2 (by decide +kernel) rfl, wt 586 (by decide +kernel) rfl, by decide +kernel, by decide +kernel⟩
theorem cvX6_placeAt : Cond.instanceMethod yX6_placeAt ∈ WT ∧ Cond.selects yX6_placeAt.cls yX6_placeAt yX6_placeAt ∈ WT ∧ vwCl[6]? = some (yX6_placeAt.cls, TX6, 13) := ⟨wt 584 (by decide +kernel) rfl, wt 585 (by decide +kernel) rfl, rfl⟩
theorem ceX6_alterAt : jCe yX6_alterAt mX6_alterAt 1 := ⟨wt 2 (by decide +kernel) rfl, wt 590 (by decide +kernel) rfl, by decide +kernel, by decide +kernel⟩
theorem cvX6_alterAt : Cond.instanceMethod yX6_alterAt ∈ WT ∧ Cond.selects yX6_alterAt.cls yX6_alterAt yX6_alterAt ∈ WT ∧ vwCl[6]? = some (yX6_alterAt.cls, TX6, 13) := ⟨wt 588 (by decide +kernel) rfl, wt 589 (by decide +kernel) rfl, rfl⟩
theorem ceX5_alterToShow : jCe yX5_alterToShow mX5_alterToShow 3 := ⟨wt 4 (by decide +kernel) rfl, wt 594 (by decide +kernel) rfl, by decide +kernel, by decide +kernel⟩
theorem cvX5_alterToShow : Cond.instanceMethod yX5_alterToShow ∈ WT ∧ Cond.selects yX5_alterToShow.cls yX5_alterToShow yX5_alterToShow ∈ WT ∧ vwCl[5]? = some (yX5_alterToShow.cls, TX5, 11) := ⟨wt 593 (by decide +kernel) rfl, wt_p 21 (by decide +kernel : _ = some (_, 11)), rfl⟩
theorem ceX6_writtenPlaceAt : jCe yX6_writtenPlaceAt mX6_writtenPlaceAt 1 := ⟨wt 2 (by decide +kernel) rfl, wt 426 (by decide +kernel) rfl, by decide +kernel, by decide +kernel⟩
theorem cvX6_writtenPlaceAt : Cond.instanceMethod yX6_writtenPlaceAt ∈ WT ∧ Cond.selects yX6_writtenPlaceAt.cls yX6_writtenPlaceAt yX6_writtenPlaceAt ∈ WT ∧ vwCl[6]? = some (yX6_writtenPlaceAt.cls, TX6, 13) := ⟨wt 424 (by decide +kernel) rfl, wt 425 (by decide +kernel) rfl, rfl⟩
theorem ceX6_writtenAlterAt : jCe yX6_writtenAlterAt mX6_writtenAlterAt 1 := ⟨wt 2 (by decide +kernel) rfl, wt 430 (by decide +kernel) rfl, by decide +kernel, by decide +kernel⟩
theorem cvX6_writtenAlterAt : Cond.instanceMethod yX6_writtenAlterAt ∈ WT ∧ Cond.selects yX6_writtenAlterAt.cls yX6_writtenAlterAt yX6_writtenAlterAt ∈ WT ∧ vwCl[6]? = some (yX6_writtenAlterAt.cls, TX6, 13) := ⟨wt 428 (by decide +kernel) rfl, wt 429 (by decide +kernel) rfl, rfl⟩
theorem ceX7_alterByKey : jCe yX7_alterByKey mX7_alterByKey 2 := ⟨wt 16 (by decide +kernel) rfl, wt 597 (by decide +kernel) rfl, by decide +kernel, by decide +kernel⟩
theorem csX7_alterByKey : Cond.static yX7_alterByKey ∈ WT := wt 596 (by decide +kernel) rfl
theorem ceX6_givePitch : jCe yX6_givePitch mX6_givePitch 3 := ⟨wt 2 (by decide +kernel) rfl, wt 854 (by decide +kernel) rfl, by decide +kernel, by decide +kernel⟩
theorem cvX6_givePitch : Cond.instanceMethod yX6_givePitch ∈ WT ∧ Cond.selects yX6_givePitch.cls yX6_givePitch yX6_givePitch ∈ WT ∧ vwCl[6]? = some (yX6_givePitch.cls, TX6, 13) := ⟨wt 852 (by decide +kernel) rfl, wt 853 (by decide +kernel) rfl, rfl⟩
theorem ceX7_plainHeight : jCe yX7_plainHeight mX7_plainHeight 1 := ⟨wt 16 (by decide +kernel) rfl, wt 857 (by decide +kernel) rfl, by decide +kernel, by decide +kernel⟩
theorem csX7_plainHeight : Cond.static yX7_plainHeight ∈ WT := wt 856 (by decide +kernel) rfl
theorem ceX6_writeForInstrument : jCe yX6_writeForInstrument mX6_writeForInstrument 1 := ⟨wt 2 (by decide +kernel) rfl, wt 867 (by decide +kernel) rfl, by decide +kernel, by decide +kernel⟩
theorem cvX6_writeForInstrument : Cond.instanceMethod yX6_writeForInstrument ∈ WT ∧ Cond.selects yX6_writeForInstrument.cls yX6_writeForInstrument yX6_writeForInstrument ∈ WT ∧ vwCl[6]? = some (yX6_writeForInstrument.cls, TX6, 13) := ⟨wt 866 (by decide +kernel) rfl, wt_p 38 (by decide +kernel : _ = some (_, 13)), rfl⟩
theorem ceX7_isPitch : jCe yX7_isPitch mX7_isPitch 2 := ⟨wt 16 (by decide +kernel) rfl, wt 870 (by decide +kernel) rfl, by decide +kernel, by decide +kernel⟩
theorem csX7_isPitch : Cond.static yX7_isPitch ∈ WT := wt 869 (by decide +kernel) rfl
theorem ceJ9_floorDiv_7cf53 : jCe yJ9_floorDiv_7cf53 mJ9_floorDiv_7cf53 2 := ⟨wt 17 (by decide +kernel) rfl, wt 863 (by decide +kernel) rfl, by decide +kernel, by decide +kernel⟩
theorem csJ9_floorDiv_7cf53 : Cond.static yJ9_floorDiv_7cf53 ∈ WT := wt 862 (by decide +kernel) rfl
theorem ceX6_init : jCe yX6_init mX6_init 0 := ⟨wt 2 (by decide +kernel) rfl, wt 33 (by decide +kernel) rfl, by decide +kernel, by decide +kernel⟩
theorem ciX6_init : Cond.instanceMethod yX6_init ∈ WT ∧ yX6_init.name = "<init>" := ⟨wt 32 (by decide +kernel) rfl, rfl⟩
theorem ceX0_init : jCe yX0_init mX0_init 0 := ⟨wt 3 (by decide +kernel) rfl, wt 80 (by decide +kernel) rfl, by decide +kernel, by decide +kernel⟩
theorem ciX0_init : Cond.instanceMethod yX0_init ∈ WT ∧ yX0_init.name = "<init>" := ⟨wt 79 (by decide +kernel) rfl, rfl⟩
theorem ceX5_init : jCe yX5_init mX5_init 0 := ⟨wt 4 (by decide +kernel) rfl, wt 113 (by decide +kernel) rfl, by decide +kernel, by decide +kernel⟩
theorem ciX5_init : Cond.instanceMethod yX5_init ∈ WT ∧ yX5_init.name = "<init>" := ⟨wt 112 (by decide +kernel) rfl, rfl⟩
theorem ceX3_init : jCe yX3_init mX3_init 0 := ⟨wt 5 (by decide +kernel) rfl, wt 154 (by decide +kernel) rfl, by decide +kernel, by decide +kernel⟩
theorem ciX3_init : Cond.instanceMethod yX3_init ∈ WT ∧ yX3_init.name = "<init>" := ⟨wt 153 (by decide +kernel) rfl, rfl⟩
theorem ceX1_init : jCe yX1_init mX1_init 0 := ⟨wt 6 (by decide +kernel) rfl, wt 173 (by decide +kernel) rfl, by decide +kernel, by decide +kernel⟩
theorem ciX1_init : Cond.instanceMethod yX1_init ∈ WT ∧ yX1_init.name = "<init>" := ⟨wt 172 (by decide +kernel) rfl, rfl⟩
theorem ceX2_init : jCe yX2_init mX2_init 0 := ⟨wt 7 (by decide +kernel) rfl, wt 189 (by decide +kernel) rfl, by decide +kernel, by decide +kernel⟩
theorem ciX2_init : Cond.instanceMethod yX2_init ∈ WT ∧ yX2_init.name = "<init>" := ⟨wt 188 (by decide +kernel) rfl, rfl⟩
theorem ceX4_init : jCe yX4_init mX4_init 0 := ⟨wt 8 (by decide +kernel) rfl, wt 220 (by decide +kernel) rfl, by decide +kernel, by decide +kernel⟩
theorem ciX4_init : Cond.instanceMethod yX4_init ∈ WT ∧ yX4_init.name = "<init>" := ⟨wt 219 (by decide +kernel) rfl, rfl⟩
theorem ceX9_partAt : jCe yX9_partAt mX9_partAt 1 := ⟨wt 1 (by decide +kernel) rfl, wt 448 (by decide +kernel) rfl, by decide +kernel, by decide +kernel⟩
theorem cvX9_partAt : Cond.instanceMethod yX9_partAt ∈ WT ∧ Cond.selects yX9_partAt.cls yX9_partAt yX9_partAt ∈ WT ∧ vwCl[7]? = some (yX9_partAt.cls, TX9, 12) := ⟨wt 447 (by decide +kernel) rfl, wt_p 13 (by decide +kernel : _ = some (_, 12)), rfl⟩
theorem ceX9_checkPitch : jCe yX9_checkPitch mX9_checkPitch 2 := ⟨wt 1 (by decide +kernel) rfl, wt 943 (by decide +kernel) rfl, by decide +kernel, by decide +kernel⟩
theorem csX9_checkPitch : Cond.static yX9_checkPitch ∈ WT := wt 942 (by decide +kernel) rfl
theorem ceX9_checkValue : jCe yX9_checkValue mX9_checkValue 1 := ⟨wt 1 (by decide +kernel) rfl, wt 798 (by decide +kernel) rfl, by decide +kernel, by decide +kernel⟩
theorem csX9_checkValue : Cond.static yX9_checkValue ∈ WT := wt 797 (by decide +kernel) rfl
theorem ceX9_checkRoom : jCe yX9_checkRoom mX9_checkRoom 2 := ⟨wt 1 (by decide +kernel) rfl, wt 821 (by decide +kernel) rfl, by decide +kernel, by decide +kernel⟩
theorem cvX9_checkRoom : Cond.instanceMethod yX9_checkRoom ∈ WT ∧ Cond.selects yX9_checkRoom.cls yX9_checkRoom yX9_checkRoom ∈ WT ∧ vwCl[7]? = some (yX9_checkRoom.cls, TX9, 12) := ⟨wt 820 (by decide +kernel) rfl, wt_p 35 (by decide +kernel : _ = some (_, 12)), rfl⟩
theorem ceX9_forgetWhatFollows : jCe yX9_forgetWhatFollows mX9_forgetWhatFollows 0 := ⟨wt 1 (by decide +kernel) rfl, wt 846 (by decide +kernel) rfl, by decide +kernel, by decide +kernel⟩
theorem cvX9_forgetWhatFollows : Cond.instanceMethod yX9_forgetWhatFollows ∈ WT ∧ Cond.selects yX9_forgetWhatFollows.cls yX9_forgetWhatFollows yX9_forgetWhatFollows ∈ WT ∧ vwCl[7]? = some (yX9_forgetWhatFollows.cls, TX9, 12) := ⟨wt 845 (by decide +kernel) rfl, wt_p 37 (by decide +kernel : _ = some (_, 12)), rfl⟩
theorem ceX6_append : jCe yX6_append mX6_append 3 := ⟨wt 2 (by decide +kernel) rfl, wt 850 (by decide +kernel) rfl, by decide +kernel, by decide +kernel⟩
theorem cvX6_append : Cond.instanceMethod yX6_append ∈ WT ∧ Cond.selects yX6_append.cls yX6_append yX6_append ∈ WT ∧ vwCl[6]? = some (yX6_append.cls, TX6, 13) := ⟨wt 848 (by decide +kernel) rfl, wt 849 (by decide +kernel) rfl, rfl⟩
theorem ceX6_removeLast : jCe yX6_removeLast mX6_removeLast 0 := ⟨wt 2 (by decide +kernel) rfl, wt 879 (by decide +kernel) rfl, by decide +kernel, by decide +kernel⟩
theorem cvX6_removeLast : Cond.instanceMethod yX6_removeLast ∈ WT ∧ Cond.selects yX6_removeLast.cls yX6_removeLast yX6_removeLast ∈ WT ∧ vwCl[6]? = some (yX6_removeLast.cls, TX6, 13) := ⟨wt 877 (by decide +kernel) rfl, wt 878 (by decide +kernel) rfl, rfl⟩
theorem ceX9_partWith : jCe yX9_partWith mX9_partWith 2 := ⟨wt 1 (by decide +kernel) rfl, wt 938 (by decide +kernel) rfl, by decide +kernel, by decide +kernel⟩
theorem cvX9_partWith : Cond.instanceMethod yX9_partWith ∈ WT ∧ Cond.selects yX9_partWith.cls yX9_partWith yX9_partWith ∈ WT ∧ vwCl[7]? = some (yX9_partWith.cls, TX9, 12) := ⟨wt 937 (by decide +kernel) rfl, wt_p 39 (by decide +kernel : _ = some (_, 12)), rfl⟩
theorem ceX9_checkNote : jCe yX9_checkNote mX9_checkNote 2 := ⟨wt 1 (by decide +kernel) rfl, wt 948 (by decide +kernel) rfl, by decide +kernel, by decide +kernel⟩
theorem csX9_checkNote : Cond.static yX9_checkNote ∈ WT := wt 947 (by decide +kernel) rfl
theorem ceX9_checkBar : jCe yX9_checkBar mX9_checkBar 1 := ⟨wt 1 (by decide +kernel) rfl, wt 519 (by decide +kernel) rfl, by decide +kernel, by decide +kernel⟩
theorem csX9_checkBar : Cond.static yX9_checkBar ∈ WT := wt 518 (by decide +kernel) rfl
theorem ceX9_checkKey : jCe yX9_checkKey mX9_checkKey 1 := ⟨wt 1 (by decide +kernel) rfl, wt 892 (by decide +kernel) rfl, by decide +kernel, by decide +kernel⟩
theorem csX9_checkKey : Cond.static yX9_checkKey ∈ WT := wt 891 (by decide +kernel) rfl
theorem ceX0_changeKey : jCe yX0_changeKey mX0_changeKey 2 := ⟨wt 3 (by decide +kernel) rfl, wt 897 (by decide +kernel) rfl, by decide +kernel, by decide +kernel⟩
theorem cvX0_changeKey : Cond.instanceMethod yX0_changeKey ∈ WT ∧ Cond.selects yX0_changeKey.cls yX0_changeKey yX0_changeKey ∈ WT ∧ vwCl[0]? = some (yX0_changeKey.cls, TX0, 5) := ⟨wt 895 (by decide +kernel) rfl, wt 896 (by decide +kernel) rfl, rfl⟩
theorem ceX6_changeRange : jCe yX6_changeRange mX6_changeRange 2 := ⟨wt 2 (by decide +kernel) rfl, wt 920 (by decide +kernel) rfl, by decide +kernel, by decide +kernel⟩
theorem cvX6_changeRange : Cond.instanceMethod yX6_changeRange ∈ WT ∧ Cond.selects yX6_changeRange.cls yX6_changeRange yX6_changeRange ∈ WT ∧ vwCl[6]? = some (yX6_changeRange.cls, TX6, 13) := ⟨wt 918 (by decide +kernel) rfl, wt 919 (by decide +kernel) rfl, rfl⟩
theorem ceX6_notesOutOfRange : jCe yX6_notesOutOfRange mX6_notesOutOfRange 0 := ⟨wt 2 (by decide +kernel) rfl, wt 924 (by decide +kernel) rfl, by decide +kernel, by decide +kernel⟩
theorem cvX6_notesOutOfRange : Cond.instanceMethod yX6_notesOutOfRange ∈ WT ∧ Cond.selects yX6_notesOutOfRange.cls yX6_notesOutOfRange yX6_notesOutOfRange ∈ WT ∧ vwCl[6]? = some (yX6_notesOutOfRange.cls, TX6, 13) := ⟨wt 922 (by decide +kernel) rfl, wt 923 (by decide +kernel) rfl, rfl⟩
theorem ceX6_changeShift : jCe yX6_changeShift mX6_changeShift 2 := ⟨wt 2 (by decide +kernel) rfl, wt 906 (by decide +kernel) rfl, by decide +kernel, by decide +kernel⟩
theorem cvX6_changeShift : Cond.instanceMethod yX6_changeShift ∈ WT ∧ Cond.selects yX6_changeShift.cls yX6_changeShift yX6_changeShift ∈ WT ∧ vwCl[6]? = some (yX6_changeShift.cls, TX6, 13) := ⟨wt 904 (by decide +kernel) rfl, wt 905 (by decide +kernel) rfl, rfl⟩
theorem ceX6_notesWithoutWrittenPitch : jCe yX6_notesWithoutWrittenPitch mX6_notesWithoutWrittenPitch 0 := ⟨wt 2 (by decide +kernel) rfl, wt 910 (by decide +kernel) rfl, by decide +kernel, by decide +kernel⟩
theorem cvX6_notesWithoutWrittenPitch : Cond.instanceMethod yX6_notesWithoutWrittenPitch ∈ WT ∧ Cond.selects yX6_notesWithoutWrittenPitch.cls yX6_notesWithoutWrittenPitch yX6_notesWithoutWrittenPitch ∈ WT ∧ vwCl[6]? = some (yX6_notesWithoutWrittenPitch.cls, TX6, 13) := ⟨wt 908 (by decide +kernel) rfl, wt 909 (by decide +kernel) rfl, rfl⟩
theorem ceX9_measureAt : jCe yX9_measureAt mX9_measureAt 2 := ⟨wt 1 (by decide +kernel) rfl, wt 444 (by decide +kernel) rfl, by decide +kernel, by decide +kernel⟩
theorem cvX9_measureAt : Cond.instanceMethod yX9_measureAt ∈ WT ∧ Cond.selects yX9_measureAt.cls yX9_measureAt yX9_measureAt ∈ WT ∧ vwCl[7]? = some (yX9_measureAt.cls, TX9, 12) := ⟨wt 443 (by decide +kernel) rfl, wt_p 12 (by decide +kernel : _ = some (_, 12)), rfl⟩
theorem ceX5_size : jCe yX5_size mX5_size 0 := ⟨wt 4 (by decide +kernel) rfl, wt 613 (by decide +kernel) rfl, by decide +kernel, by decide +kernel⟩
theorem cvX5_size : Cond.instanceMethod yX5_size ∈ WT ∧ Cond.selects yX5_size.cls yX5_size yX5_size ∈ WT ∧ vwCl[5]? = some (yX5_size.cls, TX5, 11) := ⟨wt 611 (by decide +kernel) rfl, wt 612 (by decide +kernel) rfl, rfl⟩
theorem ceX9_measureWith : jCe yX9_measureWith mX9_measureWith 3 := ⟨wt 1 (by decide +kernel) rfl, wt 974 (by decide +kernel) rfl, by decide +kernel, by decide +kernel⟩
theorem cvX9_measureWith : Cond.instanceMethod yX9_measureWith ∈ WT ∧ Cond.selects yX9_measureWith.cls yX9_measureWith yX9_measureWith ∈ WT ∧ vwCl[7]? = some (yX9_measureWith.cls, TX9, 12) := ⟨wt 973 (by decide +kernel) rfl, wt_p 40 (by decide +kernel : _ = some (_, 12)), rfl⟩
theorem ceX5_eventAt : jCe yX5_eventAt mX5_eventAt 1 := ⟨wt 4 (by decide +kernel) rfl, wt 638 (by decide +kernel) rfl, by decide +kernel, by decide +kernel⟩
theorem cvX5_eventAt : Cond.instanceMethod yX5_eventAt ∈ WT ∧ Cond.selects yX5_eventAt.cls yX5_eventAt yX5_eventAt ∈ WT ∧ vwCl[5]? = some (yX5_eventAt.cls, TX5, 11) := ⟨wt 636 (by decide +kernel) rfl, wt 637 (by decide +kernel) rfl, rfl⟩
theorem ceX5_lengthAt : jCe yX5_lengthAt mX5_lengthAt 1 := ⟨wt 4 (by decide +kernel) rfl, wt 642 (by decide +kernel) rfl, by decide +kernel, by decide +kernel⟩
theorem cvX5_lengthAt : Cond.instanceMethod yX5_lengthAt ∈ WT ∧ Cond.selects yX5_lengthAt.cls yX5_lengthAt yX5_lengthAt ∈ WT ∧ vwCl[5]? = some (yX5_lengthAt.cls, TX5, 11) := ⟨wt 640 (by decide +kernel) rfl, wt 641 (by decide +kernel) rfl, rfl⟩
theorem ceX5_tiedAt : jCe yX5_tiedAt mX5_tiedAt 1 := ⟨wt 4 (by decide +kernel) rfl, wt 646 (by decide +kernel) rfl, by decide +kernel, by decide +kernel⟩
theorem cvX5_tiedAt : Cond.instanceMethod yX5_tiedAt ∈ WT ∧ Cond.selects yX5_tiedAt.cls yX5_tiedAt yX5_tiedAt ∈ WT ∧ vwCl[5]? = some (yX5_tiedAt.cls, TX5, 11) := ⟨wt 644 (by decide +kernel) rfl, wt 645 (by decide +kernel) rfl, rfl⟩
theorem ceX5_shownAt : jCe yX5_shownAt mX5_shownAt 1 := ⟨wt 4 (by decide +kernel) rfl, wt 650 (by decide +kernel) rfl, by decide +kernel, by decide +kernel⟩
theorem cvX5_shownAt : Cond.instanceMethod yX5_shownAt ∈ WT ∧ Cond.selects yX5_shownAt.cls yX5_shownAt yX5_shownAt ∈ WT ∧ vwCl[5]? = some (yX5_shownAt.cls, TX5, 11) := ⟨wt 648 (by decide +kernel) rfl, wt 649 (by decide +kernel) rfl, rfl⟩
theorem ceX5_shownAsWrittenAt : jCe yX5_shownAsWrittenAt mX5_shownAsWrittenAt 1 := ⟨wt 4 (by decide +kernel) rfl, wt 654 (by decide +kernel) rfl, by decide +kernel, by decide +kernel⟩
theorem cvX5_shownAsWrittenAt : Cond.instanceMethod yX5_shownAsWrittenAt ∈ WT ∧ Cond.selects yX5_shownAsWrittenAt.cls yX5_shownAsWrittenAt yX5_shownAsWrittenAt ∈ WT ∧ vwCl[5]? = some (yX5_shownAsWrittenAt.cls, TX5, 11) := ⟨wt 652 (by decide +kernel) rfl, wt 653 (by decide +kernel) rfl, rfl⟩
theorem ceX5_beamTotal : jCe yX5_beamTotal mX5_beamTotal 0 := ⟨wt 4 (by decide +kernel) rfl, wt 617 (by decide +kernel) rfl, by decide +kernel, by decide +kernel⟩
theorem cvX5_beamTotal : Cond.instanceMethod yX5_beamTotal ∈ WT ∧ Cond.selects yX5_beamTotal.cls yX5_beamTotal yX5_beamTotal ∈ WT ∧ vwCl[5]? = some (yX5_beamTotal.cls, TX5, 11) := ⟨wt 615 (by decide +kernel) rfl, wt 616 (by decide +kernel) rfl, rfl⟩
theorem ceX5_beamAt : jCe yX5_beamAt mX5_beamAt 1 := ⟨wt 4 (by decide +kernel) rfl, wt 658 (by decide +kernel) rfl, by decide +kernel, by decide +kernel⟩
theorem cvX5_beamAt : Cond.instanceMethod yX5_beamAt ∈ WT ∧ Cond.selects yX5_beamAt.cls yX5_beamAt yX5_beamAt ∈ WT ∧ vwCl[5]? = some (yX5_beamAt.cls, TX5, 11) := ⟨wt 656 (by decide +kernel) rfl, wt 657 (by decide +kernel) rfl, rfl⟩
theorem ceX6_end : jCe yX6_end mX6_end 0 := ⟨wt 2 (by decide +kernel) rfl, wt 621 (by decide +kernel) rfl, by decide +kernel, by decide +kernel⟩
theorem cvX6_end : Cond.instanceMethod yX6_end ∈ WT ∧ Cond.selects yX6_end.cls yX6_end yX6_end ∈ WT ∧ vwCl[6]? = some (yX6_end.cls, TX6, 13) := ⟨wt 619 (by decide +kernel) rfl, wt 620 (by decide +kernel) rfl, rfl⟩
theorem ceX0_ticksBehind : jCe yX0_ticksBehind mX0_ticksBehind 2 := ⟨wt 3 (by decide +kernel) rfl, wt 625 (by decide +kernel) rfl, by decide +kernel, by decide +kernel⟩
theorem cvX0_ticksBehind : Cond.instanceMethod yX0_ticksBehind ∈ WT ∧ Cond.selects yX0_ticksBehind.cls yX0_ticksBehind yX0_ticksBehind ∈ WT ∧ vwCl[0]? = some (yX0_ticksBehind.cls, TX0, 5) := ⟨wt 623 (by decide +kernel) rfl, wt 624 (by decide +kernel) rfl, rfl⟩
theorem ceX9_hear : jCe yX9_hear mX9_hear 0 := ⟨wt 1 (by decide +kernel) rfl, wt 286 (by decide +kernel) rfl, by decide +kernel, by decide +kernel⟩
theorem cvX9_hear : Cond.instanceMethod yX9_hear ∈ WT ∧ Cond.selects yX9_hear.cls yX9_hear yX9_hear ∈ WT ∧ vwCl[7]? = some (yX9_hear.cls, TX9, 12) := ⟨wt 285 (by decide +kernel) rfl, wt_p 1 (by decide +kernel : _ = some (_, 12)), rfl⟩
theorem ceX9_checkMoment : jCe yX9_checkMoment mX9_checkMoment 1 := ⟨wt 1 (by decide +kernel) rfl, wt 1035 (by decide +kernel) rfl, by decide +kernel, by decide +kernel⟩
theorem cvX9_checkMoment : Cond.instanceMethod yX9_checkMoment ∈ WT ∧ Cond.selects yX9_checkMoment.cls yX9_checkMoment yX9_checkMoment ∈ WT ∧ vwCl[7]? = some (yX9_checkMoment.cls, TX9, 12) := ⟨wt 1034 (by decide +kernel) rfl, wt_p 41 (by decide +kernel : _ = some (_, 12)), rfl⟩
theorem ceX9_chordAt : jCe yX9_chordAt mX9_chordAt 1 := ⟨wt 1 (by decide +kernel) rfl, wt 669 (by decide +kernel) rfl, by decide +kernel, by decide +kernel⟩
theorem cvX9_chordAt : Cond.instanceMethod yX9_chordAt ∈ WT ∧ Cond.selects yX9_chordAt.cls yX9_chordAt yX9_chordAt ∈ WT ∧ vwCl[7]? = some (yX9_chordAt.cls, TX9, 12) := ⟨wt 668 (by decide +kernel) rfl, wt_p 25 (by decide +kernel : _ = some (_, 12)), rfl⟩
theorem ceX1_rootClass : jCe yX1_rootClass mX1_rootClass 0 := ⟨wt 6 (by decide +kernel) rfl, wt 702 (by decide +kernel) rfl, by decide +kernel, by decide +kernel⟩
theorem cvX1_rootClass : Cond.instanceMethod yX1_rootClass ∈ WT ∧ Cond.selects yX1_rootClass.cls yX1_rootClass yX1_rootClass ∈ WT ∧ vwCl[1]? = some (yX1_rootClass.cls, TX1, 3) := ⟨wt 700 (by decide +kernel) rfl, wt 701 (by decide +kernel) rfl, rfl⟩
theorem ceX1_kindNumber : jCe yX1_kindNumber mX1_kindNumber 0 := ⟨wt 6 (by decide +kernel) rfl, wt 706 (by decide +kernel) rfl, by decide +kernel, by decide +kernel⟩
theorem cvX1_kindNumber : Cond.instanceMethod yX1_kindNumber ∈ WT ∧ Cond.selects yX1_kindNumber.cls yX1_kindNumber yX1_kindNumber ∈ WT ∧ vwCl[1]? = some (yX1_kindNumber.cls, TX1, 3) := ⟨wt 704 (by decide +kernel) rfl, wt 705 (by decide +kernel) rfl, rfl⟩
theorem ceX1_lowestTone : jCe yX1_lowestTone mX1_lowestTone 0 := ⟨wt 6 (by decide +kernel) rfl, wt 710 (by decide +kernel) rfl, by decide +kernel, by decide +kernel⟩
theorem cvX1_lowestTone : Cond.instanceMethod yX1_lowestTone ∈ WT ∧ Cond.selects yX1_lowestTone.cls yX1_lowestTone yX1_lowestTone ∈ WT ∧ vwCl[1]? = some (yX1_lowestTone.cls, TX1, 3) := ⟨wt 708 (by decide +kernel) rfl, wt 709 (by decide +kernel) rfl, rfl⟩
theorem ceX9_searchFaults : jCe yX9_searchFaults mX9_searchFaults 0 := ⟨wt 1 (by decide +kernel) rfl, wt 352 (by decide +kernel) rfl, by decide +kernel, by decide +kernel⟩
theorem cvX9_searchFaults : Cond.instanceMethod yX9_searchFaults ∈ WT ∧ Cond.selects yX9_searchFaults.cls yX9_searchFaults yX9_searchFaults ∈ WT ∧ vwCl[7]? = some (yX9_searchFaults.cls, TX9, 12) := ⟨wt 351 (by decide +kernel) rfl, wt_p 4 (by decide +kernel : _ = some (_, 12)), rfl⟩
theorem ceX2_size : jCe yX2_size mX2_size 0 := ⟨wt 7 (by decide +kernel) rfl, wt 718 (by decide +kernel) rfl, by decide +kernel, by decide +kernel⟩
theorem cvX2_size : Cond.instanceMethod yX2_size ∈ WT ∧ Cond.selects yX2_size.cls yX2_size yX2_size ∈ WT ∧ vwCl[2]? = some (yX2_size.cls, TX2, 8) := ⟨wt 716 (by decide +kernel) rfl, wt 717 (by decide +kernel) rfl, rfl⟩
theorem ceX9_checkFault : jCe yX9_checkFault mX9_checkFault 1 := ⟨wt 1 (by decide +kernel) rfl, wt 1061 (by decide +kernel) rfl, by decide +kernel, by decide +kernel⟩
theorem cvX9_checkFault : Cond.instanceMethod yX9_checkFault ∈ WT ∧ Cond.selects yX9_checkFault.cls yX9_checkFault yX9_checkFault ∈ WT ∧ vwCl[7]? = some (yX9_checkFault.cls, TX9, 12) := ⟨wt 1060 (by decide +kernel) rfl, wt_p 42 (by decide +kernel : _ = some (_, 12)), rfl⟩
theorem ceX2_kindAt : jCe yX2_kindAt mX2_kindAt 1 := ⟨wt 7 (by decide +kernel) rfl, wt 722 (by decide +kernel) rfl, by decide +kernel, by decide +kernel⟩
theorem cvX2_kindAt : Cond.instanceMethod yX2_kindAt ∈ WT ∧ Cond.selects yX2_kindAt.cls yX2_kindAt yX2_kindAt ∈ WT ∧ vwCl[2]? = some (yX2_kindAt.cls, TX2, 8) := ⟨wt 720 (by decide +kernel) rfl, wt 721 (by decide +kernel) rfl, rfl⟩
theorem ceX2_tickAt : jCe yX2_tickAt mX2_tickAt 1 := ⟨wt 7 (by decide +kernel) rfl, wt 730 (by decide +kernel) rfl, by decide +kernel, by decide +kernel⟩
theorem cvX2_tickAt : Cond.instanceMethod yX2_tickAt ∈ WT ∧ Cond.selects yX2_tickAt.cls yX2_tickAt yX2_tickAt ∈ WT ∧ vwCl[2]? = some (yX2_tickAt.cls, TX2, 8) := ⟨wt 728 (by decide +kernel) rfl, wt 729 (by decide +kernel) rfl, rfl⟩
theorem ceX2_partsAt : jCe yX2_partsAt mX2_partsAt 1 := ⟨wt 7 (by decide +kernel) rfl, wt 734 (by decide +kernel) rfl, by decide +kernel, by decide +kernel⟩
theorem cvX2_partsAt : Cond.instanceMethod yX2_partsAt ∈ WT ∧ Cond.selects yX2_partsAt.cls yX2_partsAt yX2_partsAt ∈ WT ∧ vwCl[2]? = some (yX2_partsAt.cls, TX2, 8) := ⟨wt 732 (by decide +kernel) rfl, wt 733 (by decide +kernel) rfl, rfl⟩
theorem ceX9_lastEnd : jCe yX9_lastEnd mX9_lastEnd 0 := ⟨wt 1 (by decide +kernel) rfl, wt 742 (by decide +kernel) rfl, by decide +kernel, by decide +kernel⟩
theorem cvX9_lastEnd : Cond.instanceMethod yX9_lastEnd ∈ WT ∧ Cond.selects yX9_lastEnd.cls yX9_lastEnd yX9_lastEnd ∈ WT ∧ vwCl[7]? = some (yX9_lastEnd.cls, TX9, 12) := ⟨wt 741 (by decide +kernel) rfl, wt_p 30 (by decide +kernel : _ = some (_, 12)), rfl⟩
theorem ceX0_barsUpTo : jCe yX0_barsUpTo mX0_barsUpTo 1 := ⟨wt 3 (by decide +kernel) rfl, wt 747 (by decide +kernel) rfl, by decide +kernel, by decide +kernel⟩
theorem cvX0_barsUpTo : Cond.instanceMethod yX0_barsUpTo ∈ WT ∧ Cond.selects yX0_barsUpTo.cls yX0_barsUpTo yX0_barsUpTo ∈ WT ∧ vwCl[0]? = some (yX0_barsUpTo.cls, TX0, 5) := ⟨wt 745 (by decide +kernel) rfl, wt 746 (by decide +kernel) rfl, rfl⟩
theorem ceX9_measureWidths : jCe yX9_measureWidths mX9_measureWidths 0 := ⟨wt 1 (by decide +kernel) rfl, wt 282 (by decide +kernel) rfl, by decide +kernel, by decide +kernel⟩
theorem cvX9_measureWidths : Cond.instanceMethod yX9_measureWidths ∈ WT ∧ Cond.selects yX9_measureWidths.cls yX9_measureWidths yX9_measureWidths ∈ WT ∧ vwCl[7]? = some (yX9_measureWidths.cls, TX9, 12) := ⟨wt 281 (by decide +kernel) rfl, wt_p 0 (by decide +kernel : _ = some (_, 12)), rfl⟩
theorem ceX4_widthAt : jCe yX4_widthAt mX4_widthAt 1 := ⟨wt 8 (by decide +kernel) rfl, wt 440 (by decide +kernel) rfl, by decide +kernel, by decide +kernel⟩
theorem cvX4_widthAt : Cond.instanceMethod yX4_widthAt ∈ WT ∧ Cond.selects yX4_widthAt.cls yX4_widthAt yX4_widthAt ∈ WT ∧ vwCl[4]? = some (yX4_widthAt.cls, TX4, 5) := ⟨wt 438 (by decide +kernel) rfl, wt 439 (by decide +kernel) rfl, rfl⟩
theorem ceX9_checkWidth : jCe yX9_checkWidth mX9_checkWidth 1 := ⟨wt 1 (by decide +kernel) rfl, wt 1082 (by decide +kernel) rfl, by decide +kernel, by decide +kernel⟩
theorem csX9_checkWidth : Cond.static yX9_checkWidth ∈ WT := wt 1081 (by decide +kernel) rfl
theorem ceX9_breakLines : jCe yX9_breakLines mX9_breakLines 1 := ⟨wt 1 (by decide +kernel) rfl, wt 756 (by decide +kernel) rfl, by decide +kernel, by decide +kernel⟩
theorem cvX9_breakLines : Cond.instanceMethod yX9_breakLines ∈ WT ∧ Cond.selects yX9_breakLines.cls yX9_breakLines yX9_breakLines ∈ WT ∧ vwCl[7]? = some (yX9_breakLines.cls, TX9, 12) := ⟨wt 755 (by decide +kernel) rfl, wt_p 32 (by decide +kernel : _ = some (_, 12)), rfl⟩
theorem ceX4_size : jCe yX4_size mX4_size 0 := ⟨wt 8 (by decide +kernel) rfl, wt 774 (by decide +kernel) rfl, by decide +kernel, by decide +kernel⟩
theorem cvX4_size : Cond.instanceMethod yX4_size ∈ WT ∧ Cond.selects yX4_size.cls yX4_size yX4_size ∈ WT ∧ vwCl[4]? = some (yX4_size.cls, TX4, 5) := ⟨wt 772 (by decide +kernel) rfl, wt 773 (by decide +kernel) rfl, rfl⟩
theorem ceX4_lineAt : jCe yX4_lineAt mX4_lineAt 1 := ⟨wt 8 (by decide +kernel) rfl, wt 1087 (by decide +kernel) rfl, by decide +kernel, by decide +kernel⟩
theorem cvX4_lineAt : Cond.instanceMethod yX4_lineAt ∈ WT ∧ Cond.selects yX4_lineAt.cls yX4_lineAt yX4_lineAt ∈ WT ∧ vwCl[4]? = some (yX4_lineAt.cls, TX4, 5) := ⟨wt 1085 (by decide +kernel) rfl, wt 1086 (by decide +kernel) rfl, rfl⟩
theorem ceX4_leastCost : jCe yX4_leastCost mX4_leastCost 0 := ⟨wt 8 (by decide +kernel) rfl, wt 778 (by decide +kernel) rfl, by decide +kernel, by decide +kernel⟩
theorem cvX4_leastCost : Cond.instanceMethod yX4_leastCost ∈ WT ∧ Cond.selects yX4_leastCost.cls yX4_leastCost yX4_leastCost ∈ WT ∧ vwCl[4]? = some (yX4_leastCost.cls, TX4, 5) := ⟨wt 776 (by decide +kernel) rfl, wt 777 (by decide +kernel) rfl, rfl⟩
theorem ceX9_mixPart : jCe yX9_mixPart mX9_mixPart 2 := ⟨wt 1 (by decide +kernel) rfl, wt 408 (by decide +kernel) rfl, by decide +kernel, by decide +kernel⟩
theorem cvX9_mixPart : Cond.instanceMethod yX9_mixPart ∈ WT ∧ Cond.selects yX9_mixPart.cls yX9_mixPart yX9_mixPart ∈ WT ∧ vwCl[7]? = some (yX9_mixPart.cls, TX9, 12) := ⟨wt 407 (by decide +kernel) rfl, wt_p 10 (by decide +kernel : _ = some (_, 12)), rfl⟩
theorem ceX9_mixBar : jCe yX9_mixBar mX9_mixBar 2 := ⟨wt 1 (by decide +kernel) rfl, wt 434 (by decide +kernel) rfl, by decide +kernel, by decide +kernel⟩
theorem cvX9_mixBar : Cond.instanceMethod yX9_mixBar ∈ WT ∧ Cond.selects yX9_mixBar.cls yX9_mixBar yX9_mixBar ∈ WT ∧ vwCl[7]? = some (yX9_mixBar.cls, TX9, 12) := ⟨wt 433 (by decide +kernel) rfl, wt_p 11 (by decide +kernel : _ = some (_, 12)), rfl⟩
theorem ceX9_mixMoments : jCe yX9_mixMoments mX9_mixMoments 1 := ⟨wt 1 (by decide +kernel) rfl, wt 662 (by decide +kernel) rfl, by decide +kernel, by decide +kernel⟩
theorem cvX9_mixMoments : Cond.instanceMethod yX9_mixMoments ∈ WT ∧ Cond.selects yX9_mixMoments.cls yX9_mixMoments yX9_mixMoments ∈ WT ∧ vwCl[7]? = some (yX9_mixMoments.cls, TX9, 12) := ⟨wt 661 (by decide +kernel) rfl, wt_p 24 (by decide +kernel : _ = some (_, 12)), rfl⟩
theorem ceX9_mixFaults : jCe yX9_mixFaults mX9_mixFaults 1 := ⟨wt 1 (by decide +kernel) rfl, wt 714 (by decide +kernel) rfl, by decide +kernel, by decide +kernel⟩
theorem cvX9_mixFaults : Cond.instanceMethod yX9_mixFaults ∈ WT ∧ Cond.selects yX9_mixFaults.cls yX9_mixFaults yX9_mixFaults ∈ WT ∧ vwCl[7]? = some (yX9_mixFaults.cls, TX9, 12) := ⟨wt 713 (by decide +kernel) rfl, wt_p 29 (by decide +kernel : _ = some (_, 12)), rfl⟩
theorem ceX9_bars : jCe yX9_bars mX9_bars 0 := ⟨wt 1 (by decide +kernel) rfl, wt 738 (by decide +kernel) rfl, by decide +kernel, by decide +kernel⟩
theorem cvX9_bars : Cond.instanceMethod yX9_bars ∈ WT ∧ Cond.selects yX9_bars.cls yX9_bars yX9_bars ∈ WT ∧ vwCl[7]? = some (yX9_bars.cls, TX9, 12) := ⟨wt 736 (by decide +kernel) rfl, wt 737 (by decide +kernel) rfl, rfl⟩
theorem ceX9_mix : jCe yX9_mix mX9_mix 2 := ⟨wt 1 (by decide +kernel) rfl, wt 415 (by decide +kernel) rfl, by decide +kernel, by decide +kernel⟩
theorem csX9_mix : Cond.static yX9_mix ∈ WT := wt 414 (by decide +kernel) rfl
theorem ceX9_mixLines : jCe yX9_mixLines mX9_mixLines 2 := ⟨wt 1 (by decide +kernel) rfl, wt 752 (by decide +kernel) rfl, by decide +kernel, by decide +kernel⟩
theorem cvX9_mixLines : Cond.instanceMethod yX9_mixLines ∈ WT ∧ Cond.selects yX9_mixLines.cls yX9_mixLines yX9_mixLines ∈ WT ∧ vwCl[7]? = some (yX9_mixLines.cls, TX9, 12) := ⟨wt 751 (by decide +kernel) rfl, wt_p 31 (by decide +kernel : _ = some (_, 12)), rfl⟩
theorem ceX9_mixSigns : jCe yX9_mixSigns mX9_mixSigns 2 := ⟨wt 1 (by decide +kernel) rfl, wt 634 (by decide +kernel) rfl, by decide +kernel, by decide +kernel⟩
theorem cvX9_mixSigns : Cond.instanceMethod yX9_mixSigns ∈ WT ∧ Cond.selects yX9_mixSigns.cls yX9_mixSigns yX9_mixSigns ∈ WT ∧ vwCl[7]? = some (yX9_mixSigns.cls, TX9, 12) := ⟨wt 633 (by decide +kernel) rfl, wt_p 23 (by decide +kernel : _ = some (_, 12)), rfl⟩
theorem ceX3_listen : jCe yX3_listen mX3_listen 1 := ⟨wt 5 (by decide +kernel) rfl, wt 290 (by decide +kernel) rfl, by decide +kernel, by decide +kernel⟩
theorem cvX3_listen : Cond.instanceMethod yX3_listen ∈ WT ∧ Cond.selects yX3_listen.cls yX3_listen yX3_listen ∈ WT ∧ vwCl[3]? = some (yX3_listen.cls, TX3, 4) := ⟨wt 288 (by decide +kernel) rfl, wt 289 (by decide +kernel) rfl, rfl⟩
theorem ceX2_search : jCe yX2_search mX2_search 2 := ⟨wt 7 (by decide +kernel) rfl, wt 356 (by decide +kernel) rfl, by decide +kernel, by decide +kernel⟩
theorem cvX2_search : Cond.instanceMethod yX2_search ∈ WT ∧ Cond.selects yX2_search.cls yX2_search yX2_search ∈ WT ∧ vwCl[2]? = some (yX2_search.cls, TX2, 8) := ⟨wt 354 (by decide +kernel) rfl, wt 355 (by decide +kernel) rfl, rfl⟩
theorem ceX4_measureWidths : jCe yX4_measureWidths mX4_measureWidths 2 := ⟨wt 8 (by decide +kernel) rfl, wt 321 (by decide +kernel) rfl, by decide +kernel, by decide +kernel⟩
theorem cvX4_measureWidths : Cond.instanceMethod yX4_measureWidths ∈ WT ∧ Cond.selects yX4_measureWidths.cls yX4_measureWidths yX4_measureWidths ∈ WT ∧ vwCl[4]? = some (yX4_measureWidths.cls, TX4, 5) := ⟨wt 319 (by decide +kernel) rfl, wt 320 (by decide +kernel) rfl, rfl⟩
theorem ceX4_breakUp : jCe yX4_breakUp mX4_breakUp 2 := ⟨wt 8 (by decide +kernel) rfl, wt 760 (by decide +kernel) rfl, by decide +kernel, by decide +kernel⟩
theorem cvX4_breakUp : Cond.instanceMethod yX4_breakUp ∈ WT ∧ Cond.selects yX4_breakUp.cls yX4_breakUp yX4_breakUp ∈ WT ∧ vwCl[4]? = some (yX4_breakUp.cls, TX4, 5) := ⟨wt 758 (by decide +kernel) rfl, wt 759 (by decide +kernel) rfl, rfl⟩
theorem ceX5_write : jCe yX5_write mX5_write 3 := ⟨wt 4 (by decide +kernel) rfl, wt 524 (by decide +kernel) rfl, by decide +kernel, by decide +kernel⟩
theorem cvX5_write : Cond.instanceMethod yX5_write ∈ WT ∧ Cond.selects yX5_write.cls yX5_write yX5_write ∈ WT ∧ vwCl[5]? = some (yX5_write.cls, TX5, 11) := ⟨wt 522 (by decide +kernel) rfl, wt 523 (by decide +kernel) rfl, rfl⟩
theorem ceX1_tell : jCe yX1_tell mX1_tell 3 := ⟨wt 6 (by decide +kernel) rfl, wt 673 (by decide +kernel) rfl, by decide +kernel, by decide +kernel⟩
theorem cvX1_tell : Cond.instanceMethod yX1_tell ∈ WT ∧ Cond.selects yX1_tell.cls yX1_tell yX1_tell ∈ WT ∧ vwCl[1]? = some (yX1_tell.cls, TX1, 3) := ⟨wt 671 (by decide +kernel) rfl, wt 672 (by decide +kernel) rfl, rfl⟩
theorem ceX9_allEvents : jCe yX9_allEvents mX9_allEvents 0 := ⟨wt 1 (by decide +kernel) rfl, wt 825 (by decide +kernel) rfl, by decide +kernel, by decide +kernel⟩
theorem cvX9_allEvents : Cond.instanceMethod yX9_allEvents ∈ WT ∧ Cond.selects yX9_allEvents.cls yX9_allEvents yX9_allEvents ∈ WT ∧ vwCl[7]? = some (yX9_allEvents.cls, TX9, 12) := ⟨wt 824 (by decide +kernel) rfl, wt_p 36 (by decide +kernel : _ = some (_, 12)), rfl⟩
theorem ceX8_isValue : jCe yX8_isValue mX8_isValue 1 := ⟨wt 13 (by decide +kernel) rfl, wt 801 (by decide +kernel) rfl, by decide +kernel, by decide +kernel⟩
theorem csX8_isValue : Cond.static yX8_isValue ∈ WT := wt 800 (by decide +kernel) rfl
theorem ceX9_init : jCe yX9_init mX9_init 0 := ⟨wt 1 (by decide +kernel) rfl, wt 24 (by decide +kernel) rfl, by decide +kernel, by decide +kernel⟩
theorem ciX9_init : Cond.instanceMethod yX9_init ∈ WT ∧ yX9_init.name = "<init>" := ⟨wt 23 (by decide +kernel) rfl, rfl⟩
theorem ceL_cell : jCe yL_cell mL_cell 2 := ⟨wt 0 (by decide +kernel) rfl, wt 785 (by decide +kernel) rfl, by decide +kernel, by decide +kernel⟩
theorem csL_cell : Cond.static yL_cell ∈ WT := wt 784 (by decide +kernel) rfl
theorem ceL_act : Cond.initialized yL_act.cls ∈ WT ∧ Cond.codeWith yL_act (jM.cc mL_act) (jM.nL mL_act) (jM.ret mL_act) (jM.hh mL_act) ∈ WT ∧ (yL_act.cls ≠ "java/lang/invoke/MethodHandle" ∧ yL_act.cls ≠ "java/lang/invoke/VarHandle") ∧ (parseMethodDescriptor yL_act.desc).map (fun d => d.parameters.length) = some 2 := ⟨wt 0 (by decide +kernel) rfl, wt 789 (by decide +kernel) rfl, by decide +kernel, by decide +kernel⟩
theorem csL_act : Cond.static yL_act ∈ WT := wt 788 (by decide +kernel) rfl
theorem ceX9_digest : jCe yX9_digest mX9_digest 0 := ⟨wt 1 (by decide +kernel) rfl, wt 278 (by decide +kernel) rfl, by decide +kernel, by decide +kernel⟩
theorem cvX9_digest : Cond.instanceMethod yX9_digest ∈ WT ∧ Cond.selects yX9_digest.cls yX9_digest yX9_digest ∈ WT ∧ vwCl[7]? = some (yX9_digest.cls, TX9, 12) := ⟨wt 276 (by decide +kernel) rfl, wt 277 (by decide +kernel) rfl, rfl⟩
theorem ceL_isBarSound : jCe yL_isBarSound mL_isBarSound 3 := ⟨wt 0 (by decide +kernel) rfl, wt 958 (by decide +kernel) rfl, by decide +kernel, by decide +kernel⟩
theorem csL_isBarSound : Cond.static yL_isBarSound ∈ WT := wt 957 (by decide +kernel) rfl
theorem ceL_areMomentsSound : jCe yL_areMomentsSound mL_areMomentsSound 1 := ⟨wt 0 (by decide +kernel) rfl, wt 1023 (by decide +kernel) rfl, by decide +kernel, by decide +kernel⟩
theorem csL_areMomentsSound : Cond.static yL_areMomentsSound ∈ WT := wt 1022 (by decide +kernel) rfl
theorem ceL_below : jCe yL_below mL_below 2 := ⟨wt 0 (by decide +kernel) rfl, wt 781 (by decide +kernel) rfl, by decide +kernel, by decide +kernel⟩
theorem csL_below : Cond.static yL_below ∈ WT := wt 780 (by decide +kernel) rfl
theorem ceL_areLinesSound : jCe yL_areLinesSound mL_areLinesSound 2 := ⟨wt 0 (by decide +kernel) rfl, wt 1074 (by decide +kernel) rfl, by decide +kernel, by decide +kernel⟩
theorem csL_areLinesSound : Cond.static yL_areLinesSound ∈ WT := wt 1073 (by decide +kernel) rfl
theorem ceX9_addRest : jCe yX9_addRest mX9_addRest 2 := ⟨wt 1 (by decide +kernel) rfl, wt 795 (by decide +kernel) rfl, by decide +kernel, by decide +kernel⟩
theorem cvX9_addRest : Cond.instanceMethod yX9_addRest ∈ WT ∧ Cond.selects yX9_addRest.cls yX9_addRest yX9_addRest ∈ WT ∧ vwCl[7]? = some (yX9_addRest.cls, TX9, 12) := ⟨wt 793 (by decide +kernel) rfl, wt 794 (by decide +kernel) rfl, rfl⟩
theorem ceX9_takeLast : jCe yX9_takeLast mX9_takeLast 1 := ⟨wt 1 (by decide +kernel) rfl, wt 874 (by decide +kernel) rfl, by decide +kernel, by decide +kernel⟩
theorem cvX9_takeLast : Cond.instanceMethod yX9_takeLast ∈ WT ∧ Cond.selects yX9_takeLast.cls yX9_takeLast yX9_takeLast ∈ WT ∧ vwCl[7]? = some (yX9_takeLast.cls, TX9, 12) := ⟨wt 872 (by decide +kernel) rfl, wt 873 (by decide +kernel) rfl, rfl⟩
theorem ceX9_setMetre : jCe yX9_setMetre mX9_setMetre 3 := ⟨wt 1 (by decide +kernel) rfl, wt 883 (by decide +kernel) rfl, by decide +kernel, by decide +kernel⟩
theorem cvX9_setMetre : Cond.instanceMethod yX9_setMetre ∈ WT ∧ Cond.selects yX9_setMetre.cls yX9_setMetre yX9_setMetre ∈ WT ∧ vwCl[7]? = some (yX9_setMetre.cls, TX9, 12) := ⟨wt 881 (by decide +kernel) rfl, wt 882 (by decide +kernel) rfl, rfl⟩
theorem ceX9_setKey : jCe yX9_setKey mX9_setKey 2 := ⟨wt 1 (by decide +kernel) rfl, wt 889 (by decide +kernel) rfl, by decide +kernel, by decide +kernel⟩
theorem cvX9_setKey : Cond.instanceMethod yX9_setKey ∈ WT ∧ Cond.selects yX9_setKey.cls yX9_setKey yX9_setKey ∈ WT ∧ vwCl[7]? = some (yX9_setKey.cls, TX9, 12) := ⟨wt 887 (by decide +kernel) rfl, wt 888 (by decide +kernel) rfl, rfl⟩
theorem ceX9_setShift : jCe yX9_setShift mX9_setShift 3 := ⟨wt 1 (by decide +kernel) rfl, wt 901 (by decide +kernel) rfl, by decide +kernel, by decide +kernel⟩
theorem cvX9_setShift : Cond.instanceMethod yX9_setShift ∈ WT ∧ Cond.selects yX9_setShift.cls yX9_setShift yX9_setShift ∈ WT ∧ vwCl[7]? = some (yX9_setShift.cls, TX9, 12) := ⟨wt 899 (by decide +kernel) rfl, wt 900 (by decide +kernel) rfl, rfl⟩
theorem ceX9_setRange : jCe yX9_setRange mX9_setRange 3 := ⟨wt 1 (by decide +kernel) rfl, wt 915 (by decide +kernel) rfl, by decide +kernel, by decide +kernel⟩
theorem cvX9_setRange : Cond.instanceMethod yX9_setRange ∈ WT ∧ Cond.selects yX9_setRange.cls yX9_setRange yX9_setRange ∈ WT ∧ vwCl[7]? = some (yX9_setRange.cls, TX9, 12) := ⟨wt 913 (by decide +kernel) rfl, wt 914 (by decide +kernel) rfl, rfl⟩
theorem ceX9_events : jCe yX9_events mX9_events 1 := ⟨wt 1 (by decide +kernel) rfl, wt 929 (by decide +kernel) rfl, by decide +kernel, by decide +kernel⟩
theorem cvX9_events : Cond.instanceMethod yX9_events ∈ WT ∧ Cond.selects yX9_events.cls yX9_events yX9_events ∈ WT ∧ vwCl[7]? = some (yX9_events.cls, TX9, 12) := ⟨wt 927 (by decide +kernel) rfl, wt 928 (by decide +kernel) rfl, rfl⟩
theorem ceX9_setPitch : jCe yX9_setPitch mX9_setPitch 4 := ⟨wt 1 (by decide +kernel) rfl, wt 934 (by decide +kernel) rfl, by decide +kernel, by decide +kernel⟩
theorem cvX9_setPitch : Cond.instanceMethod yX9_setPitch ∈ WT ∧ Cond.selects yX9_setPitch.cls yX9_setPitch yX9_setPitch ∈ WT ∧ vwCl[7]? = some (yX9_setPitch.cls, TX9, 12) := ⟨wt 932 (by decide +kernel) rfl, wt 933 (by decide +kernel) rfl, rfl⟩
theorem ceX9_addNote : jCe yX9_addNote mX9_addNote 4 := ⟨wt 1 (by decide +kernel) rfl, wt 955 (by decide +kernel) rfl, by decide +kernel, by decide +kernel⟩
theorem cvX9_addNote : Cond.instanceMethod yX9_addNote ∈ WT ∧ Cond.selects yX9_addNote.cls yX9_addNote yX9_addNote ∈ WT ∧ vwCl[7]? = some (yX9_addNote.cls, TX9, 12) := ⟨wt 953 (by decide +kernel) rfl, wt 954 (by decide +kernel) rfl, rfl⟩
theorem ceX9_signs : jCe yX9_signs mX9_signs 2 := ⟨wt 1 (by decide +kernel) rfl, wt 962 (by decide +kernel) rfl, by decide +kernel, by decide +kernel⟩
theorem cvX9_signs : Cond.instanceMethod yX9_signs ∈ WT ∧ Cond.selects yX9_signs.cls yX9_signs yX9_signs ∈ WT ∧ vwCl[7]? = some (yX9_signs.cls, TX9, 12) := ⟨wt 960 (by decide +kernel) rfl, wt 961 (by decide +kernel) rfl, rfl⟩
theorem ceX9_missing : jCe yX9_missing mX9_missing 2 := ⟨wt 1 (by decide +kernel) rfl, wt 966 (by decide +kernel) rfl, by decide +kernel, by decide +kernel⟩
theorem cvX9_missing : Cond.instanceMethod yX9_missing ∈ WT ∧ Cond.selects yX9_missing.cls yX9_missing yX9_missing ∈ WT ∧ vwCl[7]? = some (yX9_missing.cls, TX9, 12) := ⟨wt 964 (by decide +kernel) rfl, wt 965 (by decide +kernel) rfl, rfl⟩
theorem ceX9_eventOf : jCe yX9_eventOf mX9_eventOf 3 := ⟨wt 1 (by decide +kernel) rfl, wt 970 (by decide +kernel) rfl, by decide +kernel, by decide +kernel⟩
theorem cvX9_eventOf : Cond.instanceMethod yX9_eventOf ∈ WT ∧ Cond.selects yX9_eventOf.cls yX9_eventOf yX9_eventOf ∈ WT ∧ vwCl[7]? = some (yX9_eventOf.cls, TX9, 12) := ⟨wt 968 (by decide +kernel) rfl, wt 969 (by decide +kernel) rfl, rfl⟩
theorem ceX9_lengthOf : jCe yX9_lengthOf mX9_lengthOf 3 := ⟨wt 1 (by decide +kernel) rfl, wt 980 (by decide +kernel) rfl, by decide +kernel, by decide +kernel⟩
theorem cvX9_lengthOf : Cond.instanceMethod yX9_lengthOf ∈ WT ∧ Cond.selects yX9_lengthOf.cls yX9_lengthOf yX9_lengthOf ∈ WT ∧ vwCl[7]? = some (yX9_lengthOf.cls, TX9, 12) := ⟨wt 978 (by decide +kernel) rfl, wt 979 (by decide +kernel) rfl, rfl⟩
theorem ceX9_heightOf : jCe yX9_heightOf mX9_heightOf 2 := ⟨wt 1 (by decide +kernel) rfl, wt 984 (by decide +kernel) rfl, by decide +kernel, by decide +kernel⟩
theorem cvX9_heightOf : Cond.instanceMethod yX9_heightOf ∈ WT ∧ Cond.selects yX9_heightOf.cls yX9_heightOf yX9_heightOf ∈ WT ∧ vwCl[7]? = some (yX9_heightOf.cls, TX9, 12) := ⟨wt 982 (by decide +kernel) rfl, wt 983 (by decide +kernel) rfl, rfl⟩
theorem ceX9_beamOf : jCe yX9_beamOf mX9_beamOf 3 := ⟨wt 1 (by decide +kernel) rfl, wt 988 (by decide +kernel) rfl, by decide +kernel, by decide +kernel⟩
theorem cvX9_beamOf : Cond.instanceMethod yX9_beamOf ∈ WT ∧ Cond.selects yX9_beamOf.cls yX9_beamOf yX9_beamOf ∈ WT ∧ vwCl[7]? = some (yX9_beamOf.cls, TX9, 12) := ⟨wt 986 (by decide +kernel) rfl, wt 987 (by decide +kernel) rfl, rfl⟩
theorem ceX9_isTied : jCe yX9_isTied mX9_isTied 3 := ⟨wt 1 (by decide +kernel) rfl, wt 992 (by decide +kernel) rfl, by decide +kernel, by decide +kernel⟩
theorem cvX9_isTied : Cond.instanceMethod yX9_isTied ∈ WT ∧ Cond.selects yX9_isTied.cls yX9_isTied yX9_isTied ∈ WT ∧ vwCl[7]? = some (yX9_isTied.cls, TX9, 12) := ⟨wt 990 (by decide +kernel) rfl, wt 991 (by decide +kernel) rfl, rfl⟩
theorem ceX9_shown : jCe yX9_shown mX9_shown 3 := ⟨wt 1 (by decide +kernel) rfl, wt 996 (by decide +kernel) rfl, by decide +kernel, by decide +kernel⟩
theorem cvX9_shown : Cond.instanceMethod yX9_shown ∈ WT ∧ Cond.selects yX9_shown.cls yX9_shown yX9_shown ∈ WT ∧ vwCl[7]? = some (yX9_shown.cls, TX9, 12) := ⟨wt 994 (by decide +kernel) rfl, wt 995 (by decide +kernel) rfl, rfl⟩
theorem ceX9_shownWritten : jCe yX9_shownWritten mX9_shownWritten 3 := ⟨wt 1 (by decide +kernel) rfl, wt 1000 (by decide +kernel) rfl, by decide +kernel, by decide +kernel⟩
theorem cvX9_shownWritten : Cond.instanceMethod yX9_shownWritten ∈ WT ∧ Cond.selects yX9_shownWritten.cls yX9_shownWritten yX9_shownWritten ∈ WT ∧ vwCl[7]? = some (yX9_shownWritten.cls, TX9, 12) := ⟨wt 998 (by decide +kernel) rfl, wt 999 (by decide +kernel) rfl, rfl⟩
theorem ceX9_writtenPlace : jCe yX9_writtenPlace mX9_writtenPlace 2 := ⟨wt 1 (by decide +kernel) rfl, wt 1004 (by decide +kernel) rfl, by decide +kernel, by decide +kernel⟩
theorem cvX9_writtenPlace : Cond.instanceMethod yX9_writtenPlace ∈ WT ∧ Cond.selects yX9_writtenPlace.cls yX9_writtenPlace yX9_writtenPlace ∈ WT ∧ vwCl[7]? = some (yX9_writtenPlace.cls, TX9, 12) := ⟨wt 1002 (by decide +kernel) rfl, wt 1003 (by decide +kernel) rfl, rfl⟩
theorem ceX9_writtenAlter : jCe yX9_writtenAlter mX9_writtenAlter 2 := ⟨wt 1 (by decide +kernel) rfl, wt 1008 (by decide +kernel) rfl, by decide +kernel, by decide +kernel⟩
theorem cvX9_writtenAlter : Cond.instanceMethod yX9_writtenAlter ∈ WT ∧ Cond.selects yX9_writtenAlter.cls yX9_writtenAlter yX9_writtenAlter ∈ WT ∧ vwCl[7]? = some (yX9_writtenAlter.cls, TX9, 12) := ⟨wt 1006 (by decide +kernel) rfl, wt 1007 (by decide +kernel) rfl, rfl⟩
theorem ceX9_lengthOfBar : jCe yX9_lengthOfBar mX9_lengthOfBar 1 := ⟨wt 1 (by decide +kernel) rfl, wt 1012 (by decide +kernel) rfl, by decide +kernel, by decide +kernel⟩
theorem cvX9_lengthOfBar : Cond.instanceMethod yX9_lengthOfBar ∈ WT ∧ Cond.selects yX9_lengthOfBar.cls yX9_lengthOfBar yX9_lengthOfBar ∈ WT ∧ vwCl[7]? = some (yX9_lengthOfBar.cls, TX9, 12) := ⟨wt 1010 (by decide +kernel) rfl, wt 1011 (by decide +kernel) rfl, rfl⟩
theorem ceX9_beams : jCe yX9_beams mX9_beams 2 := ⟨wt 1 (by decide +kernel) rfl, wt 1016 (by decide +kernel) rfl, by decide +kernel, by decide +kernel⟩
theorem cvX9_beams : Cond.instanceMethod yX9_beams ∈ WT ∧ Cond.selects yX9_beams.cls yX9_beams yX9_beams ∈ WT ∧ vwCl[7]? = some (yX9_beams.cls, TX9, 12) := ⟨wt 1014 (by decide +kernel) rfl, wt 1015 (by decide +kernel) rfl, rfl⟩
theorem ceX9_beginOfBar : jCe yX9_beginOfBar mX9_beginOfBar 1 := ⟨wt 1 (by decide +kernel) rfl, wt 1020 (by decide +kernel) rfl, by decide +kernel, by decide +kernel⟩
theorem cvX9_beginOfBar : Cond.instanceMethod yX9_beginOfBar ∈ WT ∧ Cond.selects yX9_beginOfBar.cls yX9_beginOfBar yX9_beginOfBar ∈ WT ∧ vwCl[7]? = some (yX9_beginOfBar.cls, TX9, 12) := ⟨wt 1018 (by decide +kernel) rfl, wt 1019 (by decide +kernel) rfl, rfl⟩
theorem ceX9_moments : jCe yX9_moments mX9_moments 0 := ⟨wt 1 (by decide +kernel) rfl, wt 1027 (by decide +kernel) rfl, by decide +kernel, by decide +kernel⟩
theorem cvX9_moments : Cond.instanceMethod yX9_moments ∈ WT ∧ Cond.selects yX9_moments.cls yX9_moments yX9_moments ∈ WT ∧ vwCl[7]? = some (yX9_moments.cls, TX9, 12) := ⟨wt 1025 (by decide +kernel) rfl, wt 1026 (by decide +kernel) rfl, rfl⟩
theorem ceX9_tickOf : jCe yX9_tickOf mX9_tickOf 1 := ⟨wt 1 (by decide +kernel) rfl, wt 1031 (by decide +kernel) rfl, by decide +kernel, by decide +kernel⟩
theorem cvX9_tickOf : Cond.instanceMethod yX9_tickOf ∈ WT ∧ Cond.selects yX9_tickOf.cls yX9_tickOf yX9_tickOf ∈ WT ∧ vwCl[7]? = some (yX9_tickOf.cls, TX9, 12) := ⟨wt 1029 (by decide +kernel) rfl, wt 1030 (by decide +kernel) rfl, rfl⟩
theorem ceX9_root : jCe yX9_root mX9_root 1 := ⟨wt 1 (by decide +kernel) rfl, wt 1041 (by decide +kernel) rfl, by decide +kernel, by decide +kernel⟩
theorem cvX9_root : Cond.instanceMethod yX9_root ∈ WT ∧ Cond.selects yX9_root.cls yX9_root yX9_root ∈ WT ∧ vwCl[7]? = some (yX9_root.cls, TX9, 12) := ⟨wt 1039 (by decide +kernel) rfl, wt 1040 (by decide +kernel) rfl, rfl⟩
theorem ceX9_kind : jCe yX9_kind mX9_kind 1 := ⟨wt 1 (by decide +kernel) rfl, wt 1045 (by decide +kernel) rfl, by decide +kernel, by decide +kernel⟩
theorem cvX9_kind : Cond.instanceMethod yX9_kind ∈ WT ∧ Cond.selects yX9_kind.cls yX9_kind yX9_kind ∈ WT ∧ vwCl[7]? = some (yX9_kind.cls, TX9, 12) := ⟨wt 1043 (by decide +kernel) rfl, wt 1044 (by decide +kernel) rfl, rfl⟩
theorem ceX9_inversion : jCe yX9_inversion mX9_inversion 1 := ⟨wt 1 (by decide +kernel) rfl, wt 1049 (by decide +kernel) rfl, by decide +kernel, by decide +kernel⟩
theorem cvX9_inversion : Cond.instanceMethod yX9_inversion ∈ WT ∧ Cond.selects yX9_inversion.cls yX9_inversion yX9_inversion ∈ WT ∧ vwCl[7]? = some (yX9_inversion.cls, TX9, 12) := ⟨wt 1047 (by decide +kernel) rfl, wt 1048 (by decide +kernel) rfl, rfl⟩
theorem ceX9_faults : jCe yX9_faults mX9_faults 0 := ⟨wt 1 (by decide +kernel) rfl, wt 1053 (by decide +kernel) rfl, by decide +kernel, by decide +kernel⟩
theorem cvX9_faults : Cond.instanceMethod yX9_faults ∈ WT ∧ Cond.selects yX9_faults.cls yX9_faults yX9_faults ∈ WT ∧ vwCl[7]? = some (yX9_faults.cls, TX9, 12) := ⟨wt 1051 (by decide +kernel) rfl, wt 1052 (by decide +kernel) rfl, rfl⟩
theorem ceX9_tickOfFault : jCe yX9_tickOfFault mX9_tickOfFault 1 := ⟨wt 1 (by decide +kernel) rfl, wt 1057 (by decide +kernel) rfl, by decide +kernel, by decide +kernel⟩
theorem cvX9_tickOfFault : Cond.instanceMethod yX9_tickOfFault ∈ WT ∧ Cond.selects yX9_tickOfFault.cls yX9_tickOfFault yX9_tickOfFault ∈ WT ∧ vwCl[7]? = some (yX9_tickOfFault.cls, TX9, 12) := ⟨wt 1055 (by decide +kernel) rfl, wt 1056 (by decide +kernel) rfl, rfl⟩
theorem ceX9_kindOfFault : jCe yX9_kindOfFault mX9_kindOfFault 1 := ⟨wt 1 (by decide +kernel) rfl, wt 1067 (by decide +kernel) rfl, by decide +kernel, by decide +kernel⟩
theorem cvX9_kindOfFault : Cond.instanceMethod yX9_kindOfFault ∈ WT ∧ Cond.selects yX9_kindOfFault.cls yX9_kindOfFault yX9_kindOfFault ∈ WT ∧ vwCl[7]? = some (yX9_kindOfFault.cls, TX9, 12) := ⟨wt 1065 (by decide +kernel) rfl, wt 1066 (by decide +kernel) rfl, rfl⟩
theorem ceX9_partsOfFault : jCe yX9_partsOfFault mX9_partsOfFault 1 := ⟨wt 1 (by decide +kernel) rfl, wt 1071 (by decide +kernel) rfl, by decide +kernel, by decide +kernel⟩
theorem cvX9_partsOfFault : Cond.instanceMethod yX9_partsOfFault ∈ WT ∧ Cond.selects yX9_partsOfFault.cls yX9_partsOfFault yX9_partsOfFault ∈ WT ∧ vwCl[7]? = some (yX9_partsOfFault.cls, TX9, 12) := ⟨wt 1069 (by decide +kernel) rfl, wt 1070 (by decide +kernel) rfl, rfl⟩
theorem ceX9_lineOf : jCe yX9_lineOf mX9_lineOf 2 := ⟨wt 1 (by decide +kernel) rfl, wt 1079 (by decide +kernel) rfl, by decide +kernel, by decide +kernel⟩
theorem cvX9_lineOf : Cond.instanceMethod yX9_lineOf ∈ WT ∧ Cond.selects yX9_lineOf.cls yX9_lineOf yX9_lineOf ∈ WT ∧ vwCl[7]? = some (yX9_lineOf.cls, TX9, 12) := ⟨wt 1077 (by decide +kernel) rfl, wt 1078 (by decide +kernel) rfl, rfl⟩
theorem ceX9_widthOf : jCe yX9_widthOf mX9_widthOf 1 := ⟨wt 1 (by decide +kernel) rfl, wt 1091 (by decide +kernel) rfl, by decide +kernel, by decide +kernel⟩
theorem cvX9_widthOf : Cond.instanceMethod yX9_widthOf ∈ WT ∧ Cond.selects yX9_widthOf.cls yX9_widthOf yX9_widthOf ∈ WT ∧ vwCl[7]? = some (yX9_widthOf.cls, TX9, 12) := ⟨wt 1089 (by decide +kernel) rfl, wt 1090 (by decide +kernel) rfl, rfl⟩
theorem ceX9_lines : jCe yX9_lines mX9_lines 1 := ⟨wt 1 (by decide +kernel) rfl, wt 1095 (by decide +kernel) rfl, by decide +kernel, by decide +kernel⟩
theorem cvX9_lines : Cond.instanceMethod yX9_lines ∈ WT ∧ Cond.selects yX9_lines.cls yX9_lines yX9_lines ∈ WT ∧ vwCl[7]? = some (yX9_lines.cls, TX9, 12) := ⟨wt 1093 (by decide +kernel) rfl, wt 1094 (by decide +kernel) rfl, rfl⟩
theorem ceX9_costOf : jCe yX9_costOf mX9_costOf 1 := ⟨wt 1 (by decide +kernel) rfl, wt 1099 (by decide +kernel) rfl, by decide +kernel, by decide +kernel⟩
theorem cvX9_costOf : Cond.instanceMethod yX9_costOf ∈ WT ∧ Cond.selects yX9_costOf.cls yX9_costOf yX9_costOf ∈ WT ∧ vwCl[7]? = some (yX9_costOf.cls, TX9, 12) := ⟨wt 1097 (by decide +kernel) rfl, wt 1098 (by decide +kernel) rfl, rfl⟩
theorem kX9_3 : Cond.methodLink RX9 3 objectInit ∈ WT ∧ Cond.instanceMethod objectInit ∈ WT ∧ Cond.code objectInit ⟨#[0xb1]⟩ 1 none ∈ WT := ⟨wt 25 (by decide +kernel) rfl, wt 26 (by decide +kernel) rfl, wt 27 (by decide +kernel) rfl⟩
theorem kX9_15 : jLk RX9 15 yX6_init mX6_init 0 := jLk.mk (wt 31 (by decide +kernel) rfl) ceX6_init
theorem kX9_18 : jLk RX9 18 yX0_init mX0_init 0 := jLk.mk (wt 78 (by decide +kernel) rfl) ceX0_init
theorem kX9_25 : jLk RX9 25 yX5_init mX5_init 0 := jLk.mk (wt 111 (by decide +kernel) rfl) ceX5_init
theorem kX9_32 : jLk RX9 32 yX3_init mX3_init 0 := jLk.mk (wt 152 (by decide +kernel) rfl) ceX3_init
theorem kX9_39 : jLk RX9 39 yX1_init mX1_init 0 := jLk.mk (wt 171 (by decide +kernel) rfl) ceX1_init
theorem kX9_46 : jLk RX9 46 yX2_init mX2_init 0 := jLk.mk (wt 187 (by decide +kernel) rfl) ceX2_init
theorem kX9_53 : jLk RX9 53 yX4_init mX4_init 0 := jLk.mk (wt 218 (by decide +kernel) rfl) ceX4_init
theorem kX9_75 : jLk RX9 75 yX9_partAt mX9_partAt 1 := jLk.mk (wt 445 (by decide +kernel) rfl) ceX9_partAt
theorem kX9_79 : jLk RX9 79 yX9_checkPitch mX9_checkPitch 2 := jLk.mk (wt 941 (by decide +kernel) rfl) ceX9_checkPitch
theorem kX9_83 : jLk RX9 83 yX9_checkValue mX9_checkValue 1 := jLk.mk (wt 796 (by decide +kernel) rfl) ceX9_checkValue
theorem kX9_87 : jLk RX9 87 yX9_checkRoom mX9_checkRoom 2 := jLk.mk (wt 818 (by decide +kernel) rfl) ceX9_checkRoom
theorem kX9_91 : jLk RX9 91 yX9_forgetWhatFollows mX9_forgetWhatFollows 0 := jLk.mk (wt 843 (by decide +kernel) rfl) ceX9_forgetWhatFollows
theorem kX9_94 : jLk RX9 94 yX6_append mX6_append 3 := jLk.mk (wt 847 (by decide +kernel) rfl) ceX6_append
theorem kX9_98 : jLk RX9 98 yX6_size mX6_size 0 := jLk.mk (wt 409 (by decide +kernel) rfl) ceX6_size
theorem kX9_109 : jLk RX9 109 yX6_removeLast mX6_removeLast 0 := jLk.mk (wt 876 (by decide +kernel) rfl) ceX6_removeLast
theorem kX9_112 : jLk RX9 112 yX9_partWith mX9_partWith 2 := jLk.mk (wt 935 (by decide +kernel) rfl) ceX9_partWith
theorem kX9_116 : jLk RX9 116 yX9_checkNote mX9_checkNote 2 := jLk.mk (wt 946 (by decide +kernel) rfl) ceX9_checkNote
theorem kX9_119 : jLk RX9 119 yX6_heightAt mX6_heightAt 1 := jLk.mk (wt 418 (by decide +kernel) rfl) ceX6_heightAt
theorem kX9_123 : jLk RX9 123 yX6_givePitch mX6_givePitch 3 := jLk.mk (wt 951 (by decide +kernel) rfl) ceX6_givePitch
theorem kX9_127 : jLk RX9 127 yX9_checkBar mX9_checkBar 1 := jLk.mk (wt 517 (by decide +kernel) rfl) ceX9_checkBar
theorem kX9_135 : jLk RX9 135 yX0_changeMetre mX0_changeMetre 3 := jLk.mk (wt 885 (by decide +kernel) rfl) ceX0_changeMetre
theorem kX9_138 : jLk RX9 138 yX0_lengthAt mX0_lengthAt 1 := jLk.mk (wt 436 (by decide +kernel) rfl) ceX0_lengthAt
theorem kX9_141 : jLk RX9 141 yX9_checkKey mX9_checkKey 1 := jLk.mk (wt 890 (by decide +kernel) rfl) ceX9_checkKey
theorem kX9_144 : jLk RX9 144 yX0_keyAt mX0_keyAt 1 := jLk.mk (wt 629 (by decide +kernel) rfl) ceX0_keyAt
theorem kX9_147 : jLk RX9 147 yX0_changeKey mX0_changeKey 2 := jLk.mk (wt 894 (by decide +kernel) rfl) ceX0_changeKey
theorem kX9_152 : jLk RX9 152 yX6_changeRange mX6_changeRange 2 := jLk.mk (wt 917 (by decide +kernel) rfl) ceX6_changeRange
theorem kX9_155 : jLk RX9 155 yX6_notesOutOfRange mX6_notesOutOfRange 0 := jLk.mk (wt 921 (by decide +kernel) rfl) ceX6_notesOutOfRange
theorem kX9_160 : jLk RX9 160 yX6_changeShift mX6_changeShift 2 := jLk.mk (wt 903 (by decide +kernel) rfl) ceX6_changeShift
theorem kX9_163 : jLk RX9 163 yX6_notesWithoutWrittenPitch mX6_notesWithoutWrittenPitch 0 := jLk.mk (wt 907 (by decide +kernel) rfl) ceX6_notesWithoutWrittenPitch
theorem kX9_166 : jLk RX9 166 yX6_beginAt mX6_beginAt 1 := jLk.mk (wt 417 (by decide +kernel) rfl) ceX6_beginAt
theorem kX9_169 : jLk RX9 169 yX0_barAt mX0_barAt 1 := jLk.mk (wt 419 (by decide +kernel) rfl) ceX0_barAt
theorem kX9_172 : jLk RX9 172 yX6_writtenPlaceAt mX6_writtenPlaceAt 1 := jLk.mk (wt 423 (by decide +kernel) rfl) ceX6_writtenPlaceAt
theorem kX9_175 : jLk RX9 175 yX6_writtenAlterAt mX6_writtenAlterAt 1 := jLk.mk (wt 427 (by decide +kernel) rfl) ceX6_writtenAlterAt
theorem kX9_186 : jLk RX9 186 yX6_keyAsWritten mX6_keyAsWritten 1 := jLk.mk (wt 630 (by decide +kernel) rfl) ceX6_keyAsWritten
theorem kX9_189 : jLk RX9 189 yX0_beginAt mX0_beginAt 1 := jLk.mk (wt 435 (by decide +kernel) rfl) ceX0_beginAt
theorem kX9_190 : jLk RX9 190 yX9_measureAt mX9_measureAt 2 := jLk.mk (wt 441 (by decide +kernel) rfl) ceX9_measureAt
theorem kX9_194 : jLk RX9 194 yX5_size mX5_size 0 := jLk.mk (wt 610 (by decide +kernel) rfl) ceX5_size
theorem kX9_195 : jLk RX9 195 yX9_measureWith mX9_measureWith 3 := jLk.mk (wt 971 (by decide +kernel) rfl) ceX9_measureWith
theorem kX9_199 : jLk RX9 199 yX5_eventAt mX5_eventAt 1 := jLk.mk (wt 635 (by decide +kernel) rfl) ceX5_eventAt
theorem kX9_202 : jLk RX9 202 yX5_lengthAt mX5_lengthAt 1 := jLk.mk (wt 639 (by decide +kernel) rfl) ceX5_lengthAt
theorem kX9_203 : jLk RX9 203 yX5_tiedAt mX5_tiedAt 1 := jLk.mk (wt 643 (by decide +kernel) rfl) ceX5_tiedAt
theorem kX9_207 : jLk RX9 207 yX5_shownAt mX5_shownAt 1 := jLk.mk (wt 647 (by decide +kernel) rfl) ceX5_shownAt
theorem kX9_210 : jLk RX9 210 yX5_shownAsWrittenAt mX5_shownAsWrittenAt 1 := jLk.mk (wt 651 (by decide +kernel) rfl) ceX5_shownAsWrittenAt
theorem kX9_213 : jLk RX9 213 yX5_beamTotal mX5_beamTotal 0 := jLk.mk (wt 614 (by decide +kernel) rfl) ceX5_beamTotal
theorem kX9_216 : jLk RX9 216 yX5_beamAt mX5_beamAt 1 := jLk.mk (wt 655 (by decide +kernel) rfl) ceX5_beamAt
theorem kX9_219 : jLk RX9 219 yX6_end mX6_end 0 := jLk.mk (wt 618 (by decide +kernel) rfl) ceX6_end
theorem kX9_222 : jLk RX9 222 yX0_ticksBehind mX0_ticksBehind 2 := jLk.mk (wt 622 (by decide +kernel) rfl) ceX0_ticksBehind
theorem kX9_225 : jLk RX9 225 yX9_hear mX9_hear 0 := jLk.mk (wt 283 (by decide +kernel) rfl) ceX9_hear
theorem kX9_228 : jLk RX9 228 yX3_size mX3_size 0 := jLk.mk (wt 663 (by decide +kernel) rfl) ceX3_size
theorem kX9_229 : jLk RX9 229 yX9_checkMoment mX9_checkMoment 1 := jLk.mk (wt 1032 (by decide +kernel) rfl) ceX9_checkMoment
theorem kX9_232 : jLk RX9 232 yX3_tickAt mX3_tickAt 1 := jLk.mk (wt 664 (by decide +kernel) rfl) ceX3_tickAt
theorem kX9_235 : jLk RX9 235 yX3_eventAt mX3_eventAt 2 := jLk.mk (wt 665 (by decide +kernel) rfl) ceX3_eventAt
theorem kX9_237 : jLk RX9 237 yX9_chordAt mX9_chordAt 1 := jLk.mk (wt 666 (by decide +kernel) rfl) ceX9_chordAt
theorem kX9_241 : jLk RX9 241 yX1_rootClass mX1_rootClass 0 := jLk.mk (wt 699 (by decide +kernel) rfl) ceX1_rootClass
theorem kX9_244 : jLk RX9 244 yX1_kindNumber mX1_kindNumber 0 := jLk.mk (wt 703 (by decide +kernel) rfl) ceX1_kindNumber
theorem kX9_247 : jLk RX9 247 yX1_lowestTone mX1_lowestTone 0 := jLk.mk (wt 707 (by decide +kernel) rfl) ceX1_lowestTone
theorem kX9_250 : jLk RX9 250 yX9_searchFaults mX9_searchFaults 0 := jLk.mk (wt 349 (by decide +kernel) rfl) ceX9_searchFaults
theorem kX9_253 : jLk RX9 253 yX2_size mX2_size 0 := jLk.mk (wt 715 (by decide +kernel) rfl) ceX2_size
theorem kX9_254 : jLk RX9 254 yX9_checkFault mX9_checkFault 1 := jLk.mk (wt 1058 (by decide +kernel) rfl) ceX9_checkFault
theorem kX9_257 : jLk RX9 257 yX2_kindAt mX2_kindAt 1 := jLk.mk (wt 719 (by decide +kernel) rfl) ceX2_kindAt
theorem kX9_260 : jLk RX9 260 yX2_tickAt mX2_tickAt 1 := jLk.mk (wt 727 (by decide +kernel) rfl) ceX2_tickAt
theorem kX9_261 : jLk RX9 261 yX2_partsAt mX2_partsAt 1 := jLk.mk (wt 731 (by decide +kernel) rfl) ceX2_partsAt
theorem kX9_270 : jLk RX9 270 yX2_search mX2_search 2 := jLk.mk (wt 353 (by decide +kernel) rfl) ceX2_search
theorem kX9_274 : jLk RX9 274 yX9_lastEnd mX9_lastEnd 0 := jLk.mk (wt 739 (by decide +kernel) rfl) ceX9_lastEnd
theorem kX9_277 : jLk RX9 277 yX0_barsUpTo mX0_barsUpTo 1 := jLk.mk (wt 744 (by decide +kernel) rfl) ceX0_barsUpTo
theorem kX9_280 : jLk RX9 280 yX9_measureWidths mX9_measureWidths 0 := jLk.mk (wt 279 (by decide +kernel) rfl) ceX9_measureWidths
theorem kX9_283 : jLk RX9 283 yX4_widthAt mX4_widthAt 1 := jLk.mk (wt 437 (by decide +kernel) rfl) ceX4_widthAt
theorem kX9_286 : jLk RX9 286 yX9_checkWidth mX9_checkWidth 1 := jLk.mk (wt 1080 (by decide +kernel) rfl) ceX9_checkWidth
theorem kX9_289 : jLk RX9 289 yX9_breakLines mX9_breakLines 1 := jLk.mk (wt 753 (by decide +kernel) rfl) ceX9_breakLines
theorem kX9_292 : jLk RX9 292 yX4_size mX4_size 0 := jLk.mk (wt 771 (by decide +kernel) rfl) ceX4_size
theorem kX9_293 : jLk RX9 293 yX4_lineAt mX4_lineAt 1 := jLk.mk (wt 1084 (by decide +kernel) rfl) ceX4_lineAt
theorem kX9_296 : jLk RX9 296 yX4_leastCost mX4_leastCost 0 := jLk.mk (wt 775 (by decide +kernel) rfl) ceX4_leastCost
theorem kX9_307 : jLk RX9 307 yX9_mixPart mX9_mixPart 2 := jLk.mk (wt 405 (by decide +kernel) rfl) ceX9_mixPart
theorem kX9_311 : jLk RX9 311 yX9_mixBar mX9_mixBar 2 := jLk.mk (wt 431 (by decide +kernel) rfl) ceX9_mixBar
theorem kX9_315 : jLk RX9 315 yX9_mixMoments mX9_mixMoments 1 := jLk.mk (wt 659 (by decide +kernel) rfl) ceX9_mixMoments
theorem kX9_319 : jLk RX9 319 yX9_mixFaults mX9_mixFaults 1 := jLk.mk (wt 711 (by decide +kernel) rfl) ceX9_mixFaults
theorem kX9_322 : jLk RX9 322 yX9_bars mX9_bars 0 := jLk.mk (wt 735 (by decide +kernel) rfl) ceX9_bars
theorem kX9_325 : jLk RX9 325 yX9_mix mX9_mix 2 := jLk.mk (wt 413 (by decide +kernel) rfl) ceX9_mix
theorem kX9_329 : jLk RX9 329 yX9_mixLines mX9_mixLines 2 := jLk.mk (wt 749 (by decide +kernel) rfl) ceX9_mixLines
theorem kX9_334 : jLk RX9 334 yX9_mixSigns mX9_mixSigns 2 := jLk.mk (wt 631 (by decide +kernel) rfl) ceX9_mixSigns
theorem kX9_338 : jLk RX9 338 yX3_listen mX3_listen 1 := jLk.mk (wt 287 (by decide +kernel) rfl) ceX3_listen
theorem kX9_342 : jLk RX9 342 yX4_measureWidths mX4_measureWidths 2 := jLk.mk (wt 318 (by decide +kernel) rfl) ceX4_measureWidths
theorem kX9_345 : jLk RX9 345 yX4_breakUp mX4_breakUp 2 := jLk.mk (wt 757 (by decide +kernel) rfl) ceX4_breakUp
theorem kX9_348 : Cond.methodLink RX9 348 Lib.Math.max.name ∈ WT ∧ Cond.static Lib.Math.max.name ∈ WT ∧ Cond.initialized "java/lang/Math" ∈ WT ∧ Cond.code Lib.Math.max.name Lib.Math.max.code 2 (some .int) ∈ WT := ⟨wt 743 (by decide +kernel) rfl, wt 537 (by decide +kernel) rfl, wt 17 (by decide +kernel) rfl, wt 538 (by decide +kernel) rfl⟩
theorem kX9_358 : jLk RX9 358 yX6_has mX6_has 1 := jLk.mk (wt 939 (by decide +kernel) rfl) ceX6_has
theorem kX9_363 : jLk RX9 363 yX5_write mX5_write 3 := jLk.mk (wt 521 (by decide +kernel) rfl) ceX5_write
theorem kX9_367 : jLk RX9 367 yX5_has mX5_has 1 := jLk.mk (wt 975 (by decide +kernel) rfl) ceX5_has
theorem kX9_370 : jLk RX9 370 yX1_tell mX1_tell 3 := jLk.mk (wt 670 (by decide +kernel) rfl) ceX1_tell
theorem kX9_374 : jLk RX9 374 yX3_has mX3_has 1 := jLk.mk (wt 1036 (by decide +kernel) rfl) ceX3_has
theorem kX9_377 : jLk RX9 377 yX2_has mX2_has 1 := jLk.mk (wt 1062 (by decide +kernel) rfl) ceX2_has
theorem kX9_380 : jLk RX9 380 yX9_allEvents mX9_allEvents 0 := jLk.mk (wt 822 (by decide +kernel) rfl) ceX9_allEvents
theorem kX9_383 : jLk RX9 383 yX0_end mX0_end 0 := jLk.mk (wt 826 (by decide +kernel) rfl) ceX0_end
theorem kX9_386 : jLk RX9 386 yX6_isNote mX6_isNote 1 := jLk.mk (wt 949 (by decide +kernel) rfl) ceX6_isNote
theorem kX9_393 : jLk RX9 393 yX7_isPitch mX7_isPitch 2 := jLk.mk (wt 944 (by decide +kernel) rfl) ceX7_isPitch
theorem kX9_399 : jLk RX9 399 yX8_isValue mX8_isValue 1 := jLk.mk (wt 799 (by decide +kernel) rfl) ceX8_isValue
theorem kX0_3 : Cond.methodLink RX0 3 objectInit ∈ WT ∧ Cond.instanceMethod objectInit ∈ WT ∧ Cond.code objectInit ⟨#[0xb1]⟩ 1 none ∈ WT := ⟨wt 81 (by decide +kernel) rfl, wt 26 (by decide +kernel) rfl, wt 27 (by decide +kernel) rfl⟩
theorem kX0_24 : jLk RX0 24 yX0_changeMetre mX0_changeMetre 3 := jLk.mk (wt 82 (by decide +kernel) rfl) ceX0_changeMetre
theorem kX0_28 : jLk RX0 28 yX0_isBar mX0_isBar 1 := jLk.mk (wt 86 (by decide +kernel) rfl) ceX0_isBar
theorem kX0_32 : jLk RX0 32 yX0_beginAt mX0_beginAt 1 := jLk.mk (wt 89 (by decide +kernel) rfl) ceX0_beginAt
theorem kX0_40 : jLk RX0 40 yX0_barAt mX0_barAt 1 := jLk.mk (wt 748 (by decide +kernel) rfl) ceX0_barAt
theorem kX0_43 : jLk RX0 43 yX0_lengthAt mX0_lengthAt 1 := jLk.mk (wt 626 (by decide +kernel) rfl) ceX0_lengthAt
theorem kX0_46 : Cond.methodLink RX0 46 Lib.Math.min.name ∈ WT ∧ Cond.static Lib.Math.min.name ∈ WT ∧ Cond.initialized "java/lang/Math" ∈ WT ∧ Cond.code Lib.Math.min.name Lib.Math.min.code 2 (some .int) ∈ WT := ⟨wt 627 (by decide +kernel) rfl, wt 308 (by decide +kernel) rfl, wt 17 (by decide +kernel) rfl, wt 309 (by decide +kernel) rfl⟩
theorem kX0_52 : Cond.methodLink RX0 52 Lib.Math.max.name ∈ WT ∧ Cond.static Lib.Math.max.name ∈ WT ∧ Cond.initialized "java/lang/Math" ∈ WT ∧ Cond.code Lib.Math.max.name Lib.Math.max.code 2 (some .int) ∈ WT := ⟨wt 628 (by decide +kernel) rfl, wt 537 (by decide +kernel) rfl, wt 17 (by decide +kernel) rfl, wt 538 (by decide +kernel) rfl⟩
theorem kX1_3 : Cond.methodLink RX1 3 objectInit ∈ WT ∧ Cond.instanceMethod objectInit ∈ WT ∧ Cond.code objectInit ⟨#[0xb1]⟩ 1 none ∈ WT := ⟨wt 174 (by decide +kernel) rfl, wt 26 (by decide +kernel) rfl, wt 27 (by decide +kernel) rfl⟩
theorem kX1_21 : jLk RX1 21 yX3_eventAt mX3_eventAt 2 := jLk.mk (wt 674 (by decide +kernel) rfl) ceX3_eventAt
theorem kX1_27 : jLk RX1 27 yX6_heightAt mX6_heightAt 1 := jLk.mk (wt 675 (by decide +kernel) rfl) ceX6_heightAt
theorem kX1_33 : Cond.methodLink RX1 33 Lib.Math.min.name ∈ WT ∧ Cond.static Lib.Math.min.name ∈ WT ∧ Cond.initialized "java/lang/Math" ∈ WT ∧ Cond.code Lib.Math.min.name Lib.Math.min.code 2 (some .int) ∈ WT := ⟨wt 676 (by decide +kernel) rfl, wt 308 (by decide +kernel) rfl, wt 17 (by decide +kernel) rfl, wt 309 (by decide +kernel) rfl⟩
theorem kX1_38 : jLk RX1 38 yX1_forget mX1_forget 0 := jLk.mk (wt 677 (by decide +kernel) rfl) ceX1_forget
theorem kX1_41 : jLk RX1 41 yJ6_bitCount_0f7a4 mJ6_bitCount_0f7a4 1 := jLk.mk (wt 681 (by decide +kernel) rfl) ceJ6_bitCount_0f7a4
theorem kX1_46 : jLk RX1 46 yX1_findRoot mX1_findRoot 2 := jLk.mk (wt 687 (by decide +kernel) rfl) ceX1_findRoot
theorem kX1_50 : jLk RX1 50 yX1_findKind mX1_findKind 3 := jLk.mk (wt 691 (by decide +kernel) rfl) ceX1_findKind
theorem kX2_3 : Cond.methodLink RX2 3 objectInit ∈ WT ∧ Cond.instanceMethod objectInit ∈ WT ∧ Cond.code objectInit ⟨#[0xb1]⟩ 1 none ∈ WT := ⟨wt 190 (by decide +kernel) rfl, wt 26 (by decide +kernel) rfl, wt 27 (by decide +kernel) rfl⟩
theorem kX2_38 : jLk RX2 38 yX2_has mX2_has 1 := jLk.mk (wt 723 (by decide +kernel) rfl) ceX2_has
theorem kX2_42 : jLk RX2 42 yJ7_fill_53178 mJ7_fill_53178 2 := jLk.mk (wt 357 (by decide +kernel) rfl) ceJ7_fill_53178
theorem kX2_48 : jLk RX2 48 yX3_size mX3_size 0 := jLk.mk (wt 358 (by decide +kernel) rfl) ceX3_size
theorem kX2_54 : jLk RX2 54 yX3_tickAt mX3_tickAt 1 := jLk.mk (wt 359 (by decide +kernel) rfl) ceX3_tickAt
theorem kX2_58 : jLk RX2 58 yX2_goOn mX2_goOn 3 := jLk.mk (wt 360 (by decide +kernel) rfl) ceX2_goOn
theorem kX2_62 : jLk RX2 62 yX2_searchParallels mX2_searchParallels 1 := jLk.mk (wt 380 (by decide +kernel) rfl) ceX2_searchParallels
theorem kX2_66 : jLk RX2 66 yX2_searchCrossings mX2_searchCrossings 1 := jLk.mk (wt 391 (by decide +kernel) rfl) ceX2_searchCrossings
theorem kX2_69 : jLk RX2 69 yX3_eventAt mX3_eventAt 2 := jLk.mk (wt 364 (by decide +kernel) rfl) ceX3_eventAt
theorem kX2_73 : jLk RX2 73 yX2_searchNote mX2_searchNote 3 := jLk.mk (wt 395 (by decide +kernel) rfl) ceX2_searchNote
theorem kX2_77 : jLk RX2 77 yX6_heightAt mX6_heightAt 1 := jLk.mk (wt 368 (by decide +kernel) rfl) ceX6_heightAt
theorem kX2_82 : jLk RX2 82 yX6_isNote mX6_isNote 1 := jLk.mk (wt 372 (by decide +kernel) rfl) ceX6_isNote
theorem kX2_85 : jLk RX2 85 yX6_beginAt mX6_beginAt 1 := jLk.mk (wt 376 (by decide +kernel) rfl) ceX6_beginAt
theorem kX2_88 : jLk RX2 88 yJ6_compare_7cf53 mJ6_compare_7cf53 2 := jLk.mk (wt 377 (by decide +kernel) rfl) ceJ6_compare_7cf53
theorem kX2_93 : jLk RX2 93 yJ9_floorMod_7cf53 mJ9_floorMod_7cf53 2 := jLk.mk (wt 384 (by decide +kernel) rfl) ceJ9_floorMod_7cf53
theorem kX2_98 : jLk RX2 98 yX2_add mX2_add 3 := jLk.mk (wt 387 (by decide +kernel) rfl) ceX2_add
theorem kX2_102 : Cond.methodLink RX2 102 Lib.Math.abs.name ∈ WT ∧ Cond.static Lib.Math.abs.name ∈ WT ∧ Cond.initialized "java/lang/Math" ∈ WT ∧ Cond.code Lib.Math.abs.name Lib.Math.abs.code 1 (some .int) ∈ WT := ⟨wt 399 (by decide +kernel) rfl, wt 332 (by decide +kernel) rfl, wt 17 (by decide +kernel) rfl, wt 333 (by decide +kernel) rfl⟩
theorem kX2_105 : jLk RX2 105 yX6_isOutOfRange mX6_isOutOfRange 1 := jLk.mk (wt 400 (by decide +kernel) rfl) ceX6_isOutOfRange
theorem kX3_3 : Cond.methodLink RX3 3 objectInit ∈ WT ∧ Cond.instanceMethod objectInit ∈ WT ∧ Cond.code objectInit ⟨#[0xb1]⟩ 1 none ∈ WT := ⟨wt 155 (by decide +kernel) rfl, wt 26 (by decide +kernel) rfl, wt 27 (by decide +kernel) rfl⟩
theorem kX3_25 : jLk RX3 25 yX3_has mX3_has 1 := jLk.mk (wt 342 (by decide +kernel) rfl) ceX3_has
theorem kX3_29 : jLk RX3 29 yJ7_fill_53178 mJ7_fill_53178 2 := jLk.mk (wt 291 (by decide +kernel) rfl) ceJ7_fill_53178
theorem kX3_35 : jLk RX3 35 yX3_nextBegin mX3_nextBegin 1 := jLk.mk (wt 294 (by decide +kernel) rfl) ceX3_nextBegin
theorem kX3_39 : jLk RX3 39 yX3_eventGoingOn mX3_eventGoingOn 3 := jLk.mk (wt 310 (by decide +kernel) rfl) ceX3_eventGoingOn
theorem kX3_43 : jLk RX3 43 yX6_has mX6_has 1 := jLk.mk (wt 298 (by decide +kernel) rfl) ceX6_has
theorem kX3_46 : jLk RX3 46 yX6_beginAt mX6_beginAt 1 := jLk.mk (wt 302 (by decide +kernel) rfl) ceX6_beginAt
theorem kX3_50 : Cond.methodLink RX3 50 Lib.Math.min.name ∈ WT ∧ Cond.static Lib.Math.min.name ∈ WT ∧ Cond.initialized "java/lang/Math" ∈ WT ∧ Cond.code Lib.Math.min.name Lib.Math.min.code 2 (some .int) ∈ WT := ⟨wt 307 (by decide +kernel) rfl, wt 308 (by decide +kernel) rfl, wt 17 (by decide +kernel) rfl, wt 309 (by decide +kernel) rfl⟩
theorem kX3_56 : jLk RX3 56 yX6_endAt mX6_endAt 1 := jLk.mk (wt 314 (by decide +kernel) rfl) ceX6_endAt
theorem kX4_3 : Cond.methodLink RX4 3 objectInit ∈ WT ∧ Cond.instanceMethod objectInit ∈ WT ∧ Cond.code objectInit ⟨#[0xb1]⟩ 1 none ∈ WT := ⟨wt 221 (by decide +kernel) rfl, wt 26 (by decide +kernel) rfl, wt 27 (by decide +kernel) rfl⟩
theorem kX4_28 : jLk RX4 28 yX0_beginAt mX0_beginAt 1 := jLk.mk (wt 322 (by decide +kernel) rfl) ceX0_beginAt
theorem kX4_34 : jLk RX4 34 yX0_lengthAt mX0_lengthAt 1 := jLk.mk (wt 323 (by decide +kernel) rfl) ceX0_lengthAt
theorem kX4_37 : jLk RX4 37 yX0_keyAt mX0_keyAt 1 := jLk.mk (wt 327 (by decide +kernel) rfl) ceX0_keyAt
theorem kX4_40 : Cond.methodLink RX4 40 Lib.Math.abs.name ∈ WT ∧ Cond.static Lib.Math.abs.name ∈ WT ∧ Cond.initialized "java/lang/Math" ∈ WT ∧ Cond.code Lib.Math.abs.name Lib.Math.abs.code 1 (some .int) ∈ WT := ⟨wt 331 (by decide +kernel) rfl, wt 332 (by decide +kernel) rfl, wt 17 (by decide +kernel) rfl, wt 333 (by decide +kernel) rfl⟩
theorem kX4_45 : jLk RX4 45 yX3_size mX3_size 0 := jLk.mk (wt 334 (by decide +kernel) rfl) ceX3_size
theorem kX4_51 : jLk RX4 51 yX3_tickAt mX3_tickAt 1 := jLk.mk (wt 338 (by decide +kernel) rfl) ceX3_tickAt
theorem kX4_54 : jLk RX4 54 yX4_widthOfGap mX4_widthOfGap 1 := jLk.mk (wt 346 (by decide +kernel) rfl) ceX4_widthOfGap
theorem kX4_57 : Cond.methodLink RX4 57 Lib.Math.min.name ∈ WT ∧ Cond.static Lib.Math.min.name ∈ WT ∧ Cond.initialized "java/lang/Math" ∈ WT ∧ Cond.code Lib.Math.min.name Lib.Math.min.code 2 (some .int) ∈ WT := ⟨wt 761 (by decide +kernel) rfl, wt 308 (by decide +kernel) rfl, wt 17 (by decide +kernel) rfl, wt 309 (by decide +kernel) rfl⟩
theorem kX4_61 : Cond.methodLink RX4 61 Lib.Math.max.name ∈ WT ∧ Cond.static Lib.Math.max.name ∈ WT ∧ Cond.initialized "java/lang/Math" ∈ WT ∧ Cond.code Lib.Math.max.name Lib.Math.max.code 2 (some .int) ∈ WT := ⟨wt 762 (by decide +kernel) rfl, wt 537 (by decide +kernel) rfl, wt 17 (by decide +kernel) rfl, wt 538 (by decide +kernel) rfl⟩
theorem kX4_64 : jLk RX4 64 yX4_chooseLine mX4_chooseLine 3 := jLk.mk (wt 763 (by decide +kernel) rfl) ceX4_chooseLine
theorem kX4_68 : jLk RX4 68 yX4_numberLines mX4_numberLines 1 := jLk.mk (wt 767 (by decide +kernel) rfl) ceX4_numberLines
theorem kX5_3 : Cond.methodLink RX5 3 objectInit ∈ WT ∧ Cond.instanceMethod objectInit ∈ WT ∧ Cond.code objectInit ⟨#[0xb1]⟩ 1 none ∈ WT := ⟨wt 114 (by decide +kernel) rfl, wt 26 (by decide +kernel) rfl, wt 27 (by decide +kernel) rfl⟩
theorem kX5_47 : jLk RX5 47 yX5_has mX5_has 1 := jLk.mk (wt 573 (by decide +kernel) rfl) ceX5_has
theorem kX5_51 : jLk RX5 51 yX0_beginAt mX0_beginAt 1 := jLk.mk (wt 525 (by decide +kernel) rfl) ceX0_beginAt
theorem kX5_57 : jLk RX5 57 yX0_lengthAt mX0_lengthAt 1 := jLk.mk (wt 526 (by decide +kernel) rfl) ceX0_lengthAt
theorem kX5_60 : jLk RX5 60 yX6_firstEndingBehind mX6_firstEndingBehind 1 := jLk.mk (wt 527 (by decide +kernel) rfl) ceX6_firstEndingBehind
theorem kX5_65 : jLk RX5 65 yX6_size mX6_size 0 := jLk.mk (wt 532 (by decide +kernel) rfl) ceX6_size
theorem kX5_69 : jLk RX5 69 yX6_beginAt mX6_beginAt 1 := jLk.mk (wt 533 (by decide +kernel) rfl) ceX6_beginAt
theorem kX5_70 : jLk RX5 70 yX6_endAt mX6_endAt 1 := jLk.mk (wt 534 (by decide +kernel) rfl) ceX6_endAt
theorem kX5_73 : Cond.methodLink RX5 73 Lib.Math.min.name ∈ WT ∧ Cond.static Lib.Math.min.name ∈ WT ∧ Cond.initialized "java/lang/Math" ∈ WT ∧ Cond.code Lib.Math.min.name Lib.Math.min.code 2 (some .int) ∈ WT := ⟨wt 535 (by decide +kernel) rfl, wt 308 (by decide +kernel) rfl, wt 17 (by decide +kernel) rfl, wt 309 (by decide +kernel) rfl⟩
theorem kX5_79 : Cond.methodLink RX5 79 Lib.Math.max.name ∈ WT ∧ Cond.static Lib.Math.max.name ∈ WT ∧ Cond.initialized "java/lang/Math" ∈ WT ∧ Cond.code Lib.Math.max.name Lib.Math.max.code 2 (some .int) ∈ WT := ⟨wt 536 (by decide +kernel) rfl, wt 537 (by decide +kernel) rfl, wt 17 (by decide +kernel) rfl, wt 538 (by decide +kernel) rfl⟩
theorem kX5_82 : jLk RX5 82 yX5_writeStretch mX5_writeStretch 3 := jLk.mk (wt 539 (by decide +kernel) rfl) ceX5_writeStretch
theorem kX5_86 : jLk RX5 86 yX0_end mX0_end 0 := jLk.mk (wt 552 (by decide +kernel) rfl) ceX0_end
theorem kX5_89 : jLk RX5 89 yX5_markSigns mX5_markSigns 2 := jLk.mk (wt 556 (by decide +kernel) rfl) ceX5_markSigns
theorem kX5_93 : jLk RX5 93 yX0_groupLengthAt mX0_groupLengthAt 1 := jLk.mk (wt 561 (by decide +kernel) rfl) ceX0_groupLengthAt
theorem kX5_96 : jLk RX5 96 yX5_beamSigns mX5_beamSigns 3 := jLk.mk (wt 565 (by decide +kernel) rfl) ceX5_beamSigns
theorem kX5_100 : jLk RX5 100 yX0_keyAt mX0_keyAt 1 := jLk.mk (wt 577 (by decide +kernel) rfl) ceX0_keyAt
theorem kX5_103 : jLk RX5 103 yX5_showAlters mX5_showAlters 2 := jLk.mk (wt 578 (by decide +kernel) rfl) ceX5_showAlters
theorem kX5_106 : jLk RX5 106 yX6_keyAsWritten mX6_keyAsWritten 1 := jLk.mk (wt 600 (by decide +kernel) rfl) ceX6_keyAsWritten
theorem kX5_109 : jLk RX5 109 yX5_showAltersAsWritten mX5_showAltersAsWritten 2 := jLk.mk (wt 604 (by decide +kernel) rfl) ceX5_showAltersAsWritten
theorem kX5_112 : jLk RX5 112 yX8_greatestIn mX8_greatestIn 1 := jLk.mk (wt 543 (by decide +kernel) rfl) ceX8_greatestIn
theorem kX5_117 : jLk RX5 117 yX5_addSign mX5_addSign 3 := jLk.mk (wt 548 (by decide +kernel) rfl) ceX5_addSign
theorem kX5_120 : jLk RX5 120 yX6_isNote mX6_isNote 1 := jLk.mk (wt 560 (by decide +kernel) rfl) ceX6_isNote
theorem kX5_123 : jLk RX5 123 yX5_joinToSignAhead mX5_joinToSignAhead 1 := jLk.mk (wt 569 (by decide +kernel) rfl) ceX5_joinToSignAhead
theorem kX5_127 : jLk RX5 127 yJ7_fill_53178 mJ7_fill_53178 2 := jLk.mk (wt 582 (by decide +kernel) rfl) ceJ7_fill_53178
theorem kX5_133 : jLk RX5 133 yX6_placeAt mX6_placeAt 1 := jLk.mk (wt 583 (by decide +kernel) rfl) ceX6_placeAt
theorem kX5_136 : jLk RX5 136 yX6_alterAt mX6_alterAt 1 := jLk.mk (wt 587 (by decide +kernel) rfl) ceX6_alterAt
theorem kX5_139 : jLk RX5 139 yX5_alterToShow mX5_alterToShow 3 := jLk.mk (wt 591 (by decide +kernel) rfl) ceX5_alterToShow
theorem kX5_143 : jLk RX5 143 yX6_writtenPlaceAt mX6_writtenPlaceAt 1 := jLk.mk (wt 608 (by decide +kernel) rfl) ceX6_writtenPlaceAt
theorem kX5_146 : jLk RX5 146 yX6_writtenAlterAt mX6_writtenAlterAt 1 := jLk.mk (wt 609 (by decide +kernel) rfl) ceX6_writtenAlterAt
theorem kX5_149 : jLk RX5 149 yX7_alterByKey mX7_alterByKey 2 := jLk.mk (wt 595 (by decide +kernel) rfl) ceX7_alterByKey
theorem kX6_3 : Cond.methodLink RX6 3 objectInit ∈ WT ∧ Cond.instanceMethod objectInit ∈ WT ∧ Cond.code objectInit ⟨#[0xb1]⟩ 1 none ∈ WT := ⟨wt 34 (by decide +kernel) rfl, wt 26 (by decide +kernel) rfl, wt 27 (by decide +kernel) rfl⟩
theorem kX6_46 : jLk RX6 46 yX6_givePitch mX6_givePitch 3 := jLk.mk (wt 851 (by decide +kernel) rfl) ceX6_givePitch
theorem kX6_50 : jLk RX6 50 yX6_has mX6_has 1 := jLk.mk (wt 306 (by decide +kernel) rfl) ceX6_has
theorem kX6_54 : jLk RX6 54 yX7_plainHeight mX7_plainHeight 1 := jLk.mk (wt 855 (by decide +kernel) rfl) ceX7_plainHeight
theorem kX6_60 : jLk RX6 60 yX6_writeForInstrument mX6_writeForInstrument 1 := jLk.mk (wt 864 (by decide +kernel) rfl) ceX6_writeForInstrument
theorem kX6_70 : jLk RX6 70 yX7_isPitch mX7_isPitch 2 := jLk.mk (wt 868 (by decide +kernel) rfl) ceX7_isPitch
theorem kX6_74 : jLk RX6 74 yX6_endAt mX6_endAt 1 := jLk.mk (wt 531 (by decide +kernel) rfl) ceX6_endAt
theorem kX6_77 : jLk RX6 77 yX6_isNote mX6_isNote 1 := jLk.mk (wt 911 (by decide +kernel) rfl) ceX6_isNote
theorem kX6_80 : jLk RX6 80 yX6_isOutOfRange mX6_isOutOfRange 1 := jLk.mk (wt 925 (by decide +kernel) rfl) ceX6_isOutOfRange
theorem kX7_9 : jLk RX7 9 yJ9_floorMod_7cf53 mJ9_floorMod_7cf53 2 := jLk.mk (wt 858 (by decide +kernel) rfl) ceJ9_floorMod_7cf53
theorem kX7_21 : jLk RX7 21 yJ9_floorDiv_7cf53 mJ9_floorDiv_7cf53 2 := jLk.mk (wt 861 (by decide +kernel) rfl) ceJ9_floorDiv_7cf53
theorem kL_11 : jLk RL 11 yX9_init mX9_init 0 := jLk.mk (wt 22 (by decide +kernel) rfl) ceX9_init
theorem kL_12 : jLk RL 12 yL_cell mL_cell 2 := jLk.mk (wt 783 (by decide +kernel) rfl) ceL_cell
theorem kL_18 : Cond.methodLink RL 18 yL_act ∈ WT := wt 787 (by decide +kernel) rfl
theorem kL_22 : jLk RL 22 yX9_digest mX9_digest 0 := jLk.mk (wt 275 (by decide +kernel) rfl) ceX9_digest
theorem kL_26 : jLk RL 26 yL_isBarSound mL_isBarSound 3 := jLk.mk (wt 956 (by decide +kernel) rfl) ceL_isBarSound
theorem kL_30 : jLk RL 30 yL_areMomentsSound mL_areMomentsSound 1 := jLk.mk (wt 1021 (by decide +kernel) rfl) ceL_areMomentsSound
theorem kL_34 : jLk RL 34 yL_below mL_below 2 := jLk.mk (wt 779 (by decide +kernel) rfl) ceL_below
theorem kL_38 : jLk RL 38 yL_areLinesSound mL_areLinesSound 2 := jLk.mk (wt 1072 (by decide +kernel) rfl) ceL_areLinesSound
theorem kL_42 : jLk RL 42 yX9_addRest mX9_addRest 2 := jLk.mk (wt 792 (by decide +kernel) rfl) ceX9_addRest
theorem kL_45 : jLk RL 45 yX9_takeLast mX9_takeLast 1 := jLk.mk (wt 871 (by decide +kernel) rfl) ceX9_takeLast
theorem kL_49 : jLk RL 49 yX9_setMetre mX9_setMetre 3 := jLk.mk (wt 880 (by decide +kernel) rfl) ceX9_setMetre
theorem kL_53 : jLk RL 53 yX9_setKey mX9_setKey 2 := jLk.mk (wt 886 (by decide +kernel) rfl) ceX9_setKey
theorem kL_56 : jLk RL 56 yX9_setShift mX9_setShift 3 := jLk.mk (wt 898 (by decide +kernel) rfl) ceX9_setShift
theorem kL_59 : jLk RL 59 yX9_setRange mX9_setRange 3 := jLk.mk (wt 912 (by decide +kernel) rfl) ceX9_setRange
theorem kL_62 : jLk RL 62 yX9_events mX9_events 1 := jLk.mk (wt 926 (by decide +kernel) rfl) ceX9_events
theorem kL_65 : Cond.methodLink RL 65 Lib.Math.max.name ∈ WT ∧ Cond.static Lib.Math.max.name ∈ WT ∧ Cond.initialized "java/lang/Math" ∈ WT ∧ Cond.code Lib.Math.max.name Lib.Math.max.code 2 (some .int) ∈ WT := ⟨wt 930 (by decide +kernel) rfl, wt 537 (by decide +kernel) rfl, wt 17 (by decide +kernel) rfl, wt 538 (by decide +kernel) rfl⟩
theorem kL_70 : jLk RL 70 yX9_setPitch mX9_setPitch 4 := jLk.mk (wt 931 (by decide +kernel) rfl) ceX9_setPitch
theorem kL_74 : jLk RL 74 yX9_addNote mX9_addNote 4 := jLk.mk (wt 952 (by decide +kernel) rfl) ceX9_addNote
theorem kL_81 : jLk RL 81 yX9_signs mX9_signs 2 := jLk.mk (wt 959 (by decide +kernel) rfl) ceX9_signs
theorem kL_84 : jLk RL 84 yX9_missing mX9_missing 2 := jLk.mk (wt 963 (by decide +kernel) rfl) ceX9_missing
theorem kL_87 : jLk RL 87 yX9_eventOf mX9_eventOf 3 := jLk.mk (wt 967 (by decide +kernel) rfl) ceX9_eventOf
theorem kL_90 : jLk RL 90 yX9_lengthOf mX9_lengthOf 3 := jLk.mk (wt 977 (by decide +kernel) rfl) ceX9_lengthOf
theorem kL_93 : jLk RL 93 yX9_heightOf mX9_heightOf 2 := jLk.mk (wt 981 (by decide +kernel) rfl) ceX9_heightOf
theorem kL_96 : jLk RL 96 yX9_beamOf mX9_beamOf 3 := jLk.mk (wt 985 (by decide +kernel) rfl) ceX9_beamOf
theorem kL_99 : jLk RL 99 yX9_isTied mX9_isTied 3 := jLk.mk (wt 989 (by decide +kernel) rfl) ceX9_isTied
theorem kL_103 : jLk RL 103 yX9_shown mX9_shown 3 := jLk.mk (wt 993 (by decide +kernel) rfl) ceX9_shown
theorem kL_106 : jLk RL 106 yX9_shownWritten mX9_shownWritten 3 := jLk.mk (wt 997 (by decide +kernel) rfl) ceX9_shownWritten
theorem kL_109 : jLk RL 109 yX9_writtenPlace mX9_writtenPlace 2 := jLk.mk (wt 1001 (by decide +kernel) rfl) ceX9_writtenPlace
theorem kL_112 : jLk RL 112 yX9_writtenAlter mX9_writtenAlter 2 := jLk.mk (wt 1005 (by decide +kernel) rfl) ceX9_writtenAlter
theorem kL_115 : jLk RL 115 yX9_lengthOfBar mX9_lengthOfBar 1 := jLk.mk (wt 1009 (by decide +kernel) rfl) ceX9_lengthOfBar
theorem kL_118 : jLk RL 118 yX9_beams mX9_beams 2 := jLk.mk (wt 1013 (by decide +kernel) rfl) ceX9_beams
theorem kL_121 : jLk RL 121 yX9_beginOfBar mX9_beginOfBar 1 := jLk.mk (wt 1017 (by decide +kernel) rfl) ceX9_beginOfBar
theorem kL_124 : jLk RL 124 yX9_moments mX9_moments 0 := jLk.mk (wt 1024 (by decide +kernel) rfl) ceX9_moments
theorem kL_128 : jLk RL 128 yX9_tickOf mX9_tickOf 1 := jLk.mk (wt 1028 (by decide +kernel) rfl) ceX9_tickOf
theorem kL_131 : jLk RL 131 yX9_root mX9_root 1 := jLk.mk (wt 1038 (by decide +kernel) rfl) ceX9_root
theorem kL_134 : jLk RL 134 yX9_kind mX9_kind 1 := jLk.mk (wt 1042 (by decide +kernel) rfl) ceX9_kind
theorem kL_137 : jLk RL 137 yX9_inversion mX9_inversion 1 := jLk.mk (wt 1046 (by decide +kernel) rfl) ceX9_inversion
theorem kL_140 : jLk RL 140 yX9_faults mX9_faults 0 := jLk.mk (wt 1050 (by decide +kernel) rfl) ceX9_faults
theorem kL_143 : jLk RL 143 yX9_tickOfFault mX9_tickOfFault 1 := jLk.mk (wt 1054 (by decide +kernel) rfl) ceX9_tickOfFault
theorem kL_146 : jLk RL 146 yX9_kindOfFault mX9_kindOfFault 1 := jLk.mk (wt 1064 (by decide +kernel) rfl) ceX9_kindOfFault
theorem kL_149 : jLk RL 149 yX9_partsOfFault mX9_partsOfFault 1 := jLk.mk (wt 1068 (by decide +kernel) rfl) ceX9_partsOfFault
theorem kL_152 : jLk RL 152 yX9_bars mX9_bars 0 := jLk.mk (wt 1075 (by decide +kernel) rfl) ceX9_bars
theorem kL_155 : jLk RL 155 yX9_lineOf mX9_lineOf 2 := jLk.mk (wt 1076 (by decide +kernel) rfl) ceX9_lineOf
theorem kL_158 : jLk RL 158 yX9_widthOf mX9_widthOf 1 := jLk.mk (wt 1088 (by decide +kernel) rfl) ceX9_widthOf
theorem kL_161 : jLk RL 161 yX9_lines mX9_lines 1 := jLk.mk (wt 1092 (by decide +kernel) rfl) ceX9_lines
theorem kL_164 : jLk RL 164 yX9_costOf mX9_costOf 1 := jLk.mk (wt 1096 (by decide +kernel) rfl) ceX9_costOf
theorem fX9_11 : jFl RX9 11 7 0 := ⟨RX9, TX9, 12, rfl, by decide, wt 238 (by decide +kernel) rfl, inX9⟩
theorem fX9_19 : jFl RX9 19 7 1 := ⟨RX9, TX9, 12, rfl, by decide, wt 239 (by decide +kernel) rfl, inX9⟩
theorem fX9_26 : jFl RX9 26 7 2 := ⟨RX9, TX9, 12, rfl, by decide, wt 240 (by decide +kernel) rfl, inX9⟩
theorem fX9_33 : jFl RX9 33 7 3 := ⟨RX9, TX9, 12, rfl, by decide, wt 241 (by decide +kernel) rfl, inX9⟩
theorem fX9_40 : jFl RX9 40 7 4 := ⟨RX9, TX9, 12, rfl, by decide, wt 242 (by decide +kernel) rfl, inX9⟩
theorem fX9_47 : jFl RX9 47 7 5 := ⟨RX9, TX9, 12, rfl, by decide, wt 243 (by decide +kernel) rfl, inX9⟩
theorem fX9_54 : jFl RX9 54 7 6 := ⟨RX9, TX9, 12, rfl, by decide, wt 244 (by decide +kernel) rfl, inX9⟩
theorem fX9_58 : jFl RX9 58 7 7 := ⟨RX9, TX9, 12, rfl, by decide, wt 245 (by decide +kernel) rfl, inX9⟩
theorem fX9_62 : jFl RX9 62 7 8 := ⟨RX9, TX9, 12, rfl, by decide, wt 246 (by decide +kernel) rfl, inX9⟩
theorem fX9_65 : jFl RX9 65 7 9 := ⟨RX9, TX9, 12, rfl, by decide, wt 247 (by decide +kernel) rfl, inX9⟩
theorem fX9_68 : jFl RX9 68 7 10 := ⟨RX9, TX9, 12, rfl, by decide, wt 248 (by decide +kernel) rfl, inX9⟩
theorem fX9_72 : jFl RX9 72 7 11 := ⟨RX9, TX9, 12, rfl, by decide, wt 249 (by decide +kernel) rfl, inX9⟩
theorem fX0_9 : jFl RX0 9 0 0 := ⟨RX0, TX0, 5, rfl, by decide, wt 93 (by decide +kernel) rfl, inX0⟩
theorem fX0_15 : jFl RX0 15 0 1 := ⟨RX0, TX0, 5, rfl, by decide, wt 94 (by decide +kernel) rfl, inX0⟩
theorem fX0_18 : jFl RX0 18 0 2 := ⟨RX0, TX0, 5, rfl, by decide, wt 95 (by decide +kernel) rfl, inX0⟩
theorem fX0_21 : jFl RX0 21 0 3 := ⟨RX0, TX0, 5, rfl, by decide, wt 96 (by decide +kernel) rfl, inX0⟩
theorem fX0_36 : jFl RX0 36 0 4 := ⟨RX0, TX0, 5, rfl, by decide, wt 97 (by decide +kernel) rfl, inX0⟩
theorem fX1_9 : jFl RX1 9 1 0 := ⟨RX1, TX1, 3, rfl, by decide, wt 175 (by decide +kernel) rfl, inX1⟩
theorem fX1_15 : jFl RX1 15 1 1 := ⟨RX1, TX1, 3, rfl, by decide, wt 176 (by decide +kernel) rfl, inX1⟩
theorem fX1_18 : jFl RX1 18 1 2 := ⟨RX1, TX1, 3, rfl, by decide, wt 177 (by decide +kernel) rfl, inX1⟩
theorem fX2_9 : jFl RX2 9 2 0 := ⟨RX2, TX2, 8, rfl, by decide, wt 191 (by decide +kernel) rfl, inX2⟩
theorem fX2_15 : jFl RX2 15 2 1 := ⟨RX2, TX2, 8, rfl, by decide, wt 192 (by decide +kernel) rfl, inX2⟩
theorem fX2_18 : jFl RX2 18 2 2 := ⟨RX2, TX2, 8, rfl, by decide, wt 193 (by decide +kernel) rfl, inX2⟩
theorem fX2_21 : jFl RX2 21 2 3 := ⟨RX2, TX2, 8, rfl, by decide, wt 194 (by decide +kernel) rfl, inX2⟩
theorem fX2_24 : jFl RX2 24 2 4 := ⟨RX2, TX2, 8, rfl, by decide, wt 195 (by decide +kernel) rfl, inX2⟩
theorem fX2_27 : jFl RX2 27 2 5 := ⟨RX2, TX2, 8, rfl, by decide, wt 196 (by decide +kernel) rfl, inX2⟩
theorem fX2_31 : jFl RX2 31 2 6 := ⟨RX2, TX2, 8, rfl, by decide, wt 197 (by decide +kernel) rfl, inX2⟩
theorem fX2_34 : jFl RX2 34 2 7 := ⟨RX2, TX2, 8, rfl, by decide, wt 198 (by decide +kernel) rfl, inX2⟩
theorem fX3_9 : jFl RX3 9 3 0 := ⟨RX3, TX3, 4, rfl, by decide, wt 156 (by decide +kernel) rfl, inX3⟩
theorem fX3_15 : jFl RX3 15 3 1 := ⟨RX3, TX3, 4, rfl, by decide, wt 157 (by decide +kernel) rfl, inX3⟩
theorem fX3_18 : jFl RX3 18 3 2 := ⟨RX3, TX3, 4, rfl, by decide, wt 158 (by decide +kernel) rfl, inX3⟩
theorem fX3_21 : jFl RX3 21 3 3 := ⟨RX3, TX3, 4, rfl, by decide, wt 159 (by decide +kernel) rfl, inX3⟩
theorem fX4_9 : jFl RX4 9 4 0 := ⟨RX4, TX4, 5, rfl, by decide, wt 222 (by decide +kernel) rfl, inX4⟩
theorem fX4_15 : jFl RX4 15 4 1 := ⟨RX4, TX4, 5, rfl, by decide, wt 223 (by decide +kernel) rfl, inX4⟩
theorem fX4_18 : jFl RX4 18 4 2 := ⟨RX4, TX4, 5, rfl, by decide, wt 224 (by decide +kernel) rfl, inX4⟩
theorem fX4_21 : jFl RX4 21 4 3 := ⟨RX4, TX4, 5, rfl, by decide, wt 225 (by decide +kernel) rfl, inX4⟩
theorem fX4_24 : jFl RX4 24 4 4 := ⟨RX4, TX4, 5, rfl, by decide, wt 226 (by decide +kernel) rfl, inX4⟩
theorem fX5_9 : jFl RX5 9 5 0 := ⟨RX5, TX5, 11, rfl, by decide, wt 115 (by decide +kernel) rfl, inX5⟩
theorem fX5_15 : jFl RX5 15 5 1 := ⟨RX5, TX5, 11, rfl, by decide, wt 116 (by decide +kernel) rfl, inX5⟩
theorem fX5_18 : jFl RX5 18 5 2 := ⟨RX5, TX5, 11, rfl, by decide, wt 117 (by decide +kernel) rfl, inX5⟩
theorem fX5_21 : jFl RX5 21 5 3 := ⟨RX5, TX5, 11, rfl, by decide, wt 118 (by decide +kernel) rfl, inX5⟩
theorem fX5_25 : jFl RX5 25 5 4 := ⟨RX5, TX5, 11, rfl, by decide, wt 119 (by decide +kernel) rfl, inX5⟩
theorem fX5_28 : jFl RX5 28 5 5 := ⟨RX5, TX5, 11, rfl, by decide, wt 120 (by decide +kernel) rfl, inX5⟩
theorem fX5_31 : jFl RX5 31 5 6 := ⟨RX5, TX5, 11, rfl, by decide, wt 121 (by decide +kernel) rfl, inX5⟩
theorem fX5_34 : jFl RX5 34 5 7 := ⟨RX5, TX5, 11, rfl, by decide, wt 122 (by decide +kernel) rfl, inX5⟩
theorem fX5_37 : jFl RX5 37 5 8 := ⟨RX5, TX5, 11, rfl, by decide, wt 123 (by decide +kernel) rfl, inX5⟩
theorem fX5_40 : jFl RX5 40 5 9 := ⟨RX5, TX5, 11, rfl, by decide, wt 124 (by decide +kernel) rfl, inX5⟩
theorem fX5_44 : jFl RX5 44 5 10 := ⟨RX5, TX5, 11, rfl, by decide, wt 125 (by decide +kernel) rfl, inX5⟩
theorem fX6_9 : jFl RX6 9 6 0 := ⟨RX6, TX6, 13, rfl, by decide, wt 35 (by decide +kernel) rfl, inX6⟩
theorem fX6_15 : jFl RX6 15 6 1 := ⟨RX6, TX6, 13, rfl, by decide, wt 36 (by decide +kernel) rfl, inX6⟩
theorem fX6_18 : jFl RX6 18 6 2 := ⟨RX6, TX6, 13, rfl, by decide, wt 37 (by decide +kernel) rfl, inX6⟩
theorem fX6_21 : jFl RX6 21 6 3 := ⟨RX6, TX6, 13, rfl, by decide, wt 38 (by decide +kernel) rfl, inX6⟩
theorem fX6_24 : jFl RX6 24 6 4 := ⟨RX6, TX6, 13, rfl, by decide, wt 39 (by decide +kernel) rfl, inX6⟩
theorem fX6_27 : jFl RX6 27 6 5 := ⟨RX6, TX6, 13, rfl, by decide, wt 40 (by decide +kernel) rfl, inX6⟩
theorem fX6_30 : jFl RX6 30 6 6 := ⟨RX6, TX6, 13, rfl, by decide, wt 41 (by decide +kernel) rfl, inX6⟩
theorem fX6_33 : jFl RX6 33 6 9 := ⟨RX6, TX6, 13, rfl, by decide, wt 44 (by decide +kernel) rfl, inX6⟩
theorem fX6_37 : jFl RX6 37 6 10 := ⟨RX6, TX6, 13, rfl, by decide, wt 45 (by decide +kernel) rfl, inX6⟩
theorem fX6_40 : jFl RX6 40 6 7 := ⟨RX6, TX6, 13, rfl, by decide, wt 42 (by decide +kernel) rfl, inX6⟩
theorem fX6_43 : jFl RX6 43 6 8 := ⟨RX6, TX6, 13, rfl, by decide, wt 43 (by decide +kernel) rfl, inX6⟩
theorem fX6_64 : jFl RX6 64 6 11 := ⟨RX6, TX6, 13, rfl, by decide, wt 46 (by decide +kernel) rfl, inX6⟩
theorem fX6_67 : jFl RX6 67 6 12 := ⟨RX6, TX6, 13, rfl, by decide, wt 47 (by decide +kernel) rfl, inX6⟩
theorem fX1_54 : Cond.fieldLink RX1 54 RX1 "SECOND_TONES" "[I" ∈ WT := wt 695 (by decide +kernel) rfl
theorem fX1_58 : Cond.fieldLink RX1 58 RX1 "THIRD_TONES" "[I" ∈ WT := wt 697 (by decide +kernel) rfl
theorem fX7_15 : Cond.fieldLink RX7 15 RX7 "HEIGHTS" "[I" ∈ WT := wt 859 (by decide +kernel) rfl
theorem fX7_24 : Cond.fieldLink RX7 24 RX7 "TURNS_AS_SHARP" "[I" ∈ WT := wt 598 (by decide +kernel) rfl
theorem fX8_7 : Cond.fieldLink RX8 7 RX8 "FALLING" "[I" ∈ WT := wt 546 (by decide +kernel) rfl
theorem nX9_9 : jNe RX9 9 6 13 [.null, .null, .null, .null, .null, .null, .null, .int 0, .int 0, .int 0, .int 0, .int 0, .int 0] := ⟨RX6, TX6, tyX6, rfl, inX6, tyX6_ok, wt 28 (by decide +kernel) rfl, wt 30 (by decide +kernel) rfl, wt 2 (by decide +kernel) rfl, by decide +kernel⟩
theorem nX9_16 : jNe RX9 16 0 5 [.null, .null, .null, .null, .int 0] := ⟨RX0, TX0, tyX0, rfl, inX0, tyX0_ok, wt 76 (by decide +kernel) rfl, wt 77 (by decide +kernel) rfl, wt 3 (by decide +kernel) rfl, by decide +kernel⟩
theorem nX9_23 : jNe RX9 23 5 11 [.null, .null, .null, .null, .null, .null, .null, .null, .null, .int 0, .int 0] := ⟨RX5, TX5, tyX5, rfl, inX5, tyX5_ok, wt 109 (by decide +kernel) rfl, wt 110 (by decide +kernel) rfl, wt 4 (by decide +kernel) rfl, by decide +kernel⟩
theorem nX9_30 : jNe RX9 30 3 4 [.null, .null, .null, .int 0] := ⟨RX3, TX3, tyX3, rfl, inX3, tyX3_ok, wt 150 (by decide +kernel) rfl, wt 151 (by decide +kernel) rfl, wt 5 (by decide +kernel) rfl, by decide +kernel⟩
theorem nX9_37 : jNe RX9 37 1 3 [.int 0, .int 0, .int 0] := ⟨RX1, TX1, tyX1, rfl, inX1, tyX1_ok, wt 169 (by decide +kernel) rfl, wt 170 (by decide +kernel) rfl, wt 6 (by decide +kernel) rfl, by decide +kernel⟩
theorem nX9_44 : jNe RX9 44 2 8 [.null, .null, .null, .null, .null, .null, .null, .int 0] := ⟨RX2, TX2, tyX2, rfl, inX2, tyX2_ok, wt 185 (by decide +kernel) rfl, wt 186 (by decide +kernel) rfl, wt 7 (by decide +kernel) rfl, by decide +kernel⟩
theorem nX9_51 : jNe RX9 51 4 5 [.null, .null, .null, .null, .int 0] := ⟨RX4, TX4, tyX4, rfl, inX4, tyX4_ok, wt 216 (by decide +kernel) rfl, wt 217 (by decide +kernel) rfl, wt 8 (by decide +kernel) rfl, by decide +kernel⟩
theorem nX9_102 : jThr "java/lang/IllegalStateException" 106 102 := ⟨wt 827 (by decide +kernel) rfl, wt 15 (by decide +kernel) rfl, by decide +kernel, by decide +kernel, by decide +kernel⟩
theorem nX9_130 : jThr "java/lang/IllegalArgumentException" 134 130 := ⟨wt 802 (by decide +kernel) rfl, wt 14 (by decide +kernel) rfl, by decide +kernel, by decide +kernel, by decide +kernel⟩
theorem nX9_353 : jThr "java/lang/IndexOutOfBoundsException" 357 353 := ⟨wt 449 (by decide +kernel) rfl, wt 12 (by decide +kernel) rfl, by decide +kernel, by decide +kernel, by decide +kernel⟩
theorem nL_9 : jNe RL 9 7 12 [.null, .null, .null, .null, .null, .null, .null, .int 0, .int 0, .int 0, .int 0, .int 0] := ⟨RX9, TX9, tyX9, rfl, inX9, tyX9_ok, wt 20 (by decide +kernel) rfl, wt 21 (by decide +kernel) rfl, wt 1 (by decide +kernel) rfl, by decide +kernel⟩
theorem acI : Cond.arrayClass .int ∈ WT := wt 75 (by decide +kernel) rfl
theorem acZ : Cond.arrayClass .boolean ∈ WT := wt 149 (by decide +kernel) rfl
theorem vX9_305 : Cond.constantLong RX9 305 (2467) ∈ WT := wt 404 (by decide +kernel) rfl
theorem vX9_332 : Cond.constantLong RX9 332 (31) ∈ WT := wt 416 (by decide +kernel) rfl
theorem vL_7 : Cond.constant RL 7 (2147483647) ∈ WT := wt 782 (by decide +kernel) rfl
theorem vL_8 : Cond.constant RL 8 (790386105) ∈ WT := wt 786 (by decide +kernel) rfl
theorem vJ6_265 : Cond.constant RJ6 265 (1431655765) ∈ WT := wt 684 (by decide +kernel) rfl
theorem vJ6_266 : Cond.constant RJ6 266 (858993459) ∈ WT := wt 685 (by decide +kernel) rfl
theorem vJ6_267 : Cond.constant RJ6 267 (252645135) ∈ WT := wt 686 (by decide +kernel) rfl
end
section
/-! rows over whole numbers: every int of the frame is 'Int32.ofInt z' -/
abbrev I32 (z : Int) : Int32 := Int32.ofInt z
abbrev vI (z : Int) : Value := .int (Int32.ofInt z)
abbrev vL (z : Int) : Value := .long (Int64.ofInt z)
abbrev rg (z : Int) : Prop := -2147483648 ≤ z ∧ z < 2147483648
theorem I_toInt {z : Int} (h : rg z) : (Int32.ofInt z).toInt = z := Int32.toInt_ofInt_of_le h.1 h.2
theorem I_lt {a b : Int} (ha : rg a) (hb : rg b) : Int32.ofInt a < Int32.ofInt b ↔ a < b := by rw [Int32.lt_iff_toInt_lt, I_toInt ha, I_toInt hb]
theorem I_le {a b : Int} (ha : rg a) (hb : rg b) : Int32.ofInt a ≤ Int32.ofInt b ↔ a ≤ b := by rw [Int32.le_iff_toInt_le, I_toInt ha, I_toInt hb]
theorem I_eq {a b : Int} (ha : rg a) (hb : rg b) : Int32.ofInt a = Int32.ofInt b ↔ a = b := by rw [← Int32.toInt_inj, I_toInt ha, I_toInt hb]
theorem I_clamp {z : Int} (h : rg z) : (Int32.ofInt z).toNatClampNeg = z.toNat := Int32.toNatClampNeg_ofInt_of_le h.1 h.2
theorem I_of (x : Int32) : ∃ z : Int, rg z ∧ x = Int32.ofInt z := ⟨x.toInt, ⟨by have := x.le_toInt; omega, by have := x.toInt_lt; omega⟩, (Int32.ofInt_toInt x).symm⟩
theorem I_0 : (0 : Int32) = Int32.ofInt 0 := rfl
theorem I_div {a b : Int} (ha : rg a) (hb : rg b) (h0 : b ≠ -1) : Int32.ofInt a / Int32.ofInt b = Int32.ofInt (a.tdiv b) := by
  apply Int32.toInt_inj.mp
  have hb1 : Int32.ofInt b ≠ -1 := by
    intro e
    have : (Int32.ofInt b).toInt = (-1 : Int32).toInt := by rw [e]
    rw [I_toInt hb] at this
    exact h0 this
  rw [Int32.toInt_div_of_ne_right _ _ hb1, I_toInt ha, I_toInt hb]
  symm
  apply I_toInt
  have hn : (a.tdiv b).natAbs ≤ a.natAbs := by rw [Int.natAbs_tdiv]; exact Nat.div_le_self _ _
  by_cases hm : a = -2147483648
  · by_cases hb2 : b = 0
    · subst hb2; simp [rg]
    · by_cases hb3 : b = 1
      · subst hb3; rw [Int.tdiv_one]; exact ha
      · have h2 : 2 ≤ b.natAbs := by omega
        have hn2 : (a.tdiv b).natAbs ≤ a.natAbs / 2 := by rw [Int.natAbs_tdiv]; exact Nat.div_le_div_left h2 (by decide)
        have h3 : a.natAbs / 2 ≤ 1073741824 := by rw [hm]; decide
        constructor <;> omega
  · have h1 := ha.1
    have h2 := ha.2
    constructor <;> omega
theorem I_vpin {z : Int} {n : Nat} (h : 0 ≤ z ∧ z < n) (hn : n < 2147483648) : vp_in (Int32.ofInt z) n := by
  have hr : rg z := ⟨by omega, by omega⟩
  rw [vp_in_iff, I_toInt hr]
  exact h
theorem I_long {z : Int} (h : rg z) : (Int32.ofInt z).toInt64 = Int64.ofInt z := by
  have e : Int32.minValue.toInt = -2147483648 := by decide
  have e2 : Int32.maxValue.toInt = 2147483647 := by decide
  exact Int32.toInt64_ofInt (by rw [e]; exact h.1) (by rw [e2]; have := h.2; omega)
def upI (F : Int → Int) (k x : Int) : Int → Int := fun j => if j = k then x else F j
theorem upI_s (F : Int → Int) (k x : Int) : upI F k x k = x := by simp [upI]
theorem upI_n {F : Int → Int} {k x j : Int} (h : j ≠ k) : upI F k x j = F j := by simp [upI, h]
/-- arrays by whole numbers -/
abbrev ai (G : jG) (n : Nat) (F : Int → Int) : va_E := aI G n (fun j => Int32.ofInt (F (j : Int)))
abbrev az (G : jG) (n : Nat) (F : Int → Int) : va_E := aZ G n (fun j => Int32.ofInt (F (j : Int)))
def lk (l : List Int) (z : Int) : Int := l.getD z.toNat 0
section JI
variable {l : Launch} {G : jG} {M : jM} {QF : jF} {ck sk pc : Nat} {L L' : List (Nat × Value)} {st : List Value} {h : jH}
theorem J_iadd {x y : Int} (hd : decode M.cc pc = .ok (.iadd, 1)) (k : J l G M QF ck sk (pc + 1) L (vI (x + y) :: st) h) : J l G M QF ck sk pc L (vI y :: vI x :: st) h := j_iadd hd (by rw [← Int32.ofInt_add]; exact k)
theorem J_isub {x y : Int} (hd : decode M.cc pc = .ok (.isub, 1)) (k : J l G M QF ck sk (pc + 1) L (vI (x - y) :: st) h) : J l G M QF ck sk pc L (vI y :: vI x :: st) h := j_isub hd (by rw [← Int32.ofInt_sub]; exact k)
theorem J_imul {x y : Int} (hd : decode M.cc pc = .ok (.imul, 1)) (k : J l G M QF ck sk (pc + 1) L (vI (x * y) :: st) h) : J l G M QF ck sk pc L (vI y :: vI x :: st) h := j_imul hd (by rw [← Int32.ofInt_mul]; exact k)
theorem J_ineg {x : Int} (hd : decode M.cc pc = .ok (.ineg, 1)) (k : J l G M QF ck sk (pc + 1) L (vI (-x) :: st) h) : J l G M QF ck sk pc L (vI x :: st) h := j_ineg hd (by rw [← Int32.ofInt_neg]; exact k)
theorem J_idiv {x y : Int} (hd : decode M.cc pc = .ok (.idiv, 1)) (k : J l G M QF ck sk (pc + 1) L (vI (x.tdiv y) :: st) h) (hx : rg x ∧ rg y ∧ y ≠ 0 ∧ y ≠ -1 := by omega) : J l G M QF ck sk pc L (vI y :: vI x :: st) h :=
  j_idiv hd (by rw [I_0, I_eq hx.2.1 (by decide)]; exact hx.2.2.1) (by rw [I_div hx.1 hx.2.1 hx.2.2.2]; exact k)
theorem J_irem {x y : Int} (hd : decode M.cc pc = .ok (.irem, 1)) (k : J l G M QF ck sk (pc + 1) L (vI (x.tmod y) :: st) h) (hx : rg x ∧ rg y ∧ y ≠ 0 ∧ y ≠ -1 := by omega) : J l G M QF ck sk pc L (vI y :: vI x :: st) h :=
  j_irem hd (by rw [I_0, I_eq hx.2.1 (by decide)]; exact hx.2.2.1) (by
    rw [I_div hx.1 hx.2.1 hx.2.2.2, ← Int32.ofInt_mul, ← Int32.ofInt_sub]
    have e : x - x.tdiv y * y = x.tmod y := by
      have := Int.tmod_def x y
      rw [this, Int.mul_comm]
    rw [e]; exact k)
theorem J_i2l {x : Int} (hd : decode M.cc pc = .ok (.i2l, 1)) (k : J l G M QF ck sk (pc + 1) L (vL x :: st) h) (hx : rg x := by omega) : J l G M QF ck sk pc L (vI x :: st) h := j_i2l hd (by rw [I_long hx]; exact k)
theorem J_ladd {x y : Int} (hd : decode M.cc pc = .ok (.ladd, 1)) (k : J l G M QF ck sk (pc + 1) L (vL (x + y) :: st) h) : J l G M QF ck sk pc L (vL y :: vL x :: st) h := j_ladd hd (by rw [← Int64.ofInt_add]; exact k)
theorem J_lmul {x y : Int} (hd : decode M.cc pc = .ok (.lmul, 1)) (k : J l G M QF ck sk (pc + 1) L (vL (x * y) :: st) h) : J l G M QF ck sk pc L (vL y :: vL x :: st) h := j_lmul hd (by rw [← Int64.ofInt_mul]; exact k)
theorem J_iconst {n : Int} (hd : decode M.cc pc = .ok (.iconst n, 1)) (k : J l G M QF ck sk (pc + 1) L (vI n :: st) h) : J l G M QF ck sk pc L st h := j_iconst _ hd rfl k
theorem J_bipush {n : Int} (hd : decode M.cc pc = .ok (.bipush n, 2)) (hv : (Int8.ofInt n).toInt32 = Int32.ofInt n) (k : J l G M QF ck sk (pc + 2) L (vI n :: st) h) : J l G M QF ck sk pc L st h := j_bipush _ hd hv k
theorem J_sipush {n : Int} (hd : decode M.cc pc = .ok (.sipush n, 3)) (hv : (Int16.ofInt n).toInt32 = Int32.ofInt n) (k : J l G M QF ck sk (pc + 3) L (vI n :: st) h) : J l G M QF ck sk pc L st h := j_sipush _ hd hv k
theorem J_iinc {i : Nat} {n x : Int} (hd : decode M.cc pc = .ok (.iinc i n, 3)) (hg : jget L i = some (vI x)) (hn : Nat.blt i M.nL = true) (hp : jput L i (vI (x + n)) = L') (k : J l G M QF ck sk (pc + 3) L' st h) : J l G M QF ck sk pc L st h := j_iinc _ hd hg (by rw [← Int32.ofInt_add]) hn hp k
/-- the number on the top, said otherwise -/
theorem J_top {x : Int} (y : Int) (k : J l G M QF ck sk pc L (vI y :: st) h) (e : x = y := by omega) : J l G M QF ck sk pc L (vI x :: st) h := by rw [e]; exact k
theorem J_if_eq {x : Int} {off : Int} (tgt : Nat) (hd : decode M.cc pc = .ok (.ifCond .eq off, 3)) (ht : (pc : Int) + off = (tgt : Int)) (kt : x = 0 → J l G M QF ck sk tgt L st h) (kf : ¬ x = 0 → J l G M QF ck sk (pc + 3) L st h) (hx : rg x := by omega) : J l G M QF ck sk pc L (vI x :: st) h := j_if_eq tgt hd ht (fun q => kt ((I_eq hx (by decide : rg 0)).mp q)) (fun q => kf (fun z => q ((I_eq hx (by decide : rg 0)).mpr z)))
theorem J_icmp_eq {x y : Int} {off : Int} (tgt : Nat) (hd : decode M.cc pc = .ok (.if_icmp .eq off, 3)) (ht : (pc : Int) + off = (tgt : Int)) (kt : x = y → J l G M QF ck sk tgt L st h) (kf : ¬ x = y → J l G M QF ck sk (pc + 3) L st h) (hx : rg x ∧ rg y := by omega) : J l G M QF ck sk pc L (vI y :: vI x :: st) h := j_icmp_eq tgt hd ht (fun q => kt ((I_eq hx.1 hx.2).mp q)) (fun q => kf (fun z => q ((I_eq hx.1 hx.2).mpr z)))
theorem J_if_ne {x : Int} {off : Int} (tgt : Nat) (hd : decode M.cc pc = .ok (.ifCond .ne off, 3)) (ht : (pc : Int) + off = (tgt : Int)) (kt : ¬ x = 0 → J l G M QF ck sk tgt L st h) (kf : x = 0 → J l G M QF ck sk (pc + 3) L st h) (hx : rg x := by omega) : J l G M QF ck sk pc L (vI x :: st) h := j_if_ne tgt hd ht (fun q => kt (fun z => q ((I_eq hx (by decide : rg 0)).mpr z))) (fun q => kf ((I_eq hx (by decide : rg 0)).mp q))
theorem J_icmp_ne {x y : Int} {off : Int} (tgt : Nat) (hd : decode M.cc pc = .ok (.if_icmp .ne off, 3)) (ht : (pc : Int) + off = (tgt : Int)) (kt : ¬ x = y → J l G M QF ck sk tgt L st h) (kf : x = y → J l G M QF ck sk (pc + 3) L st h) (hx : rg x ∧ rg y := by omega) : J l G M QF ck sk pc L (vI y :: vI x :: st) h := j_icmp_ne tgt hd ht (fun q => kt (fun z => q ((I_eq hx.1 hx.2).mpr z))) (fun q => kf ((I_eq hx.1 hx.2).mp q))
theorem J_if_lt {x : Int} {off : Int} (tgt : Nat) (hd : decode M.cc pc = .ok (.ifCond .lt off, 3)) (ht : (pc : Int) + off = (tgt : Int)) (kt : x < 0 → J l G M QF ck sk tgt L st h) (kf : 0 ≤ x → J l G M QF ck sk (pc + 3) L st h) (hx : rg x := by omega) : J l G M QF ck sk pc L (vI x :: st) h := j_if_lt tgt hd ht (fun q => kt ((I_lt hx (by decide : rg 0)).mp q)) (fun q => kf (Int.not_lt.mp (fun z => q ((I_lt hx (by decide : rg 0)).mpr z))))
theorem J_icmp_lt {x y : Int} {off : Int} (tgt : Nat) (hd : decode M.cc pc = .ok (.if_icmp .lt off, 3)) (ht : (pc : Int) + off = (tgt : Int)) (kt : x < y → J l G M QF ck sk tgt L st h) (kf : y ≤ x → J l G M QF ck sk (pc + 3) L st h) (hx : rg x ∧ rg y := by omega) : J l G M QF ck sk pc L (vI y :: vI x :: st) h := j_icmp_lt tgt hd ht (fun q => kt ((I_lt hx.1 hx.2).mp q)) (fun q => kf (Int.not_lt.mp (fun z => q ((I_lt hx.1 hx.2).mpr z))))
theorem J_if_ge {x : Int} {off : Int} (tgt : Nat) (hd : decode M.cc pc = .ok (.ifCond .ge off, 3)) (ht : (pc : Int) + off = (tgt : Int)) (kt : 0 ≤ x → J l G M QF ck sk tgt L st h) (kf : x < 0 → J l G M QF ck sk (pc + 3) L st h) (hx : rg x := by omega) : J l G M QF ck sk pc L (vI x :: st) h := j_if_ge tgt hd ht (fun q => kt ((I_le (by decide : rg 0) hx).mp q)) (fun q => kf (Int.not_le.mp (fun z => q ((I_le (by decide : rg 0) hx).mpr z))))
theorem J_icmp_ge {x y : Int} {off : Int} (tgt : Nat) (hd : decode M.cc pc = .ok (.if_icmp .ge off, 3)) (ht : (pc : Int) + off = (tgt : Int)) (kt : y ≤ x → J l G M QF ck sk tgt L st h) (kf : x < y → J l G M QF ck sk (pc + 3) L st h) (hx : rg x ∧ rg y := by omega) : J l G M QF ck sk pc L (vI y :: vI x :: st) h := j_icmp_ge tgt hd ht (fun q => kt ((I_le hx.2 hx.1).mp q)) (fun q => kf (Int.not_le.mp (fun z => q ((I_le hx.2 hx.1).mpr z))))
theorem J_if_gt {x : Int} {off : Int} (tgt : Nat) (hd : decode M.cc pc = .ok (.ifCond .gt off, 3)) (ht : (pc : Int) + off = (tgt : Int)) (kt : 0 < x → J l G M QF ck sk tgt L st h) (kf : x ≤ 0 → J l G M QF ck sk (pc + 3) L st h) (hx : rg x := by omega) : J l G M QF ck sk pc L (vI x :: st) h := j_if_gt tgt hd ht (fun q => kt ((I_lt (by decide : rg 0) hx).mp q)) (fun q => kf (Int.not_lt.mp (fun z => q ((I_lt (by decide : rg 0) hx).mpr z))))
theorem J_icmp_gt {x y : Int} {off : Int} (tgt : Nat) (hd : decode M.cc pc = .ok (.if_icmp .gt off, 3)) (ht : (pc : Int) + off = (tgt : Int)) (kt : y < x → J l G M QF ck sk tgt L st h) (kf : x ≤ y → J l G M QF ck sk (pc + 3) L st h) (hx : rg x ∧ rg y := by omega) : J l G M QF ck sk pc L (vI y :: vI x :: st) h := j_icmp_gt tgt hd ht (fun q => kt ((I_lt hx.2 hx.1).mp q)) (fun q => kf (Int.not_lt.mp (fun z => q ((I_lt hx.2 hx.1).mpr z))))
theorem J_if_le {x : Int} {off : Int} (tgt : Nat) (hd : decode M.cc pc = .ok (.ifCond .le off, 3)) (ht : (pc : Int) + off = (tgt : Int)) (kt : x ≤ 0 → J l G M QF ck sk tgt L st h) (kf : 0 < x → J l G M QF ck sk (pc + 3) L st h) (hx : rg x := by omega) : J l G M QF ck sk pc L (vI x :: st) h := j_if_le tgt hd ht (fun q => kt ((I_le hx (by decide : rg 0)).mp q)) (fun q => kf (Int.not_le.mp (fun z => q ((I_le hx (by decide : rg 0)).mpr z))))
theorem J_icmp_le {x y : Int} {off : Int} (tgt : Nat) (hd : decode M.cc pc = .ok (.if_icmp .le off, 3)) (ht : (pc : Int) + off = (tgt : Int)) (kt : x ≤ y → J l G M QF ck sk tgt L st h) (kf : y < x → J l G M QF ck sk (pc + 3) L st h) (hx : rg x ∧ rg y := by omega) : J l G M QF ck sk pc L (vI y :: vI x :: st) h := j_icmp_le tgt hd ht (fun q => kt ((I_le hx.1 hx.2).mp q)) (fun q => kf (Int.not_le.mp (fun z => q ((I_le hx.1 hx.2).mpr z))))
theorem J_iald {a n : Nat} {F : Int → Int} {z : Int} (hd : decode M.cc pc = .ok (.iaload, 1)) (ha : h a = some (ai G n F)) (kk : J l G M QF ck sk (pc + 1) L (vI (F z) :: st) h) (hz : 0 ≤ z ∧ z < (n : Int) ∧ n < 2147483648 := by omega) : J l G M QF ck sk pc L (vI z :: .ref a :: st) h := by
  refine j_iald hd ha (I_vpin ⟨hz.1, hz.2.1⟩ hz.2.2) ?_
  rw [I_clamp ⟨by omega, by omega⟩, Int.toNat_of_nonneg hz.1]
  exact kk
theorem J_zald {a n : Nat} {F : Int → Int} {z : Int} (hd : decode M.cc pc = .ok (.baload, 1)) (ha : h a = some (az G n F)) (kk : J l G M QF ck sk (pc + 1) L (vI (F z) :: st) h) (hz : 0 ≤ z ∧ z < (n : Int) ∧ n < 2147483648 := by omega) : J l G M QF ck sk pc L (vI z :: .ref a :: st) h := by
  refine j_zald hd ha (I_vpin ⟨hz.1, hz.2.1⟩ hz.2.2) ?_
  rw [I_clamp ⟨by omega, by omega⟩, Int.toNat_of_nonneg hz.1]
  exact kk
theorem upd_I (F : Int → Int) {z x : Int} (hz : 0 ≤ z) : upd (fun j : Nat => Int32.ofInt (F (j : Int))) z.toNat (Int32.ofInt x) = fun j : Nat => Int32.ofInt (upI F z x (j : Int)) := by
  funext j
  by_cases e : j = z.toNat
  · subst e
    have e1 : ((z.toNat : Nat) : Int) = z := Int.toNat_of_nonneg hz
    simp [upd, upI, e1]
  · have e1 : ¬ ((j : Int) = z) := by omega
    simp [upd, upI, e, e1]
theorem J_iast {a n : Nat} {F : Int → Int} {z x : Int} (hd : decode M.cc pc = .ok (.iastore, 1)) (ha : h a = some (ai G n F)) (kk : J l G M QF ck sk (pc + 1) L st (hset h a (ai G n (upI F z x)))) (hz : 0 ≤ z ∧ z < (n : Int) ∧ n < 2147483648 := by omega) : J l G M QF ck sk pc L (vI x :: vI z :: .ref a :: st) h := by
  refine j_iast hd ha (I_vpin ⟨hz.1, hz.2.1⟩ hz.2.2) ?_
  rw [I_clamp ⟨by omega, by omega⟩, upd_I F hz.1]
  exact kk
theorem J_zast {a n : Nat} {F : Int → Int} {z x : Int} (hd : decode M.cc pc = .ok (.bastore, 1)) (ha : h a = some (az G n F)) (kk : J l G M QF ck sk (pc + 1) L st (hset h a (az G n (upI F z x)))) (hx : x = 0 ∨ x = 1 := by omega) (hz : 0 ≤ z ∧ z < (n : Int) ∧ n < 2147483648 := by omega) : J l G M QF ck sk pc L (vI x :: vI z :: .ref a :: st) h := by
  refine j_zast hd ha (I_vpin ⟨hz.1, hz.2.1⟩ hz.2.2) ?_
  have e : vp_nar .boolean (Int32.ofInt x) = Int32.ofInt x := by rcases hx with e | e <;> subst e <;> rfl
  rw [I_clamp ⟨by omega, by omega⟩, e, upd_I F hz.1]
  exact kk
theorem jIs_I (l : List Int) (z : Int) : jIs (l.map Int32.ofInt) z.toNat = Int32.ofInt (lk l z) := by
  unfold jIs lk
  by_cases h : z.toNat < l.length
  · simp [List.getD, h]
  · simp [List.getD, Nat.le_of_not_lt h]
theorem J_siald (k : Nat) {C n : String} {N : Nat} {f : List Int32} {z : Int} (l0 : List Int) (hst : jSt[k]? = some (C, n, N, f)) (hf : f = l0.map Int32.ofInt) (hd : decode M.cc pc = .ok (.iaload, 1)) (kk : J l G M QF ck sk (pc + 1) L (vI (lk l0 z) :: st) h) (hz : 0 ≤ z ∧ z < (N : Int) ∧ N < 2147483648 := by omega) : J l G M QF ck sk pc L (vI z :: .ref (jSa G k) :: st) h := by
  refine j_siald k hst (I_vpin ⟨hz.1, hz.2.1⟩ hz.2.2) hd ?_
  rw [I_clamp ⟨by omega, by omega⟩, hf, jIs_I]
  exact kk
theorem J_alen {a n : Nat} {F : Int → Int} (hd : decode M.cc pc = .ok (.arraylength, 1)) (ha : h a = some (ai G n F)) (kk : J l G M QF ck sk (pc + 1) L (vI n :: st) h) : J l G M QF ck sk pc L (.ref a :: st) h := j_alen 0 _ hd ha rfl (Int32.ofInt_eq_ofNat).symm kk
theorem J_alenq {a n : Nat} {F : Nat → Option Nat} (t : Nat) {ty : FieldType} (hd : decode M.cc pc = .ok (.arraylength, 1)) (ha : h a = some (aR G t n F)) (ht : (jT G)[t]? = some (G.2.1 t, ty)) (kk : J l G M QF ck sk (pc + 1) L (vI n :: st) h) : J l G M QF ck sk pc L (.ref a :: st) h := j_alen t _ hd ha ht (Int32.ofInt_eq_ofNat).symm kk
theorem J_qald {a n v : Nat} {F : Nat → Option Nat} {z : Int} (hd : decode M.cc pc = .ok (.aaload, 1)) (ha : h a = some (aR G 3 n F)) (hv : F z.toNat = some v) (kk : J l G M QF ck sk (pc + 1) L (.ref v :: st) h) (hz : 0 ≤ z ∧ z < (n : Int) ∧ n < 2147483648 := by omega) : J l G M QF ck sk pc L (vI z :: .ref a :: st) h := by
  refine j_qaldP hd ha (I_vpin ⟨hz.1, hz.2.1⟩ hz.2.2) ?_
  rw [I_clamp ⟨by omega, by omega⟩, hv]
  exact kk
theorem J_mmax {idx : Nat} {x y : Int} (hw : Cond.methodLink M.own idx Lib.Math.max.name ∈ WT ∧ Cond.static Lib.Math.max.name ∈ WT ∧ Cond.initialized "java/lang/Math" ∈ WT ∧ Cond.code Lib.Math.max.name Lib.Math.max.code 2 (some .int) ∈ WT) (hfr : Nat.ble 1 M.room.frames = true) (hlo : Nat.ble ((st.map fun v => v.category).sum + 13) M.room.locals = true)
    (hd : decode M.cc pc = .ok (.invokestatic idx, 3)) (kk : J l G M QF ck sk (pc + 3) L (vI (max x y) :: st) h) (hx : rg x ∧ rg y := by omega) : J l G M QF ck sk pc L (vI y :: vI x :: st) h := by
  refine j_mmax hw hfr hlo hd ?_
  have e : (if Int32.ofInt x < Int32.ofInt y then Int32.ofInt y else Int32.ofInt x) = Int32.ofInt (max x y) := by
    by_cases c : x < y
    · rw [if_pos ((I_lt hx.1 hx.2).mpr c), Int.max_eq_right (by omega)]
    · rw [if_neg (fun z => c ((I_lt hx.1 hx.2).mp z)), Int.max_eq_left (by omega)]
  rw [e]; exact kk
theorem J_mmin {idx : Nat} {x y : Int} (hw : Cond.methodLink M.own idx Lib.Math.min.name ∈ WT ∧ Cond.static Lib.Math.min.name ∈ WT ∧ Cond.initialized "java/lang/Math" ∈ WT ∧ Cond.code Lib.Math.min.name Lib.Math.min.code 2 (some .int) ∈ WT) (hfr : Nat.ble 1 M.room.frames = true) (hlo : Nat.ble ((st.map fun v => v.category).sum + 13) M.room.locals = true)
    (hd : decode M.cc pc = .ok (.invokestatic idx, 3)) (kk : J l G M QF ck sk (pc + 3) L (vI (min x y) :: st) h) (hx : rg x ∧ rg y := by omega) : J l G M QF ck sk pc L (vI y :: vI x :: st) h := by
  refine j_mmin hw hfr hlo hd ?_
  have e : (if Int32.ofInt y < Int32.ofInt x then Int32.ofInt y else Int32.ofInt x) = Int32.ofInt (min x y) := by
    by_cases c : y < x
    · rw [if_pos ((I_lt hx.2 hx.1).mpr c), Int.min_eq_right (by omega)]
    · rw [if_neg (fun z => c ((I_lt hx.2 hx.1).mp z)), Int.min_eq_left (by omega)]
  rw [e]; exact kk
theorem J_mabs {idx : Nat} {x : Int} (hw : Cond.methodLink M.own idx Lib.Math.abs.name ∈ WT ∧ Cond.static Lib.Math.abs.name ∈ WT ∧ Cond.initialized "java/lang/Math" ∈ WT ∧ Cond.code Lib.Math.abs.name Lib.Math.abs.code 1 (some .int) ∈ WT) (hfr : Nat.ble 1 M.room.frames = true) (hlo : Nat.ble ((st.map fun v => v.category).sum + 13) M.room.locals = true)
    (hd : decode M.cc pc = .ok (.invokestatic idx, 3)) (kk : J l G M QF ck sk (pc + 3) L (vI (x.natAbs : Int) :: st) h) (hx : rg x := by omega) : J l G M QF ck sk pc L (vI x :: st) h := by
  refine j_mabs hw hfr hlo hd ?_
  have e : (if 0 ≤ Int32.ofInt x then Int32.ofInt x else 0 - Int32.ofInt x) = Int32.ofInt (x.natAbs : Int) := by
    by_cases c : 0 ≤ x
    · rw [I_0, if_pos ((I_le (by decide) hx).mpr c)]
      congr 1; omega
    · rw [I_0, if_neg (fun z => c ((I_le (by decide) hx).mp z)), ← Int32.ofInt_sub]
      congr 1; omega
  rw [e]; exact kk
end JI
/-- a contract that says the result outright -/
abbrev jE (r : jO) (h0 : jH) : jO → jH → Prop := fun r' h' => r' = r ∧ h' = h0
abbrev oI (z : Int) : jO := .inl (some (vI z))
abbrev oN : jO := .inl none
abbrev oR (a : Nat) : jO := .inl (some (.ref a))
abbrev bI (c : Prop) [Decidable c] : Int := if c then 1 else 0
section JV
variable {l : Launch} {G : jG} {M M' : jM} {QF : jF} {ck sk pc : Nat} {L L' : List (Nat × Value)} {st rest : List Value} {h h1 : jH} {v : Option Value}
/-- a call that returns v and leaves h1 -/
theorem J_callV {y : MethodName} {As : List Value} {a ci n idx : Nat} {fs : List Value} {T : u_T} {N : Nat} (V : jLk M.own idx y M' n) (V2 : Cond.instanceMethod y ∈ WT ∧ Cond.selects y.cls y y ∈ WT ∧ vwCl[ci]? = some (y.cls, T, N)) (ha : h a = some (.inr (ci, fs)))
    (C : jC l G y M' (.ref a :: As) h (jE (.inl v) h1)) (hh : M'.hh = []) (hst : st = As.reverse ++ .ref a :: rest) (hn : As.length = n) (hrm : jRm M M' = true) (hrest : Nat.ble (rest.map fun v => v.category).sum 8 = true) (hd : decode M.cc pc = .ok (.invokevirtual idx, 3))
    (hck : M'.room.cells = 0) (hsk : M'.room.slots = 0) (kk : J l G M QF ck sk (pc + 3) L (v.toList ++ rest) h1) : J l G M QF ck sk pc L st h :=
  j_callV (ck' := ck) (sk' := sk) V V2 ha C hh hst hn hrm hrest hd (by omega) (by omega) (fun v' h' hp => by obtain ⟨e1, e2⟩ := hp; cases e1; subst e2; exact kk) (fun E h' hp => by cases hp.1)
theorem J_callS {y : MethodName} {As : List Value} {n idx : Nat} (V : jLk M.own idx y M' n) (V2 : Cond.static y ∈ WT)
    (C : jC l G y M' As h (jE (.inl v) h1)) (hh : M'.hh = []) (hst : st = As.reverse ++ rest) (hn : As.length = n) (hrm : jRm M M' = true) (hrest : Nat.ble (rest.map fun v => v.category).sum 8 = true) (hd : decode M.cc pc = .ok (.invokestatic idx, 3))
    (hck : M'.room.cells = 0) (hsk : M'.room.slots = 0) (kk : J l G M QF ck sk (pc + 3) L (v.toList ++ rest) h1) : J l G M QF ck sk pc L st h :=
  j_callS (ck' := ck) (sk' := sk) V V2 C hh hst hn hrm hrest hd (by omega) (by omega) (fun v' h' hp => by obtain ⟨e1, e2⟩ := hp; cases e1; subst e2; exact kk) (fun E h' hp => by cases hp.1)
theorem J_callSN {y : MethodName} {host : String} {As : List Value} {n idx : Nat} (V : jLkN M.own idx y host M' n) (V2 : Cond.static y ∈ WT)
    (C : jC l G y M' As h (jE (.inl v) h1)) (hh : M'.hh = []) (hst : st = As.reverse ++ rest) (hn : As.length = n) (hrm : jRm M M' = true) (hrest : Nat.ble (rest.map fun v => v.category).sum 8 = true) (hd : decode M.cc pc = .ok (.invokestatic idx, 3))
    (hck : M'.room.cells = 0) (hsk : M'.room.slots = 0) (kk : J l G M QF ck sk (pc + 3) L (v.toList ++ rest) h1) : J l G M QF ck sk pc L st h :=
  j_callSN (ck' := ck) (sk' := sk) V V2 C (fun E h' hp => by cases hp.1) hh hst hn hrm hrest hd (by omega) (by omega) (fun v' h' hp => by obtain ⟨e1, e2⟩ := hp; cases e1; subst e2; exact kk)
end JV
end
section
/-! objects with their arrays -/
/-- what an object holds: its numbers by field, its arrays by field -/
abbrev OS : Type := (Nat → Int) × (Nat → Int → Int)
def oU (p : OS) (k : Nat) (x : Int) : OS := (fun j => if j = k then x else p.1 j, p.2)
def oA (p : OS) (k : Nat) (F : Int → Int) : OS := (p.1, fun j => if j = k then F else p.2 j)
theorem oU_s (p : OS) (k : Nat) (x : Int) : (oU p k x).1 k = x := by simp [oU]
theorem oU_n {p : OS} {k j : Nat} {x : Int} (h : j ≠ k) : (oU p k x).1 j = p.1 j := by simp [oU, h]
theorem oA_s (p : OS) (k : Nat) (F : Int → Int) : (oA p k F).2 k = F := by simp [oA]
theorem oA_n {p : OS} {k j : Nat} {F : Int → Int} (h : j ≠ k) : (oA p k F).2 j = p.2 j := by simp [oA, h]
abbrev oO : Type := (Nat → Nat) → OS → Nat × List Value
abbrev oC : Type := Nat → (Int → Int) → va_E
/-- an object at a, its arrays at q k for the fields k of A -/
def At (o : oO) (ca : oC) (A : Nat → Bool) (h : jH) (a : Nat) (q : Nat → Nat) (p : OS) : Prop :=
  h a = some (.inr (o q p)) ∧ (∀ k, A k = true → h (q k) = some (ca k (p.2 k))) ∧ (∀ k, A k = true → q k ≠ a) ∧ ∀ i j, A i = true → A j = true → q i = q j → i = j
/-- where it lies -/
def ft (A : Nat → Bool) (a : Nat) (q : Nat → Nat) : Nat → Prop := fun b => b = a ∨ ∃ k, A k = true ∧ b = q k
/-- only S may have changed -/
def Fr (S : Nat → Prop) (h h' : jH) : Prop := ∀ b, ¬ S b → h' b = h b
theorem Fr.rf {S : Nat → Prop} {h : jH} : Fr S h h := fun _ _ => rfl
theorem Fr.tr {S : Nat → Prop} {h h1 h2 : jH} (a : Fr S h h1) (b : Fr S h1 h2) : Fr S h h2 := fun x hx => (b x hx).trans (a x hx)
theorem Fr.mono {S T : Nat → Prop} {h h1 : jH} (a : Fr S h h1) (hST : ∀ b, S b → T b) : Fr T h h1 := fun x hx => a x (fun z => hx (hST x z))
theorem Fr.set {S : Nat → Prop} {h : jH} {a : Nat} {e : va_E} (ha : S a) : Fr S h (hset h a e) := fun b hb => hset_n (fun z => hb (z ▸ ha))
theorem At.keep {o : oO} {ca : oC} {A : Nat → Bool} {h h' : jH} {a : Nat} {q : Nat → Nat} {p : OS} {S : Nat → Prop} (hP : At o ca A h a q p) (hF : Fr S h h') (hd : ∀ b, ft A a q b → ¬ S b) : At o ca A h' a q p := by
  obtain ⟨h1, h2, h3, h4⟩ := hP
  exact ⟨(hF a (hd a (Or.inl rfl))).trans h1, fun k hk => (hF _ (hd _ (Or.inr ⟨k, hk, rfl⟩))).trans (h2 k hk), h3, h4⟩
theorem At.arrw {o : oO} {ca : oC} {A : Nat → Bool} {h : jH} {a : Nat} {q : Nat → Nat} {p : OS} (hP : At o ca A h a q p) {k : Nat} (hk : A k = true) (F : Int → Int) (ho : o q (oA p k F) = o q p) : At o ca A (hset h (q k) (ca k F)) a q (oA p k F) := by
  obtain ⟨h1, h2, h3, h4⟩ := hP
  refine ⟨?_, fun j hj => ?_, h3, h4⟩
  · rw [hset_n (Ne.symm (h3 k hk)), h1, ho]
  · by_cases e : j = k
    · subst e
      rw [hset_s, oA_s]
    · rw [hset_n (fun z => e (h4 j k hj hk z)), oA_n e]
      exact h2 j hj
theorem At.objw {o : oO} {ca : oC} {A : Nat → Bool} {h : jH} {a : Nat} {q : Nat → Nat} {p : OS} (hP : At o ca A h a q p) (k : Nat) (x : Int) : At o ca A (hset h a (.inr (o q (oU p k x)))) a q (oU p k x) := by
  obtain ⟨h1, h2, h3, h4⟩ := hP
  exact ⟨hset_s _ _ _, fun j hj => by rw [hset_n (h3 j hj)]; exact h2 j hj, h3, h4⟩
abbrev jW (r : jO) (P : jH → Prop) : jO → jH → Prop := fun r' h' => r' = r ∧ P h'
theorem oIe {x y : Int} (e : x = y) : oI x = oI y := by rw [e]
section JA
variable {l : Launch} {G : jG} {M M' : jM} {QF : jF} {ck sk pc : Nat} {L L' : List (Nat × Value)} {st rest : List Value} {h h1 : jH} {v : Option Value}
  {o : oO} {ca : oC} {A : Nat → Bool} {a : Nat} {q : Nat → Nat} {p : OS}
theorem J_iastA (k : Nat) {n : Nat} {z x : Int} (hP : At o ca A h a q p) (hk : A k = true) (hca : ∀ F, ca k F = ai G n F) (ho : ∀ F, o q (oA p k F) = o q p) (hd : decode M.cc pc = .ok (.iastore, 1))
    (kk : ∀ h', At o ca A h' a q (oA p k (upI (p.2 k) z x)) → Fr (ft A a q) h h' → J l G M QF ck sk (pc + 1) L st h') (hz : 0 ≤ z ∧ z < (n : Int) ∧ n < 2147483648 := by omega) : J l G M QF ck sk pc L (vI x :: vI z :: .ref (q k) :: st) h := by
  have h1 := hP.2.1 k hk
  rw [hca] at h1
  refine J_iast hd h1 ?_ hz
  have h2 := hP.arrw hk (upI (p.2 k) z x) (ho _)
  rw [hca] at h2
  exact kk _ h2 (Fr.set (Or.inr ⟨k, hk, rfl⟩))
theorem J_zastA (k : Nat) {n : Nat} {z x : Int} (hP : At o ca A h a q p) (hk : A k = true) (hca : ∀ F, ca k F = az G n F) (ho : ∀ F, o q (oA p k F) = o q p) (hd : decode M.cc pc = .ok (.bastore, 1))
    (kk : ∀ h', At o ca A h' a q (oA p k (upI (p.2 k) z x)) → Fr (ft A a q) h h' → J l G M QF ck sk (pc + 1) L st h') (hx : x = 0 ∨ x = 1 := by omega) (hz : 0 ≤ z ∧ z < (n : Int) ∧ n < 2147483648 := by omega) : J l G M QF ck sk pc L (vI x :: vI z :: .ref (q k) :: st) h := by
  have h1 := hP.2.1 k hk
  rw [hca] at h1
  refine J_zast hd h1 ?_ hx hz
  have h2 := hP.arrw hk (upI (p.2 k) z x) (ho _)
  rw [hca] at h2
  exact kk _ h2 (Fr.set (Or.inr ⟨k, hk, rfl⟩))
theorem J_putA {idx k : Nat} {x : Int} (hP : At o ca A h a q p) (F : jFl M.own idx (o q p).1 k) (Y : jTy (o q p).1 k .int false) (hd : decode M.cc pc = .ok (.putfield idx, 3)) (hl0 : Nat.blt k (o q p).2.length = true) (ho : o q (oU p k x) = ((o q p).1, (o q p).2.set k (vI x)))
    (kk : ∀ h', At o ca A h' a q (oU p k x) → Fr (ft A a q) h h' → J l G M QF ck sk (pc + 3) L st h') : J l G M QF ck sk pc L (vI x :: .ref a :: st) h := by
  refine j_put F Y hd hP.1 rfl rfl hl0 rfl ?_
  have h2 := hP.objw k x
  rw [ho] at h2
  exact kk _ h2 (Fr.set (Or.inl rfl))
theorem J_putZA {idx k : Nat} {x : Int} (hP : At o ca A h a q p) (F : jFl M.own idx (o q p).1 k) (Y : jTy (o q p).1 k .boolean false) (hd : decode M.cc pc = .ok (.putfield idx, 3)) (hx : narrow .boolean (vI x) = vI x ∧ fits .boolean (vI x) = true) (hl0 : Nat.blt k (o q p).2.length = true) (ho : o q (oU p k x) = ((o q p).1, (o q p).2.set k (vI x)))
    (kk : ∀ h', At o ca A h' a q (oU p k x) → Fr (ft A a q) h h' → J l G M QF ck sk (pc + 3) L st h') : J l G M QF ck sk pc L (vI x :: .ref a :: st) h := by
  refine j_put F Y hd hP.1 hx.1 hx.2 hl0 rfl ?_
  have h2 := hP.objw k x
  rw [ho] at h2
  exact kk _ h2 (Fr.set (Or.inl rfl))
theorem J_putNA {host : String} {idx k : Nat} {x : Int} (hP : At o ca A h a q p) (F : jFlN M.own host idx (o q p).1 k) (Y : jTy (o q p).1 k .int false) (hd : decode M.cc pc = .ok (.putfield idx, 3)) (hl0 : Nat.blt k (o q p).2.length = true) (ho : o q (oU p k x) = ((o q p).1, (o q p).2.set k (vI x)))
    (kk : ∀ h', At o ca A h' a q (oU p k x) → Fr (ft A a q) h h' → J l G M QF ck sk (pc + 3) L st h') : J l G M QF ck sk pc L (vI x :: .ref a :: st) h := by
  refine j_putN F Y hd hP.1 rfl rfl hl0 rfl ?_
  have h2 := hP.objw k x
  rw [ho] at h2
  exact kk _ h2 (Fr.set (Or.inl rfl))
theorem J_salen (k : Nat) {C n : String} {N : Nat} {f : List Int32} (hst : jSt[k]? = some (C, n, N, f)) (hd : decode M.cc pc = .ok (.arraylength, 1)) (kk : J l G M QF ck sk (pc + 1) L (vI N :: st) h) : J l G M QF ck sk pc L (.ref (jSa G k) :: st) h := by
  intro p e s m args below meth c H locs cells slots ls S hR hS hl hc hs
  exact va_tlen S.1 S.2.1 (S.2.2.2.2.2.2.2.2.2.2.1 k _ hst).2 hS (Int32.ofInt_eq_ofNat).symm hd (kk p e s m args below meth c H locs cells slots ls S hR hS hl hc hs)
theorem J_callV1 {w : Value} {y : MethodName} {As : List Value} {a ci n idx : Nat} {fs : List Value} {T : u_T} {N : Nat} (V : jLk M.own idx y M' n) (V2 : Cond.instanceMethod y ∈ WT ∧ Cond.selects y.cls y y ∈ WT ∧ vwCl[ci]? = some (y.cls, T, N)) (ha : h a = some (.inr (ci, fs)))
    (C : jC l G y M' (.ref a :: As) h (jE (.inl (some w)) h1)) (hh : M'.hh = []) (hst : st = As.reverse ++ .ref a :: rest) (hn : As.length = n) (hrm : jRm M M' = true) (hrest : Nat.ble (rest.map fun v => v.category).sum 8 = true) (hd : decode M.cc pc = .ok (.invokevirtual idx, 3))
    (hck : M'.room.cells = 0) (hsk : M'.room.slots = 0) (kk : J l G M QF ck sk (pc + 3) L (w :: rest) h1) : J l G M QF ck sk pc L st h :=
  J_callV V V2 ha C hh hst hn hrm hrest hd hck hsk kk
theorem J_callV0 {y : MethodName} {As : List Value} {a ci n idx : Nat} {fs : List Value} {T : u_T} {N : Nat} (V : jLk M.own idx y M' n) (V2 : Cond.instanceMethod y ∈ WT ∧ Cond.selects y.cls y y ∈ WT ∧ vwCl[ci]? = some (y.cls, T, N)) (ha : h a = some (.inr (ci, fs)))
    (C : jC l G y M' (.ref a :: As) h (jE (.inl none) h1)) (hh : M'.hh = []) (hst : st = As.reverse ++ .ref a :: rest) (hn : As.length = n) (hrm : jRm M M' = true) (hrest : Nat.ble (rest.map fun v => v.category).sum 8 = true) (hd : decode M.cc pc = .ok (.invokevirtual idx, 3))
    (hck : M'.room.cells = 0) (hsk : M'.room.slots = 0) (kk : J l G M QF ck sk (pc + 3) L rest h1) : J l G M QF ck sk pc L st h :=
  J_callV V V2 ha C hh hst hn hrm hrest hd hck hsk kk
theorem J_callS1 {w : Value} {y : MethodName} {As : List Value} {n idx : Nat} (V : jLk M.own idx y M' n) (V2 : Cond.static y ∈ WT)
    (C : jC l G y M' As h (jE (.inl (some w)) h1)) (hh : M'.hh = []) (hst : st = As.reverse ++ rest) (hn : As.length = n) (hrm : jRm M M' = true) (hrest : Nat.ble (rest.map fun v => v.category).sum 8 = true) (hd : decode M.cc pc = .ok (.invokestatic idx, 3))
    (hck : M'.room.cells = 0) (hsk : M'.room.slots = 0) (kk : J l G M QF ck sk (pc + 3) L (w :: rest) h1) : J l G M QF ck sk pc L st h :=
  J_callS V V2 C hh hst hn hrm hrest hd hck hsk kk
theorem J_callS0 {y : MethodName} {As : List Value} {n idx : Nat} (V : jLk M.own idx y M' n) (V2 : Cond.static y ∈ WT)
    (C : jC l G y M' As h (jE (.inl none) h1)) (hh : M'.hh = []) (hst : st = As.reverse ++ rest) (hn : As.length = n) (hrm : jRm M M' = true) (hrest : Nat.ble (rest.map fun v => v.category).sum 8 = true) (hd : decode M.cc pc = .ok (.invokestatic idx, 3))
    (hck : M'.room.cells = 0) (hsk : M'.room.slots = 0) (kk : J l G M QF ck sk (pc + 3) L rest h1) : J l G M QF ck sk pc L st h :=
  J_callS V V2 C hh hst hn hrm hrest hd hck hsk kk
theorem J_callSN1 {w : Value} {y : MethodName} {host : String} {As : List Value} {n idx : Nat} (V : jLkN M.own idx y host M' n) (V2 : Cond.static y ∈ WT)
    (C : jC l G y M' As h (jE (.inl (some w)) h1)) (hh : M'.hh = []) (hst : st = As.reverse ++ rest) (hn : As.length = n) (hrm : jRm M M' = true) (hrest : Nat.ble (rest.map fun v => v.category).sum 8 = true) (hd : decode M.cc pc = .ok (.invokestatic idx, 3))
    (hck : M'.room.cells = 0) (hsk : M'.room.slots = 0) (kk : J l G M QF ck sk (pc + 3) L (w :: rest) h1) : J l G M QF ck sk pc L st h :=
  J_callSN V V2 C hh hst hn hrm hrest hd hck hsk kk
/-- a call that writes: it returns w, and leaves a heap with P -/
theorem J_callVW {P : jH → Prop} {y : MethodName} {As : List Value} {a ci n idx : Nat} {fs : List Value} {T : u_T} {N : Nat} (V : jLk M.own idx y M' n) (V2 : Cond.instanceMethod y ∈ WT ∧ Cond.selects y.cls y y ∈ WT ∧ vwCl[ci]? = some (y.cls, T, N)) (ha : h a = some (.inr (ci, fs)))
    (C : jC l G y M' (.ref a :: As) h (jW (.inl v) P)) (hh : M'.hh = []) (hst : st = As.reverse ++ .ref a :: rest) (hn : As.length = n) (hrm : jRm M M' = true) (hrest : Nat.ble (rest.map fun v => v.category).sum 8 = true) (hd : decode M.cc pc = .ok (.invokevirtual idx, 3))
    (hck : M'.room.cells = 0) (hsk : M'.room.slots = 0) (kk : ∀ h', P h' → J l G M QF ck sk (pc + 3) L (v.toList ++ rest) h') : J l G M QF ck sk pc L st h :=
  j_callV (ck' := ck) (sk' := sk) V V2 ha C hh hst hn hrm hrest hd (by omega) (by omega) (fun v' h' hp => by obtain ⟨e1, e2⟩ := hp; cases e1; exact kk _ e2) (fun E h' hp => by cases hp.1)
end JA
end
section
theorem dX0_init_0 : decode cX0_init 0 = .ok (.aload_n 0, 1) := by decide +kernel
theorem dX0_init_1 : decode cX0_init 1 = .ok (.invokespecial 3, 3) := by decide +kernel
theorem dX0_init_4 : decode cX0_init 4 = .ok (.aload_n 0, 1) := by decide +kernel
theorem dX0_init_5 : decode cX0_init 5 = .ok (.bipush 24, 2) := by decide +kernel
theorem dX0_init_7 : decode cX0_init 7 = .ok (.newarray .int, 2) := by decide +kernel
theorem dX0_init_9 : decode cX0_init 9 = .ok (.putfield 9, 3) := by decide +kernel
theorem dX0_init_12 : decode cX0_init 12 = .ok (.aload_n 0, 1) := by decide +kernel
theorem dX0_init_13 : decode cX0_init 13 = .ok (.bipush 24, 2) := by decide +kernel
theorem dX0_init_15 : decode cX0_init 15 = .ok (.newarray .int, 2) := by decide +kernel
theorem dX0_init_17 : decode cX0_init 17 = .ok (.putfield 15, 3) := by decide +kernel
theorem dX0_init_20 : decode cX0_init 20 = .ok (.aload_n 0, 1) := by decide +kernel
theorem dX0_init_21 : decode cX0_init 21 = .ok (.bipush 24, 2) := by decide +kernel
theorem dX0_init_23 : decode cX0_init 23 = .ok (.newarray .int, 2) := by decide +kernel
theorem dX0_init_25 : decode cX0_init 25 = .ok (.putfield 18, 3) := by decide +kernel
theorem dX0_init_28 : decode cX0_init 28 = .ok (.aload_n 0, 1) := by decide +kernel
theorem dX0_init_29 : decode cX0_init 29 = .ok (.bipush 24, 2) := by decide +kernel
theorem dX0_init_31 : decode cX0_init 31 = .ok (.newarray .int, 2) := by decide +kernel
theorem dX0_init_33 : decode cX0_init 33 = .ok (.putfield 21, 3) := by decide +kernel
theorem dX0_init_36 : decode cX0_init 36 = .ok (.aload_n 0, 1) := by decide +kernel
theorem dX0_init_37 : decode cX0_init 37 = .ok (.iconst 0, 1) := by decide +kernel
theorem dX0_init_38 : decode cX0_init 38 = .ok (.iconst 4, 1) := by decide +kernel
theorem dX0_init_39 : decode cX0_init 39 = .ok (.iconst 4, 1) := by decide +kernel
theorem dX0_init_40 : decode cX0_init 40 = .ok (.invokevirtual 24, 3) := by decide +kernel
theorem dX0_init_43 : decode cX0_init 43 = .ok (.return_, 1) := by decide +kernel
theorem dX0_isBar_0 : decode cX0_isBar 0 = .ok (.iload_n 0, 1) := by decide +kernel
theorem dX0_isBar_1 : decode cX0_isBar 1 = .ok (.ifCond .lt 13, 3) := by decide +kernel
theorem dX0_isBar_4 : decode cX0_isBar 4 = .ok (.iload_n 0, 1) := by decide +kernel
theorem dX0_isBar_5 : decode cX0_isBar 5 = .ok (.bipush 24, 2) := by decide +kernel
theorem dX0_isBar_7 : decode cX0_isBar 7 = .ok (.if_icmp .ge 7, 3) := by decide +kernel
theorem dX0_isBar_10 : decode cX0_isBar 10 = .ok (.iconst 1, 1) := by decide +kernel
theorem dX0_isBar_11 : decode cX0_isBar 11 = .ok (.goto 4, 3) := by decide +kernel
theorem dX0_isBar_14 : decode cX0_isBar 14 = .ok (.iconst 0, 1) := by decide +kernel
theorem dX0_isBar_15 : decode cX0_isBar 15 = .ok (.ireturn, 1) := by decide +kernel
theorem dX0_changeMetre_0 : decode cX0_changeMetre 0 = .ok (.iload_n 1, 1) := by decide +kernel
theorem dX0_changeMetre_1 : decode cX0_changeMetre 1 = .ok (.invokestatic 28, 3) := by decide +kernel
theorem dX0_changeMetre_4 : decode cX0_changeMetre 4 = .ok (.ifCond .eq 7, 3) := by decide +kernel
theorem dX0_changeMetre_7 : decode cX0_changeMetre 7 = .ok (.iload_n 3, 1) := by decide +kernel
theorem dX0_changeMetre_8 : decode cX0_changeMetre 8 = .ok (.ifCond .gt 4, 3) := by decide +kernel
theorem dX0_changeMetre_11 : decode cX0_changeMetre 11 = .ok (.return_, 1) := by decide +kernel
theorem dX0_changeMetre_12 : decode cX0_changeMetre 12 = .ok (.iload_n 1, 1) := by decide +kernel
theorem dX0_changeMetre_13 : decode cX0_changeMetre 13 = .ok (.istore 4, 2) := by decide +kernel
theorem dX0_changeMetre_15 : decode cX0_changeMetre 15 = .ok (.iload 4, 2) := by decide +kernel
theorem dX0_changeMetre_17 : decode cX0_changeMetre 17 = .ok (.bipush 24, 2) := by decide +kernel
theorem dX0_changeMetre_19 : decode cX0_changeMetre 19 = .ok (.if_icmp .ge 38, 3) := by decide +kernel
theorem dX0_changeMetre_22 : decode cX0_changeMetre 22 = .ok (.aload_n 0, 1) := by decide +kernel
theorem dX0_changeMetre_23 : decode cX0_changeMetre 23 = .ok (.getfield 9, 3) := by decide +kernel
theorem dX0_changeMetre_26 : decode cX0_changeMetre 26 = .ok (.iload 4, 2) := by decide +kernel
theorem dX0_changeMetre_28 : decode cX0_changeMetre 28 = .ok (.iload_n 2, 1) := by decide +kernel
theorem dX0_changeMetre_29 : decode cX0_changeMetre 29 = .ok (.iastore, 1) := by decide +kernel
theorem dX0_changeMetre_30 : decode cX0_changeMetre 30 = .ok (.aload_n 0, 1) := by decide +kernel
theorem dX0_changeMetre_31 : decode cX0_changeMetre 31 = .ok (.getfield 15, 3) := by decide +kernel
theorem dX0_changeMetre_34 : decode cX0_changeMetre 34 = .ok (.iload 4, 2) := by decide +kernel
theorem dX0_changeMetre_36 : decode cX0_changeMetre 36 = .ok (.iload_n 3, 1) := by decide +kernel
theorem dX0_changeMetre_37 : decode cX0_changeMetre 37 = .ok (.iastore, 1) := by decide +kernel
theorem dX0_changeMetre_38 : decode cX0_changeMetre 38 = .ok (.aload_n 0, 1) := by decide +kernel
theorem dX0_changeMetre_39 : decode cX0_changeMetre 39 = .ok (.getfield 18, 3) := by decide +kernel
theorem dX0_changeMetre_42 : decode cX0_changeMetre 42 = .ok (.iload 4, 2) := by decide +kernel
theorem dX0_changeMetre_44 : decode cX0_changeMetre 44 = .ok (.iload_n 2, 1) := by decide +kernel
theorem dX0_changeMetre_45 : decode cX0_changeMetre 45 = .ok (.bipush 64, 2) := by decide +kernel
theorem dX0_changeMetre_47 : decode cX0_changeMetre 47 = .ok (.imul, 1) := by decide +kernel
theorem dX0_changeMetre_48 : decode cX0_changeMetre 48 = .ok (.iload_n 3, 1) := by decide +kernel
theorem dX0_changeMetre_49 : decode cX0_changeMetre 49 = .ok (.idiv, 1) := by decide +kernel
theorem dX0_changeMetre_50 : decode cX0_changeMetre 50 = .ok (.iastore, 1) := by decide +kernel
theorem dX0_changeMetre_51 : decode cX0_changeMetre 51 = .ok (.iinc 4 1, 3) := by decide +kernel
theorem dX0_changeMetre_54 : decode cX0_changeMetre 54 = .ok (.goto (-39), 3) := by decide +kernel
theorem dX0_changeMetre_57 : decode cX0_changeMetre 57 = .ok (.aload_n 0, 1) := by decide +kernel
theorem dX0_changeMetre_58 : decode cX0_changeMetre 58 = .ok (.aload_n 0, 1) := by decide +kernel
theorem dX0_changeMetre_59 : decode cX0_changeMetre 59 = .ok (.bipush 24, 2) := by decide +kernel
theorem dX0_changeMetre_61 : decode cX0_changeMetre 61 = .ok (.invokevirtual 32, 3) := by decide +kernel
theorem dX0_changeMetre_64 : decode cX0_changeMetre 64 = .ok (.putfield 36, 3) := by decide +kernel
theorem dX0_changeMetre_67 : decode cX0_changeMetre 67 = .ok (.return_, 1) := by decide +kernel
theorem dX0_changeKey_0 : decode cX0_changeKey 0 = .ok (.iload_n 1, 1) := by decide +kernel
theorem dX0_changeKey_1 : decode cX0_changeKey 1 = .ok (.invokestatic 28, 3) := by decide +kernel
theorem dX0_changeKey_4 : decode cX0_changeKey 4 = .ok (.ifCond .ne 4, 3) := by decide +kernel
theorem dX0_changeKey_7 : decode cX0_changeKey 7 = .ok (.return_, 1) := by decide +kernel
theorem dX0_changeKey_8 : decode cX0_changeKey 8 = .ok (.iload_n 1, 1) := by decide +kernel
theorem dX0_changeKey_9 : decode cX0_changeKey 9 = .ok (.istore_n 3, 1) := by decide +kernel
theorem dX0_changeKey_10 : decode cX0_changeKey 10 = .ok (.iload_n 3, 1) := by decide +kernel
theorem dX0_changeKey_11 : decode cX0_changeKey 11 = .ok (.bipush 24, 2) := by decide +kernel
theorem dX0_changeKey_13 : decode cX0_changeKey 13 = .ok (.if_icmp .ge 16, 3) := by decide +kernel
theorem dX0_changeKey_16 : decode cX0_changeKey 16 = .ok (.aload_n 0, 1) := by decide +kernel
theorem dX0_changeKey_17 : decode cX0_changeKey 17 = .ok (.getfield 21, 3) := by decide +kernel
theorem dX0_changeKey_20 : decode cX0_changeKey 20 = .ok (.iload_n 3, 1) := by decide +kernel
theorem dX0_changeKey_21 : decode cX0_changeKey 21 = .ok (.iload_n 2, 1) := by decide +kernel
theorem dX0_changeKey_22 : decode cX0_changeKey 22 = .ok (.iastore, 1) := by decide +kernel
theorem dX0_changeKey_23 : decode cX0_changeKey 23 = .ok (.iinc 3 1, 3) := by decide +kernel
theorem dX0_changeKey_26 : decode cX0_changeKey 26 = .ok (.goto (-16), 3) := by decide +kernel
theorem dX0_changeKey_29 : decode cX0_changeKey 29 = .ok (.return_, 1) := by decide +kernel
theorem dX0_keyAt_0 : decode cX0_keyAt 0 = .ok (.iload_n 1, 1) := by decide +kernel
theorem dX0_keyAt_1 : decode cX0_keyAt 1 = .ok (.invokestatic 28, 3) := by decide +kernel
theorem dX0_keyAt_4 : decode cX0_keyAt 4 = .ok (.ifCond .eq 12, 3) := by decide +kernel
theorem dX0_keyAt_7 : decode cX0_keyAt 7 = .ok (.aload_n 0, 1) := by decide +kernel
theorem dX0_keyAt_8 : decode cX0_keyAt 8 = .ok (.getfield 21, 3) := by decide +kernel
theorem dX0_keyAt_11 : decode cX0_keyAt 11 = .ok (.iload_n 1, 1) := by decide +kernel
theorem dX0_keyAt_12 : decode cX0_keyAt 12 = .ok (.iaload, 1) := by decide +kernel
theorem dX0_keyAt_13 : decode cX0_keyAt 13 = .ok (.goto 4, 3) := by decide +kernel
theorem dX0_keyAt_16 : decode cX0_keyAt 16 = .ok (.iconst 0, 1) := by decide +kernel
theorem dX0_keyAt_17 : decode cX0_keyAt 17 = .ok (.ireturn, 1) := by decide +kernel
theorem dX0_lengthAt_0 : decode cX0_lengthAt 0 = .ok (.iload_n 1, 1) := by decide +kernel
theorem dX0_lengthAt_1 : decode cX0_lengthAt 1 = .ok (.invokestatic 28, 3) := by decide +kernel
theorem dX0_lengthAt_4 : decode cX0_lengthAt 4 = .ok (.ifCond .eq 12, 3) := by decide +kernel
theorem dX0_lengthAt_7 : decode cX0_lengthAt 7 = .ok (.aload_n 0, 1) := by decide +kernel
theorem dX0_lengthAt_8 : decode cX0_lengthAt 8 = .ok (.getfield 18, 3) := by decide +kernel
theorem dX0_lengthAt_11 : decode cX0_lengthAt 11 = .ok (.iload_n 1, 1) := by decide +kernel
theorem dX0_lengthAt_12 : decode cX0_lengthAt 12 = .ok (.iaload, 1) := by decide +kernel
theorem dX0_lengthAt_13 : decode cX0_lengthAt 13 = .ok (.goto 4, 3) := by decide +kernel
theorem dX0_lengthAt_16 : decode cX0_lengthAt 16 = .ok (.iconst 0, 1) := by decide +kernel
theorem dX0_lengthAt_17 : decode cX0_lengthAt 17 = .ok (.ireturn, 1) := by decide +kernel
theorem dX0_beginAt_0 : decode cX0_beginAt 0 = .ok (.iconst 0, 1) := by decide +kernel
theorem dX0_beginAt_1 : decode cX0_beginAt 1 = .ok (.istore_n 2, 1) := by decide +kernel
theorem dX0_beginAt_2 : decode cX0_beginAt 2 = .ok (.iconst 0, 1) := by decide +kernel
theorem dX0_beginAt_3 : decode cX0_beginAt 3 = .ok (.istore_n 3, 1) := by decide +kernel
theorem dX0_beginAt_4 : decode cX0_beginAt 4 = .ok (.iload_n 3, 1) := by decide +kernel
theorem dX0_beginAt_5 : decode cX0_beginAt 5 = .ok (.iload_n 1, 1) := by decide +kernel
theorem dX0_beginAt_6 : decode cX0_beginAt 6 = .ok (.if_icmp .ge 24, 3) := by decide +kernel
theorem dX0_beginAt_9 : decode cX0_beginAt 9 = .ok (.iload_n 3, 1) := by decide +kernel
theorem dX0_beginAt_10 : decode cX0_beginAt 10 = .ok (.bipush 24, 2) := by decide +kernel
theorem dX0_beginAt_12 : decode cX0_beginAt 12 = .ok (.if_icmp .ge 18, 3) := by decide +kernel
theorem dX0_beginAt_15 : decode cX0_beginAt 15 = .ok (.iload_n 2, 1) := by decide +kernel
theorem dX0_beginAt_16 : decode cX0_beginAt 16 = .ok (.aload_n 0, 1) := by decide +kernel
theorem dX0_beginAt_17 : decode cX0_beginAt 17 = .ok (.getfield 18, 3) := by decide +kernel
theorem dX0_beginAt_20 : decode cX0_beginAt 20 = .ok (.iload_n 3, 1) := by decide +kernel
theorem dX0_beginAt_21 : decode cX0_beginAt 21 = .ok (.iaload, 1) := by decide +kernel
theorem dX0_beginAt_22 : decode cX0_beginAt 22 = .ok (.iadd, 1) := by decide +kernel
theorem dX0_beginAt_23 : decode cX0_beginAt 23 = .ok (.istore_n 2, 1) := by decide +kernel
theorem dX0_beginAt_24 : decode cX0_beginAt 24 = .ok (.iinc 3 1, 3) := by decide +kernel
theorem dX0_beginAt_27 : decode cX0_beginAt 27 = .ok (.goto (-23), 3) := by decide +kernel
theorem dX0_beginAt_30 : decode cX0_beginAt 30 = .ok (.iload_n 2, 1) := by decide +kernel
theorem dX0_beginAt_31 : decode cX0_beginAt 31 = .ok (.ireturn, 1) := by decide +kernel
theorem dX0_end_0 : decode cX0_end 0 = .ok (.aload_n 0, 1) := by decide +kernel
theorem dX0_end_1 : decode cX0_end 1 = .ok (.getfield 36, 3) := by decide +kernel
theorem dX0_end_4 : decode cX0_end 4 = .ok (.ireturn, 1) := by decide +kernel
theorem dX0_barAt_0 : decode cX0_barAt 0 = .ok (.iconst 0, 1) := by decide +kernel
theorem dX0_barAt_1 : decode cX0_barAt 1 = .ok (.istore_n 2, 1) := by decide +kernel
theorem dX0_barAt_2 : decode cX0_barAt 2 = .ok (.iconst 0, 1) := by decide +kernel
theorem dX0_barAt_3 : decode cX0_barAt 3 = .ok (.istore_n 3, 1) := by decide +kernel
theorem dX0_barAt_4 : decode cX0_barAt 4 = .ok (.iload_n 3, 1) := by decide +kernel
theorem dX0_barAt_5 : decode cX0_barAt 5 = .ok (.bipush 24, 2) := by decide +kernel
theorem dX0_barAt_7 : decode cX0_barAt 7 = .ok (.if_icmp .ge 25, 3) := by decide +kernel
theorem dX0_barAt_10 : decode cX0_barAt 10 = .ok (.iload_n 2, 1) := by decide +kernel
theorem dX0_barAt_11 : decode cX0_barAt 11 = .ok (.aload_n 0, 1) := by decide +kernel
theorem dX0_barAt_12 : decode cX0_barAt 12 = .ok (.getfield 18, 3) := by decide +kernel
theorem dX0_barAt_15 : decode cX0_barAt 15 = .ok (.iload_n 3, 1) := by decide +kernel
theorem dX0_barAt_16 : decode cX0_barAt 16 = .ok (.iaload, 1) := by decide +kernel
theorem dX0_barAt_17 : decode cX0_barAt 17 = .ok (.iadd, 1) := by decide +kernel
theorem dX0_barAt_18 : decode cX0_barAt 18 = .ok (.istore_n 2, 1) := by decide +kernel
theorem dX0_barAt_19 : decode cX0_barAt 19 = .ok (.iload_n 1, 1) := by decide +kernel
theorem dX0_barAt_20 : decode cX0_barAt 20 = .ok (.iload_n 2, 1) := by decide +kernel
theorem dX0_barAt_21 : decode cX0_barAt 21 = .ok (.if_icmp .ge 5, 3) := by decide +kernel
theorem dX0_barAt_24 : decode cX0_barAt 24 = .ok (.iload_n 3, 1) := by decide +kernel
theorem dX0_barAt_25 : decode cX0_barAt 25 = .ok (.ireturn, 1) := by decide +kernel
theorem dX0_barAt_26 : decode cX0_barAt 26 = .ok (.iinc 3 1, 3) := by decide +kernel
theorem dX0_barAt_29 : decode cX0_barAt 29 = .ok (.goto (-25), 3) := by decide +kernel
theorem dX0_barAt_32 : decode cX0_barAt 32 = .ok (.iconst (-1), 1) := by decide +kernel
theorem dX0_barAt_33 : decode cX0_barAt 33 = .ok (.ireturn, 1) := by decide +kernel
theorem dX0_barsUpTo_0 : decode cX0_barsUpTo 0 = .ok (.iload_n 1, 1) := by decide +kernel
theorem dX0_barsUpTo_1 : decode cX0_barsUpTo 1 = .ok (.ifCond .gt 5, 3) := by decide +kernel
theorem dX0_barsUpTo_4 : decode cX0_barsUpTo 4 = .ok (.iconst 0, 1) := by decide +kernel
theorem dX0_barsUpTo_5 : decode cX0_barsUpTo 5 = .ok (.ireturn, 1) := by decide +kernel
theorem dX0_barsUpTo_6 : decode cX0_barsUpTo 6 = .ok (.iload_n 1, 1) := by decide +kernel
theorem dX0_barsUpTo_7 : decode cX0_barsUpTo 7 = .ok (.aload_n 0, 1) := by decide +kernel
theorem dX0_barsUpTo_8 : decode cX0_barsUpTo 8 = .ok (.getfield 36, 3) := by decide +kernel
theorem dX0_barsUpTo_11 : decode cX0_barsUpTo 11 = .ok (.if_icmp .gt 15, 3) := by decide +kernel
theorem dX0_barsUpTo_14 : decode cX0_barsUpTo 14 = .ok (.aload_n 0, 1) := by decide +kernel
theorem dX0_barsUpTo_15 : decode cX0_barsUpTo 15 = .ok (.iload_n 1, 1) := by decide +kernel
theorem dX0_barsUpTo_16 : decode cX0_barsUpTo 16 = .ok (.iconst 1, 1) := by decide +kernel
theorem dX0_barsUpTo_17 : decode cX0_barsUpTo 17 = .ok (.isub, 1) := by decide +kernel
theorem dX0_barsUpTo_18 : decode cX0_barsUpTo 18 = .ok (.invokevirtual 40, 3) := by decide +kernel
theorem dX0_barsUpTo_21 : decode cX0_barsUpTo 21 = .ok (.iconst 1, 1) := by decide +kernel
theorem dX0_barsUpTo_22 : decode cX0_barsUpTo 22 = .ok (.iadd, 1) := by decide +kernel
theorem dX0_barsUpTo_23 : decode cX0_barsUpTo 23 = .ok (.goto 5, 3) := by decide +kernel
theorem dX0_barsUpTo_26 : decode cX0_barsUpTo 26 = .ok (.bipush 24, 2) := by decide +kernel
theorem dX0_barsUpTo_28 : decode cX0_barsUpTo 28 = .ok (.ireturn, 1) := by decide +kernel
theorem dX0_ticksBehind_0 : decode cX0_ticksBehind 0 = .ok (.aload_n 0, 1) := by decide +kernel
theorem dX0_ticksBehind_1 : decode cX0_ticksBehind 1 = .ok (.iload_n 2, 1) := by decide +kernel
theorem dX0_ticksBehind_2 : decode cX0_ticksBehind 2 = .ok (.invokevirtual 32, 3) := by decide +kernel
theorem dX0_ticksBehind_5 : decode cX0_ticksBehind 5 = .ok (.aload_n 0, 1) := by decide +kernel
theorem dX0_ticksBehind_6 : decode cX0_ticksBehind 6 = .ok (.iload_n 2, 1) := by decide +kernel
theorem dX0_ticksBehind_7 : decode cX0_ticksBehind 7 = .ok (.invokevirtual 43, 3) := by decide +kernel
theorem dX0_ticksBehind_10 : decode cX0_ticksBehind 10 = .ok (.iadd, 1) := by decide +kernel
theorem dX0_ticksBehind_11 : decode cX0_ticksBehind 11 = .ok (.istore_n 3, 1) := by decide +kernel
theorem dX0_ticksBehind_12 : decode cX0_ticksBehind 12 = .ok (.iconst 0, 1) := by decide +kernel
theorem dX0_ticksBehind_13 : decode cX0_ticksBehind 13 = .ok (.aload_n 0, 1) := by decide +kernel
theorem dX0_ticksBehind_14 : decode cX0_ticksBehind 14 = .ok (.iload_n 2, 1) := by decide +kernel
theorem dX0_ticksBehind_15 : decode cX0_ticksBehind 15 = .ok (.invokevirtual 43, 3) := by decide +kernel
theorem dX0_ticksBehind_18 : decode cX0_ticksBehind 18 = .ok (.iload_n 3, 1) := by decide +kernel
theorem dX0_ticksBehind_19 : decode cX0_ticksBehind 19 = .ok (.iload_n 1, 1) := by decide +kernel
theorem dX0_ticksBehind_20 : decode cX0_ticksBehind 20 = .ok (.isub, 1) := by decide +kernel
theorem dX0_ticksBehind_21 : decode cX0_ticksBehind 21 = .ok (.invokestatic 46, 3) := by decide +kernel
theorem dX0_ticksBehind_24 : decode cX0_ticksBehind 24 = .ok (.invokestatic 52, 3) := by decide +kernel
theorem dX0_ticksBehind_27 : decode cX0_ticksBehind 27 = .ok (.ireturn, 1) := by decide +kernel
theorem dX0_groupLengthAt_0 : decode cX0_groupLengthAt 0 = .ok (.iload_n 1, 1) := by decide +kernel
theorem dX0_groupLengthAt_1 : decode cX0_groupLengthAt 1 = .ok (.invokestatic 28, 3) := by decide +kernel
theorem dX0_groupLengthAt_4 : decode cX0_groupLengthAt 4 = .ok (.ifCond .ne 6, 3) := by decide +kernel
theorem dX0_groupLengthAt_7 : decode cX0_groupLengthAt 7 = .ok (.bipush 16, 2) := by decide +kernel
theorem dX0_groupLengthAt_9 : decode cX0_groupLengthAt 9 = .ok (.ireturn, 1) := by decide +kernel
theorem dX0_groupLengthAt_10 : decode cX0_groupLengthAt 10 = .ok (.aload_n 0, 1) := by decide +kernel
theorem dX0_groupLengthAt_11 : decode cX0_groupLengthAt 11 = .ok (.getfield 15, 3) := by decide +kernel
theorem dX0_groupLengthAt_14 : decode cX0_groupLengthAt 14 = .ok (.iload_n 1, 1) := by decide +kernel
theorem dX0_groupLengthAt_15 : decode cX0_groupLengthAt 15 = .ok (.iaload, 1) := by decide +kernel
theorem dX0_groupLengthAt_16 : decode cX0_groupLengthAt 16 = .ok (.bipush 8, 2) := by decide +kernel
theorem dX0_groupLengthAt_18 : decode cX0_groupLengthAt 18 = .ok (.if_icmp .ne 17, 3) := by decide +kernel
theorem dX0_groupLengthAt_21 : decode cX0_groupLengthAt 21 = .ok (.aload_n 0, 1) := by decide +kernel
theorem dX0_groupLengthAt_22 : decode cX0_groupLengthAt 22 = .ok (.getfield 9, 3) := by decide +kernel
theorem dX0_groupLengthAt_25 : decode cX0_groupLengthAt 25 = .ok (.iload_n 1, 1) := by decide +kernel
theorem dX0_groupLengthAt_26 : decode cX0_groupLengthAt 26 = .ok (.iaload, 1) := by decide +kernel
theorem dX0_groupLengthAt_27 : decode cX0_groupLengthAt 27 = .ok (.iconst 3, 1) := by decide +kernel
theorem dX0_groupLengthAt_28 : decode cX0_groupLengthAt 28 = .ok (.irem, 1) := by decide +kernel
theorem dX0_groupLengthAt_29 : decode cX0_groupLengthAt 29 = .ok (.ifCond .ne 6, 3) := by decide +kernel
theorem dX0_groupLengthAt_32 : decode cX0_groupLengthAt 32 = .ok (.bipush 24, 2) := by decide +kernel
theorem dX0_groupLengthAt_34 : decode cX0_groupLengthAt 34 = .ok (.ireturn, 1) := by decide +kernel
theorem dX0_groupLengthAt_35 : decode cX0_groupLengthAt 35 = .ok (.aload_n 0, 1) := by decide +kernel
theorem dX0_groupLengthAt_36 : decode cX0_groupLengthAt 36 = .ok (.getfield 15, 3) := by decide +kernel
theorem dX0_groupLengthAt_39 : decode cX0_groupLengthAt 39 = .ok (.iload_n 1, 1) := by decide +kernel
theorem dX0_groupLengthAt_40 : decode cX0_groupLengthAt 40 = .ok (.iaload, 1) := by decide +kernel
theorem dX0_groupLengthAt_41 : decode cX0_groupLengthAt 41 = .ok (.iconst 2, 1) := by decide +kernel
theorem dX0_groupLengthAt_42 : decode cX0_groupLengthAt 42 = .ok (.if_icmp .ne 8, 3) := by decide +kernel
theorem dX0_groupLengthAt_45 : decode cX0_groupLengthAt 45 = .ok (.bipush 32, 2) := by decide +kernel
theorem dX0_groupLengthAt_47 : decode cX0_groupLengthAt 47 = .ok (.goto 5, 3) := by decide +kernel
theorem dX0_groupLengthAt_50 : decode cX0_groupLengthAt 50 = .ok (.bipush 16, 2) := by decide +kernel
theorem dX0_groupLengthAt_52 : decode cX0_groupLengthAt 52 = .ok (.ireturn, 1) := by decide +kernel
theorem dX1_init_0 : decode cX1_init 0 = .ok (.aload_n 0, 1) := by decide +kernel
theorem dX1_init_1 : decode cX1_init 1 = .ok (.invokespecial 3, 3) := by decide +kernel
theorem dX1_init_4 : decode cX1_init 4 = .ok (.aload_n 0, 1) := by decide +kernel
theorem dX1_init_5 : decode cX1_init 5 = .ok (.iconst (-1), 1) := by decide +kernel
theorem dX1_init_6 : decode cX1_init 6 = .ok (.putfield 9, 3) := by decide +kernel
theorem dX1_init_9 : decode cX1_init 9 = .ok (.aload_n 0, 1) := by decide +kernel
theorem dX1_init_10 : decode cX1_init 10 = .ok (.iconst (-1), 1) := by decide +kernel
theorem dX1_init_11 : decode cX1_init 11 = .ok (.putfield 15, 3) := by decide +kernel
theorem dX1_init_14 : decode cX1_init 14 = .ok (.aload_n 0, 1) := by decide +kernel
theorem dX1_init_15 : decode cX1_init 15 = .ok (.iconst (-1), 1) := by decide +kernel
theorem dX1_init_16 : decode cX1_init 16 = .ok (.putfield 18, 3) := by decide +kernel
theorem dX1_init_19 : decode cX1_init 19 = .ok (.return_, 1) := by decide +kernel
theorem dX1_rootClass_0 : decode cX1_rootClass 0 = .ok (.aload_n 0, 1) := by decide +kernel
theorem dX1_rootClass_1 : decode cX1_rootClass 1 = .ok (.getfield 9, 3) := by decide +kernel
theorem dX1_rootClass_4 : decode cX1_rootClass 4 = .ok (.ireturn, 1) := by decide +kernel
theorem dX1_kindNumber_0 : decode cX1_kindNumber 0 = .ok (.aload_n 0, 1) := by decide +kernel
theorem dX1_kindNumber_1 : decode cX1_kindNumber 1 = .ok (.getfield 15, 3) := by decide +kernel
theorem dX1_kindNumber_4 : decode cX1_kindNumber 4 = .ok (.ireturn, 1) := by decide +kernel
theorem dX1_lowestTone_0 : decode cX1_lowestTone 0 = .ok (.aload_n 0, 1) := by decide +kernel
theorem dX1_lowestTone_1 : decode cX1_lowestTone 1 = .ok (.getfield 18, 3) := by decide +kernel
theorem dX1_lowestTone_4 : decode cX1_lowestTone 4 = .ok (.ireturn, 1) := by decide +kernel
theorem dX1_tell_0 : decode cX1_tell 0 = .ok (.iconst 0, 1) := by decide +kernel
theorem dX1_tell_1 : decode cX1_tell 1 = .ok (.istore 4, 2) := by decide +kernel
theorem dX1_tell_3 : decode cX1_tell 3 = .ok (.iconst (-1), 1) := by decide +kernel
theorem dX1_tell_4 : decode cX1_tell 4 = .ok (.istore 5, 2) := by decide +kernel
theorem dX1_tell_6 : decode cX1_tell 6 = .ok (.iconst 0, 1) := by decide +kernel
theorem dX1_tell_7 : decode cX1_tell 7 = .ok (.istore 6, 2) := by decide +kernel
theorem dX1_tell_9 : decode cX1_tell 9 = .ok (.iload 6, 2) := by decide +kernel
theorem dX1_tell_11 : decode cX1_tell 11 = .ok (.aload_n 1, 1) := by decide +kernel
theorem dX1_tell_12 : decode cX1_tell 12 = .ok (.arraylength, 1) := by decide +kernel
theorem dX1_tell_13 : decode cX1_tell 13 = .ok (.if_icmp .ge 62, 3) := by decide +kernel
theorem dX1_tell_16 : decode cX1_tell 16 = .ok (.aload_n 1, 1) := by decide +kernel
theorem dX1_tell_17 : decode cX1_tell 17 = .ok (.iload 6, 2) := by decide +kernel
theorem dX1_tell_19 : decode cX1_tell 19 = .ok (.aaload, 1) := by decide +kernel
theorem dX1_tell_20 : decode cX1_tell 20 = .ok (.aload_n 2, 1) := by decide +kernel
theorem dX1_tell_21 : decode cX1_tell 21 = .ok (.iload_n 3, 1) := by decide +kernel
theorem dX1_tell_22 : decode cX1_tell 22 = .ok (.iload 6, 2) := by decide +kernel
theorem dX1_tell_24 : decode cX1_tell 24 = .ok (.invokevirtual 21, 3) := by decide +kernel
theorem dX1_tell_27 : decode cX1_tell 27 = .ok (.invokevirtual 27, 3) := by decide +kernel
theorem dX1_tell_30 : decode cX1_tell 30 = .ok (.istore 7, 2) := by decide +kernel
theorem dX1_tell_32 : decode cX1_tell 32 = .ok (.iload 7, 2) := by decide +kernel
theorem dX1_tell_34 : decode cX1_tell 34 = .ok (.ifCond .lt 35, 3) := by decide +kernel
theorem dX1_tell_37 : decode cX1_tell 37 = .ok (.iload 4, 2) := by decide +kernel
theorem dX1_tell_39 : decode cX1_tell 39 = .ok (.iconst 1, 1) := by decide +kernel
theorem dX1_tell_40 : decode cX1_tell 40 = .ok (.iload 7, 2) := by decide +kernel
theorem dX1_tell_42 : decode cX1_tell 42 = .ok (.bipush 12, 2) := by decide +kernel
theorem dX1_tell_44 : decode cX1_tell 44 = .ok (.irem, 1) := by decide +kernel
theorem dX1_tell_45 : decode cX1_tell 45 = .ok (.ishl, 1) := by decide +kernel
theorem dX1_tell_46 : decode cX1_tell 46 = .ok (.ior, 1) := by decide +kernel
theorem dX1_tell_47 : decode cX1_tell 47 = .ok (.istore 4, 2) := by decide +kernel
theorem dX1_tell_49 : decode cX1_tell 49 = .ok (.iload 5, 2) := by decide +kernel
theorem dX1_tell_51 : decode cX1_tell 51 = .ok (.iconst (-1), 1) := by decide +kernel
theorem dX1_tell_52 : decode cX1_tell 52 = .ok (.if_icmp .ne 8, 3) := by decide +kernel
theorem dX1_tell_55 : decode cX1_tell 55 = .ok (.iload 7, 2) := by decide +kernel
theorem dX1_tell_57 : decode cX1_tell 57 = .ok (.goto 10, 3) := by decide +kernel
theorem dX1_tell_60 : decode cX1_tell 60 = .ok (.iload 5, 2) := by decide +kernel
theorem dX1_tell_62 : decode cX1_tell 62 = .ok (.iload 7, 2) := by decide +kernel
theorem dX1_tell_64 : decode cX1_tell 64 = .ok (.invokestatic 33, 3) := by decide +kernel
theorem dX1_tell_67 : decode cX1_tell 67 = .ok (.istore 5, 2) := by decide +kernel
theorem dX1_tell_69 : decode cX1_tell 69 = .ok (.iinc 6 1, 3) := by decide +kernel
theorem dX1_tell_72 : decode cX1_tell 72 = .ok (.goto (-63), 3) := by decide +kernel
theorem dX1_tell_75 : decode cX1_tell 75 = .ok (.aload_n 0, 1) := by decide +kernel
theorem dX1_tell_76 : decode cX1_tell 76 = .ok (.invokevirtual 38, 3) := by decide +kernel
theorem dX1_tell_79 : decode cX1_tell 79 = .ok (.iload 4, 2) := by decide +kernel
theorem dX1_tell_81 : decode cX1_tell 81 = .ok (.invokestatic 41, 3) := by decide +kernel
theorem dX1_tell_84 : decode cX1_tell 84 = .ok (.iconst 3, 1) := by decide +kernel
theorem dX1_tell_85 : decode cX1_tell 85 = .ok (.if_icmp .ne 14, 3) := by decide +kernel
theorem dX1_tell_88 : decode cX1_tell 88 = .ok (.aload_n 0, 1) := by decide +kernel
theorem dX1_tell_89 : decode cX1_tell 89 = .ok (.iload 4, 2) := by decide +kernel
theorem dX1_tell_91 : decode cX1_tell 91 = .ok (.iload 5, 2) := by decide +kernel
theorem dX1_tell_93 : decode cX1_tell 93 = .ok (.bipush 12, 2) := by decide +kernel
theorem dX1_tell_95 : decode cX1_tell 95 = .ok (.irem, 1) := by decide +kernel
theorem dX1_tell_96 : decode cX1_tell 96 = .ok (.invokevirtual 46, 3) := by decide +kernel
theorem dX1_tell_99 : decode cX1_tell 99 = .ok (.return_, 1) := by decide +kernel
theorem dX1_forget_0 : decode cX1_forget 0 = .ok (.aload_n 0, 1) := by decide +kernel
theorem dX1_forget_1 : decode cX1_forget 1 = .ok (.iconst (-1), 1) := by decide +kernel
theorem dX1_forget_2 : decode cX1_forget 2 = .ok (.putfield 9, 3) := by decide +kernel
theorem dX1_forget_5 : decode cX1_forget 5 = .ok (.aload_n 0, 1) := by decide +kernel
theorem dX1_forget_6 : decode cX1_forget 6 = .ok (.iconst (-1), 1) := by decide +kernel
theorem dX1_forget_7 : decode cX1_forget 7 = .ok (.putfield 15, 3) := by decide +kernel
theorem dX1_forget_10 : decode cX1_forget 10 = .ok (.aload_n 0, 1) := by decide +kernel
theorem dX1_forget_11 : decode cX1_forget 11 = .ok (.iconst (-1), 1) := by decide +kernel
theorem dX1_forget_12 : decode cX1_forget 12 = .ok (.putfield 18, 3) := by decide +kernel
theorem dX1_forget_15 : decode cX1_forget 15 = .ok (.return_, 1) := by decide +kernel
theorem dX1_findRoot_0 : decode cX1_findRoot 0 = .ok (.iconst 0, 1) := by decide +kernel
theorem dX1_findRoot_1 : decode cX1_findRoot 1 = .ok (.istore_n 3, 1) := by decide +kernel
theorem dX1_findRoot_2 : decode cX1_findRoot 2 = .ok (.iload_n 3, 1) := by decide +kernel
theorem dX1_findRoot_3 : decode cX1_findRoot 3 = .ok (.bipush 12, 2) := by decide +kernel
theorem dX1_findRoot_5 : decode cX1_findRoot 5 = .ok (.if_icmp .ge 33, 3) := by decide +kernel
theorem dX1_findRoot_8 : decode cX1_findRoot 8 = .ok (.aload_n 0, 1) := by decide +kernel
theorem dX1_findRoot_9 : decode cX1_findRoot 9 = .ok (.getfield 9, 3) := by decide +kernel
theorem dX1_findRoot_12 : decode cX1_findRoot 12 = .ok (.iconst (-1), 1) := by decide +kernel
theorem dX1_findRoot_13 : decode cX1_findRoot 13 = .ok (.if_icmp .ne 25, 3) := by decide +kernel
theorem dX1_findRoot_16 : decode cX1_findRoot 16 = .ok (.iload_n 1, 1) := by decide +kernel
theorem dX1_findRoot_17 : decode cX1_findRoot 17 = .ok (.iload_n 3, 1) := by decide +kernel
theorem dX1_findRoot_18 : decode cX1_findRoot 18 = .ok (.ishr, 1) := by decide +kernel
theorem dX1_findRoot_19 : decode cX1_findRoot 19 = .ok (.iconst 1, 1) := by decide +kernel
theorem dX1_findRoot_20 : decode cX1_findRoot 20 = .ok (.iand, 1) := by decide +kernel
theorem dX1_findRoot_21 : decode cX1_findRoot 21 = .ok (.iconst 1, 1) := by decide +kernel
theorem dX1_findRoot_22 : decode cX1_findRoot 22 = .ok (.if_icmp .ne 10, 3) := by decide +kernel
theorem dX1_findRoot_25 : decode cX1_findRoot 25 = .ok (.aload_n 0, 1) := by decide +kernel
theorem dX1_findRoot_26 : decode cX1_findRoot 26 = .ok (.iload_n 1, 1) := by decide +kernel
theorem dX1_findRoot_27 : decode cX1_findRoot 27 = .ok (.iload_n 3, 1) := by decide +kernel
theorem dX1_findRoot_28 : decode cX1_findRoot 28 = .ok (.iload_n 2, 1) := by decide +kernel
theorem dX1_findRoot_29 : decode cX1_findRoot 29 = .ok (.invokevirtual 50, 3) := by decide +kernel
theorem dX1_findRoot_32 : decode cX1_findRoot 32 = .ok (.iinc 3 1, 3) := by decide +kernel
theorem dX1_findRoot_35 : decode cX1_findRoot 35 = .ok (.goto (-33), 3) := by decide +kernel
theorem dX1_findRoot_38 : decode cX1_findRoot 38 = .ok (.return_, 1) := by decide +kernel
theorem dX1_findKind_0 : decode cX1_findKind 0 = .ok (.iconst 0, 1) := by decide +kernel
theorem dX1_findKind_1 : decode cX1_findKind 1 = .ok (.istore 4, 2) := by decide +kernel
theorem dX1_findKind_3 : decode cX1_findKind 3 = .ok (.iload 4, 2) := by decide +kernel
theorem dX1_findKind_5 : decode cX1_findKind 5 = .ok (.getstatic 54, 3) := by decide +kernel
theorem dX1_findKind_8 : decode cX1_findKind 8 = .ok (.arraylength, 1) := by decide +kernel
theorem dX1_findKind_9 : decode cX1_findKind 9 = .ok (.if_icmp .ge 119, 3) := by decide +kernel
theorem dX1_findKind_12 : decode cX1_findKind 12 = .ok (.iload 4, 2) := by decide +kernel
theorem dX1_findKind_14 : decode cX1_findKind 14 = .ok (.getstatic 58, 3) := by decide +kernel
theorem dX1_findKind_17 : decode cX1_findKind 17 = .ok (.arraylength, 1) := by decide +kernel
theorem dX1_findKind_18 : decode cX1_findKind 18 = .ok (.if_icmp .ge 110, 3) := by decide +kernel
theorem dX1_findKind_21 : decode cX1_findKind 21 = .ok (.iload_n 2, 1) := by decide +kernel
theorem dX1_findKind_22 : decode cX1_findKind 22 = .ok (.getstatic 54, 3) := by decide +kernel
theorem dX1_findKind_25 : decode cX1_findKind 25 = .ok (.iload 4, 2) := by decide +kernel
theorem dX1_findKind_27 : decode cX1_findKind 27 = .ok (.iaload, 1) := by decide +kernel
theorem dX1_findKind_28 : decode cX1_findKind 28 = .ok (.iadd, 1) := by decide +kernel
theorem dX1_findKind_29 : decode cX1_findKind 29 = .ok (.bipush 12, 2) := by decide +kernel
theorem dX1_findKind_31 : decode cX1_findKind 31 = .ok (.irem, 1) := by decide +kernel
theorem dX1_findKind_32 : decode cX1_findKind 32 = .ok (.istore 5, 2) := by decide +kernel
theorem dX1_findKind_34 : decode cX1_findKind 34 = .ok (.iload_n 2, 1) := by decide +kernel
theorem dX1_findKind_35 : decode cX1_findKind 35 = .ok (.getstatic 58, 3) := by decide +kernel
theorem dX1_findKind_38 : decode cX1_findKind 38 = .ok (.iload 4, 2) := by decide +kernel
theorem dX1_findKind_40 : decode cX1_findKind 40 = .ok (.iaload, 1) := by decide +kernel
theorem dX1_findKind_41 : decode cX1_findKind 41 = .ok (.iadd, 1) := by decide +kernel
theorem dX1_findKind_42 : decode cX1_findKind 42 = .ok (.bipush 12, 2) := by decide +kernel
theorem dX1_findKind_44 : decode cX1_findKind 44 = .ok (.irem, 1) := by decide +kernel
theorem dX1_findKind_45 : decode cX1_findKind 45 = .ok (.istore 6, 2) := by decide +kernel
theorem dX1_findKind_47 : decode cX1_findKind 47 = .ok (.iload 4, 2) := by decide +kernel
theorem dX1_findKind_49 : decode cX1_findKind 49 = .ok (.iconst 3, 1) := by decide +kernel
theorem dX1_findKind_50 : decode cX1_findKind 50 = .ok (.if_icmp .ne 8, 3) := by decide +kernel
theorem dX1_findKind_53 : decode cX1_findKind 53 = .ok (.iload_n 2, 1) := by decide +kernel
theorem dX1_findKind_54 : decode cX1_findKind 54 = .ok (.iload_n 3, 1) := by decide +kernel
theorem dX1_findKind_55 : decode cX1_findKind 55 = .ok (.if_icmp .ne 7, 3) := by decide +kernel
theorem dX1_findKind_58 : decode cX1_findKind 58 = .ok (.iconst 1, 1) := by decide +kernel
theorem dX1_findKind_59 : decode cX1_findKind 59 = .ok (.goto 4, 3) := by decide +kernel
theorem dX1_findKind_62 : decode cX1_findKind 62 = .ok (.iconst 0, 1) := by decide +kernel
theorem dX1_findKind_63 : decode cX1_findKind 63 = .ok (.istore 7, 2) := by decide +kernel
theorem dX1_findKind_65 : decode cX1_findKind 65 = .ok (.iload 7, 2) := by decide +kernel
theorem dX1_findKind_67 : decode cX1_findKind 67 = .ok (.ifCond .eq 55, 3) := by decide +kernel
theorem dX1_findKind_70 : decode cX1_findKind 70 = .ok (.iload_n 1, 1) := by decide +kernel
theorem dX1_findKind_71 : decode cX1_findKind 71 = .ok (.iconst 1, 1) := by decide +kernel
theorem dX1_findKind_72 : decode cX1_findKind 72 = .ok (.iload_n 2, 1) := by decide +kernel
theorem dX1_findKind_73 : decode cX1_findKind 73 = .ok (.ishl, 1) := by decide +kernel
theorem dX1_findKind_74 : decode cX1_findKind 74 = .ok (.iconst 1, 1) := by decide +kernel
theorem dX1_findKind_75 : decode cX1_findKind 75 = .ok (.iload 5, 2) := by decide +kernel
theorem dX1_findKind_77 : decode cX1_findKind 77 = .ok (.ishl, 1) := by decide +kernel
theorem dX1_findKind_78 : decode cX1_findKind 78 = .ok (.ior, 1) := by decide +kernel
theorem dX1_findKind_79 : decode cX1_findKind 79 = .ok (.iconst 1, 1) := by decide +kernel
theorem dX1_findKind_80 : decode cX1_findKind 80 = .ok (.iload 6, 2) := by decide +kernel
theorem dX1_findKind_82 : decode cX1_findKind 82 = .ok (.ishl, 1) := by decide +kernel
theorem dX1_findKind_83 : decode cX1_findKind 83 = .ok (.ior, 1) := by decide +kernel
theorem dX1_findKind_84 : decode cX1_findKind 84 = .ok (.if_icmp .ne 38, 3) := by decide +kernel
theorem dX1_findKind_87 : decode cX1_findKind 87 = .ok (.aload_n 0, 1) := by decide +kernel
theorem dX1_findKind_88 : decode cX1_findKind 88 = .ok (.iload_n 2, 1) := by decide +kernel
theorem dX1_findKind_89 : decode cX1_findKind 89 = .ok (.putfield 9, 3) := by decide +kernel
theorem dX1_findKind_92 : decode cX1_findKind 92 = .ok (.aload_n 0, 1) := by decide +kernel
theorem dX1_findKind_93 : decode cX1_findKind 93 = .ok (.iload 4, 2) := by decide +kernel
theorem dX1_findKind_95 : decode cX1_findKind 95 = .ok (.putfield 15, 3) := by decide +kernel
theorem dX1_findKind_98 : decode cX1_findKind 98 = .ok (.aload_n 0, 1) := by decide +kernel
theorem dX1_findKind_99 : decode cX1_findKind 99 = .ok (.iload_n 3, 1) := by decide +kernel
theorem dX1_findKind_100 : decode cX1_findKind 100 = .ok (.iload_n 2, 1) := by decide +kernel
theorem dX1_findKind_101 : decode cX1_findKind 101 = .ok (.if_icmp .ne 7, 3) := by decide +kernel
theorem dX1_findKind_104 : decode cX1_findKind 104 = .ok (.iconst 0, 1) := by decide +kernel
theorem dX1_findKind_105 : decode cX1_findKind 105 = .ok (.goto 14, 3) := by decide +kernel
theorem dX1_findKind_108 : decode cX1_findKind 108 = .ok (.iload_n 3, 1) := by decide +kernel
theorem dX1_findKind_109 : decode cX1_findKind 109 = .ok (.iload 5, 2) := by decide +kernel
theorem dX1_findKind_111 : decode cX1_findKind 111 = .ok (.if_icmp .ne 7, 3) := by decide +kernel
theorem dX1_findKind_114 : decode cX1_findKind 114 = .ok (.iconst 1, 1) := by decide +kernel
theorem dX1_findKind_115 : decode cX1_findKind 115 = .ok (.goto 4, 3) := by decide +kernel
theorem dX1_findKind_118 : decode cX1_findKind 118 = .ok (.iconst 2, 1) := by decide +kernel
theorem dX1_findKind_119 : decode cX1_findKind 119 = .ok (.putfield 18, 3) := by decide +kernel
theorem dX1_findKind_122 : decode cX1_findKind 122 = .ok (.iinc 4 1, 3) := by decide +kernel
theorem dX1_findKind_125 : decode cX1_findKind 125 = .ok (.goto (-122), 3) := by decide +kernel
theorem dX1_findKind_128 : decode cX1_findKind 128 = .ok (.return_, 1) := by decide +kernel
theorem dX2_init_0 : decode cX2_init 0 = .ok (.aload_n 0, 1) := by decide +kernel
theorem dX2_init_1 : decode cX2_init 1 = .ok (.invokespecial 3, 3) := by decide +kernel
theorem dX2_init_4 : decode cX2_init 4 = .ok (.aload_n 0, 1) := by decide +kernel
theorem dX2_init_5 : decode cX2_init 5 = .ok (.sipush 2560, 3) := by decide +kernel
theorem dX2_init_8 : decode cX2_init 8 = .ok (.newarray .int, 2) := by decide +kernel
theorem dX2_init_10 : decode cX2_init 10 = .ok (.putfield 9, 3) := by decide +kernel
theorem dX2_init_13 : decode cX2_init 13 = .ok (.aload_n 0, 1) := by decide +kernel
theorem dX2_init_14 : decode cX2_init 14 = .ok (.sipush 2560, 3) := by decide +kernel
theorem dX2_init_17 : decode cX2_init 17 = .ok (.newarray .int, 2) := by decide +kernel
theorem dX2_init_19 : decode cX2_init 19 = .ok (.putfield 15, 3) := by decide +kernel
theorem dX2_init_22 : decode cX2_init 22 = .ok (.aload_n 0, 1) := by decide +kernel
theorem dX2_init_23 : decode cX2_init 23 = .ok (.sipush 2560, 3) := by decide +kernel
theorem dX2_init_26 : decode cX2_init 26 = .ok (.newarray .int, 2) := by decide +kernel
theorem dX2_init_28 : decode cX2_init 28 = .ok (.putfield 18, 3) := by decide +kernel
theorem dX2_init_31 : decode cX2_init 31 = .ok (.aload_n 0, 1) := by decide +kernel
theorem dX2_init_32 : decode cX2_init 32 = .ok (.iconst 4, 1) := by decide +kernel
theorem dX2_init_33 : decode cX2_init 33 = .ok (.newarray .int, 2) := by decide +kernel
theorem dX2_init_35 : decode cX2_init 35 = .ok (.putfield 21, 3) := by decide +kernel
theorem dX2_init_38 : decode cX2_init 38 = .ok (.aload_n 0, 1) := by decide +kernel
theorem dX2_init_39 : decode cX2_init 39 = .ok (.iconst 4, 1) := by decide +kernel
theorem dX2_init_40 : decode cX2_init 40 = .ok (.newarray .int, 2) := by decide +kernel
theorem dX2_init_42 : decode cX2_init 42 = .ok (.putfield 24, 3) := by decide +kernel
theorem dX2_init_45 : decode cX2_init 45 = .ok (.aload_n 0, 1) := by decide +kernel
theorem dX2_init_46 : decode cX2_init 46 = .ok (.iconst 4, 1) := by decide +kernel
theorem dX2_init_47 : decode cX2_init 47 = .ok (.newarray .boolean, 2) := by decide +kernel
theorem dX2_init_49 : decode cX2_init 49 = .ok (.putfield 27, 3) := by decide +kernel
theorem dX2_init_52 : decode cX2_init 52 = .ok (.aload_n 0, 1) := by decide +kernel
theorem dX2_init_53 : decode cX2_init 53 = .ok (.iconst 4, 1) := by decide +kernel
theorem dX2_init_54 : decode cX2_init 54 = .ok (.newarray .int, 2) := by decide +kernel
theorem dX2_init_56 : decode cX2_init 56 = .ok (.putfield 31, 3) := by decide +kernel
theorem dX2_init_59 : decode cX2_init 59 = .ok (.return_, 1) := by decide +kernel
theorem dX2_size_0 : decode cX2_size 0 = .ok (.aload_n 0, 1) := by decide +kernel
theorem dX2_size_1 : decode cX2_size 1 = .ok (.getfield 34, 3) := by decide +kernel
theorem dX2_size_4 : decode cX2_size 4 = .ok (.ireturn, 1) := by decide +kernel
theorem dX2_has_0 : decode cX2_has 0 = .ok (.iload_n 1, 1) := by decide +kernel
theorem dX2_has_1 : decode cX2_has 1 = .ok (.ifCond .lt 22, 3) := by decide +kernel
theorem dX2_has_4 : decode cX2_has 4 = .ok (.iload_n 1, 1) := by decide +kernel
theorem dX2_has_5 : decode cX2_has 5 = .ok (.aload_n 0, 1) := by decide +kernel
theorem dX2_has_6 : decode cX2_has 6 = .ok (.getfield 34, 3) := by decide +kernel
theorem dX2_has_9 : decode cX2_has 9 = .ok (.if_icmp .ge 14, 3) := by decide +kernel
theorem dX2_has_12 : decode cX2_has 12 = .ok (.iload_n 1, 1) := by decide +kernel
theorem dX2_has_13 : decode cX2_has 13 = .ok (.sipush 2560, 3) := by decide +kernel
theorem dX2_has_16 : decode cX2_has 16 = .ok (.if_icmp .ge 7, 3) := by decide +kernel
theorem dX2_has_19 : decode cX2_has 19 = .ok (.iconst 1, 1) := by decide +kernel
theorem dX2_has_20 : decode cX2_has 20 = .ok (.goto 4, 3) := by decide +kernel
theorem dX2_has_23 : decode cX2_has 23 = .ok (.iconst 0, 1) := by decide +kernel
theorem dX2_has_24 : decode cX2_has 24 = .ok (.ireturn, 1) := by decide +kernel
theorem dX2_kindAt_0 : decode cX2_kindAt 0 = .ok (.aload_n 0, 1) := by decide +kernel
theorem dX2_kindAt_1 : decode cX2_kindAt 1 = .ok (.iload_n 1, 1) := by decide +kernel
theorem dX2_kindAt_2 : decode cX2_kindAt 2 = .ok (.invokevirtual 38, 3) := by decide +kernel
theorem dX2_kindAt_5 : decode cX2_kindAt 5 = .ok (.ifCond .eq 12, 3) := by decide +kernel
theorem dX2_kindAt_8 : decode cX2_kindAt 8 = .ok (.aload_n 0, 1) := by decide +kernel
theorem dX2_kindAt_9 : decode cX2_kindAt 9 = .ok (.getfield 9, 3) := by decide +kernel
theorem dX2_kindAt_12 : decode cX2_kindAt 12 = .ok (.iload_n 1, 1) := by decide +kernel
theorem dX2_kindAt_13 : decode cX2_kindAt 13 = .ok (.iaload, 1) := by decide +kernel
theorem dX2_kindAt_14 : decode cX2_kindAt 14 = .ok (.goto 4, 3) := by decide +kernel
theorem dX2_kindAt_17 : decode cX2_kindAt 17 = .ok (.iconst (-1), 1) := by decide +kernel
theorem dX2_kindAt_18 : decode cX2_kindAt 18 = .ok (.ireturn, 1) := by decide +kernel
theorem dX2_tickAt_0 : decode cX2_tickAt 0 = .ok (.aload_n 0, 1) := by decide +kernel
theorem dX2_tickAt_1 : decode cX2_tickAt 1 = .ok (.iload_n 1, 1) := by decide +kernel
theorem dX2_tickAt_2 : decode cX2_tickAt 2 = .ok (.invokevirtual 38, 3) := by decide +kernel
theorem dX2_tickAt_5 : decode cX2_tickAt 5 = .ok (.ifCond .eq 12, 3) := by decide +kernel
theorem dX2_tickAt_8 : decode cX2_tickAt 8 = .ok (.aload_n 0, 1) := by decide +kernel
theorem dX2_tickAt_9 : decode cX2_tickAt 9 = .ok (.getfield 15, 3) := by decide +kernel
theorem dX2_tickAt_12 : decode cX2_tickAt 12 = .ok (.iload_n 1, 1) := by decide +kernel
theorem dX2_tickAt_13 : decode cX2_tickAt 13 = .ok (.iaload, 1) := by decide +kernel
theorem dX2_tickAt_14 : decode cX2_tickAt 14 = .ok (.goto 4, 3) := by decide +kernel
theorem dX2_tickAt_17 : decode cX2_tickAt 17 = .ok (.iconst (-1), 1) := by decide +kernel
theorem dX2_tickAt_18 : decode cX2_tickAt 18 = .ok (.ireturn, 1) := by decide +kernel
theorem dX2_partsAt_0 : decode cX2_partsAt 0 = .ok (.aload_n 0, 1) := by decide +kernel
theorem dX2_partsAt_1 : decode cX2_partsAt 1 = .ok (.iload_n 1, 1) := by decide +kernel
theorem dX2_partsAt_2 : decode cX2_partsAt 2 = .ok (.invokevirtual 38, 3) := by decide +kernel
theorem dX2_partsAt_5 : decode cX2_partsAt 5 = .ok (.ifCond .eq 12, 3) := by decide +kernel
theorem dX2_partsAt_8 : decode cX2_partsAt 8 = .ok (.aload_n 0, 1) := by decide +kernel
theorem dX2_partsAt_9 : decode cX2_partsAt 9 = .ok (.getfield 18, 3) := by decide +kernel
theorem dX2_partsAt_12 : decode cX2_partsAt 12 = .ok (.iload_n 1, 1) := by decide +kernel
theorem dX2_partsAt_13 : decode cX2_partsAt 13 = .ok (.iaload, 1) := by decide +kernel
theorem dX2_partsAt_14 : decode cX2_partsAt 14 = .ok (.goto 4, 3) := by decide +kernel
theorem dX2_partsAt_17 : decode cX2_partsAt 17 = .ok (.iconst (-1), 1) := by decide +kernel
theorem dX2_partsAt_18 : decode cX2_partsAt 18 = .ok (.ireturn, 1) := by decide +kernel
theorem dX2_search_0 : decode cX2_search 0 = .ok (.aload_n 0, 1) := by decide +kernel
theorem dX2_search_1 : decode cX2_search 1 = .ok (.iconst 0, 1) := by decide +kernel
theorem dX2_search_2 : decode cX2_search 2 = .ok (.putfield 34, 3) := by decide +kernel
theorem dX2_search_5 : decode cX2_search 5 = .ok (.aload_n 0, 1) := by decide +kernel
theorem dX2_search_6 : decode cX2_search 6 = .ok (.getfield 24, 3) := by decide +kernel
theorem dX2_search_9 : decode cX2_search 9 = .ok (.iconst (-1), 1) := by decide +kernel
theorem dX2_search_10 : decode cX2_search 10 = .ok (.invokestatic 42, 3) := by decide +kernel
theorem dX2_search_13 : decode cX2_search 13 = .ok (.iconst 0, 1) := by decide +kernel
theorem dX2_search_14 : decode cX2_search 14 = .ok (.istore_n 3, 1) := by decide +kernel
theorem dX2_search_15 : decode cX2_search 15 = .ok (.iload_n 3, 1) := by decide +kernel
theorem dX2_search_16 : decode cX2_search 16 = .ok (.aload_n 2, 1) := by decide +kernel
theorem dX2_search_17 : decode cX2_search 17 = .ok (.invokevirtual 48, 3) := by decide +kernel
theorem dX2_search_20 : decode cX2_search 20 = .ok (.if_icmp .ge 84, 3) := by decide +kernel
theorem dX2_search_23 : decode cX2_search 23 = .ok (.aload_n 2, 1) := by decide +kernel
theorem dX2_search_24 : decode cX2_search 24 = .ok (.iload_n 3, 1) := by decide +kernel
theorem dX2_search_25 : decode cX2_search 25 = .ok (.invokevirtual 54, 3) := by decide +kernel
theorem dX2_search_28 : decode cX2_search 28 = .ok (.istore 4, 2) := by decide +kernel
theorem dX2_search_30 : decode cX2_search 30 = .ok (.aload_n 0, 1) := by decide +kernel
theorem dX2_search_31 : decode cX2_search 31 = .ok (.aload_n 1, 1) := by decide +kernel
theorem dX2_search_32 : decode cX2_search 32 = .ok (.aload_n 2, 1) := by decide +kernel
theorem dX2_search_33 : decode cX2_search 33 = .ok (.iload_n 3, 1) := by decide +kernel
theorem dX2_search_34 : decode cX2_search 34 = .ok (.invokevirtual 58, 3) := by decide +kernel
theorem dX2_search_37 : decode cX2_search 37 = .ok (.aload_n 0, 1) := by decide +kernel
theorem dX2_search_38 : decode cX2_search 38 = .ok (.iload 4, 2) := by decide +kernel
theorem dX2_search_40 : decode cX2_search 40 = .ok (.invokevirtual 62, 3) := by decide +kernel
theorem dX2_search_43 : decode cX2_search 43 = .ok (.aload_n 0, 1) := by decide +kernel
theorem dX2_search_44 : decode cX2_search 44 = .ok (.iload 4, 2) := by decide +kernel
theorem dX2_search_46 : decode cX2_search 46 = .ok (.invokevirtual 66, 3) := by decide +kernel
theorem dX2_search_49 : decode cX2_search 49 = .ok (.iconst 0, 1) := by decide +kernel
theorem dX2_search_50 : decode cX2_search 50 = .ok (.istore 5, 2) := by decide +kernel
theorem dX2_search_52 : decode cX2_search 52 = .ok (.iload 5, 2) := by decide +kernel
theorem dX2_search_54 : decode cX2_search 54 = .ok (.aload_n 1, 1) := by decide +kernel
theorem dX2_search_55 : decode cX2_search 55 = .ok (.arraylength, 1) := by decide +kernel
theorem dX2_search_56 : decode cX2_search 56 = .ok (.if_icmp .ge 42, 3) := by decide +kernel
theorem dX2_search_59 : decode cX2_search 59 = .ok (.iload 5, 2) := by decide +kernel
theorem dX2_search_61 : decode cX2_search 61 = .ok (.iconst 4, 1) := by decide +kernel
theorem dX2_search_62 : decode cX2_search 62 = .ok (.if_icmp .ge 36, 3) := by decide +kernel
theorem dX2_search_65 : decode cX2_search 65 = .ok (.aload_n 0, 1) := by decide +kernel
theorem dX2_search_66 : decode cX2_search 66 = .ok (.getfield 27, 3) := by decide +kernel
theorem dX2_search_69 : decode cX2_search 69 = .ok (.iload 5, 2) := by decide +kernel
theorem dX2_search_71 : decode cX2_search 71 = .ok (.baload, 1) := by decide +kernel
theorem dX2_search_72 : decode cX2_search 72 = .ok (.ifCond .eq 20, 3) := by decide +kernel
theorem dX2_search_75 : decode cX2_search 75 = .ok (.aload_n 0, 1) := by decide +kernel
theorem dX2_search_76 : decode cX2_search 76 = .ok (.aload_n 1, 1) := by decide +kernel
theorem dX2_search_77 : decode cX2_search 77 = .ok (.iload 5, 2) := by decide +kernel
theorem dX2_search_79 : decode cX2_search 79 = .ok (.aaload, 1) := by decide +kernel
theorem dX2_search_80 : decode cX2_search 80 = .ok (.iload 5, 2) := by decide +kernel
theorem dX2_search_82 : decode cX2_search 82 = .ok (.aload_n 2, 1) := by decide +kernel
theorem dX2_search_83 : decode cX2_search 83 = .ok (.iload_n 3, 1) := by decide +kernel
theorem dX2_search_84 : decode cX2_search 84 = .ok (.iload 5, 2) := by decide +kernel
theorem dX2_search_86 : decode cX2_search 86 = .ok (.invokevirtual 69, 3) := by decide +kernel
theorem dX2_search_89 : decode cX2_search 89 = .ok (.invokevirtual 73, 3) := by decide +kernel
theorem dX2_search_92 : decode cX2_search 92 = .ok (.iinc 5 1, 3) := by decide +kernel
theorem dX2_search_95 : decode cX2_search 95 = .ok (.goto (-43), 3) := by decide +kernel
theorem dX2_search_98 : decode cX2_search 98 = .ok (.iinc 3 1, 3) := by decide +kernel
theorem dX2_search_101 : decode cX2_search 101 = .ok (.goto (-86), 3) := by decide +kernel
theorem dX2_search_104 : decode cX2_search 104 = .ok (.return_, 1) := by decide +kernel
theorem dX2_add_0 : decode cX2_add 0 = .ok (.aload_n 0, 1) := by decide +kernel
theorem dX2_add_1 : decode cX2_add 1 = .ok (.getfield 34, 3) := by decide +kernel
theorem dX2_add_4 : decode cX2_add 4 = .ok (.ifCond .lt 13, 3) := by decide +kernel
theorem dX2_add_7 : decode cX2_add 7 = .ok (.aload_n 0, 1) := by decide +kernel
theorem dX2_add_8 : decode cX2_add 8 = .ok (.getfield 34, 3) := by decide +kernel
theorem dX2_add_11 : decode cX2_add 11 = .ok (.sipush 2560, 3) := by decide +kernel
theorem dX2_add_14 : decode cX2_add 14 = .ok (.if_icmp .lt 4, 3) := by decide +kernel
theorem dX2_add_17 : decode cX2_add 17 = .ok (.return_, 1) := by decide +kernel
theorem dX2_add_18 : decode cX2_add 18 = .ok (.aload_n 0, 1) := by decide +kernel
theorem dX2_add_19 : decode cX2_add 19 = .ok (.getfield 9, 3) := by decide +kernel
theorem dX2_add_22 : decode cX2_add 22 = .ok (.aload_n 0, 1) := by decide +kernel
theorem dX2_add_23 : decode cX2_add 23 = .ok (.getfield 34, 3) := by decide +kernel
theorem dX2_add_26 : decode cX2_add 26 = .ok (.iload_n 1, 1) := by decide +kernel
theorem dX2_add_27 : decode cX2_add 27 = .ok (.iastore, 1) := by decide +kernel
theorem dX2_add_28 : decode cX2_add 28 = .ok (.aload_n 0, 1) := by decide +kernel
theorem dX2_add_29 : decode cX2_add 29 = .ok (.getfield 15, 3) := by decide +kernel
theorem dX2_add_32 : decode cX2_add 32 = .ok (.aload_n 0, 1) := by decide +kernel
theorem dX2_add_33 : decode cX2_add 33 = .ok (.getfield 34, 3) := by decide +kernel
theorem dX2_add_36 : decode cX2_add 36 = .ok (.iload_n 2, 1) := by decide +kernel
theorem dX2_add_37 : decode cX2_add 37 = .ok (.iastore, 1) := by decide +kernel
theorem dX2_add_38 : decode cX2_add 38 = .ok (.aload_n 0, 1) := by decide +kernel
theorem dX2_add_39 : decode cX2_add 39 = .ok (.getfield 18, 3) := by decide +kernel
theorem dX2_add_42 : decode cX2_add 42 = .ok (.aload_n 0, 1) := by decide +kernel
theorem dX2_add_43 : decode cX2_add 43 = .ok (.getfield 34, 3) := by decide +kernel
theorem dX2_add_46 : decode cX2_add 46 = .ok (.iload_n 3, 1) := by decide +kernel
theorem dX2_add_47 : decode cX2_add 47 = .ok (.iastore, 1) := by decide +kernel
theorem dX2_add_48 : decode cX2_add 48 = .ok (.aload_n 0, 1) := by decide +kernel
theorem dX2_add_49 : decode cX2_add 49 = .ok (.dup, 1) := by decide +kernel
theorem dX2_add_50 : decode cX2_add 50 = .ok (.getfield 34, 3) := by decide +kernel
theorem dX2_add_53 : decode cX2_add 53 = .ok (.iconst 1, 1) := by decide +kernel
theorem dX2_add_54 : decode cX2_add 54 = .ok (.iadd, 1) := by decide +kernel
theorem dX2_add_55 : decode cX2_add 55 = .ok (.putfield 34, 3) := by decide +kernel
theorem dX2_add_58 : decode cX2_add 58 = .ok (.return_, 1) := by decide +kernel
theorem dX2_goOn_0 : decode cX2_goOn 0 = .ok (.iconst 0, 1) := by decide +kernel
theorem dX2_goOn_1 : decode cX2_goOn 1 = .ok (.istore 4, 2) := by decide +kernel
theorem dX2_goOn_3 : decode cX2_goOn 3 = .ok (.iload 4, 2) := by decide +kernel
theorem dX2_goOn_5 : decode cX2_goOn 5 = .ok (.aload_n 1, 1) := by decide +kernel
theorem dX2_goOn_6 : decode cX2_goOn 6 = .ok (.arraylength, 1) := by decide +kernel
theorem dX2_goOn_7 : decode cX2_goOn 7 = .ok (.if_icmp .ge 144, 3) := by decide +kernel
theorem dX2_goOn_10 : decode cX2_goOn 10 = .ok (.iload 4, 2) := by decide +kernel
theorem dX2_goOn_12 : decode cX2_goOn 12 = .ok (.iconst 4, 1) := by decide +kernel
theorem dX2_goOn_13 : decode cX2_goOn 13 = .ok (.if_icmp .ge 138, 3) := by decide +kernel
theorem dX2_goOn_16 : decode cX2_goOn 16 = .ok (.aload_n 2, 1) := by decide +kernel
theorem dX2_goOn_17 : decode cX2_goOn 17 = .ok (.iload_n 3, 1) := by decide +kernel
theorem dX2_goOn_18 : decode cX2_goOn 18 = .ok (.iload 4, 2) := by decide +kernel
theorem dX2_goOn_20 : decode cX2_goOn 20 = .ok (.invokevirtual 69, 3) := by decide +kernel
theorem dX2_goOn_23 : decode cX2_goOn 23 = .ok (.istore 5, 2) := by decide +kernel
theorem dX2_goOn_25 : decode cX2_goOn 25 = .ok (.aload_n 0, 1) := by decide +kernel
theorem dX2_goOn_26 : decode cX2_goOn 26 = .ok (.getfield 21, 3) := by decide +kernel
theorem dX2_goOn_29 : decode cX2_goOn 29 = .ok (.iload 4, 2) := by decide +kernel
theorem dX2_goOn_31 : decode cX2_goOn 31 = .ok (.aload_n 0, 1) := by decide +kernel
theorem dX2_goOn_32 : decode cX2_goOn 32 = .ok (.getfield 24, 3) := by decide +kernel
theorem dX2_goOn_35 : decode cX2_goOn 35 = .ok (.iload 4, 2) := by decide +kernel
theorem dX2_goOn_37 : decode cX2_goOn 37 = .ok (.iaload, 1) := by decide +kernel
theorem dX2_goOn_38 : decode cX2_goOn 38 = .ok (.iastore, 1) := by decide +kernel
theorem dX2_goOn_39 : decode cX2_goOn 39 = .ok (.aload_n 0, 1) := by decide +kernel
theorem dX2_goOn_40 : decode cX2_goOn 40 = .ok (.getfield 24, 3) := by decide +kernel
theorem dX2_goOn_43 : decode cX2_goOn 43 = .ok (.iload 4, 2) := by decide +kernel
theorem dX2_goOn_45 : decode cX2_goOn 45 = .ok (.aload_n 1, 1) := by decide +kernel
theorem dX2_goOn_46 : decode cX2_goOn 46 = .ok (.iload 4, 2) := by decide +kernel
theorem dX2_goOn_48 : decode cX2_goOn 48 = .ok (.aaload, 1) := by decide +kernel
theorem dX2_goOn_49 : decode cX2_goOn 49 = .ok (.iload 5, 2) := by decide +kernel
theorem dX2_goOn_51 : decode cX2_goOn 51 = .ok (.invokevirtual 77, 3) := by decide +kernel
theorem dX2_goOn_54 : decode cX2_goOn 54 = .ok (.iastore, 1) := by decide +kernel
theorem dX2_goOn_55 : decode cX2_goOn 55 = .ok (.aload_n 0, 1) := by decide +kernel
theorem dX2_goOn_56 : decode cX2_goOn 56 = .ok (.getfield 27, 3) := by decide +kernel
theorem dX2_goOn_59 : decode cX2_goOn 59 = .ok (.iload 4, 2) := by decide +kernel
theorem dX2_goOn_61 : decode cX2_goOn 61 = .ok (.aload_n 1, 1) := by decide +kernel
theorem dX2_goOn_62 : decode cX2_goOn 62 = .ok (.iload 4, 2) := by decide +kernel
theorem dX2_goOn_64 : decode cX2_goOn 64 = .ok (.aaload, 1) := by decide +kernel
theorem dX2_goOn_65 : decode cX2_goOn 65 = .ok (.iload 5, 2) := by decide +kernel
theorem dX2_goOn_67 : decode cX2_goOn 67 = .ok (.invokevirtual 82, 3) := by decide +kernel
theorem dX2_goOn_70 : decode cX2_goOn 70 = .ok (.ifCond .eq 24, 3) := by decide +kernel
theorem dX2_goOn_73 : decode cX2_goOn 73 = .ok (.aload_n 1, 1) := by decide +kernel
theorem dX2_goOn_74 : decode cX2_goOn 74 = .ok (.iload 4, 2) := by decide +kernel
theorem dX2_goOn_76 : decode cX2_goOn 76 = .ok (.aaload, 1) := by decide +kernel
theorem dX2_goOn_77 : decode cX2_goOn 77 = .ok (.iload 5, 2) := by decide +kernel
theorem dX2_goOn_79 : decode cX2_goOn 79 = .ok (.invokevirtual 85, 3) := by decide +kernel
theorem dX2_goOn_82 : decode cX2_goOn 82 = .ok (.aload_n 2, 1) := by decide +kernel
theorem dX2_goOn_83 : decode cX2_goOn 83 = .ok (.iload_n 3, 1) := by decide +kernel
theorem dX2_goOn_84 : decode cX2_goOn 84 = .ok (.invokevirtual 54, 3) := by decide +kernel
theorem dX2_goOn_87 : decode cX2_goOn 87 = .ok (.if_icmp .ne 7, 3) := by decide +kernel
theorem dX2_goOn_90 : decode cX2_goOn 90 = .ok (.iconst 1, 1) := by decide +kernel
theorem dX2_goOn_91 : decode cX2_goOn 91 = .ok (.goto 4, 3) := by decide +kernel
theorem dX2_goOn_94 : decode cX2_goOn 94 = .ok (.iconst 0, 1) := by decide +kernel
theorem dX2_goOn_95 : decode cX2_goOn 95 = .ok (.bastore, 1) := by decide +kernel
theorem dX2_goOn_96 : decode cX2_goOn 96 = .ok (.aload_n 0, 1) := by decide +kernel
theorem dX2_goOn_97 : decode cX2_goOn 97 = .ok (.getfield 31, 3) := by decide +kernel
theorem dX2_goOn_100 : decode cX2_goOn 100 = .ok (.iload 4, 2) := by decide +kernel
theorem dX2_goOn_102 : decode cX2_goOn 102 = .ok (.aload_n 0, 1) := by decide +kernel
theorem dX2_goOn_103 : decode cX2_goOn 103 = .ok (.getfield 27, 3) := by decide +kernel
theorem dX2_goOn_106 : decode cX2_goOn 106 = .ok (.iload 4, 2) := by decide +kernel
theorem dX2_goOn_108 : decode cX2_goOn 108 = .ok (.baload, 1) := by decide +kernel
theorem dX2_goOn_109 : decode cX2_goOn 109 = .ok (.ifCond .eq 34, 3) := by decide +kernel
theorem dX2_goOn_112 : decode cX2_goOn 112 = .ok (.aload_n 0, 1) := by decide +kernel
theorem dX2_goOn_113 : decode cX2_goOn 113 = .ok (.getfield 21, 3) := by decide +kernel
theorem dX2_goOn_116 : decode cX2_goOn 116 = .ok (.iload 4, 2) := by decide +kernel
theorem dX2_goOn_118 : decode cX2_goOn 118 = .ok (.iaload, 1) := by decide +kernel
theorem dX2_goOn_119 : decode cX2_goOn 119 = .ok (.iconst (-1), 1) := by decide +kernel
theorem dX2_goOn_120 : decode cX2_goOn 120 = .ok (.if_icmp .eq 23, 3) := by decide +kernel
theorem dX2_goOn_123 : decode cX2_goOn 123 = .ok (.aload_n 0, 1) := by decide +kernel
theorem dX2_goOn_124 : decode cX2_goOn 124 = .ok (.getfield 24, 3) := by decide +kernel
theorem dX2_goOn_127 : decode cX2_goOn 127 = .ok (.iload 4, 2) := by decide +kernel
theorem dX2_goOn_129 : decode cX2_goOn 129 = .ok (.iaload, 1) := by decide +kernel
theorem dX2_goOn_130 : decode cX2_goOn 130 = .ok (.aload_n 0, 1) := by decide +kernel
theorem dX2_goOn_131 : decode cX2_goOn 131 = .ok (.getfield 21, 3) := by decide +kernel
theorem dX2_goOn_134 : decode cX2_goOn 134 = .ok (.iload 4, 2) := by decide +kernel
theorem dX2_goOn_136 : decode cX2_goOn 136 = .ok (.iaload, 1) := by decide +kernel
theorem dX2_goOn_137 : decode cX2_goOn 137 = .ok (.invokestatic 88, 3) := by decide +kernel
theorem dX2_goOn_140 : decode cX2_goOn 140 = .ok (.goto 4, 3) := by decide +kernel
theorem dX2_goOn_143 : decode cX2_goOn 143 = .ok (.iconst 0, 1) := by decide +kernel
theorem dX2_goOn_144 : decode cX2_goOn 144 = .ok (.iastore, 1) := by decide +kernel
theorem dX2_goOn_145 : decode cX2_goOn 145 = .ok (.iinc 4 1, 3) := by decide +kernel
theorem dX2_goOn_148 : decode cX2_goOn 148 = .ok (.goto (-145), 3) := by decide +kernel
theorem dX2_goOn_151 : decode cX2_goOn 151 = .ok (.return_, 1) := by decide +kernel
theorem dX2_searchParallels_0 : decode cX2_searchParallels 0 = .ok (.iconst 0, 1) := by decide +kernel
theorem dX2_searchParallels_1 : decode cX2_searchParallels 1 = .ok (.istore_n 2, 1) := by decide +kernel
theorem dX2_searchParallels_2 : decode cX2_searchParallels 2 = .ok (.iload_n 2, 1) := by decide +kernel
theorem dX2_searchParallels_3 : decode cX2_searchParallels 3 = .ok (.iconst 4, 1) := by decide +kernel
theorem dX2_searchParallels_4 : decode cX2_searchParallels 4 = .ok (.if_icmp .ge 139, 3) := by decide +kernel
theorem dX2_searchParallels_7 : decode cX2_searchParallels 7 = .ok (.iload_n 2, 1) := by decide +kernel
theorem dX2_searchParallels_8 : decode cX2_searchParallels 8 = .ok (.iconst 1, 1) := by decide +kernel
theorem dX2_searchParallels_9 : decode cX2_searchParallels 9 = .ok (.iadd, 1) := by decide +kernel
theorem dX2_searchParallels_10 : decode cX2_searchParallels 10 = .ok (.istore_n 3, 1) := by decide +kernel
theorem dX2_searchParallels_11 : decode cX2_searchParallels 11 = .ok (.iload_n 3, 1) := by decide +kernel
theorem dX2_searchParallels_12 : decode cX2_searchParallels 12 = .ok (.iconst 4, 1) := by decide +kernel
theorem dX2_searchParallels_13 : decode cX2_searchParallels 13 = .ok (.if_icmp .ge 124, 3) := by decide +kernel
theorem dX2_searchParallels_16 : decode cX2_searchParallels 16 = .ok (.aload_n 0, 1) := by decide +kernel
theorem dX2_searchParallels_17 : decode cX2_searchParallels 17 = .ok (.getfield 31, 3) := by decide +kernel
theorem dX2_searchParallels_20 : decode cX2_searchParallels 20 = .ok (.iload_n 2, 1) := by decide +kernel
theorem dX2_searchParallels_21 : decode cX2_searchParallels 21 = .ok (.iaload, 1) := by decide +kernel
theorem dX2_searchParallels_22 : decode cX2_searchParallels 22 = .ok (.ifCond .eq 109, 3) := by decide +kernel
theorem dX2_searchParallels_25 : decode cX2_searchParallels 25 = .ok (.aload_n 0, 1) := by decide +kernel
theorem dX2_searchParallels_26 : decode cX2_searchParallels 26 = .ok (.getfield 31, 3) := by decide +kernel
theorem dX2_searchParallels_29 : decode cX2_searchParallels 29 = .ok (.iload_n 2, 1) := by decide +kernel
theorem dX2_searchParallels_30 : decode cX2_searchParallels 30 = .ok (.iaload, 1) := by decide +kernel
theorem dX2_searchParallels_31 : decode cX2_searchParallels 31 = .ok (.aload_n 0, 1) := by decide +kernel
theorem dX2_searchParallels_32 : decode cX2_searchParallels 32 = .ok (.getfield 31, 3) := by decide +kernel
theorem dX2_searchParallels_35 : decode cX2_searchParallels 35 = .ok (.iload_n 3, 1) := by decide +kernel
theorem dX2_searchParallels_36 : decode cX2_searchParallels 36 = .ok (.iaload, 1) := by decide +kernel
theorem dX2_searchParallels_37 : decode cX2_searchParallels 37 = .ok (.if_icmp .ne 94, 3) := by decide +kernel
theorem dX2_searchParallels_40 : decode cX2_searchParallels 40 = .ok (.aload_n 0, 1) := by decide +kernel
theorem dX2_searchParallels_41 : decode cX2_searchParallels 41 = .ok (.getfield 21, 3) := by decide +kernel
theorem dX2_searchParallels_44 : decode cX2_searchParallels 44 = .ok (.iload_n 2, 1) := by decide +kernel
theorem dX2_searchParallels_45 : decode cX2_searchParallels 45 = .ok (.iaload, 1) := by decide +kernel
theorem dX2_searchParallels_46 : decode cX2_searchParallels 46 = .ok (.aload_n 0, 1) := by decide +kernel
theorem dX2_searchParallels_47 : decode cX2_searchParallels 47 = .ok (.getfield 21, 3) := by decide +kernel
theorem dX2_searchParallels_50 : decode cX2_searchParallels 50 = .ok (.iload_n 3, 1) := by decide +kernel
theorem dX2_searchParallels_51 : decode cX2_searchParallels 51 = .ok (.iaload, 1) := by decide +kernel
theorem dX2_searchParallels_52 : decode cX2_searchParallels 52 = .ok (.isub, 1) := by decide +kernel
theorem dX2_searchParallels_53 : decode cX2_searchParallels 53 = .ok (.bipush 12, 2) := by decide +kernel
theorem dX2_searchParallels_55 : decode cX2_searchParallels 55 = .ok (.invokestatic 93, 3) := by decide +kernel
theorem dX2_searchParallels_58 : decode cX2_searchParallels 58 = .ok (.istore 4, 2) := by decide +kernel
theorem dX2_searchParallels_60 : decode cX2_searchParallels 60 = .ok (.aload_n 0, 1) := by decide +kernel
theorem dX2_searchParallels_61 : decode cX2_searchParallels 61 = .ok (.getfield 24, 3) := by decide +kernel
theorem dX2_searchParallels_64 : decode cX2_searchParallels 64 = .ok (.iload_n 2, 1) := by decide +kernel
theorem dX2_searchParallels_65 : decode cX2_searchParallels 65 = .ok (.iaload, 1) := by decide +kernel
theorem dX2_searchParallels_66 : decode cX2_searchParallels 66 = .ok (.aload_n 0, 1) := by decide +kernel
theorem dX2_searchParallels_67 : decode cX2_searchParallels 67 = .ok (.getfield 24, 3) := by decide +kernel
theorem dX2_searchParallels_70 : decode cX2_searchParallels 70 = .ok (.iload_n 3, 1) := by decide +kernel
theorem dX2_searchParallels_71 : decode cX2_searchParallels 71 = .ok (.iaload, 1) := by decide +kernel
theorem dX2_searchParallels_72 : decode cX2_searchParallels 72 = .ok (.isub, 1) := by decide +kernel
theorem dX2_searchParallels_73 : decode cX2_searchParallels 73 = .ok (.bipush 12, 2) := by decide +kernel
theorem dX2_searchParallels_75 : decode cX2_searchParallels 75 = .ok (.invokestatic 93, 3) := by decide +kernel
theorem dX2_searchParallels_78 : decode cX2_searchParallels 78 = .ok (.istore 5, 2) := by decide +kernel
theorem dX2_searchParallels_80 : decode cX2_searchParallels 80 = .ok (.iload 4, 2) := by decide +kernel
theorem dX2_searchParallels_82 : decode cX2_searchParallels 82 = .ok (.iload 5, 2) := by decide +kernel
theorem dX2_searchParallels_84 : decode cX2_searchParallels 84 = .ok (.if_icmp .ne 24, 3) := by decide +kernel
theorem dX2_searchParallels_87 : decode cX2_searchParallels 87 = .ok (.iload 5, 2) := by decide +kernel
theorem dX2_searchParallels_89 : decode cX2_searchParallels 89 = .ok (.bipush 7, 2) := by decide +kernel
theorem dX2_searchParallels_91 : decode cX2_searchParallels 91 = .ok (.if_icmp .ne 17, 3) := by decide +kernel
theorem dX2_searchParallels_94 : decode cX2_searchParallels 94 = .ok (.aload_n 0, 1) := by decide +kernel
theorem dX2_searchParallels_95 : decode cX2_searchParallels 95 = .ok (.iconst 0, 1) := by decide +kernel
theorem dX2_searchParallels_96 : decode cX2_searchParallels 96 = .ok (.iload_n 1, 1) := by decide +kernel
theorem dX2_searchParallels_97 : decode cX2_searchParallels 97 = .ok (.iconst 4, 1) := by decide +kernel
theorem dX2_searchParallels_98 : decode cX2_searchParallels 98 = .ok (.iload_n 2, 1) := by decide +kernel
theorem dX2_searchParallels_99 : decode cX2_searchParallels 99 = .ok (.imul, 1) := by decide +kernel
theorem dX2_searchParallels_100 : decode cX2_searchParallels 100 = .ok (.iload_n 3, 1) := by decide +kernel
theorem dX2_searchParallels_101 : decode cX2_searchParallels 101 = .ok (.iadd, 1) := by decide +kernel
theorem dX2_searchParallels_102 : decode cX2_searchParallels 102 = .ok (.invokevirtual 98, 3) := by decide +kernel
theorem dX2_searchParallels_105 : decode cX2_searchParallels 105 = .ok (.goto 26, 3) := by decide +kernel
theorem dX2_searchParallels_108 : decode cX2_searchParallels 108 = .ok (.iload 4, 2) := by decide +kernel
theorem dX2_searchParallels_110 : decode cX2_searchParallels 110 = .ok (.iload 5, 2) := by decide +kernel
theorem dX2_searchParallels_112 : decode cX2_searchParallels 112 = .ok (.if_icmp .ne 19, 3) := by decide +kernel
theorem dX2_searchParallels_115 : decode cX2_searchParallels 115 = .ok (.iload 5, 2) := by decide +kernel
theorem dX2_searchParallels_117 : decode cX2_searchParallels 117 = .ok (.ifCond .ne 14, 3) := by decide +kernel
theorem dX2_searchParallels_120 : decode cX2_searchParallels 120 = .ok (.aload_n 0, 1) := by decide +kernel
theorem dX2_searchParallels_121 : decode cX2_searchParallels 121 = .ok (.iconst 1, 1) := by decide +kernel
theorem dX2_searchParallels_122 : decode cX2_searchParallels 122 = .ok (.iload_n 1, 1) := by decide +kernel
theorem dX2_searchParallels_123 : decode cX2_searchParallels 123 = .ok (.iconst 4, 1) := by decide +kernel
theorem dX2_searchParallels_124 : decode cX2_searchParallels 124 = .ok (.iload_n 2, 1) := by decide +kernel
theorem dX2_searchParallels_125 : decode cX2_searchParallels 125 = .ok (.imul, 1) := by decide +kernel
theorem dX2_searchParallels_126 : decode cX2_searchParallels 126 = .ok (.iload_n 3, 1) := by decide +kernel
theorem dX2_searchParallels_127 : decode cX2_searchParallels 127 = .ok (.iadd, 1) := by decide +kernel
theorem dX2_searchParallels_128 : decode cX2_searchParallels 128 = .ok (.invokevirtual 98, 3) := by decide +kernel
theorem dX2_searchParallels_131 : decode cX2_searchParallels 131 = .ok (.iinc 3 1, 3) := by decide +kernel
theorem dX2_searchParallels_134 : decode cX2_searchParallels 134 = .ok (.goto (-123), 3) := by decide +kernel
theorem dX2_searchParallels_137 : decode cX2_searchParallels 137 = .ok (.iinc 2 1, 3) := by decide +kernel
theorem dX2_searchParallels_140 : decode cX2_searchParallels 140 = .ok (.goto (-138), 3) := by decide +kernel
theorem dX2_searchParallels_143 : decode cX2_searchParallels 143 = .ok (.return_, 1) := by decide +kernel
theorem dX2_searchCrossings_0 : decode cX2_searchCrossings 0 = .ok (.iconst 0, 1) := by decide +kernel
theorem dX2_searchCrossings_1 : decode cX2_searchCrossings 1 = .ok (.istore_n 2, 1) := by decide +kernel
theorem dX2_searchCrossings_2 : decode cX2_searchCrossings 2 = .ok (.iload_n 2, 1) := by decide +kernel
theorem dX2_searchCrossings_3 : decode cX2_searchCrossings 3 = .ok (.iconst 4, 1) := by decide +kernel
theorem dX2_searchCrossings_4 : decode cX2_searchCrossings 4 = .ok (.if_icmp .ge 100, 3) := by decide +kernel
theorem dX2_searchCrossings_7 : decode cX2_searchCrossings 7 = .ok (.iload_n 2, 1) := by decide +kernel
theorem dX2_searchCrossings_8 : decode cX2_searchCrossings 8 = .ok (.iconst 1, 1) := by decide +kernel
theorem dX2_searchCrossings_9 : decode cX2_searchCrossings 9 = .ok (.iadd, 1) := by decide +kernel
theorem dX2_searchCrossings_10 : decode cX2_searchCrossings 10 = .ok (.istore_n 3, 1) := by decide +kernel
theorem dX2_searchCrossings_11 : decode cX2_searchCrossings 11 = .ok (.iload_n 3, 1) := by decide +kernel
theorem dX2_searchCrossings_12 : decode cX2_searchCrossings 12 = .ok (.iconst 4, 1) := by decide +kernel
theorem dX2_searchCrossings_13 : decode cX2_searchCrossings 13 = .ok (.if_icmp .ge 85, 3) := by decide +kernel
theorem dX2_searchCrossings_16 : decode cX2_searchCrossings 16 = .ok (.aload_n 0, 1) := by decide +kernel
theorem dX2_searchCrossings_17 : decode cX2_searchCrossings 17 = .ok (.getfield 24, 3) := by decide +kernel
theorem dX2_searchCrossings_20 : decode cX2_searchCrossings 20 = .ok (.iload_n 2, 1) := by decide +kernel
theorem dX2_searchCrossings_21 : decode cX2_searchCrossings 21 = .ok (.iaload, 1) := by decide +kernel
theorem dX2_searchCrossings_22 : decode cX2_searchCrossings 22 = .ok (.iconst (-1), 1) := by decide +kernel
theorem dX2_searchCrossings_23 : decode cX2_searchCrossings 23 = .ok (.if_icmp .eq 17, 3) := by decide +kernel
theorem dX2_searchCrossings_26 : decode cX2_searchCrossings 26 = .ok (.aload_n 0, 1) := by decide +kernel
theorem dX2_searchCrossings_27 : decode cX2_searchCrossings 27 = .ok (.getfield 24, 3) := by decide +kernel
theorem dX2_searchCrossings_30 : decode cX2_searchCrossings 30 = .ok (.iload_n 3, 1) := by decide +kernel
theorem dX2_searchCrossings_31 : decode cX2_searchCrossings 31 = .ok (.iaload, 1) := by decide +kernel
theorem dX2_searchCrossings_32 : decode cX2_searchCrossings 32 = .ok (.iconst (-1), 1) := by decide +kernel
theorem dX2_searchCrossings_33 : decode cX2_searchCrossings 33 = .ok (.if_icmp .eq 7, 3) := by decide +kernel
theorem dX2_searchCrossings_36 : decode cX2_searchCrossings 36 = .ok (.iconst 1, 1) := by decide +kernel
theorem dX2_searchCrossings_37 : decode cX2_searchCrossings 37 = .ok (.goto 4, 3) := by decide +kernel
theorem dX2_searchCrossings_40 : decode cX2_searchCrossings 40 = .ok (.iconst 0, 1) := by decide +kernel
theorem dX2_searchCrossings_41 : decode cX2_searchCrossings 41 = .ok (.istore 4, 2) := by decide +kernel
theorem dX2_searchCrossings_43 : decode cX2_searchCrossings 43 = .ok (.iload 4, 2) := by decide +kernel
theorem dX2_searchCrossings_45 : decode cX2_searchCrossings 45 = .ok (.ifCond .eq 47, 3) := by decide +kernel
theorem dX2_searchCrossings_48 : decode cX2_searchCrossings 48 = .ok (.aload_n 0, 1) := by decide +kernel
theorem dX2_searchCrossings_49 : decode cX2_searchCrossings 49 = .ok (.getfield 27, 3) := by decide +kernel
theorem dX2_searchCrossings_52 : decode cX2_searchCrossings 52 = .ok (.iload_n 2, 1) := by decide +kernel
theorem dX2_searchCrossings_53 : decode cX2_searchCrossings 53 = .ok (.baload, 1) := by decide +kernel
theorem dX2_searchCrossings_54 : decode cX2_searchCrossings 54 = .ok (.ifCond .ne 12, 3) := by decide +kernel
theorem dX2_searchCrossings_57 : decode cX2_searchCrossings 57 = .ok (.aload_n 0, 1) := by decide +kernel
theorem dX2_searchCrossings_58 : decode cX2_searchCrossings 58 = .ok (.getfield 27, 3) := by decide +kernel
theorem dX2_searchCrossings_61 : decode cX2_searchCrossings 61 = .ok (.iload_n 3, 1) := by decide +kernel
theorem dX2_searchCrossings_62 : decode cX2_searchCrossings 62 = .ok (.baload, 1) := by decide +kernel
theorem dX2_searchCrossings_63 : decode cX2_searchCrossings 63 = .ok (.ifCond .eq 29, 3) := by decide +kernel
theorem dX2_searchCrossings_66 : decode cX2_searchCrossings 66 = .ok (.aload_n 0, 1) := by decide +kernel
theorem dX2_searchCrossings_67 : decode cX2_searchCrossings 67 = .ok (.getfield 24, 3) := by decide +kernel
theorem dX2_searchCrossings_70 : decode cX2_searchCrossings 70 = .ok (.iload_n 2, 1) := by decide +kernel
theorem dX2_searchCrossings_71 : decode cX2_searchCrossings 71 = .ok (.iaload, 1) := by decide +kernel
theorem dX2_searchCrossings_72 : decode cX2_searchCrossings 72 = .ok (.aload_n 0, 1) := by decide +kernel
theorem dX2_searchCrossings_73 : decode cX2_searchCrossings 73 = .ok (.getfield 24, 3) := by decide +kernel
theorem dX2_searchCrossings_76 : decode cX2_searchCrossings 76 = .ok (.iload_n 3, 1) := by decide +kernel
theorem dX2_searchCrossings_77 : decode cX2_searchCrossings 77 = .ok (.iaload, 1) := by decide +kernel
theorem dX2_searchCrossings_78 : decode cX2_searchCrossings 78 = .ok (.if_icmp .ge 14, 3) := by decide +kernel
theorem dX2_searchCrossings_81 : decode cX2_searchCrossings 81 = .ok (.aload_n 0, 1) := by decide +kernel
theorem dX2_searchCrossings_82 : decode cX2_searchCrossings 82 = .ok (.iconst 2, 1) := by decide +kernel
theorem dX2_searchCrossings_83 : decode cX2_searchCrossings 83 = .ok (.iload_n 1, 1) := by decide +kernel
theorem dX2_searchCrossings_84 : decode cX2_searchCrossings 84 = .ok (.iconst 4, 1) := by decide +kernel
theorem dX2_searchCrossings_85 : decode cX2_searchCrossings 85 = .ok (.iload_n 2, 1) := by decide +kernel
theorem dX2_searchCrossings_86 : decode cX2_searchCrossings 86 = .ok (.imul, 1) := by decide +kernel
theorem dX2_searchCrossings_87 : decode cX2_searchCrossings 87 = .ok (.iload_n 3, 1) := by decide +kernel
theorem dX2_searchCrossings_88 : decode cX2_searchCrossings 88 = .ok (.iadd, 1) := by decide +kernel
theorem dX2_searchCrossings_89 : decode cX2_searchCrossings 89 = .ok (.invokevirtual 98, 3) := by decide +kernel
theorem dX2_searchCrossings_92 : decode cX2_searchCrossings 92 = .ok (.iinc 3 1, 3) := by decide +kernel
theorem dX2_searchCrossings_95 : decode cX2_searchCrossings 95 = .ok (.goto (-84), 3) := by decide +kernel
theorem dX2_searchCrossings_98 : decode cX2_searchCrossings 98 = .ok (.iinc 2 1, 3) := by decide +kernel
theorem dX2_searchCrossings_101 : decode cX2_searchCrossings 101 = .ok (.goto (-99), 3) := by decide +kernel
theorem dX2_searchCrossings_104 : decode cX2_searchCrossings 104 = .ok (.return_, 1) := by decide +kernel
theorem dX2_searchNote_0 : decode cX2_searchNote 0 = .ok (.aload_n 1, 1) := by decide +kernel
theorem dX2_searchNote_1 : decode cX2_searchNote 1 = .ok (.iload_n 3, 1) := by decide +kernel
theorem dX2_searchNote_2 : decode cX2_searchNote 2 = .ok (.invokevirtual 85, 3) := by decide +kernel
theorem dX2_searchNote_5 : decode cX2_searchNote 5 = .ok (.istore 4, 2) := by decide +kernel
theorem dX2_searchNote_7 : decode cX2_searchNote 7 = .ok (.aload_n 1, 1) := by decide +kernel
theorem dX2_searchNote_8 : decode cX2_searchNote 8 = .ok (.iload_n 3, 1) := by decide +kernel
theorem dX2_searchNote_9 : decode cX2_searchNote 9 = .ok (.iconst 1, 1) := by decide +kernel
theorem dX2_searchNote_10 : decode cX2_searchNote 10 = .ok (.isub, 1) := by decide +kernel
theorem dX2_searchNote_11 : decode cX2_searchNote 11 = .ok (.invokevirtual 82, 3) := by decide +kernel
theorem dX2_searchNote_14 : decode cX2_searchNote 14 = .ok (.ifCond .eq 32, 3) := by decide +kernel
theorem dX2_searchNote_17 : decode cX2_searchNote 17 = .ok (.aload_n 1, 1) := by decide +kernel
theorem dX2_searchNote_18 : decode cX2_searchNote 18 = .ok (.iload_n 3, 1) := by decide +kernel
theorem dX2_searchNote_19 : decode cX2_searchNote 19 = .ok (.invokevirtual 77, 3) := by decide +kernel
theorem dX2_searchNote_22 : decode cX2_searchNote 22 = .ok (.aload_n 1, 1) := by decide +kernel
theorem dX2_searchNote_23 : decode cX2_searchNote 23 = .ok (.iload_n 3, 1) := by decide +kernel
theorem dX2_searchNote_24 : decode cX2_searchNote 24 = .ok (.iconst 1, 1) := by decide +kernel
theorem dX2_searchNote_25 : decode cX2_searchNote 25 = .ok (.isub, 1) := by decide +kernel
theorem dX2_searchNote_26 : decode cX2_searchNote 26 = .ok (.invokevirtual 77, 3) := by decide +kernel
theorem dX2_searchNote_29 : decode cX2_searchNote 29 = .ok (.isub, 1) := by decide +kernel
theorem dX2_searchNote_30 : decode cX2_searchNote 30 = .ok (.invokestatic 102, 3) := by decide +kernel
theorem dX2_searchNote_33 : decode cX2_searchNote 33 = .ok (.bipush 12, 2) := by decide +kernel
theorem dX2_searchNote_35 : decode cX2_searchNote 35 = .ok (.if_icmp .le 11, 3) := by decide +kernel
theorem dX2_searchNote_38 : decode cX2_searchNote 38 = .ok (.aload_n 0, 1) := by decide +kernel
theorem dX2_searchNote_39 : decode cX2_searchNote 39 = .ok (.iconst 3, 1) := by decide +kernel
theorem dX2_searchNote_40 : decode cX2_searchNote 40 = .ok (.iload 4, 2) := by decide +kernel
theorem dX2_searchNote_42 : decode cX2_searchNote 42 = .ok (.iload_n 2, 1) := by decide +kernel
theorem dX2_searchNote_43 : decode cX2_searchNote 43 = .ok (.invokevirtual 98, 3) := by decide +kernel
theorem dX2_searchNote_46 : decode cX2_searchNote 46 = .ok (.aload_n 1, 1) := by decide +kernel
theorem dX2_searchNote_47 : decode cX2_searchNote 47 = .ok (.iload_n 3, 1) := by decide +kernel
theorem dX2_searchNote_48 : decode cX2_searchNote 48 = .ok (.invokevirtual 105, 3) := by decide +kernel
theorem dX2_searchNote_51 : decode cX2_searchNote 51 = .ok (.ifCond .eq 11, 3) := by decide +kernel
theorem dX2_searchNote_54 : decode cX2_searchNote 54 = .ok (.aload_n 0, 1) := by decide +kernel
theorem dX2_searchNote_55 : decode cX2_searchNote 55 = .ok (.iconst 4, 1) := by decide +kernel
theorem dX2_searchNote_56 : decode cX2_searchNote 56 = .ok (.iload 4, 2) := by decide +kernel
theorem dX2_searchNote_58 : decode cX2_searchNote 58 = .ok (.iload_n 2, 1) := by decide +kernel
theorem dX2_searchNote_59 : decode cX2_searchNote 59 = .ok (.invokevirtual 98, 3) := by decide +kernel
theorem dX2_searchNote_62 : decode cX2_searchNote 62 = .ok (.return_, 1) := by decide +kernel
theorem dX3_init_0 : decode cX3_init 0 = .ok (.aload_n 0, 1) := by decide +kernel
theorem dX3_init_1 : decode cX3_init 1 = .ok (.invokespecial 3, 3) := by decide +kernel
theorem dX3_init_4 : decode cX3_init 4 = .ok (.aload_n 0, 1) := by decide +kernel
theorem dX3_init_5 : decode cX3_init 5 = .ok (.sipush 512, 3) := by decide +kernel
theorem dX3_init_8 : decode cX3_init 8 = .ok (.newarray .int, 2) := by decide +kernel
theorem dX3_init_10 : decode cX3_init 10 = .ok (.putfield 9, 3) := by decide +kernel
theorem dX3_init_13 : decode cX3_init 13 = .ok (.aload_n 0, 1) := by decide +kernel
theorem dX3_init_14 : decode cX3_init 14 = .ok (.sipush 2048, 3) := by decide +kernel
theorem dX3_init_17 : decode cX3_init 17 = .ok (.newarray .int, 2) := by decide +kernel
theorem dX3_init_19 : decode cX3_init 19 = .ok (.putfield 15, 3) := by decide +kernel
theorem dX3_init_22 : decode cX3_init 22 = .ok (.aload_n 0, 1) := by decide +kernel
theorem dX3_init_23 : decode cX3_init 23 = .ok (.iconst 4, 1) := by decide +kernel
theorem dX3_init_24 : decode cX3_init 24 = .ok (.newarray .int, 2) := by decide +kernel
theorem dX3_init_26 : decode cX3_init 26 = .ok (.putfield 18, 3) := by decide +kernel
theorem dX3_init_29 : decode cX3_init 29 = .ok (.return_, 1) := by decide +kernel
theorem dX3_size_0 : decode cX3_size 0 = .ok (.aload_n 0, 1) := by decide +kernel
theorem dX3_size_1 : decode cX3_size 1 = .ok (.getfield 21, 3) := by decide +kernel
theorem dX3_size_4 : decode cX3_size 4 = .ok (.ireturn, 1) := by decide +kernel
theorem dX3_has_0 : decode cX3_has 0 = .ok (.iload_n 1, 1) := by decide +kernel
theorem dX3_has_1 : decode cX3_has 1 = .ok (.ifCond .lt 22, 3) := by decide +kernel
theorem dX3_has_4 : decode cX3_has 4 = .ok (.iload_n 1, 1) := by decide +kernel
theorem dX3_has_5 : decode cX3_has 5 = .ok (.aload_n 0, 1) := by decide +kernel
theorem dX3_has_6 : decode cX3_has 6 = .ok (.getfield 21, 3) := by decide +kernel
theorem dX3_has_9 : decode cX3_has 9 = .ok (.if_icmp .ge 14, 3) := by decide +kernel
theorem dX3_has_12 : decode cX3_has 12 = .ok (.iload_n 1, 1) := by decide +kernel
theorem dX3_has_13 : decode cX3_has 13 = .ok (.sipush 512, 3) := by decide +kernel
theorem dX3_has_16 : decode cX3_has 16 = .ok (.if_icmp .ge 7, 3) := by decide +kernel
theorem dX3_has_19 : decode cX3_has 19 = .ok (.iconst 1, 1) := by decide +kernel
theorem dX3_has_20 : decode cX3_has 20 = .ok (.goto 4, 3) := by decide +kernel
theorem dX3_has_23 : decode cX3_has 23 = .ok (.iconst 0, 1) := by decide +kernel
theorem dX3_has_24 : decode cX3_has 24 = .ok (.ireturn, 1) := by decide +kernel
theorem dX3_tickAt_0 : decode cX3_tickAt 0 = .ok (.aload_n 0, 1) := by decide +kernel
theorem dX3_tickAt_1 : decode cX3_tickAt 1 = .ok (.iload_n 1, 1) := by decide +kernel
theorem dX3_tickAt_2 : decode cX3_tickAt 2 = .ok (.invokevirtual 25, 3) := by decide +kernel
theorem dX3_tickAt_5 : decode cX3_tickAt 5 = .ok (.ifCond .eq 12, 3) := by decide +kernel
theorem dX3_tickAt_8 : decode cX3_tickAt 8 = .ok (.aload_n 0, 1) := by decide +kernel
theorem dX3_tickAt_9 : decode cX3_tickAt 9 = .ok (.getfield 9, 3) := by decide +kernel
theorem dX3_tickAt_12 : decode cX3_tickAt 12 = .ok (.iload_n 1, 1) := by decide +kernel
theorem dX3_tickAt_13 : decode cX3_tickAt 13 = .ok (.iaload, 1) := by decide +kernel
theorem dX3_tickAt_14 : decode cX3_tickAt 14 = .ok (.goto 4, 3) := by decide +kernel
theorem dX3_tickAt_17 : decode cX3_tickAt 17 = .ok (.iconst (-1), 1) := by decide +kernel
theorem dX3_tickAt_18 : decode cX3_tickAt 18 = .ok (.ireturn, 1) := by decide +kernel
theorem dX3_eventAt_0 : decode cX3_eventAt 0 = .ok (.aload_n 0, 1) := by decide +kernel
theorem dX3_eventAt_1 : decode cX3_eventAt 1 = .ok (.iload_n 1, 1) := by decide +kernel
theorem dX3_eventAt_2 : decode cX3_eventAt 2 = .ok (.invokevirtual 25, 3) := by decide +kernel
theorem dX3_eventAt_5 : decode cX3_eventAt 5 = .ok (.ifCond .eq 25, 3) := by decide +kernel
theorem dX3_eventAt_8 : decode cX3_eventAt 8 = .ok (.iload_n 2, 1) := by decide +kernel
theorem dX3_eventAt_9 : decode cX3_eventAt 9 = .ok (.ifCond .lt 21, 3) := by decide +kernel
theorem dX3_eventAt_12 : decode cX3_eventAt 12 = .ok (.iload_n 2, 1) := by decide +kernel
theorem dX3_eventAt_13 : decode cX3_eventAt 13 = .ok (.iconst 4, 1) := by decide +kernel
theorem dX3_eventAt_14 : decode cX3_eventAt 14 = .ok (.if_icmp .ge 16, 3) := by decide +kernel
theorem dX3_eventAt_17 : decode cX3_eventAt 17 = .ok (.aload_n 0, 1) := by decide +kernel
theorem dX3_eventAt_18 : decode cX3_eventAt 18 = .ok (.getfield 15, 3) := by decide +kernel
theorem dX3_eventAt_21 : decode cX3_eventAt 21 = .ok (.iload_n 1, 1) := by decide +kernel
theorem dX3_eventAt_22 : decode cX3_eventAt 22 = .ok (.iconst 4, 1) := by decide +kernel
theorem dX3_eventAt_23 : decode cX3_eventAt 23 = .ok (.imul, 1) := by decide +kernel
theorem dX3_eventAt_24 : decode cX3_eventAt 24 = .ok (.iload_n 2, 1) := by decide +kernel
theorem dX3_eventAt_25 : decode cX3_eventAt 25 = .ok (.iadd, 1) := by decide +kernel
theorem dX3_eventAt_26 : decode cX3_eventAt 26 = .ok (.iaload, 1) := by decide +kernel
theorem dX3_eventAt_27 : decode cX3_eventAt 27 = .ok (.goto 4, 3) := by decide +kernel
theorem dX3_eventAt_30 : decode cX3_eventAt 30 = .ok (.iconst (-1), 1) := by decide +kernel
theorem dX3_eventAt_31 : decode cX3_eventAt 31 = .ok (.ireturn, 1) := by decide +kernel
theorem dX3_listen_0 : decode cX3_listen 0 = .ok (.aload_n 0, 1) := by decide +kernel
theorem dX3_listen_1 : decode cX3_listen 1 = .ok (.getfield 18, 3) := by decide +kernel
theorem dX3_listen_4 : decode cX3_listen 4 = .ok (.iconst 0, 1) := by decide +kernel
theorem dX3_listen_5 : decode cX3_listen 5 = .ok (.invokestatic 29, 3) := by decide +kernel
theorem dX3_listen_8 : decode cX3_listen 8 = .ok (.aload_n 0, 1) := by decide +kernel
theorem dX3_listen_9 : decode cX3_listen 9 = .ok (.iconst 0, 1) := by decide +kernel
theorem dX3_listen_10 : decode cX3_listen 10 = .ok (.putfield 21, 3) := by decide +kernel
theorem dX3_listen_13 : decode cX3_listen 13 = .ok (.iconst 0, 1) := by decide +kernel
theorem dX3_listen_14 : decode cX3_listen 14 = .ok (.istore_n 2, 1) := by decide +kernel
theorem dX3_listen_15 : decode cX3_listen 15 = .ok (.iload_n 2, 1) := by decide +kernel
theorem dX3_listen_16 : decode cX3_listen 16 = .ok (.sipush 512, 3) := by decide +kernel
theorem dX3_listen_19 : decode cX3_listen 19 = .ok (.if_icmp .ge 79, 3) := by decide +kernel
theorem dX3_listen_22 : decode cX3_listen 22 = .ok (.aload_n 0, 1) := by decide +kernel
theorem dX3_listen_23 : decode cX3_listen 23 = .ok (.aload_n 1, 1) := by decide +kernel
theorem dX3_listen_24 : decode cX3_listen 24 = .ok (.invokevirtual 35, 3) := by decide +kernel
theorem dX3_listen_27 : decode cX3_listen 27 = .ok (.istore_n 3, 1) := by decide +kernel
theorem dX3_listen_28 : decode cX3_listen 28 = .ok (.iload_n 3, 1) := by decide +kernel
theorem dX3_listen_29 : decode cX3_listen 29 = .ok (.iconst (-1), 1) := by decide +kernel
theorem dX3_listen_30 : decode cX3_listen 30 = .ok (.if_icmp .ne 4, 3) := by decide +kernel
theorem dX3_listen_33 : decode cX3_listen 33 = .ok (.return_, 1) := by decide +kernel
theorem dX3_listen_34 : decode cX3_listen 34 = .ok (.aload_n 0, 1) := by decide +kernel
theorem dX3_listen_35 : decode cX3_listen 35 = .ok (.getfield 9, 3) := by decide +kernel
theorem dX3_listen_38 : decode cX3_listen 38 = .ok (.iload_n 2, 1) := by decide +kernel
theorem dX3_listen_39 : decode cX3_listen 39 = .ok (.iload_n 3, 1) := by decide +kernel
theorem dX3_listen_40 : decode cX3_listen 40 = .ok (.iastore, 1) := by decide +kernel
theorem dX3_listen_41 : decode cX3_listen 41 = .ok (.aload_n 0, 1) := by decide +kernel
theorem dX3_listen_42 : decode cX3_listen 42 = .ok (.iload_n 2, 1) := by decide +kernel
theorem dX3_listen_43 : decode cX3_listen 43 = .ok (.iconst 1, 1) := by decide +kernel
theorem dX3_listen_44 : decode cX3_listen 44 = .ok (.iadd, 1) := by decide +kernel
theorem dX3_listen_45 : decode cX3_listen 45 = .ok (.putfield 21, 3) := by decide +kernel
theorem dX3_listen_48 : decode cX3_listen 48 = .ok (.iconst 0, 1) := by decide +kernel
theorem dX3_listen_49 : decode cX3_listen 49 = .ok (.istore 4, 2) := by decide +kernel
theorem dX3_listen_51 : decode cX3_listen 51 = .ok (.iload 4, 2) := by decide +kernel
theorem dX3_listen_53 : decode cX3_listen 53 = .ok (.aload_n 1, 1) := by decide +kernel
theorem dX3_listen_54 : decode cX3_listen 54 = .ok (.arraylength, 1) := by decide +kernel
theorem dX3_listen_55 : decode cX3_listen 55 = .ok (.if_icmp .ge 37, 3) := by decide +kernel
theorem dX3_listen_58 : decode cX3_listen 58 = .ok (.iload 4, 2) := by decide +kernel
theorem dX3_listen_60 : decode cX3_listen 60 = .ok (.iconst 4, 1) := by decide +kernel
theorem dX3_listen_61 : decode cX3_listen 61 = .ok (.if_icmp .ge 31, 3) := by decide +kernel
theorem dX3_listen_64 : decode cX3_listen 64 = .ok (.aload_n 0, 1) := by decide +kernel
theorem dX3_listen_65 : decode cX3_listen 65 = .ok (.getfield 15, 3) := by decide +kernel
theorem dX3_listen_68 : decode cX3_listen 68 = .ok (.iload_n 2, 1) := by decide +kernel
theorem dX3_listen_69 : decode cX3_listen 69 = .ok (.iconst 4, 1) := by decide +kernel
theorem dX3_listen_70 : decode cX3_listen 70 = .ok (.imul, 1) := by decide +kernel
theorem dX3_listen_71 : decode cX3_listen 71 = .ok (.iload 4, 2) := by decide +kernel
theorem dX3_listen_73 : decode cX3_listen 73 = .ok (.iadd, 1) := by decide +kernel
theorem dX3_listen_74 : decode cX3_listen 74 = .ok (.aload_n 0, 1) := by decide +kernel
theorem dX3_listen_75 : decode cX3_listen 75 = .ok (.aload_n 1, 1) := by decide +kernel
theorem dX3_listen_76 : decode cX3_listen 76 = .ok (.iload 4, 2) := by decide +kernel
theorem dX3_listen_78 : decode cX3_listen 78 = .ok (.aaload, 1) := by decide +kernel
theorem dX3_listen_79 : decode cX3_listen 79 = .ok (.iload 4, 2) := by decide +kernel
theorem dX3_listen_81 : decode cX3_listen 81 = .ok (.iload_n 3, 1) := by decide +kernel
theorem dX3_listen_82 : decode cX3_listen 82 = .ok (.invokevirtual 39, 3) := by decide +kernel
theorem dX3_listen_85 : decode cX3_listen 85 = .ok (.iastore, 1) := by decide +kernel
theorem dX3_listen_86 : decode cX3_listen 86 = .ok (.iinc 4 1, 3) := by decide +kernel
theorem dX3_listen_89 : decode cX3_listen 89 = .ok (.goto (-38), 3) := by decide +kernel
theorem dX3_listen_92 : decode cX3_listen 92 = .ok (.iinc 2 1, 3) := by decide +kernel
theorem dX3_listen_95 : decode cX3_listen 95 = .ok (.goto (-80), 3) := by decide +kernel
theorem dX3_listen_98 : decode cX3_listen 98 = .ok (.return_, 1) := by decide +kernel
theorem dX3_nextBegin_0 : decode cX3_nextBegin 0 = .ok (.iconst (-1), 1) := by decide +kernel
theorem dX3_nextBegin_1 : decode cX3_nextBegin 1 = .ok (.istore_n 2, 1) := by decide +kernel
theorem dX3_nextBegin_2 : decode cX3_nextBegin 2 = .ok (.iconst 0, 1) := by decide +kernel
theorem dX3_nextBegin_3 : decode cX3_nextBegin 3 = .ok (.istore_n 3, 1) := by decide +kernel
theorem dX3_nextBegin_4 : decode cX3_nextBegin 4 = .ok (.iload_n 3, 1) := by decide +kernel
theorem dX3_nextBegin_5 : decode cX3_nextBegin 5 = .ok (.aload_n 1, 1) := by decide +kernel
theorem dX3_nextBegin_6 : decode cX3_nextBegin 6 = .ok (.arraylength, 1) := by decide +kernel
theorem dX3_nextBegin_7 : decode cX3_nextBegin 7 = .ok (.if_icmp .ge 60, 3) := by decide +kernel
theorem dX3_nextBegin_10 : decode cX3_nextBegin 10 = .ok (.iload_n 3, 1) := by decide +kernel
theorem dX3_nextBegin_11 : decode cX3_nextBegin 11 = .ok (.iconst 4, 1) := by decide +kernel
theorem dX3_nextBegin_12 : decode cX3_nextBegin 12 = .ok (.if_icmp .ge 55, 3) := by decide +kernel
theorem dX3_nextBegin_15 : decode cX3_nextBegin 15 = .ok (.aload_n 0, 1) := by decide +kernel
theorem dX3_nextBegin_16 : decode cX3_nextBegin 16 = .ok (.getfield 18, 3) := by decide +kernel
theorem dX3_nextBegin_19 : decode cX3_nextBegin 19 = .ok (.iload_n 3, 1) := by decide +kernel
theorem dX3_nextBegin_20 : decode cX3_nextBegin 20 = .ok (.iaload, 1) := by decide +kernel
theorem dX3_nextBegin_21 : decode cX3_nextBegin 21 = .ok (.istore 4, 2) := by decide +kernel
theorem dX3_nextBegin_23 : decode cX3_nextBegin 23 = .ok (.aload_n 1, 1) := by decide +kernel
theorem dX3_nextBegin_24 : decode cX3_nextBegin 24 = .ok (.iload_n 3, 1) := by decide +kernel
theorem dX3_nextBegin_25 : decode cX3_nextBegin 25 = .ok (.aaload, 1) := by decide +kernel
theorem dX3_nextBegin_26 : decode cX3_nextBegin 26 = .ok (.iload 4, 2) := by decide +kernel
theorem dX3_nextBegin_28 : decode cX3_nextBegin 28 = .ok (.invokevirtual 43, 3) := by decide +kernel
theorem dX3_nextBegin_31 : decode cX3_nextBegin 31 = .ok (.ifCond .eq 30, 3) := by decide +kernel
theorem dX3_nextBegin_34 : decode cX3_nextBegin 34 = .ok (.aload_n 1, 1) := by decide +kernel
theorem dX3_nextBegin_35 : decode cX3_nextBegin 35 = .ok (.iload_n 3, 1) := by decide +kernel
theorem dX3_nextBegin_36 : decode cX3_nextBegin 36 = .ok (.aaload, 1) := by decide +kernel
theorem dX3_nextBegin_37 : decode cX3_nextBegin 37 = .ok (.iload 4, 2) := by decide +kernel
theorem dX3_nextBegin_39 : decode cX3_nextBegin 39 = .ok (.invokevirtual 46, 3) := by decide +kernel
theorem dX3_nextBegin_42 : decode cX3_nextBegin 42 = .ok (.istore 5, 2) := by decide +kernel
theorem dX3_nextBegin_44 : decode cX3_nextBegin 44 = .ok (.iload_n 2, 1) := by decide +kernel
theorem dX3_nextBegin_45 : decode cX3_nextBegin 45 = .ok (.iconst (-1), 1) := by decide +kernel
theorem dX3_nextBegin_46 : decode cX3_nextBegin 46 = .ok (.if_icmp .ne 8, 3) := by decide +kernel
theorem dX3_nextBegin_49 : decode cX3_nextBegin 49 = .ok (.iload 5, 2) := by decide +kernel
theorem dX3_nextBegin_51 : decode cX3_nextBegin 51 = .ok (.goto 9, 3) := by decide +kernel
theorem dX3_nextBegin_54 : decode cX3_nextBegin 54 = .ok (.iload_n 2, 1) := by decide +kernel
theorem dX3_nextBegin_55 : decode cX3_nextBegin 55 = .ok (.iload 5, 2) := by decide +kernel
theorem dX3_nextBegin_57 : decode cX3_nextBegin 57 = .ok (.invokestatic 50, 3) := by decide +kernel
theorem dX3_nextBegin_60 : decode cX3_nextBegin 60 = .ok (.istore_n 2, 1) := by decide +kernel
theorem dX3_nextBegin_61 : decode cX3_nextBegin 61 = .ok (.iinc 3 1, 3) := by decide +kernel
theorem dX3_nextBegin_64 : decode cX3_nextBegin 64 = .ok (.goto (-60), 3) := by decide +kernel
theorem dX3_nextBegin_67 : decode cX3_nextBegin 67 = .ok (.iload_n 2, 1) := by decide +kernel
theorem dX3_nextBegin_68 : decode cX3_nextBegin 68 = .ok (.ireturn, 1) := by decide +kernel
theorem dX3_eventGoingOn_0 : decode cX3_eventGoingOn 0 = .ok (.iload_n 2, 1) := by decide +kernel
theorem dX3_eventGoingOn_1 : decode cX3_eventGoingOn 1 = .ok (.ifCond .lt 8, 3) := by decide +kernel
theorem dX3_eventGoingOn_4 : decode cX3_eventGoingOn 4 = .ok (.iload_n 2, 1) := by decide +kernel
theorem dX3_eventGoingOn_5 : decode cX3_eventGoingOn 5 = .ok (.iconst 4, 1) := by decide +kernel
theorem dX3_eventGoingOn_6 : decode cX3_eventGoingOn 6 = .ok (.if_icmp .lt 5, 3) := by decide +kernel
theorem dX3_eventGoingOn_9 : decode cX3_eventGoingOn 9 = .ok (.iconst (-1), 1) := by decide +kernel
theorem dX3_eventGoingOn_10 : decode cX3_eventGoingOn 10 = .ok (.ireturn, 1) := by decide +kernel
theorem dX3_eventGoingOn_11 : decode cX3_eventGoingOn 11 = .ok (.aload_n 1, 1) := by decide +kernel
theorem dX3_eventGoingOn_12 : decode cX3_eventGoingOn 12 = .ok (.aload_n 0, 1) := by decide +kernel
theorem dX3_eventGoingOn_13 : decode cX3_eventGoingOn 13 = .ok (.getfield 18, 3) := by decide +kernel
theorem dX3_eventGoingOn_16 : decode cX3_eventGoingOn 16 = .ok (.iload_n 2, 1) := by decide +kernel
theorem dX3_eventGoingOn_17 : decode cX3_eventGoingOn 17 = .ok (.iaload, 1) := by decide +kernel
theorem dX3_eventGoingOn_18 : decode cX3_eventGoingOn 18 = .ok (.invokevirtual 43, 3) := by decide +kernel
theorem dX3_eventGoingOn_21 : decode cX3_eventGoingOn 21 = .ok (.ifCond .eq 27, 3) := by decide +kernel
theorem dX3_eventGoingOn_24 : decode cX3_eventGoingOn 24 = .ok (.aload_n 1, 1) := by decide +kernel
theorem dX3_eventGoingOn_25 : decode cX3_eventGoingOn 25 = .ok (.aload_n 0, 1) := by decide +kernel
theorem dX3_eventGoingOn_26 : decode cX3_eventGoingOn 26 = .ok (.getfield 18, 3) := by decide +kernel
theorem dX3_eventGoingOn_29 : decode cX3_eventGoingOn 29 = .ok (.iload_n 2, 1) := by decide +kernel
theorem dX3_eventGoingOn_30 : decode cX3_eventGoingOn 30 = .ok (.iaload, 1) := by decide +kernel
theorem dX3_eventGoingOn_31 : decode cX3_eventGoingOn 31 = .ok (.invokevirtual 46, 3) := by decide +kernel
theorem dX3_eventGoingOn_34 : decode cX3_eventGoingOn 34 = .ok (.iload_n 3, 1) := by decide +kernel
theorem dX3_eventGoingOn_35 : decode cX3_eventGoingOn 35 = .ok (.if_icmp .ne 13, 3) := by decide +kernel
theorem dX3_eventGoingOn_38 : decode cX3_eventGoingOn 38 = .ok (.aload_n 0, 1) := by decide +kernel
theorem dX3_eventGoingOn_39 : decode cX3_eventGoingOn 39 = .ok (.getfield 18, 3) := by decide +kernel
theorem dX3_eventGoingOn_42 : decode cX3_eventGoingOn 42 = .ok (.iload_n 2, 1) := by decide +kernel
theorem dX3_eventGoingOn_43 : decode cX3_eventGoingOn 43 = .ok (.dup2, 1) := by decide +kernel
theorem dX3_eventGoingOn_44 : decode cX3_eventGoingOn 44 = .ok (.iaload, 1) := by decide +kernel
theorem dX3_eventGoingOn_45 : decode cX3_eventGoingOn 45 = .ok (.iconst 1, 1) := by decide +kernel
theorem dX3_eventGoingOn_46 : decode cX3_eventGoingOn 46 = .ok (.iadd, 1) := by decide +kernel
theorem dX3_eventGoingOn_47 : decode cX3_eventGoingOn 47 = .ok (.iastore, 1) := by decide +kernel
theorem dX3_eventGoingOn_48 : decode cX3_eventGoingOn 48 = .ok (.aload_n 0, 1) := by decide +kernel
theorem dX3_eventGoingOn_49 : decode cX3_eventGoingOn 49 = .ok (.getfield 18, 3) := by decide +kernel
theorem dX3_eventGoingOn_52 : decode cX3_eventGoingOn 52 = .ok (.iload_n 2, 1) := by decide +kernel
theorem dX3_eventGoingOn_53 : decode cX3_eventGoingOn 53 = .ok (.iaload, 1) := by decide +kernel
theorem dX3_eventGoingOn_54 : decode cX3_eventGoingOn 54 = .ok (.iconst 1, 1) := by decide +kernel
theorem dX3_eventGoingOn_55 : decode cX3_eventGoingOn 55 = .ok (.isub, 1) := by decide +kernel
theorem dX3_eventGoingOn_56 : decode cX3_eventGoingOn 56 = .ok (.istore 4, 2) := by decide +kernel
theorem dX3_eventGoingOn_58 : decode cX3_eventGoingOn 58 = .ok (.aload_n 1, 1) := by decide +kernel
theorem dX3_eventGoingOn_59 : decode cX3_eventGoingOn 59 = .ok (.iload 4, 2) := by decide +kernel
theorem dX3_eventGoingOn_61 : decode cX3_eventGoingOn 61 = .ok (.invokevirtual 43, 3) := by decide +kernel
theorem dX3_eventGoingOn_64 : decode cX3_eventGoingOn 64 = .ok (.ifCond .eq 18, 3) := by decide +kernel
theorem dX3_eventGoingOn_67 : decode cX3_eventGoingOn 67 = .ok (.aload_n 1, 1) := by decide +kernel
theorem dX3_eventGoingOn_68 : decode cX3_eventGoingOn 68 = .ok (.iload 4, 2) := by decide +kernel
theorem dX3_eventGoingOn_70 : decode cX3_eventGoingOn 70 = .ok (.invokevirtual 56, 3) := by decide +kernel
theorem dX3_eventGoingOn_73 : decode cX3_eventGoingOn 73 = .ok (.iload_n 3, 1) := by decide +kernel
theorem dX3_eventGoingOn_74 : decode cX3_eventGoingOn 74 = .ok (.if_icmp .le 8, 3) := by decide +kernel
theorem dX3_eventGoingOn_77 : decode cX3_eventGoingOn 77 = .ok (.iload 4, 2) := by decide +kernel
theorem dX3_eventGoingOn_79 : decode cX3_eventGoingOn 79 = .ok (.goto 4, 3) := by decide +kernel
theorem dX3_eventGoingOn_82 : decode cX3_eventGoingOn 82 = .ok (.iconst (-1), 1) := by decide +kernel
theorem dX3_eventGoingOn_83 : decode cX3_eventGoingOn 83 = .ok (.ireturn, 1) := by decide +kernel
theorem dX4_init_0 : decode cX4_init 0 = .ok (.aload_n 0, 1) := by decide +kernel
theorem dX4_init_1 : decode cX4_init 1 = .ok (.invokespecial 3, 3) := by decide +kernel
theorem dX4_init_4 : decode cX4_init 4 = .ok (.aload_n 0, 1) := by decide +kernel
theorem dX4_init_5 : decode cX4_init 5 = .ok (.bipush 24, 2) := by decide +kernel
theorem dX4_init_7 : decode cX4_init 7 = .ok (.newarray .int, 2) := by decide +kernel
theorem dX4_init_9 : decode cX4_init 9 = .ok (.putfield 9, 3) := by decide +kernel
theorem dX4_init_12 : decode cX4_init 12 = .ok (.aload_n 0, 1) := by decide +kernel
theorem dX4_init_13 : decode cX4_init 13 = .ok (.bipush 25, 2) := by decide +kernel
theorem dX4_init_15 : decode cX4_init 15 = .ok (.newarray .int, 2) := by decide +kernel
theorem dX4_init_17 : decode cX4_init 17 = .ok (.putfield 15, 3) := by decide +kernel
theorem dX4_init_20 : decode cX4_init 20 = .ok (.aload_n 0, 1) := by decide +kernel
theorem dX4_init_21 : decode cX4_init 21 = .ok (.bipush 24, 2) := by decide +kernel
theorem dX4_init_23 : decode cX4_init 23 = .ok (.newarray .int, 2) := by decide +kernel
theorem dX4_init_25 : decode cX4_init 25 = .ok (.putfield 18, 3) := by decide +kernel
theorem dX4_init_28 : decode cX4_init 28 = .ok (.aload_n 0, 1) := by decide +kernel
theorem dX4_init_29 : decode cX4_init 29 = .ok (.bipush 24, 2) := by decide +kernel
theorem dX4_init_31 : decode cX4_init 31 = .ok (.newarray .int, 2) := by decide +kernel
theorem dX4_init_33 : decode cX4_init 33 = .ok (.putfield 21, 3) := by decide +kernel
theorem dX4_init_36 : decode cX4_init 36 = .ok (.return_, 1) := by decide +kernel
theorem dX4_size_0 : decode cX4_size 0 = .ok (.aload_n 0, 1) := by decide +kernel
theorem dX4_size_1 : decode cX4_size 1 = .ok (.getfield 24, 3) := by decide +kernel
theorem dX4_size_4 : decode cX4_size 4 = .ok (.ireturn, 1) := by decide +kernel
theorem dX4_leastCost_0 : decode cX4_leastCost 0 = .ok (.aload_n 0, 1) := by decide +kernel
theorem dX4_leastCost_1 : decode cX4_leastCost 1 = .ok (.getfield 15, 3) := by decide +kernel
theorem dX4_leastCost_4 : decode cX4_leastCost 4 = .ok (.iconst 0, 1) := by decide +kernel
theorem dX4_leastCost_5 : decode cX4_leastCost 5 = .ok (.iaload, 1) := by decide +kernel
theorem dX4_leastCost_6 : decode cX4_leastCost 6 = .ok (.ireturn, 1) := by decide +kernel
theorem dX4_widthAt_0 : decode cX4_widthAt 0 = .ok (.iload_n 1, 1) := by decide +kernel
theorem dX4_widthAt_1 : decode cX4_widthAt 1 = .ok (.ifCond .lt 18, 3) := by decide +kernel
theorem dX4_widthAt_4 : decode cX4_widthAt 4 = .ok (.iload_n 1, 1) := by decide +kernel
theorem dX4_widthAt_5 : decode cX4_widthAt 5 = .ok (.bipush 24, 2) := by decide +kernel
theorem dX4_widthAt_7 : decode cX4_widthAt 7 = .ok (.if_icmp .ge 12, 3) := by decide +kernel
theorem dX4_widthAt_10 : decode cX4_widthAt 10 = .ok (.aload_n 0, 1) := by decide +kernel
theorem dX4_widthAt_11 : decode cX4_widthAt 11 = .ok (.getfield 9, 3) := by decide +kernel
theorem dX4_widthAt_14 : decode cX4_widthAt 14 = .ok (.iload_n 1, 1) := by decide +kernel
theorem dX4_widthAt_15 : decode cX4_widthAt 15 = .ok (.iaload, 1) := by decide +kernel
theorem dX4_widthAt_16 : decode cX4_widthAt 16 = .ok (.goto 4, 3) := by decide +kernel
theorem dX4_widthAt_19 : decode cX4_widthAt 19 = .ok (.iconst 0, 1) := by decide +kernel
theorem dX4_widthAt_20 : decode cX4_widthAt 20 = .ok (.ireturn, 1) := by decide +kernel
theorem dX4_lineAt_0 : decode cX4_lineAt 0 = .ok (.iload_n 1, 1) := by decide +kernel
theorem dX4_lineAt_1 : decode cX4_lineAt 1 = .ok (.ifCond .lt 18, 3) := by decide +kernel
theorem dX4_lineAt_4 : decode cX4_lineAt 4 = .ok (.iload_n 1, 1) := by decide +kernel
theorem dX4_lineAt_5 : decode cX4_lineAt 5 = .ok (.bipush 24, 2) := by decide +kernel
theorem dX4_lineAt_7 : decode cX4_lineAt 7 = .ok (.if_icmp .ge 12, 3) := by decide +kernel
theorem dX4_lineAt_10 : decode cX4_lineAt 10 = .ok (.aload_n 0, 1) := by decide +kernel
theorem dX4_lineAt_11 : decode cX4_lineAt 11 = .ok (.getfield 21, 3) := by decide +kernel
theorem dX4_lineAt_14 : decode cX4_lineAt 14 = .ok (.iload_n 1, 1) := by decide +kernel
theorem dX4_lineAt_15 : decode cX4_lineAt 15 = .ok (.iaload, 1) := by decide +kernel
theorem dX4_lineAt_16 : decode cX4_lineAt 16 = .ok (.goto 4, 3) := by decide +kernel
theorem dX4_lineAt_19 : decode cX4_lineAt 19 = .ok (.iconst (-1), 1) := by decide +kernel
theorem dX4_lineAt_20 : decode cX4_lineAt 20 = .ok (.ireturn, 1) := by decide +kernel
theorem dX4_measureWidths_0 : decode cX4_measureWidths 0 = .ok (.iconst 0, 1) := by decide +kernel
theorem dX4_measureWidths_1 : decode cX4_measureWidths 1 = .ok (.istore_n 3, 1) := by decide +kernel
theorem dX4_measureWidths_2 : decode cX4_measureWidths 2 = .ok (.iconst 0, 1) := by decide +kernel
theorem dX4_measureWidths_3 : decode cX4_measureWidths 3 = .ok (.istore 4, 2) := by decide +kernel
theorem dX4_measureWidths_5 : decode cX4_measureWidths 5 = .ok (.iload 4, 2) := by decide +kernel
theorem dX4_measureWidths_7 : decode cX4_measureWidths 7 = .ok (.bipush 24, 2) := by decide +kernel
theorem dX4_measureWidths_9 : decode cX4_measureWidths 9 = .ok (.if_icmp .ge 118, 3) := by decide +kernel
theorem dX4_measureWidths_12 : decode cX4_measureWidths 12 = .ok (.aload_n 1, 1) := by decide +kernel
theorem dX4_measureWidths_13 : decode cX4_measureWidths 13 = .ok (.iload 4, 2) := by decide +kernel
theorem dX4_measureWidths_15 : decode cX4_measureWidths 15 = .ok (.invokevirtual 28, 3) := by decide +kernel
theorem dX4_measureWidths_18 : decode cX4_measureWidths 18 = .ok (.istore 5, 2) := by decide +kernel
theorem dX4_measureWidths_20 : decode cX4_measureWidths 20 = .ok (.iload 5, 2) := by decide +kernel
theorem dX4_measureWidths_22 : decode cX4_measureWidths 22 = .ok (.aload_n 1, 1) := by decide +kernel
theorem dX4_measureWidths_23 : decode cX4_measureWidths 23 = .ok (.iload 4, 2) := by decide +kernel
theorem dX4_measureWidths_25 : decode cX4_measureWidths 25 = .ok (.invokevirtual 34, 3) := by decide +kernel
theorem dX4_measureWidths_28 : decode cX4_measureWidths 28 = .ok (.iadd, 1) := by decide +kernel
theorem dX4_measureWidths_29 : decode cX4_measureWidths 29 = .ok (.istore 6, 2) := by decide +kernel
theorem dX4_measureWidths_31 : decode cX4_measureWidths 31 = .ok (.iconst 3, 1) := by decide +kernel
theorem dX4_measureWidths_32 : decode cX4_measureWidths 32 = .ok (.aload_n 1, 1) := by decide +kernel
theorem dX4_measureWidths_33 : decode cX4_measureWidths 33 = .ok (.iload 4, 2) := by decide +kernel
theorem dX4_measureWidths_35 : decode cX4_measureWidths 35 = .ok (.invokevirtual 37, 3) := by decide +kernel
theorem dX4_measureWidths_38 : decode cX4_measureWidths 38 = .ok (.invokestatic 40, 3) := by decide +kernel
theorem dX4_measureWidths_41 : decode cX4_measureWidths 41 = .ok (.iconst 3, 1) := by decide +kernel
theorem dX4_measureWidths_42 : decode cX4_measureWidths 42 = .ok (.iadd, 1) := by decide +kernel
theorem dX4_measureWidths_43 : decode cX4_measureWidths 43 = .ok (.iconst 4, 1) := by decide +kernel
theorem dX4_measureWidths_44 : decode cX4_measureWidths 44 = .ok (.idiv, 1) := by decide +kernel
theorem dX4_measureWidths_45 : decode cX4_measureWidths 45 = .ok (.iadd, 1) := by decide +kernel
theorem dX4_measureWidths_46 : decode cX4_measureWidths 46 = .ok (.istore 7, 2) := by decide +kernel
theorem dX4_measureWidths_48 : decode cX4_measureWidths 48 = .ok (.iload_n 3, 1) := by decide +kernel
theorem dX4_measureWidths_49 : decode cX4_measureWidths 49 = .ok (.aload_n 2, 1) := by decide +kernel
theorem dX4_measureWidths_50 : decode cX4_measureWidths 50 = .ok (.invokevirtual 45, 3) := by decide +kernel
theorem dX4_measureWidths_53 : decode cX4_measureWidths 53 = .ok (.if_icmp .ge 50, 3) := by decide +kernel
theorem dX4_measureWidths_56 : decode cX4_measureWidths 56 = .ok (.aload_n 2, 1) := by decide +kernel
theorem dX4_measureWidths_57 : decode cX4_measureWidths 57 = .ok (.iload_n 3, 1) := by decide +kernel
theorem dX4_measureWidths_58 : decode cX4_measureWidths 58 = .ok (.invokevirtual 51, 3) := by decide +kernel
theorem dX4_measureWidths_61 : decode cX4_measureWidths 61 = .ok (.iload 6, 2) := by decide +kernel
theorem dX4_measureWidths_63 : decode cX4_measureWidths 63 = .ok (.if_icmp .ge 40, 3) := by decide +kernel
theorem dX4_measureWidths_66 : decode cX4_measureWidths 66 = .ok (.aload_n 2, 1) := by decide +kernel
theorem dX4_measureWidths_67 : decode cX4_measureWidths 67 = .ok (.iload_n 3, 1) := by decide +kernel
theorem dX4_measureWidths_68 : decode cX4_measureWidths 68 = .ok (.invokevirtual 51, 3) := by decide +kernel
theorem dX4_measureWidths_71 : decode cX4_measureWidths 71 = .ok (.istore 8, 2) := by decide +kernel
theorem dX4_measureWidths_73 : decode cX4_measureWidths 73 = .ok (.iload 8, 2) := by decide +kernel
theorem dX4_measureWidths_75 : decode cX4_measureWidths 75 = .ok (.iload 5, 2) := by decide +kernel
theorem dX4_measureWidths_77 : decode cX4_measureWidths 77 = .ok (.if_icmp .le 20, 3) := by decide +kernel
theorem dX4_measureWidths_80 : decode cX4_measureWidths 80 = .ok (.iload 7, 2) := by decide +kernel
theorem dX4_measureWidths_82 : decode cX4_measureWidths 82 = .ok (.iload 8, 2) := by decide +kernel
theorem dX4_measureWidths_84 : decode cX4_measureWidths 84 = .ok (.iload 5, 2) := by decide +kernel
theorem dX4_measureWidths_86 : decode cX4_measureWidths 86 = .ok (.isub, 1) := by decide +kernel
theorem dX4_measureWidths_87 : decode cX4_measureWidths 87 = .ok (.invokestatic 54, 3) := by decide +kernel
theorem dX4_measureWidths_90 : decode cX4_measureWidths 90 = .ok (.iadd, 1) := by decide +kernel
theorem dX4_measureWidths_91 : decode cX4_measureWidths 91 = .ok (.istore 7, 2) := by decide +kernel
theorem dX4_measureWidths_93 : decode cX4_measureWidths 93 = .ok (.iload 8, 2) := by decide +kernel
theorem dX4_measureWidths_95 : decode cX4_measureWidths 95 = .ok (.istore 5, 2) := by decide +kernel
theorem dX4_measureWidths_97 : decode cX4_measureWidths 97 = .ok (.iinc 3 1, 3) := by decide +kernel
theorem dX4_measureWidths_100 : decode cX4_measureWidths 100 = .ok (.goto (-52), 3) := by decide +kernel
theorem dX4_measureWidths_103 : decode cX4_measureWidths 103 = .ok (.aload_n 0, 1) := by decide +kernel
theorem dX4_measureWidths_104 : decode cX4_measureWidths 104 = .ok (.getfield 9, 3) := by decide +kernel
theorem dX4_measureWidths_107 : decode cX4_measureWidths 107 = .ok (.iload 4, 2) := by decide +kernel
theorem dX4_measureWidths_109 : decode cX4_measureWidths 109 = .ok (.iload 7, 2) := by decide +kernel
theorem dX4_measureWidths_111 : decode cX4_measureWidths 111 = .ok (.iload 6, 2) := by decide +kernel
theorem dX4_measureWidths_113 : decode cX4_measureWidths 113 = .ok (.iload 5, 2) := by decide +kernel
theorem dX4_measureWidths_115 : decode cX4_measureWidths 115 = .ok (.isub, 1) := by decide +kernel
theorem dX4_measureWidths_116 : decode cX4_measureWidths 116 = .ok (.invokestatic 54, 3) := by decide +kernel
theorem dX4_measureWidths_119 : decode cX4_measureWidths 119 = .ok (.iadd, 1) := by decide +kernel
theorem dX4_measureWidths_120 : decode cX4_measureWidths 120 = .ok (.iastore, 1) := by decide +kernel
theorem dX4_measureWidths_121 : decode cX4_measureWidths 121 = .ok (.iinc 4 1, 3) := by decide +kernel
theorem dX4_measureWidths_124 : decode cX4_measureWidths 124 = .ok (.goto (-119), 3) := by decide +kernel
theorem dX4_measureWidths_127 : decode cX4_measureWidths 127 = .ok (.return_, 1) := by decide +kernel
theorem dX4_widthOfGap_0 : decode cX4_widthOfGap 0 = .ok (.iconst 0, 1) := by decide +kernel
theorem dX4_widthOfGap_1 : decode cX4_widthOfGap 1 = .ok (.istore_n 1, 1) := by decide +kernel
theorem dX4_widthOfGap_2 : decode cX4_widthOfGap 2 = .ok (.iconst 1, 1) := by decide +kernel
theorem dX4_widthOfGap_3 : decode cX4_widthOfGap 3 = .ok (.istore_n 2, 1) := by decide +kernel
theorem dX4_widthOfGap_4 : decode cX4_widthOfGap 4 = .ok (.iload_n 2, 1) := by decide +kernel
theorem dX4_widthOfGap_5 : decode cX4_widthOfGap 5 = .ok (.bipush 31, 2) := by decide +kernel
theorem dX4_widthOfGap_7 : decode cX4_widthOfGap 7 = .ok (.if_icmp .ge 17, 3) := by decide +kernel
theorem dX4_widthOfGap_10 : decode cX4_widthOfGap 10 = .ok (.iload_n 0, 1) := by decide +kernel
theorem dX4_widthOfGap_11 : decode cX4_widthOfGap 11 = .ok (.iload_n 2, 1) := by decide +kernel
theorem dX4_widthOfGap_12 : decode cX4_widthOfGap 12 = .ok (.ishr, 1) := by decide +kernel
theorem dX4_widthOfGap_13 : decode cX4_widthOfGap 13 = .ok (.ifCond .le 11, 3) := by decide +kernel
theorem dX4_widthOfGap_16 : decode cX4_widthOfGap 16 = .ok (.iload_n 2, 1) := by decide +kernel
theorem dX4_widthOfGap_17 : decode cX4_widthOfGap 17 = .ok (.istore_n 1, 1) := by decide +kernel
theorem dX4_widthOfGap_18 : decode cX4_widthOfGap 18 = .ok (.iinc 2 1, 3) := by decide +kernel
theorem dX4_widthOfGap_21 : decode cX4_widthOfGap 21 = .ok (.goto (-17), 3) := by decide +kernel
theorem dX4_widthOfGap_24 : decode cX4_widthOfGap 24 = .ok (.iconst 2, 1) := by decide +kernel
theorem dX4_widthOfGap_25 : decode cX4_widthOfGap 25 = .ok (.iload_n 1, 1) := by decide +kernel
theorem dX4_widthOfGap_26 : decode cX4_widthOfGap 26 = .ok (.iadd, 1) := by decide +kernel
theorem dX4_widthOfGap_27 : decode cX4_widthOfGap 27 = .ok (.ireturn, 1) := by decide +kernel
theorem dX4_breakUp_0 : decode cX4_breakUp 0 = .ok (.iconst 0, 1) := by decide +kernel
theorem dX4_breakUp_1 : decode cX4_breakUp 1 = .ok (.iload_n 1, 1) := by decide +kernel
theorem dX4_breakUp_2 : decode cX4_breakUp 2 = .ok (.bipush 24, 2) := by decide +kernel
theorem dX4_breakUp_4 : decode cX4_breakUp 4 = .ok (.invokestatic 57, 3) := by decide +kernel
theorem dX4_breakUp_7 : decode cX4_breakUp 7 = .ok (.invokestatic 61, 3) := by decide +kernel
theorem dX4_breakUp_10 : decode cX4_breakUp 10 = .ok (.istore_n 3, 1) := by decide +kernel
theorem dX4_breakUp_11 : decode cX4_breakUp 11 = .ok (.aload_n 0, 1) := by decide +kernel
theorem dX4_breakUp_12 : decode cX4_breakUp 12 = .ok (.getfield 15, 3) := by decide +kernel
theorem dX4_breakUp_15 : decode cX4_breakUp 15 = .ok (.iload_n 3, 1) := by decide +kernel
theorem dX4_breakUp_16 : decode cX4_breakUp 16 = .ok (.iconst 0, 1) := by decide +kernel
theorem dX4_breakUp_17 : decode cX4_breakUp 17 = .ok (.iastore, 1) := by decide +kernel
theorem dX4_breakUp_18 : decode cX4_breakUp 18 = .ok (.iload_n 3, 1) := by decide +kernel
theorem dX4_breakUp_19 : decode cX4_breakUp 19 = .ok (.iconst 1, 1) := by decide +kernel
theorem dX4_breakUp_20 : decode cX4_breakUp 20 = .ok (.isub, 1) := by decide +kernel
theorem dX4_breakUp_21 : decode cX4_breakUp 21 = .ok (.istore 4, 2) := by decide +kernel
theorem dX4_breakUp_23 : decode cX4_breakUp 23 = .ok (.iload 4, 2) := by decide +kernel
theorem dX4_breakUp_25 : decode cX4_breakUp 25 = .ok (.ifCond .lt 17, 3) := by decide +kernel
theorem dX4_breakUp_28 : decode cX4_breakUp 28 = .ok (.aload_n 0, 1) := by decide +kernel
theorem dX4_breakUp_29 : decode cX4_breakUp 29 = .ok (.iload 4, 2) := by decide +kernel
theorem dX4_breakUp_31 : decode cX4_breakUp 31 = .ok (.iload_n 3, 1) := by decide +kernel
theorem dX4_breakUp_32 : decode cX4_breakUp 32 = .ok (.iload_n 2, 1) := by decide +kernel
theorem dX4_breakUp_33 : decode cX4_breakUp 33 = .ok (.invokevirtual 64, 3) := by decide +kernel
theorem dX4_breakUp_36 : decode cX4_breakUp 36 = .ok (.iinc 4 (-1), 3) := by decide +kernel
theorem dX4_breakUp_39 : decode cX4_breakUp 39 = .ok (.goto (-16), 3) := by decide +kernel
theorem dX4_breakUp_42 : decode cX4_breakUp 42 = .ok (.aload_n 0, 1) := by decide +kernel
theorem dX4_breakUp_43 : decode cX4_breakUp 43 = .ok (.iload_n 3, 1) := by decide +kernel
theorem dX4_breakUp_44 : decode cX4_breakUp 44 = .ok (.invokevirtual 68, 3) := by decide +kernel
theorem dX4_breakUp_47 : decode cX4_breakUp 47 = .ok (.return_, 1) := by decide +kernel
theorem dX4_chooseLine_0 : decode cX4_chooseLine 0 = .ok (.iload_n 1, 1) := by decide +kernel
theorem dX4_chooseLine_1 : decode cX4_chooseLine 1 = .ok (.ifCond .lt 9, 3) := by decide +kernel
theorem dX4_chooseLine_4 : decode cX4_chooseLine 4 = .ok (.iload_n 1, 1) := by decide +kernel
theorem dX4_chooseLine_5 : decode cX4_chooseLine 5 = .ok (.bipush 24, 2) := by decide +kernel
theorem dX4_chooseLine_7 : decode cX4_chooseLine 7 = .ok (.if_icmp .lt 4, 3) := by decide +kernel
theorem dX4_chooseLine_10 : decode cX4_chooseLine 10 = .ok (.return_, 1) := by decide +kernel
theorem dX4_chooseLine_11 : decode cX4_chooseLine 11 = .ok (.iconst 0, 1) := by decide +kernel
theorem dX4_chooseLine_12 : decode cX4_chooseLine 12 = .ok (.istore 4, 2) := by decide +kernel
theorem dX4_chooseLine_14 : decode cX4_chooseLine 14 = .ok (.iconst (-1), 1) := by decide +kernel
theorem dX4_chooseLine_15 : decode cX4_chooseLine 15 = .ok (.istore 5, 2) := by decide +kernel
theorem dX4_chooseLine_17 : decode cX4_chooseLine 17 = .ok (.iload_n 1, 1) := by decide +kernel
theorem dX4_chooseLine_18 : decode cX4_chooseLine 18 = .ok (.iconst 1, 1) := by decide +kernel
theorem dX4_chooseLine_19 : decode cX4_chooseLine 19 = .ok (.iadd, 1) := by decide +kernel
theorem dX4_chooseLine_20 : decode cX4_chooseLine 20 = .ok (.istore 6, 2) := by decide +kernel
theorem dX4_chooseLine_22 : decode cX4_chooseLine 22 = .ok (.iload 6, 2) := by decide +kernel
theorem dX4_chooseLine_24 : decode cX4_chooseLine 24 = .ok (.iload_n 2, 1) := by decide +kernel
theorem dX4_chooseLine_25 : decode cX4_chooseLine 25 = .ok (.if_icmp .gt 91, 3) := by decide +kernel
theorem dX4_chooseLine_28 : decode cX4_chooseLine 28 = .ok (.iload 6, 2) := by decide +kernel
theorem dX4_chooseLine_30 : decode cX4_chooseLine 30 = .ok (.bipush 24, 2) := by decide +kernel
theorem dX4_chooseLine_32 : decode cX4_chooseLine 32 = .ok (.if_icmp .gt 84, 3) := by decide +kernel
theorem dX4_chooseLine_35 : decode cX4_chooseLine 35 = .ok (.iload 4, 2) := by decide +kernel
theorem dX4_chooseLine_37 : decode cX4_chooseLine 37 = .ok (.aload_n 0, 1) := by decide +kernel
theorem dX4_chooseLine_38 : decode cX4_chooseLine 38 = .ok (.getfield 9, 3) := by decide +kernel
theorem dX4_chooseLine_41 : decode cX4_chooseLine 41 = .ok (.iload 6, 2) := by decide +kernel
theorem dX4_chooseLine_43 : decode cX4_chooseLine 43 = .ok (.iconst 1, 1) := by decide +kernel
theorem dX4_chooseLine_44 : decode cX4_chooseLine 44 = .ok (.isub, 1) := by decide +kernel
theorem dX4_chooseLine_45 : decode cX4_chooseLine 45 = .ok (.iaload, 1) := by decide +kernel
theorem dX4_chooseLine_46 : decode cX4_chooseLine 46 = .ok (.iadd, 1) := by decide +kernel
theorem dX4_chooseLine_47 : decode cX4_chooseLine 47 = .ok (.istore 4, 2) := by decide +kernel
theorem dX4_chooseLine_49 : decode cX4_chooseLine 49 = .ok (.iload_n 3, 1) := by decide +kernel
theorem dX4_chooseLine_50 : decode cX4_chooseLine 50 = .ok (.iload 4, 2) := by decide +kernel
theorem dX4_chooseLine_52 : decode cX4_chooseLine 52 = .ok (.isub, 1) := by decide +kernel
theorem dX4_chooseLine_53 : decode cX4_chooseLine 53 = .ok (.istore 7, 2) := by decide +kernel
theorem dX4_chooseLine_55 : decode cX4_chooseLine 55 = .ok (.iload 6, 2) := by decide +kernel
theorem dX4_chooseLine_57 : decode cX4_chooseLine 57 = .ok (.iload_n 2, 1) := by decide +kernel
theorem dX4_chooseLine_58 : decode cX4_chooseLine 58 = .ok (.if_icmp .ne 12, 3) := by decide +kernel
theorem dX4_chooseLine_61 : decode cX4_chooseLine 61 = .ok (.iload 7, 2) := by decide +kernel
theorem dX4_chooseLine_63 : decode cX4_chooseLine 63 = .ok (.ifCond .lt 7, 3) := by decide +kernel
theorem dX4_chooseLine_66 : decode cX4_chooseLine 66 = .ok (.iconst 0, 1) := by decide +kernel
theorem dX4_chooseLine_67 : decode cX4_chooseLine 67 = .ok (.goto 8, 3) := by decide +kernel
theorem dX4_chooseLine_70 : decode cX4_chooseLine 70 = .ok (.iload 7, 2) := by decide +kernel
theorem dX4_chooseLine_72 : decode cX4_chooseLine 72 = .ok (.iload 7, 2) := by decide +kernel
theorem dX4_chooseLine_74 : decode cX4_chooseLine 74 = .ok (.imul, 1) := by decide +kernel
theorem dX4_chooseLine_75 : decode cX4_chooseLine 75 = .ok (.aload_n 0, 1) := by decide +kernel
theorem dX4_chooseLine_76 : decode cX4_chooseLine 76 = .ok (.getfield 15, 3) := by decide +kernel
theorem dX4_chooseLine_79 : decode cX4_chooseLine 79 = .ok (.iload 6, 2) := by decide +kernel
theorem dX4_chooseLine_81 : decode cX4_chooseLine 81 = .ok (.iaload, 1) := by decide +kernel
theorem dX4_chooseLine_82 : decode cX4_chooseLine 82 = .ok (.iadd, 1) := by decide +kernel
theorem dX4_chooseLine_83 : decode cX4_chooseLine 83 = .ok (.istore 8, 2) := by decide +kernel
theorem dX4_chooseLine_85 : decode cX4_chooseLine 85 = .ok (.iload 5, 2) := by decide +kernel
theorem dX4_chooseLine_87 : decode cX4_chooseLine 87 = .ok (.iconst (-1), 1) := by decide +kernel
theorem dX4_chooseLine_88 : decode cX4_chooseLine 88 = .ok (.if_icmp .eq 10, 3) := by decide +kernel
theorem dX4_chooseLine_91 : decode cX4_chooseLine 91 = .ok (.iload 8, 2) := by decide +kernel
theorem dX4_chooseLine_93 : decode cX4_chooseLine 93 = .ok (.iload 5, 2) := by decide +kernel
theorem dX4_chooseLine_95 : decode cX4_chooseLine 95 = .ok (.if_icmp .gt 15, 3) := by decide +kernel
theorem dX4_chooseLine_98 : decode cX4_chooseLine 98 = .ok (.iload 8, 2) := by decide +kernel
theorem dX4_chooseLine_100 : decode cX4_chooseLine 100 = .ok (.istore 5, 2) := by decide +kernel
theorem dX4_chooseLine_102 : decode cX4_chooseLine 102 = .ok (.aload_n 0, 1) := by decide +kernel
theorem dX4_chooseLine_103 : decode cX4_chooseLine 103 = .ok (.getfield 18, 3) := by decide +kernel
theorem dX4_chooseLine_106 : decode cX4_chooseLine 106 = .ok (.iload_n 1, 1) := by decide +kernel
theorem dX4_chooseLine_107 : decode cX4_chooseLine 107 = .ok (.iload 6, 2) := by decide +kernel
theorem dX4_chooseLine_109 : decode cX4_chooseLine 109 = .ok (.iastore, 1) := by decide +kernel
theorem dX4_chooseLine_110 : decode cX4_chooseLine 110 = .ok (.iinc 6 1, 3) := by decide +kernel
theorem dX4_chooseLine_113 : decode cX4_chooseLine 113 = .ok (.goto (-91), 3) := by decide +kernel
theorem dX4_chooseLine_116 : decode cX4_chooseLine 116 = .ok (.aload_n 0, 1) := by decide +kernel
theorem dX4_chooseLine_117 : decode cX4_chooseLine 117 = .ok (.getfield 15, 3) := by decide +kernel
theorem dX4_chooseLine_120 : decode cX4_chooseLine 120 = .ok (.iload_n 1, 1) := by decide +kernel
theorem dX4_chooseLine_121 : decode cX4_chooseLine 121 = .ok (.iload 5, 2) := by decide +kernel
theorem dX4_chooseLine_123 : decode cX4_chooseLine 123 = .ok (.iastore, 1) := by decide +kernel
theorem dX4_chooseLine_124 : decode cX4_chooseLine 124 = .ok (.return_, 1) := by decide +kernel
theorem dX4_numberLines_0 : decode cX4_numberLines 0 = .ok (.aload_n 0, 1) := by decide +kernel
theorem dX4_numberLines_1 : decode cX4_numberLines 1 = .ok (.iconst 0, 1) := by decide +kernel
theorem dX4_numberLines_2 : decode cX4_numberLines 2 = .ok (.putfield 24, 3) := by decide +kernel
theorem dX4_numberLines_5 : decode cX4_numberLines 5 = .ok (.iconst 0, 1) := by decide +kernel
theorem dX4_numberLines_6 : decode cX4_numberLines 6 = .ok (.istore_n 2, 1) := by decide +kernel
theorem dX4_numberLines_7 : decode cX4_numberLines 7 = .ok (.iconst 0, 1) := by decide +kernel
theorem dX4_numberLines_8 : decode cX4_numberLines 8 = .ok (.istore_n 3, 1) := by decide +kernel
theorem dX4_numberLines_9 : decode cX4_numberLines 9 = .ok (.iload_n 3, 1) := by decide +kernel
theorem dX4_numberLines_10 : decode cX4_numberLines 10 = .ok (.bipush 24, 2) := by decide +kernel
theorem dX4_numberLines_12 : decode cX4_numberLines 12 = .ok (.if_icmp .ge 58, 3) := by decide +kernel
theorem dX4_numberLines_15 : decode cX4_numberLines 15 = .ok (.iload_n 3, 1) := by decide +kernel
theorem dX4_numberLines_16 : decode cX4_numberLines 16 = .ok (.iload_n 1, 1) := by decide +kernel
theorem dX4_numberLines_17 : decode cX4_numberLines 17 = .ok (.if_icmp .lt 13, 3) := by decide +kernel
theorem dX4_numberLines_20 : decode cX4_numberLines 20 = .ok (.aload_n 0, 1) := by decide +kernel
theorem dX4_numberLines_21 : decode cX4_numberLines 21 = .ok (.getfield 21, 3) := by decide +kernel
theorem dX4_numberLines_24 : decode cX4_numberLines 24 = .ok (.iload_n 3, 1) := by decide +kernel
theorem dX4_numberLines_25 : decode cX4_numberLines 25 = .ok (.iconst (-1), 1) := by decide +kernel
theorem dX4_numberLines_26 : decode cX4_numberLines 26 = .ok (.iastore, 1) := by decide +kernel
theorem dX4_numberLines_27 : decode cX4_numberLines 27 = .ok (.goto 37, 3) := by decide +kernel
theorem dX4_numberLines_30 : decode cX4_numberLines 30 = .ok (.iload_n 3, 1) := by decide +kernel
theorem dX4_numberLines_31 : decode cX4_numberLines 31 = .ok (.iload_n 2, 1) := by decide +kernel
theorem dX4_numberLines_32 : decode cX4_numberLines 32 = .ok (.if_icmp .ne 20, 3) := by decide +kernel
theorem dX4_numberLines_35 : decode cX4_numberLines 35 = .ok (.aload_n 0, 1) := by decide +kernel
theorem dX4_numberLines_36 : decode cX4_numberLines 36 = .ok (.dup, 1) := by decide +kernel
theorem dX4_numberLines_37 : decode cX4_numberLines 37 = .ok (.getfield 24, 3) := by decide +kernel
theorem dX4_numberLines_40 : decode cX4_numberLines 40 = .ok (.iconst 1, 1) := by decide +kernel
theorem dX4_numberLines_41 : decode cX4_numberLines 41 = .ok (.iadd, 1) := by decide +kernel
theorem dX4_numberLines_42 : decode cX4_numberLines 42 = .ok (.putfield 24, 3) := by decide +kernel
theorem dX4_numberLines_45 : decode cX4_numberLines 45 = .ok (.aload_n 0, 1) := by decide +kernel
theorem dX4_numberLines_46 : decode cX4_numberLines 46 = .ok (.getfield 18, 3) := by decide +kernel
theorem dX4_numberLines_49 : decode cX4_numberLines 49 = .ok (.iload_n 3, 1) := by decide +kernel
theorem dX4_numberLines_50 : decode cX4_numberLines 50 = .ok (.iaload, 1) := by decide +kernel
theorem dX4_numberLines_51 : decode cX4_numberLines 51 = .ok (.istore_n 2, 1) := by decide +kernel
theorem dX4_numberLines_52 : decode cX4_numberLines 52 = .ok (.aload_n 0, 1) := by decide +kernel
theorem dX4_numberLines_53 : decode cX4_numberLines 53 = .ok (.getfield 21, 3) := by decide +kernel
theorem dX4_numberLines_56 : decode cX4_numberLines 56 = .ok (.iload_n 3, 1) := by decide +kernel
theorem dX4_numberLines_57 : decode cX4_numberLines 57 = .ok (.aload_n 0, 1) := by decide +kernel
theorem dX4_numberLines_58 : decode cX4_numberLines 58 = .ok (.getfield 24, 3) := by decide +kernel
theorem dX4_numberLines_61 : decode cX4_numberLines 61 = .ok (.iconst 1, 1) := by decide +kernel
theorem dX4_numberLines_62 : decode cX4_numberLines 62 = .ok (.isub, 1) := by decide +kernel
theorem dX4_numberLines_63 : decode cX4_numberLines 63 = .ok (.iastore, 1) := by decide +kernel
theorem dX4_numberLines_64 : decode cX4_numberLines 64 = .ok (.iinc 3 1, 3) := by decide +kernel
theorem dX4_numberLines_67 : decode cX4_numberLines 67 = .ok (.goto (-58), 3) := by decide +kernel
theorem dX4_numberLines_70 : decode cX4_numberLines 70 = .ok (.return_, 1) := by decide +kernel
theorem dX5_init_0 : decode cX5_init 0 = .ok (.aload_n 0, 1) := by decide +kernel
theorem dX5_init_1 : decode cX5_init 1 = .ok (.invokespecial 3, 3) := by decide +kernel
theorem dX5_init_4 : decode cX5_init 4 = .ok (.aload_n 0, 1) := by decide +kernel
theorem dX5_init_5 : decode cX5_init 5 = .ok (.sipush 128, 3) := by decide +kernel
theorem dX5_init_8 : decode cX5_init 8 = .ok (.newarray .int, 2) := by decide +kernel
theorem dX5_init_10 : decode cX5_init 10 = .ok (.putfield 9, 3) := by decide +kernel
theorem dX5_init_13 : decode cX5_init 13 = .ok (.aload_n 0, 1) := by decide +kernel
theorem dX5_init_14 : decode cX5_init 14 = .ok (.sipush 128, 3) := by decide +kernel
theorem dX5_init_17 : decode cX5_init 17 = .ok (.newarray .int, 2) := by decide +kernel
theorem dX5_init_19 : decode cX5_init 19 = .ok (.putfield 15, 3) := by decide +kernel
theorem dX5_init_22 : decode cX5_init 22 = .ok (.aload_n 0, 1) := by decide +kernel
theorem dX5_init_23 : decode cX5_init 23 = .ok (.sipush 128, 3) := by decide +kernel
theorem dX5_init_26 : decode cX5_init 26 = .ok (.newarray .int, 2) := by decide +kernel
theorem dX5_init_28 : decode cX5_init 28 = .ok (.putfield 18, 3) := by decide +kernel
theorem dX5_init_31 : decode cX5_init 31 = .ok (.aload_n 0, 1) := by decide +kernel
theorem dX5_init_32 : decode cX5_init 32 = .ok (.sipush 128, 3) := by decide +kernel
theorem dX5_init_35 : decode cX5_init 35 = .ok (.newarray .boolean, 2) := by decide +kernel
theorem dX5_init_37 : decode cX5_init 37 = .ok (.putfield 21, 3) := by decide +kernel
theorem dX5_init_40 : decode cX5_init 40 = .ok (.aload_n 0, 1) := by decide +kernel
theorem dX5_init_41 : decode cX5_init 41 = .ok (.sipush 128, 3) := by decide +kernel
theorem dX5_init_44 : decode cX5_init 44 = .ok (.newarray .boolean, 2) := by decide +kernel
theorem dX5_init_46 : decode cX5_init 46 = .ok (.putfield 25, 3) := by decide +kernel
theorem dX5_init_49 : decode cX5_init 49 = .ok (.aload_n 0, 1) := by decide +kernel
theorem dX5_init_50 : decode cX5_init 50 = .ok (.sipush 128, 3) := by decide +kernel
theorem dX5_init_53 : decode cX5_init 53 = .ok (.newarray .int, 2) := by decide +kernel
theorem dX5_init_55 : decode cX5_init 55 = .ok (.putfield 28, 3) := by decide +kernel
theorem dX5_init_58 : decode cX5_init 58 = .ok (.aload_n 0, 1) := by decide +kernel
theorem dX5_init_59 : decode cX5_init 59 = .ok (.sipush 128, 3) := by decide +kernel
theorem dX5_init_62 : decode cX5_init 62 = .ok (.newarray .int, 2) := by decide +kernel
theorem dX5_init_64 : decode cX5_init 64 = .ok (.putfield 31, 3) := by decide +kernel
theorem dX5_init_67 : decode cX5_init 67 = .ok (.aload_n 0, 1) := by decide +kernel
theorem dX5_init_68 : decode cX5_init 68 = .ok (.sipush 128, 3) := by decide +kernel
theorem dX5_init_71 : decode cX5_init 71 = .ok (.newarray .int, 2) := by decide +kernel
theorem dX5_init_73 : decode cX5_init 73 = .ok (.putfield 34, 3) := by decide +kernel
theorem dX5_init_76 : decode cX5_init 76 = .ok (.aload_n 0, 1) := by decide +kernel
theorem dX5_init_77 : decode cX5_init 77 = .ok (.bipush 63, 2) := by decide +kernel
theorem dX5_init_79 : decode cX5_init 79 = .ok (.newarray .int, 2) := by decide +kernel
theorem dX5_init_81 : decode cX5_init 81 = .ok (.putfield 37, 3) := by decide +kernel
theorem dX5_init_84 : decode cX5_init 84 = .ok (.return_, 1) := by decide +kernel
theorem dX5_size_0 : decode cX5_size 0 = .ok (.aload_n 0, 1) := by decide +kernel
theorem dX5_size_1 : decode cX5_size 1 = .ok (.getfield 40, 3) := by decide +kernel
theorem dX5_size_4 : decode cX5_size 4 = .ok (.ireturn, 1) := by decide +kernel
theorem dX5_beamTotal_0 : decode cX5_beamTotal 0 = .ok (.aload_n 0, 1) := by decide +kernel
theorem dX5_beamTotal_1 : decode cX5_beamTotal 1 = .ok (.getfield 44, 3) := by decide +kernel
theorem dX5_beamTotal_4 : decode cX5_beamTotal 4 = .ok (.ireturn, 1) := by decide +kernel
theorem dX5_has_0 : decode cX5_has 0 = .ok (.iload_n 1, 1) := by decide +kernel
theorem dX5_has_1 : decode cX5_has 1 = .ok (.ifCond .lt 22, 3) := by decide +kernel
theorem dX5_has_4 : decode cX5_has 4 = .ok (.iload_n 1, 1) := by decide +kernel
theorem dX5_has_5 : decode cX5_has 5 = .ok (.aload_n 0, 1) := by decide +kernel
theorem dX5_has_6 : decode cX5_has 6 = .ok (.getfield 40, 3) := by decide +kernel
theorem dX5_has_9 : decode cX5_has 9 = .ok (.if_icmp .ge 14, 3) := by decide +kernel
theorem dX5_has_12 : decode cX5_has 12 = .ok (.iload_n 1, 1) := by decide +kernel
theorem dX5_has_13 : decode cX5_has 13 = .ok (.sipush 128, 3) := by decide +kernel
theorem dX5_has_16 : decode cX5_has 16 = .ok (.if_icmp .ge 7, 3) := by decide +kernel
theorem dX5_has_19 : decode cX5_has 19 = .ok (.iconst 1, 1) := by decide +kernel
theorem dX5_has_20 : decode cX5_has 20 = .ok (.goto 4, 3) := by decide +kernel
theorem dX5_has_23 : decode cX5_has 23 = .ok (.iconst 0, 1) := by decide +kernel
theorem dX5_has_24 : decode cX5_has 24 = .ok (.ireturn, 1) := by decide +kernel
theorem dX5_eventAt_0 : decode cX5_eventAt 0 = .ok (.aload_n 0, 1) := by decide +kernel
theorem dX5_eventAt_1 : decode cX5_eventAt 1 = .ok (.iload_n 1, 1) := by decide +kernel
theorem dX5_eventAt_2 : decode cX5_eventAt 2 = .ok (.invokevirtual 47, 3) := by decide +kernel
theorem dX5_eventAt_5 : decode cX5_eventAt 5 = .ok (.ifCond .eq 12, 3) := by decide +kernel
theorem dX5_eventAt_8 : decode cX5_eventAt 8 = .ok (.aload_n 0, 1) := by decide +kernel
theorem dX5_eventAt_9 : decode cX5_eventAt 9 = .ok (.getfield 9, 3) := by decide +kernel
theorem dX5_eventAt_12 : decode cX5_eventAt 12 = .ok (.iload_n 1, 1) := by decide +kernel
theorem dX5_eventAt_13 : decode cX5_eventAt 13 = .ok (.iaload, 1) := by decide +kernel
theorem dX5_eventAt_14 : decode cX5_eventAt 14 = .ok (.goto 4, 3) := by decide +kernel
theorem dX5_eventAt_17 : decode cX5_eventAt 17 = .ok (.iconst (-1), 1) := by decide +kernel
theorem dX5_eventAt_18 : decode cX5_eventAt 18 = .ok (.ireturn, 1) := by decide +kernel
theorem dX5_lengthAt_0 : decode cX5_lengthAt 0 = .ok (.aload_n 0, 1) := by decide +kernel
theorem dX5_lengthAt_1 : decode cX5_lengthAt 1 = .ok (.iload_n 1, 1) := by decide +kernel
theorem dX5_lengthAt_2 : decode cX5_lengthAt 2 = .ok (.invokevirtual 47, 3) := by decide +kernel
theorem dX5_lengthAt_5 : decode cX5_lengthAt 5 = .ok (.ifCond .eq 12, 3) := by decide +kernel
theorem dX5_lengthAt_8 : decode cX5_lengthAt 8 = .ok (.aload_n 0, 1) := by decide +kernel
theorem dX5_lengthAt_9 : decode cX5_lengthAt 9 = .ok (.getfield 18, 3) := by decide +kernel
theorem dX5_lengthAt_12 : decode cX5_lengthAt 12 = .ok (.iload_n 1, 1) := by decide +kernel
theorem dX5_lengthAt_13 : decode cX5_lengthAt 13 = .ok (.iaload, 1) := by decide +kernel
theorem dX5_lengthAt_14 : decode cX5_lengthAt 14 = .ok (.goto 4, 3) := by decide +kernel
theorem dX5_lengthAt_17 : decode cX5_lengthAt 17 = .ok (.iconst 0, 1) := by decide +kernel
theorem dX5_lengthAt_18 : decode cX5_lengthAt 18 = .ok (.ireturn, 1) := by decide +kernel
theorem dX5_tiedAt_0 : decode cX5_tiedAt 0 = .ok (.aload_n 0, 1) := by decide +kernel
theorem dX5_tiedAt_1 : decode cX5_tiedAt 1 = .ok (.iload_n 1, 1) := by decide +kernel
theorem dX5_tiedAt_2 : decode cX5_tiedAt 2 = .ok (.invokevirtual 47, 3) := by decide +kernel
theorem dX5_tiedAt_5 : decode cX5_tiedAt 5 = .ok (.ifCond .eq 16, 3) := by decide +kernel
theorem dX5_tiedAt_8 : decode cX5_tiedAt 8 = .ok (.aload_n 0, 1) := by decide +kernel
theorem dX5_tiedAt_9 : decode cX5_tiedAt 9 = .ok (.getfield 25, 3) := by decide +kernel
theorem dX5_tiedAt_12 : decode cX5_tiedAt 12 = .ok (.iload_n 1, 1) := by decide +kernel
theorem dX5_tiedAt_13 : decode cX5_tiedAt 13 = .ok (.baload, 1) := by decide +kernel
theorem dX5_tiedAt_14 : decode cX5_tiedAt 14 = .ok (.ifCond .eq 7, 3) := by decide +kernel
theorem dX5_tiedAt_17 : decode cX5_tiedAt 17 = .ok (.iconst 1, 1) := by decide +kernel
theorem dX5_tiedAt_18 : decode cX5_tiedAt 18 = .ok (.goto 4, 3) := by decide +kernel
theorem dX5_tiedAt_21 : decode cX5_tiedAt 21 = .ok (.iconst 0, 1) := by decide +kernel
theorem dX5_tiedAt_22 : decode cX5_tiedAt 22 = .ok (.ireturn, 1) := by decide +kernel
theorem dX5_shownAt_0 : decode cX5_shownAt 0 = .ok (.aload_n 0, 1) := by decide +kernel
theorem dX5_shownAt_1 : decode cX5_shownAt 1 = .ok (.iload_n 1, 1) := by decide +kernel
theorem dX5_shownAt_2 : decode cX5_shownAt 2 = .ok (.invokevirtual 47, 3) := by decide +kernel
theorem dX5_shownAt_5 : decode cX5_shownAt 5 = .ok (.ifCond .eq 12, 3) := by decide +kernel
theorem dX5_shownAt_8 : decode cX5_shownAt 8 = .ok (.aload_n 0, 1) := by decide +kernel
theorem dX5_shownAt_9 : decode cX5_shownAt 9 = .ok (.getfield 28, 3) := by decide +kernel
theorem dX5_shownAt_12 : decode cX5_shownAt 12 = .ok (.iload_n 1, 1) := by decide +kernel
theorem dX5_shownAt_13 : decode cX5_shownAt 13 = .ok (.iaload, 1) := by decide +kernel
theorem dX5_shownAt_14 : decode cX5_shownAt 14 = .ok (.goto 5, 3) := by decide +kernel
theorem dX5_shownAt_17 : decode cX5_shownAt 17 = .ok (.bipush (-3), 2) := by decide +kernel
theorem dX5_shownAt_19 : decode cX5_shownAt 19 = .ok (.ireturn, 1) := by decide +kernel
theorem dX5_shownAsWrittenAt_0 : decode cX5_shownAsWrittenAt 0 = .ok (.aload_n 0, 1) := by decide +kernel
theorem dX5_shownAsWrittenAt_1 : decode cX5_shownAsWrittenAt 1 = .ok (.iload_n 1, 1) := by decide +kernel
theorem dX5_shownAsWrittenAt_2 : decode cX5_shownAsWrittenAt 2 = .ok (.invokevirtual 47, 3) := by decide +kernel
theorem dX5_shownAsWrittenAt_5 : decode cX5_shownAsWrittenAt 5 = .ok (.ifCond .eq 12, 3) := by decide +kernel
theorem dX5_shownAsWrittenAt_8 : decode cX5_shownAsWrittenAt 8 = .ok (.aload_n 0, 1) := by decide +kernel
theorem dX5_shownAsWrittenAt_9 : decode cX5_shownAsWrittenAt 9 = .ok (.getfield 31, 3) := by decide +kernel
theorem dX5_shownAsWrittenAt_12 : decode cX5_shownAsWrittenAt 12 = .ok (.iload_n 1, 1) := by decide +kernel
theorem dX5_shownAsWrittenAt_13 : decode cX5_shownAsWrittenAt 13 = .ok (.iaload, 1) := by decide +kernel
theorem dX5_shownAsWrittenAt_14 : decode cX5_shownAsWrittenAt 14 = .ok (.goto 5, 3) := by decide +kernel
theorem dX5_shownAsWrittenAt_17 : decode cX5_shownAsWrittenAt 17 = .ok (.bipush (-3), 2) := by decide +kernel
theorem dX5_shownAsWrittenAt_19 : decode cX5_shownAsWrittenAt 19 = .ok (.ireturn, 1) := by decide +kernel
theorem dX5_beamAt_0 : decode cX5_beamAt 0 = .ok (.aload_n 0, 1) := by decide +kernel
theorem dX5_beamAt_1 : decode cX5_beamAt 1 = .ok (.iload_n 1, 1) := by decide +kernel
theorem dX5_beamAt_2 : decode cX5_beamAt 2 = .ok (.invokevirtual 47, 3) := by decide +kernel
theorem dX5_beamAt_5 : decode cX5_beamAt 5 = .ok (.ifCond .eq 12, 3) := by decide +kernel
theorem dX5_beamAt_8 : decode cX5_beamAt 8 = .ok (.aload_n 0, 1) := by decide +kernel
theorem dX5_beamAt_9 : decode cX5_beamAt 9 = .ok (.getfield 34, 3) := by decide +kernel
theorem dX5_beamAt_12 : decode cX5_beamAt 12 = .ok (.iload_n 1, 1) := by decide +kernel
theorem dX5_beamAt_13 : decode cX5_beamAt 13 = .ok (.iaload, 1) := by decide +kernel
theorem dX5_beamAt_14 : decode cX5_beamAt 14 = .ok (.goto 4, 3) := by decide +kernel
theorem dX5_beamAt_17 : decode cX5_beamAt 17 = .ok (.iconst (-1), 1) := by decide +kernel
theorem dX5_beamAt_18 : decode cX5_beamAt 18 = .ok (.ireturn, 1) := by decide +kernel
theorem dX5_write_0 : decode cX5_write 0 = .ok (.aload_n 2, 1) := by decide +kernel
theorem dX5_write_1 : decode cX5_write 1 = .ok (.iload_n 3, 1) := by decide +kernel
theorem dX5_write_2 : decode cX5_write 2 = .ok (.invokevirtual 51, 3) := by decide +kernel
theorem dX5_write_5 : decode cX5_write 5 = .ok (.istore 4, 2) := by decide +kernel
theorem dX5_write_7 : decode cX5_write 7 = .ok (.iload 4, 2) := by decide +kernel
theorem dX5_write_9 : decode cX5_write 9 = .ok (.aload_n 2, 1) := by decide +kernel
theorem dX5_write_10 : decode cX5_write 10 = .ok (.iload_n 3, 1) := by decide +kernel
theorem dX5_write_11 : decode cX5_write 11 = .ok (.invokevirtual 57, 3) := by decide +kernel
theorem dX5_write_14 : decode cX5_write 14 = .ok (.iadd, 1) := by decide +kernel
theorem dX5_write_15 : decode cX5_write 15 = .ok (.istore 5, 2) := by decide +kernel
theorem dX5_write_17 : decode cX5_write 17 = .ok (.aload_n 0, 1) := by decide +kernel
theorem dX5_write_18 : decode cX5_write 18 = .ok (.iconst 0, 1) := by decide +kernel
theorem dX5_write_19 : decode cX5_write 19 = .ok (.putfield 40, 3) := by decide +kernel
theorem dX5_write_22 : decode cX5_write 22 = .ok (.aload_n 1, 1) := by decide +kernel
theorem dX5_write_23 : decode cX5_write 23 = .ok (.iload 4, 2) := by decide +kernel
theorem dX5_write_25 : decode cX5_write 25 = .ok (.invokevirtual 60, 3) := by decide +kernel
theorem dX5_write_28 : decode cX5_write 28 = .ok (.istore 6, 2) := by decide +kernel
theorem dX5_write_30 : decode cX5_write 30 = .ok (.iload 6, 2) := by decide +kernel
theorem dX5_write_32 : decode cX5_write 32 = .ok (.aload_n 1, 1) := by decide +kernel
theorem dX5_write_33 : decode cX5_write 33 = .ok (.invokevirtual 65, 3) := by decide +kernel
theorem dX5_write_36 : decode cX5_write 36 = .ok (.if_icmp .ge 52, 3) := by decide +kernel
theorem dX5_write_39 : decode cX5_write 39 = .ok (.aload_n 1, 1) := by decide +kernel
theorem dX5_write_40 : decode cX5_write 40 = .ok (.iload 6, 2) := by decide +kernel
theorem dX5_write_42 : decode cX5_write 42 = .ok (.invokevirtual 69, 3) := by decide +kernel
theorem dX5_write_45 : decode cX5_write 45 = .ok (.iload 5, 2) := by decide +kernel
theorem dX5_write_47 : decode cX5_write 47 = .ok (.if_icmp .ge 41, 3) := by decide +kernel
theorem dX5_write_50 : decode cX5_write 50 = .ok (.iload 5, 2) := by decide +kernel
theorem dX5_write_52 : decode cX5_write 52 = .ok (.aload_n 1, 1) := by decide +kernel
theorem dX5_write_53 : decode cX5_write 53 = .ok (.iload 6, 2) := by decide +kernel
theorem dX5_write_55 : decode cX5_write 55 = .ok (.invokevirtual 70, 3) := by decide +kernel
theorem dX5_write_58 : decode cX5_write 58 = .ok (.invokestatic 73, 3) := by decide +kernel
theorem dX5_write_61 : decode cX5_write 61 = .ok (.istore 7, 2) := by decide +kernel
theorem dX5_write_63 : decode cX5_write 63 = .ok (.aload_n 0, 1) := by decide +kernel
theorem dX5_write_64 : decode cX5_write 64 = .ok (.iload 6, 2) := by decide +kernel
theorem dX5_write_66 : decode cX5_write 66 = .ok (.iload 4, 2) := by decide +kernel
theorem dX5_write_68 : decode cX5_write 68 = .ok (.aload_n 1, 1) := by decide +kernel
theorem dX5_write_69 : decode cX5_write 69 = .ok (.iload 6, 2) := by decide +kernel
theorem dX5_write_71 : decode cX5_write 71 = .ok (.invokevirtual 69, 3) := by decide +kernel
theorem dX5_write_74 : decode cX5_write 74 = .ok (.invokestatic 79, 3) := by decide +kernel
theorem dX5_write_77 : decode cX5_write 77 = .ok (.iload 7, 2) := by decide +kernel
theorem dX5_write_79 : decode cX5_write 79 = .ok (.invokevirtual 82, 3) := by decide +kernel
theorem dX5_write_82 : decode cX5_write 82 = .ok (.iinc 6 1, 3) := by decide +kernel
theorem dX5_write_85 : decode cX5_write 85 = .ok (.goto (-55), 3) := by decide +kernel
theorem dX5_write_88 : decode cX5_write 88 = .ok (.aload_n 0, 1) := by decide +kernel
theorem dX5_write_89 : decode cX5_write 89 = .ok (.aload_n 1, 1) := by decide +kernel
theorem dX5_write_90 : decode cX5_write 90 = .ok (.aload_n 2, 1) := by decide +kernel
theorem dX5_write_91 : decode cX5_write 91 = .ok (.invokevirtual 86, 3) := by decide +kernel
theorem dX5_write_94 : decode cX5_write 94 = .ok (.invokevirtual 89, 3) := by decide +kernel
theorem dX5_write_97 : decode cX5_write 97 = .ok (.aload_n 0, 1) := by decide +kernel
theorem dX5_write_98 : decode cX5_write 98 = .ok (.aload_n 1, 1) := by decide +kernel
theorem dX5_write_99 : decode cX5_write 99 = .ok (.iload 4, 2) := by decide +kernel
theorem dX5_write_101 : decode cX5_write 101 = .ok (.aload_n 2, 1) := by decide +kernel
theorem dX5_write_102 : decode cX5_write 102 = .ok (.iload_n 3, 1) := by decide +kernel
theorem dX5_write_103 : decode cX5_write 103 = .ok (.invokevirtual 93, 3) := by decide +kernel
theorem dX5_write_106 : decode cX5_write 106 = .ok (.invokevirtual 96, 3) := by decide +kernel
theorem dX5_write_109 : decode cX5_write 109 = .ok (.aload_n 0, 1) := by decide +kernel
theorem dX5_write_110 : decode cX5_write 110 = .ok (.aload_n 1, 1) := by decide +kernel
theorem dX5_write_111 : decode cX5_write 111 = .ok (.aload_n 2, 1) := by decide +kernel
theorem dX5_write_112 : decode cX5_write 112 = .ok (.iload_n 3, 1) := by decide +kernel
theorem dX5_write_113 : decode cX5_write 113 = .ok (.invokevirtual 100, 3) := by decide +kernel
theorem dX5_write_116 : decode cX5_write 116 = .ok (.invokevirtual 103, 3) := by decide +kernel
theorem dX5_write_119 : decode cX5_write 119 = .ok (.aload_n 0, 1) := by decide +kernel
theorem dX5_write_120 : decode cX5_write 120 = .ok (.aload_n 1, 1) := by decide +kernel
theorem dX5_write_121 : decode cX5_write 121 = .ok (.aload_n 1, 1) := by decide +kernel
theorem dX5_write_122 : decode cX5_write 122 = .ok (.aload_n 2, 1) := by decide +kernel
theorem dX5_write_123 : decode cX5_write 123 = .ok (.iload_n 3, 1) := by decide +kernel
theorem dX5_write_124 : decode cX5_write 124 = .ok (.invokevirtual 100, 3) := by decide +kernel
theorem dX5_write_127 : decode cX5_write 127 = .ok (.invokevirtual 106, 3) := by decide +kernel
theorem dX5_write_130 : decode cX5_write 130 = .ok (.invokevirtual 109, 3) := by decide +kernel
theorem dX5_write_133 : decode cX5_write 133 = .ok (.return_, 1) := by decide +kernel
theorem dX5_writeStretch_0 : decode cX5_writeStretch 0 = .ok (.iload_n 2, 1) := by decide +kernel
theorem dX5_writeStretch_1 : decode cX5_writeStretch 1 = .ok (.istore 4, 2) := by decide +kernel
theorem dX5_writeStretch_3 : decode cX5_writeStretch 3 = .ok (.iconst 0, 1) := by decide +kernel
theorem dX5_writeStretch_4 : decode cX5_writeStretch 4 = .ok (.istore 5, 2) := by decide +kernel
theorem dX5_writeStretch_6 : decode cX5_writeStretch 6 = .ok (.iload 5, 2) := by decide +kernel
theorem dX5_writeStretch_8 : decode cX5_writeStretch 8 = .ok (.sipush 128, 3) := by decide +kernel
theorem dX5_writeStretch_11 : decode cX5_writeStretch 11 = .ok (.if_icmp .ge 40, 3) := by decide +kernel
theorem dX5_writeStretch_14 : decode cX5_writeStretch 14 = .ok (.iload 4, 2) := by decide +kernel
theorem dX5_writeStretch_16 : decode cX5_writeStretch 16 = .ok (.iload_n 3, 1) := by decide +kernel
theorem dX5_writeStretch_17 : decode cX5_writeStretch 17 = .ok (.if_icmp .ge 34, 3) := by decide +kernel
theorem dX5_writeStretch_20 : decode cX5_writeStretch 20 = .ok (.iload_n 3, 1) := by decide +kernel
theorem dX5_writeStretch_21 : decode cX5_writeStretch 21 = .ok (.iload 4, 2) := by decide +kernel
theorem dX5_writeStretch_23 : decode cX5_writeStretch 23 = .ok (.isub, 1) := by decide +kernel
theorem dX5_writeStretch_24 : decode cX5_writeStretch 24 = .ok (.invokestatic 112, 3) := by decide +kernel
theorem dX5_writeStretch_27 : decode cX5_writeStretch 27 = .ok (.istore 6, 2) := by decide +kernel
theorem dX5_writeStretch_29 : decode cX5_writeStretch 29 = .ok (.aload_n 0, 1) := by decide +kernel
theorem dX5_writeStretch_30 : decode cX5_writeStretch 30 = .ok (.iload_n 1, 1) := by decide +kernel
theorem dX5_writeStretch_31 : decode cX5_writeStretch 31 = .ok (.iload 4, 2) := by decide +kernel
theorem dX5_writeStretch_33 : decode cX5_writeStretch 33 = .ok (.iload 6, 2) := by decide +kernel
theorem dX5_writeStretch_35 : decode cX5_writeStretch 35 = .ok (.invokevirtual 117, 3) := by decide +kernel
theorem dX5_writeStretch_38 : decode cX5_writeStretch 38 = .ok (.iload 4, 2) := by decide +kernel
theorem dX5_writeStretch_40 : decode cX5_writeStretch 40 = .ok (.iload 6, 2) := by decide +kernel
theorem dX5_writeStretch_42 : decode cX5_writeStretch 42 = .ok (.iadd, 1) := by decide +kernel
theorem dX5_writeStretch_43 : decode cX5_writeStretch 43 = .ok (.istore 4, 2) := by decide +kernel
theorem dX5_writeStretch_45 : decode cX5_writeStretch 45 = .ok (.iinc 5 1, 3) := by decide +kernel
theorem dX5_writeStretch_48 : decode cX5_writeStretch 48 = .ok (.goto (-42), 3) := by decide +kernel
theorem dX5_writeStretch_51 : decode cX5_writeStretch 51 = .ok (.return_, 1) := by decide +kernel
theorem dX5_addSign_0 : decode cX5_addSign 0 = .ok (.aload_n 0, 1) := by decide +kernel
theorem dX5_addSign_1 : decode cX5_addSign 1 = .ok (.getfield 40, 3) := by decide +kernel
theorem dX5_addSign_4 : decode cX5_addSign 4 = .ok (.ifCond .lt 13, 3) := by decide +kernel
theorem dX5_addSign_7 : decode cX5_addSign 7 = .ok (.aload_n 0, 1) := by decide +kernel
theorem dX5_addSign_8 : decode cX5_addSign 8 = .ok (.getfield 40, 3) := by decide +kernel
theorem dX5_addSign_11 : decode cX5_addSign 11 = .ok (.sipush 128, 3) := by decide +kernel
theorem dX5_addSign_14 : decode cX5_addSign 14 = .ok (.if_icmp .lt 4, 3) := by decide +kernel
theorem dX5_addSign_17 : decode cX5_addSign 17 = .ok (.return_, 1) := by decide +kernel
theorem dX5_addSign_18 : decode cX5_addSign 18 = .ok (.aload_n 0, 1) := by decide +kernel
theorem dX5_addSign_19 : decode cX5_addSign 19 = .ok (.getfield 9, 3) := by decide +kernel
theorem dX5_addSign_22 : decode cX5_addSign 22 = .ok (.aload_n 0, 1) := by decide +kernel
theorem dX5_addSign_23 : decode cX5_addSign 23 = .ok (.getfield 40, 3) := by decide +kernel
theorem dX5_addSign_26 : decode cX5_addSign 26 = .ok (.iload_n 1, 1) := by decide +kernel
theorem dX5_addSign_27 : decode cX5_addSign 27 = .ok (.iastore, 1) := by decide +kernel
theorem dX5_addSign_28 : decode cX5_addSign 28 = .ok (.aload_n 0, 1) := by decide +kernel
theorem dX5_addSign_29 : decode cX5_addSign 29 = .ok (.getfield 15, 3) := by decide +kernel
theorem dX5_addSign_32 : decode cX5_addSign 32 = .ok (.aload_n 0, 1) := by decide +kernel
theorem dX5_addSign_33 : decode cX5_addSign 33 = .ok (.getfield 40, 3) := by decide +kernel
theorem dX5_addSign_36 : decode cX5_addSign 36 = .ok (.iload_n 2, 1) := by decide +kernel
theorem dX5_addSign_37 : decode cX5_addSign 37 = .ok (.iastore, 1) := by decide +kernel
theorem dX5_addSign_38 : decode cX5_addSign 38 = .ok (.aload_n 0, 1) := by decide +kernel
theorem dX5_addSign_39 : decode cX5_addSign 39 = .ok (.getfield 18, 3) := by decide +kernel
theorem dX5_addSign_42 : decode cX5_addSign 42 = .ok (.aload_n 0, 1) := by decide +kernel
theorem dX5_addSign_43 : decode cX5_addSign 43 = .ok (.getfield 40, 3) := by decide +kernel
theorem dX5_addSign_46 : decode cX5_addSign 46 = .ok (.iload_n 3, 1) := by decide +kernel
theorem dX5_addSign_47 : decode cX5_addSign 47 = .ok (.iastore, 1) := by decide +kernel
theorem dX5_addSign_48 : decode cX5_addSign 48 = .ok (.aload_n 0, 1) := by decide +kernel
theorem dX5_addSign_49 : decode cX5_addSign 49 = .ok (.dup, 1) := by decide +kernel
theorem dX5_addSign_50 : decode cX5_addSign 50 = .ok (.getfield 40, 3) := by decide +kernel
theorem dX5_addSign_53 : decode cX5_addSign 53 = .ok (.iconst 1, 1) := by decide +kernel
theorem dX5_addSign_54 : decode cX5_addSign 54 = .ok (.iadd, 1) := by decide +kernel
theorem dX5_addSign_55 : decode cX5_addSign 55 = .ok (.putfield 40, 3) := by decide +kernel
theorem dX5_addSign_58 : decode cX5_addSign 58 = .ok (.return_, 1) := by decide +kernel
theorem dX5_markSigns_0 : decode cX5_markSigns 0 = .ok (.iconst 0, 1) := by decide +kernel
theorem dX5_markSigns_1 : decode cX5_markSigns 1 = .ok (.istore_n 3, 1) := by decide +kernel
theorem dX5_markSigns_2 : decode cX5_markSigns 2 = .ok (.iload_n 3, 1) := by decide +kernel
theorem dX5_markSigns_3 : decode cX5_markSigns 3 = .ok (.aload_n 0, 1) := by decide +kernel
theorem dX5_markSigns_4 : decode cX5_markSigns 4 = .ok (.getfield 40, 3) := by decide +kernel
theorem dX5_markSigns_7 : decode cX5_markSigns 7 = .ok (.if_icmp .ge 109, 3) := by decide +kernel
theorem dX5_markSigns_10 : decode cX5_markSigns 10 = .ok (.iload_n 3, 1) := by decide +kernel
theorem dX5_markSigns_11 : decode cX5_markSigns 11 = .ok (.sipush 128, 3) := by decide +kernel
theorem dX5_markSigns_14 : decode cX5_markSigns 14 = .ok (.if_icmp .ge 102, 3) := by decide +kernel
theorem dX5_markSigns_17 : decode cX5_markSigns 17 = .ok (.aload_n 0, 1) := by decide +kernel
theorem dX5_markSigns_18 : decode cX5_markSigns 18 = .ok (.getfield 9, 3) := by decide +kernel
theorem dX5_markSigns_21 : decode cX5_markSigns 21 = .ok (.iload_n 3, 1) := by decide +kernel
theorem dX5_markSigns_22 : decode cX5_markSigns 22 = .ok (.iaload, 1) := by decide +kernel
theorem dX5_markSigns_23 : decode cX5_markSigns 23 = .ok (.istore 4, 2) := by decide +kernel
theorem dX5_markSigns_25 : decode cX5_markSigns 25 = .ok (.aload_n 1, 1) := by decide +kernel
theorem dX5_markSigns_26 : decode cX5_markSigns 26 = .ok (.iload 4, 2) := by decide +kernel
theorem dX5_markSigns_28 : decode cX5_markSigns 28 = .ok (.invokevirtual 70, 3) := by decide +kernel
theorem dX5_markSigns_31 : decode cX5_markSigns 31 = .ok (.iload_n 2, 1) := by decide +kernel
theorem dX5_markSigns_32 : decode cX5_markSigns 32 = .ok (.invokestatic 73, 3) := by decide +kernel
theorem dX5_markSigns_35 : decode cX5_markSigns 35 = .ok (.istore 5, 2) := by decide +kernel
theorem dX5_markSigns_37 : decode cX5_markSigns 37 = .ok (.aload_n 0, 1) := by decide +kernel
theorem dX5_markSigns_38 : decode cX5_markSigns 38 = .ok (.getfield 25, 3) := by decide +kernel
theorem dX5_markSigns_41 : decode cX5_markSigns 41 = .ok (.iload_n 3, 1) := by decide +kernel
theorem dX5_markSigns_42 : decode cX5_markSigns 42 = .ok (.aload_n 1, 1) := by decide +kernel
theorem dX5_markSigns_43 : decode cX5_markSigns 43 = .ok (.iload 4, 2) := by decide +kernel
theorem dX5_markSigns_45 : decode cX5_markSigns 45 = .ok (.invokevirtual 120, 3) := by decide +kernel
theorem dX5_markSigns_48 : decode cX5_markSigns 48 = .ok (.ifCond .eq 25, 3) := by decide +kernel
theorem dX5_markSigns_51 : decode cX5_markSigns 51 = .ok (.aload_n 0, 1) := by decide +kernel
theorem dX5_markSigns_52 : decode cX5_markSigns 52 = .ok (.getfield 15, 3) := by decide +kernel
theorem dX5_markSigns_55 : decode cX5_markSigns 55 = .ok (.iload_n 3, 1) := by decide +kernel
theorem dX5_markSigns_56 : decode cX5_markSigns 56 = .ok (.iaload, 1) := by decide +kernel
theorem dX5_markSigns_57 : decode cX5_markSigns 57 = .ok (.aload_n 0, 1) := by decide +kernel
theorem dX5_markSigns_58 : decode cX5_markSigns 58 = .ok (.getfield 18, 3) := by decide +kernel
theorem dX5_markSigns_61 : decode cX5_markSigns 61 = .ok (.iload_n 3, 1) := by decide +kernel
theorem dX5_markSigns_62 : decode cX5_markSigns 62 = .ok (.iaload, 1) := by decide +kernel
theorem dX5_markSigns_63 : decode cX5_markSigns 63 = .ok (.iadd, 1) := by decide +kernel
theorem dX5_markSigns_64 : decode cX5_markSigns 64 = .ok (.iload 5, 2) := by decide +kernel
theorem dX5_markSigns_66 : decode cX5_markSigns 66 = .ok (.if_icmp .ge 7, 3) := by decide +kernel
theorem dX5_markSigns_69 : decode cX5_markSigns 69 = .ok (.iconst 1, 1) := by decide +kernel
theorem dX5_markSigns_70 : decode cX5_markSigns 70 = .ok (.goto 4, 3) := by decide +kernel
theorem dX5_markSigns_73 : decode cX5_markSigns 73 = .ok (.iconst 0, 1) := by decide +kernel
theorem dX5_markSigns_74 : decode cX5_markSigns 74 = .ok (.bastore, 1) := by decide +kernel
theorem dX5_markSigns_75 : decode cX5_markSigns 75 = .ok (.aload_n 0, 1) := by decide +kernel
theorem dX5_markSigns_76 : decode cX5_markSigns 76 = .ok (.getfield 21, 3) := by decide +kernel
theorem dX5_markSigns_79 : decode cX5_markSigns 79 = .ok (.iload_n 3, 1) := by decide +kernel
theorem dX5_markSigns_80 : decode cX5_markSigns 80 = .ok (.aload_n 1, 1) := by decide +kernel
theorem dX5_markSigns_81 : decode cX5_markSigns 81 = .ok (.iload 4, 2) := by decide +kernel
theorem dX5_markSigns_83 : decode cX5_markSigns 83 = .ok (.invokevirtual 120, 3) := by decide +kernel
theorem dX5_markSigns_86 : decode cX5_markSigns 86 = .ok (.ifCond .eq 22, 3) := by decide +kernel
theorem dX5_markSigns_89 : decode cX5_markSigns 89 = .ok (.aload_n 0, 1) := by decide +kernel
theorem dX5_markSigns_90 : decode cX5_markSigns 90 = .ok (.getfield 15, 3) := by decide +kernel
theorem dX5_markSigns_93 : decode cX5_markSigns 93 = .ok (.iload_n 3, 1) := by decide +kernel
theorem dX5_markSigns_94 : decode cX5_markSigns 94 = .ok (.iaload, 1) := by decide +kernel
theorem dX5_markSigns_95 : decode cX5_markSigns 95 = .ok (.aload_n 1, 1) := by decide +kernel
theorem dX5_markSigns_96 : decode cX5_markSigns 96 = .ok (.iload 4, 2) := by decide +kernel
theorem dX5_markSigns_98 : decode cX5_markSigns 98 = .ok (.invokevirtual 69, 3) := by decide +kernel
theorem dX5_markSigns_101 : decode cX5_markSigns 101 = .ok (.if_icmp .ne 7, 3) := by decide +kernel
theorem dX5_markSigns_104 : decode cX5_markSigns 104 = .ok (.iconst 1, 1) := by decide +kernel
theorem dX5_markSigns_105 : decode cX5_markSigns 105 = .ok (.goto 4, 3) := by decide +kernel
theorem dX5_markSigns_108 : decode cX5_markSigns 108 = .ok (.iconst 0, 1) := by decide +kernel
theorem dX5_markSigns_109 : decode cX5_markSigns 109 = .ok (.bastore, 1) := by decide +kernel
theorem dX5_markSigns_110 : decode cX5_markSigns 110 = .ok (.iinc 3 1, 3) := by decide +kernel
theorem dX5_markSigns_113 : decode cX5_markSigns 113 = .ok (.goto (-111), 3) := by decide +kernel
theorem dX5_markSigns_116 : decode cX5_markSigns 116 = .ok (.return_, 1) := by decide +kernel
theorem dX5_beamSigns_0 : decode cX5_beamSigns 0 = .ok (.aload_n 0, 1) := by decide +kernel
theorem dX5_beamSigns_1 : decode cX5_beamSigns 1 = .ok (.iconst 0, 1) := by decide +kernel
theorem dX5_beamSigns_2 : decode cX5_beamSigns 2 = .ok (.putfield 44, 3) := by decide +kernel
theorem dX5_beamSigns_5 : decode cX5_beamSigns 5 = .ok (.iconst (-1), 1) := by decide +kernel
theorem dX5_beamSigns_6 : decode cX5_beamSigns 6 = .ok (.istore 4, 2) := by decide +kernel
theorem dX5_beamSigns_8 : decode cX5_beamSigns 8 = .ok (.iconst 0, 1) := by decide +kernel
theorem dX5_beamSigns_9 : decode cX5_beamSigns 9 = .ok (.istore 5, 2) := by decide +kernel
theorem dX5_beamSigns_11 : decode cX5_beamSigns 11 = .ok (.iload 5, 2) := by decide +kernel
theorem dX5_beamSigns_13 : decode cX5_beamSigns 13 = .ok (.aload_n 0, 1) := by decide +kernel
theorem dX5_beamSigns_14 : decode cX5_beamSigns 14 = .ok (.getfield 40, 3) := by decide +kernel
theorem dX5_beamSigns_17 : decode cX5_beamSigns 17 = .ok (.if_icmp .ge 99, 3) := by decide +kernel
theorem dX5_beamSigns_20 : decode cX5_beamSigns 20 = .ok (.iload 5, 2) := by decide +kernel
theorem dX5_beamSigns_22 : decode cX5_beamSigns 22 = .ok (.sipush 128, 3) := by decide +kernel
theorem dX5_beamSigns_25 : decode cX5_beamSigns 25 = .ok (.if_icmp .ge 91, 3) := by decide +kernel
theorem dX5_beamSigns_28 : decode cX5_beamSigns 28 = .ok (.iconst (-1), 1) := by decide +kernel
theorem dX5_beamSigns_29 : decode cX5_beamSigns 29 = .ok (.istore 6, 2) := by decide +kernel
theorem dX5_beamSigns_31 : decode cX5_beamSigns 31 = .ok (.iload_n 3, 1) := by decide +kernel
theorem dX5_beamSigns_32 : decode cX5_beamSigns 32 = .ok (.ifCond .le 42, 3) := by decide +kernel
theorem dX5_beamSigns_35 : decode cX5_beamSigns 35 = .ok (.aload_n 0, 1) := by decide +kernel
theorem dX5_beamSigns_36 : decode cX5_beamSigns 36 = .ok (.getfield 18, 3) := by decide +kernel
theorem dX5_beamSigns_39 : decode cX5_beamSigns 39 = .ok (.iload 5, 2) := by decide +kernel
theorem dX5_beamSigns_41 : decode cX5_beamSigns 41 = .ok (.iaload, 1) := by decide +kernel
theorem dX5_beamSigns_42 : decode cX5_beamSigns 42 = .ok (.bipush 12, 2) := by decide +kernel
theorem dX5_beamSigns_44 : decode cX5_beamSigns 44 = .ok (.if_icmp .gt 30, 3) := by decide +kernel
theorem dX5_beamSigns_47 : decode cX5_beamSigns 47 = .ok (.aload_n 1, 1) := by decide +kernel
theorem dX5_beamSigns_48 : decode cX5_beamSigns 48 = .ok (.aload_n 0, 1) := by decide +kernel
theorem dX5_beamSigns_49 : decode cX5_beamSigns 49 = .ok (.getfield 9, 3) := by decide +kernel
theorem dX5_beamSigns_52 : decode cX5_beamSigns 52 = .ok (.iload 5, 2) := by decide +kernel
theorem dX5_beamSigns_54 : decode cX5_beamSigns 54 = .ok (.iaload, 1) := by decide +kernel
theorem dX5_beamSigns_55 : decode cX5_beamSigns 55 = .ok (.invokevirtual 120, 3) := by decide +kernel
theorem dX5_beamSigns_58 : decode cX5_beamSigns 58 = .ok (.ifCond .eq 16, 3) := by decide +kernel
theorem dX5_beamSigns_61 : decode cX5_beamSigns 61 = .ok (.aload_n 0, 1) := by decide +kernel
theorem dX5_beamSigns_62 : decode cX5_beamSigns 62 = .ok (.getfield 15, 3) := by decide +kernel
theorem dX5_beamSigns_65 : decode cX5_beamSigns 65 = .ok (.iload 5, 2) := by decide +kernel
theorem dX5_beamSigns_67 : decode cX5_beamSigns 67 = .ok (.iaload, 1) := by decide +kernel
theorem dX5_beamSigns_68 : decode cX5_beamSigns 68 = .ok (.iload_n 2, 1) := by decide +kernel
theorem dX5_beamSigns_69 : decode cX5_beamSigns 69 = .ok (.isub, 1) := by decide +kernel
theorem dX5_beamSigns_70 : decode cX5_beamSigns 70 = .ok (.iload_n 3, 1) := by decide +kernel
theorem dX5_beamSigns_71 : decode cX5_beamSigns 71 = .ok (.idiv, 1) := by decide +kernel
theorem dX5_beamSigns_72 : decode cX5_beamSigns 72 = .ok (.istore 6, 2) := by decide +kernel
theorem dX5_beamSigns_74 : decode cX5_beamSigns 74 = .ok (.aload_n 0, 1) := by decide +kernel
theorem dX5_beamSigns_75 : decode cX5_beamSigns 75 = .ok (.getfield 34, 3) := by decide +kernel
theorem dX5_beamSigns_78 : decode cX5_beamSigns 78 = .ok (.iload 5, 2) := by decide +kernel
theorem dX5_beamSigns_80 : decode cX5_beamSigns 80 = .ok (.iconst (-1), 1) := by decide +kernel
theorem dX5_beamSigns_81 : decode cX5_beamSigns 81 = .ok (.iastore, 1) := by decide +kernel
theorem dX5_beamSigns_82 : decode cX5_beamSigns 82 = .ok (.iload 5, 2) := by decide +kernel
theorem dX5_beamSigns_84 : decode cX5_beamSigns 84 = .ok (.ifCond .le 22, 3) := by decide +kernel
theorem dX5_beamSigns_87 : decode cX5_beamSigns 87 = .ok (.iload 6, 2) := by decide +kernel
theorem dX5_beamSigns_89 : decode cX5_beamSigns 89 = .ok (.iconst (-1), 1) := by decide +kernel
theorem dX5_beamSigns_90 : decode cX5_beamSigns 90 = .ok (.if_icmp .eq 16, 3) := by decide +kernel
theorem dX5_beamSigns_93 : decode cX5_beamSigns 93 = .ok (.iload 6, 2) := by decide +kernel
theorem dX5_beamSigns_95 : decode cX5_beamSigns 95 = .ok (.iload 4, 2) := by decide +kernel
theorem dX5_beamSigns_97 : decode cX5_beamSigns 97 = .ok (.if_icmp .ne 9, 3) := by decide +kernel
theorem dX5_beamSigns_100 : decode cX5_beamSigns 100 = .ok (.aload_n 0, 1) := by decide +kernel
theorem dX5_beamSigns_101 : decode cX5_beamSigns 101 = .ok (.iload 5, 2) := by decide +kernel
theorem dX5_beamSigns_103 : decode cX5_beamSigns 103 = .ok (.invokevirtual 123, 3) := by decide +kernel
theorem dX5_beamSigns_106 : decode cX5_beamSigns 106 = .ok (.iload 6, 2) := by decide +kernel
theorem dX5_beamSigns_108 : decode cX5_beamSigns 108 = .ok (.istore 4, 2) := by decide +kernel
theorem dX5_beamSigns_110 : decode cX5_beamSigns 110 = .ok (.iinc 5 1, 3) := by decide +kernel
theorem dX5_beamSigns_113 : decode cX5_beamSigns 113 = .ok (.goto (-102), 3) := by decide +kernel
theorem dX5_beamSigns_116 : decode cX5_beamSigns 116 = .ok (.return_, 1) := by decide +kernel
theorem dX5_joinToSignAhead_0 : decode cX5_joinToSignAhead 0 = .ok (.aload_n 0, 1) := by decide +kernel
theorem dX5_joinToSignAhead_1 : decode cX5_joinToSignAhead 1 = .ok (.iload_n 1, 1) := by decide +kernel
theorem dX5_joinToSignAhead_2 : decode cX5_joinToSignAhead 2 = .ok (.invokevirtual 47, 3) := by decide +kernel
theorem dX5_joinToSignAhead_5 : decode cX5_joinToSignAhead 5 = .ok (.ifCond .eq 13, 3) := by decide +kernel
theorem dX5_joinToSignAhead_8 : decode cX5_joinToSignAhead 8 = .ok (.aload_n 0, 1) := by decide +kernel
theorem dX5_joinToSignAhead_9 : decode cX5_joinToSignAhead 9 = .ok (.iload_n 1, 1) := by decide +kernel
theorem dX5_joinToSignAhead_10 : decode cX5_joinToSignAhead 10 = .ok (.iconst 1, 1) := by decide +kernel
theorem dX5_joinToSignAhead_11 : decode cX5_joinToSignAhead 11 = .ok (.isub, 1) := by decide +kernel
theorem dX5_joinToSignAhead_12 : decode cX5_joinToSignAhead 12 = .ok (.invokevirtual 47, 3) := by decide +kernel
theorem dX5_joinToSignAhead_15 : decode cX5_joinToSignAhead 15 = .ok (.ifCond .ne 4, 3) := by decide +kernel
theorem dX5_joinToSignAhead_18 : decode cX5_joinToSignAhead 18 = .ok (.return_, 1) := by decide +kernel
theorem dX5_joinToSignAhead_19 : decode cX5_joinToSignAhead 19 = .ok (.aload_n 0, 1) := by decide +kernel
theorem dX5_joinToSignAhead_20 : decode cX5_joinToSignAhead 20 = .ok (.getfield 34, 3) := by decide +kernel
theorem dX5_joinToSignAhead_23 : decode cX5_joinToSignAhead 23 = .ok (.iload_n 1, 1) := by decide +kernel
theorem dX5_joinToSignAhead_24 : decode cX5_joinToSignAhead 24 = .ok (.iconst 1, 1) := by decide +kernel
theorem dX5_joinToSignAhead_25 : decode cX5_joinToSignAhead 25 = .ok (.isub, 1) := by decide +kernel
theorem dX5_joinToSignAhead_26 : decode cX5_joinToSignAhead 26 = .ok (.iaload, 1) := by decide +kernel
theorem dX5_joinToSignAhead_27 : decode cX5_joinToSignAhead 27 = .ok (.iconst (-1), 1) := by decide +kernel
theorem dX5_joinToSignAhead_28 : decode cX5_joinToSignAhead 28 = .ok (.if_icmp .ne 25, 3) := by decide +kernel
theorem dX5_joinToSignAhead_31 : decode cX5_joinToSignAhead 31 = .ok (.aload_n 0, 1) := by decide +kernel
theorem dX5_joinToSignAhead_32 : decode cX5_joinToSignAhead 32 = .ok (.getfield 34, 3) := by decide +kernel
theorem dX5_joinToSignAhead_35 : decode cX5_joinToSignAhead 35 = .ok (.iload_n 1, 1) := by decide +kernel
theorem dX5_joinToSignAhead_36 : decode cX5_joinToSignAhead 36 = .ok (.iconst 1, 1) := by decide +kernel
theorem dX5_joinToSignAhead_37 : decode cX5_joinToSignAhead 37 = .ok (.isub, 1) := by decide +kernel
theorem dX5_joinToSignAhead_38 : decode cX5_joinToSignAhead 38 = .ok (.aload_n 0, 1) := by decide +kernel
theorem dX5_joinToSignAhead_39 : decode cX5_joinToSignAhead 39 = .ok (.getfield 44, 3) := by decide +kernel
theorem dX5_joinToSignAhead_42 : decode cX5_joinToSignAhead 42 = .ok (.iastore, 1) := by decide +kernel
theorem dX5_joinToSignAhead_43 : decode cX5_joinToSignAhead 43 = .ok (.aload_n 0, 1) := by decide +kernel
theorem dX5_joinToSignAhead_44 : decode cX5_joinToSignAhead 44 = .ok (.dup, 1) := by decide +kernel
theorem dX5_joinToSignAhead_45 : decode cX5_joinToSignAhead 45 = .ok (.getfield 44, 3) := by decide +kernel
theorem dX5_joinToSignAhead_48 : decode cX5_joinToSignAhead 48 = .ok (.iconst 1, 1) := by decide +kernel
theorem dX5_joinToSignAhead_49 : decode cX5_joinToSignAhead 49 = .ok (.iadd, 1) := by decide +kernel
theorem dX5_joinToSignAhead_50 : decode cX5_joinToSignAhead 50 = .ok (.putfield 44, 3) := by decide +kernel
theorem dX5_joinToSignAhead_53 : decode cX5_joinToSignAhead 53 = .ok (.aload_n 0, 1) := by decide +kernel
theorem dX5_joinToSignAhead_54 : decode cX5_joinToSignAhead 54 = .ok (.getfield 34, 3) := by decide +kernel
theorem dX5_joinToSignAhead_57 : decode cX5_joinToSignAhead 57 = .ok (.iload_n 1, 1) := by decide +kernel
theorem dX5_joinToSignAhead_58 : decode cX5_joinToSignAhead 58 = .ok (.aload_n 0, 1) := by decide +kernel
theorem dX5_joinToSignAhead_59 : decode cX5_joinToSignAhead 59 = .ok (.getfield 34, 3) := by decide +kernel
theorem dX5_joinToSignAhead_62 : decode cX5_joinToSignAhead 62 = .ok (.iload_n 1, 1) := by decide +kernel
theorem dX5_joinToSignAhead_63 : decode cX5_joinToSignAhead 63 = .ok (.iconst 1, 1) := by decide +kernel
theorem dX5_joinToSignAhead_64 : decode cX5_joinToSignAhead 64 = .ok (.isub, 1) := by decide +kernel
theorem dX5_joinToSignAhead_65 : decode cX5_joinToSignAhead 65 = .ok (.iaload, 1) := by decide +kernel
theorem dX5_joinToSignAhead_66 : decode cX5_joinToSignAhead 66 = .ok (.iastore, 1) := by decide +kernel
theorem dX5_joinToSignAhead_67 : decode cX5_joinToSignAhead 67 = .ok (.return_, 1) := by decide +kernel
theorem dX5_showAlters_0 : decode cX5_showAlters 0 = .ok (.aload_n 0, 1) := by decide +kernel
theorem dX5_showAlters_1 : decode cX5_showAlters 1 = .ok (.getfield 37, 3) := by decide +kernel
theorem dX5_showAlters_4 : decode cX5_showAlters 4 = .ok (.bipush (-3), 2) := by decide +kernel
theorem dX5_showAlters_6 : decode cX5_showAlters 6 = .ok (.invokestatic 127, 3) := by decide +kernel
theorem dX5_showAlters_9 : decode cX5_showAlters 9 = .ok (.iconst 0, 1) := by decide +kernel
theorem dX5_showAlters_10 : decode cX5_showAlters 10 = .ok (.istore_n 3, 1) := by decide +kernel
theorem dX5_showAlters_11 : decode cX5_showAlters 11 = .ok (.iload_n 3, 1) := by decide +kernel
theorem dX5_showAlters_12 : decode cX5_showAlters 12 = .ok (.aload_n 0, 1) := by decide +kernel
theorem dX5_showAlters_13 : decode cX5_showAlters 13 = .ok (.getfield 40, 3) := by decide +kernel
theorem dX5_showAlters_16 : decode cX5_showAlters 16 = .ok (.if_icmp .ge 61, 3) := by decide +kernel
theorem dX5_showAlters_19 : decode cX5_showAlters 19 = .ok (.iload_n 3, 1) := by decide +kernel
theorem dX5_showAlters_20 : decode cX5_showAlters 20 = .ok (.sipush 128, 3) := by decide +kernel
theorem dX5_showAlters_23 : decode cX5_showAlters 23 = .ok (.if_icmp .ge 54, 3) := by decide +kernel
theorem dX5_showAlters_26 : decode cX5_showAlters 26 = .ok (.aload_n 0, 1) := by decide +kernel
theorem dX5_showAlters_27 : decode cX5_showAlters 27 = .ok (.getfield 9, 3) := by decide +kernel
theorem dX5_showAlters_30 : decode cX5_showAlters 30 = .ok (.iload_n 3, 1) := by decide +kernel
theorem dX5_showAlters_31 : decode cX5_showAlters 31 = .ok (.iaload, 1) := by decide +kernel
theorem dX5_showAlters_32 : decode cX5_showAlters 32 = .ok (.istore 4, 2) := by decide +kernel
theorem dX5_showAlters_34 : decode cX5_showAlters 34 = .ok (.aload_n 0, 1) := by decide +kernel
theorem dX5_showAlters_35 : decode cX5_showAlters 35 = .ok (.getfield 28, 3) := by decide +kernel
theorem dX5_showAlters_38 : decode cX5_showAlters 38 = .ok (.iload_n 3, 1) := by decide +kernel
theorem dX5_showAlters_39 : decode cX5_showAlters 39 = .ok (.aload_n 0, 1) := by decide +kernel
theorem dX5_showAlters_40 : decode cX5_showAlters 40 = .ok (.getfield 21, 3) := by decide +kernel
theorem dX5_showAlters_43 : decode cX5_showAlters 43 = .ok (.iload_n 3, 1) := by decide +kernel
theorem dX5_showAlters_44 : decode cX5_showAlters 44 = .ok (.baload, 1) := by decide +kernel
theorem dX5_showAlters_45 : decode cX5_showAlters 45 = .ok (.ifCond .eq 23, 3) := by decide +kernel
theorem dX5_showAlters_48 : decode cX5_showAlters 48 = .ok (.aload_n 0, 1) := by decide +kernel
theorem dX5_showAlters_49 : decode cX5_showAlters 49 = .ok (.aload_n 1, 1) := by decide +kernel
theorem dX5_showAlters_50 : decode cX5_showAlters 50 = .ok (.iload 4, 2) := by decide +kernel
theorem dX5_showAlters_52 : decode cX5_showAlters 52 = .ok (.invokevirtual 133, 3) := by decide +kernel
theorem dX5_showAlters_55 : decode cX5_showAlters 55 = .ok (.aload_n 1, 1) := by decide +kernel
theorem dX5_showAlters_56 : decode cX5_showAlters 56 = .ok (.iload 4, 2) := by decide +kernel
theorem dX5_showAlters_58 : decode cX5_showAlters 58 = .ok (.invokevirtual 136, 3) := by decide +kernel
theorem dX5_showAlters_61 : decode cX5_showAlters 61 = .ok (.iload_n 2, 1) := by decide +kernel
theorem dX5_showAlters_62 : decode cX5_showAlters 62 = .ok (.invokevirtual 139, 3) := by decide +kernel
theorem dX5_showAlters_65 : decode cX5_showAlters 65 = .ok (.goto 5, 3) := by decide +kernel
theorem dX5_showAlters_68 : decode cX5_showAlters 68 = .ok (.bipush (-3), 2) := by decide +kernel
theorem dX5_showAlters_70 : decode cX5_showAlters 70 = .ok (.iastore, 1) := by decide +kernel
theorem dX5_showAlters_71 : decode cX5_showAlters 71 = .ok (.iinc 3 1, 3) := by decide +kernel
theorem dX5_showAlters_74 : decode cX5_showAlters 74 = .ok (.goto (-63), 3) := by decide +kernel
theorem dX5_showAlters_77 : decode cX5_showAlters 77 = .ok (.return_, 1) := by decide +kernel
theorem dX5_showAltersAsWritten_0 : decode cX5_showAltersAsWritten 0 = .ok (.aload_n 0, 1) := by decide +kernel
theorem dX5_showAltersAsWritten_1 : decode cX5_showAltersAsWritten 1 = .ok (.getfield 37, 3) := by decide +kernel
theorem dX5_showAltersAsWritten_4 : decode cX5_showAltersAsWritten 4 = .ok (.bipush (-3), 2) := by decide +kernel
theorem dX5_showAltersAsWritten_6 : decode cX5_showAltersAsWritten 6 = .ok (.invokestatic 127, 3) := by decide +kernel
theorem dX5_showAltersAsWritten_9 : decode cX5_showAltersAsWritten 9 = .ok (.iconst 0, 1) := by decide +kernel
theorem dX5_showAltersAsWritten_10 : decode cX5_showAltersAsWritten 10 = .ok (.istore_n 3, 1) := by decide +kernel
theorem dX5_showAltersAsWritten_11 : decode cX5_showAltersAsWritten 11 = .ok (.iload_n 3, 1) := by decide +kernel
theorem dX5_showAltersAsWritten_12 : decode cX5_showAltersAsWritten 12 = .ok (.aload_n 0, 1) := by decide +kernel
theorem dX5_showAltersAsWritten_13 : decode cX5_showAltersAsWritten 13 = .ok (.getfield 40, 3) := by decide +kernel
theorem dX5_showAltersAsWritten_16 : decode cX5_showAltersAsWritten 16 = .ok (.if_icmp .ge 61, 3) := by decide +kernel
theorem dX5_showAltersAsWritten_19 : decode cX5_showAltersAsWritten 19 = .ok (.iload_n 3, 1) := by decide +kernel
theorem dX5_showAltersAsWritten_20 : decode cX5_showAltersAsWritten 20 = .ok (.sipush 128, 3) := by decide +kernel
theorem dX5_showAltersAsWritten_23 : decode cX5_showAltersAsWritten 23 = .ok (.if_icmp .ge 54, 3) := by decide +kernel
theorem dX5_showAltersAsWritten_26 : decode cX5_showAltersAsWritten 26 = .ok (.aload_n 0, 1) := by decide +kernel
theorem dX5_showAltersAsWritten_27 : decode cX5_showAltersAsWritten 27 = .ok (.getfield 9, 3) := by decide +kernel
theorem dX5_showAltersAsWritten_30 : decode cX5_showAltersAsWritten 30 = .ok (.iload_n 3, 1) := by decide +kernel
theorem dX5_showAltersAsWritten_31 : decode cX5_showAltersAsWritten 31 = .ok (.iaload, 1) := by decide +kernel
theorem dX5_showAltersAsWritten_32 : decode cX5_showAltersAsWritten 32 = .ok (.istore 4, 2) := by decide +kernel
theorem dX5_showAltersAsWritten_34 : decode cX5_showAltersAsWritten 34 = .ok (.aload_n 0, 1) := by decide +kernel
theorem dX5_showAltersAsWritten_35 : decode cX5_showAltersAsWritten 35 = .ok (.getfield 31, 3) := by decide +kernel
theorem dX5_showAltersAsWritten_38 : decode cX5_showAltersAsWritten 38 = .ok (.iload_n 3, 1) := by decide +kernel
theorem dX5_showAltersAsWritten_39 : decode cX5_showAltersAsWritten 39 = .ok (.aload_n 0, 1) := by decide +kernel
theorem dX5_showAltersAsWritten_40 : decode cX5_showAltersAsWritten 40 = .ok (.getfield 21, 3) := by decide +kernel
theorem dX5_showAltersAsWritten_43 : decode cX5_showAltersAsWritten 43 = .ok (.iload_n 3, 1) := by decide +kernel
theorem dX5_showAltersAsWritten_44 : decode cX5_showAltersAsWritten 44 = .ok (.baload, 1) := by decide +kernel
theorem dX5_showAltersAsWritten_45 : decode cX5_showAltersAsWritten 45 = .ok (.ifCond .eq 23, 3) := by decide +kernel
theorem dX5_showAltersAsWritten_48 : decode cX5_showAltersAsWritten 48 = .ok (.aload_n 0, 1) := by decide +kernel
theorem dX5_showAltersAsWritten_49 : decode cX5_showAltersAsWritten 49 = .ok (.aload_n 1, 1) := by decide +kernel
theorem dX5_showAltersAsWritten_50 : decode cX5_showAltersAsWritten 50 = .ok (.iload 4, 2) := by decide +kernel
theorem dX5_showAltersAsWritten_52 : decode cX5_showAltersAsWritten 52 = .ok (.invokevirtual 143, 3) := by decide +kernel
theorem dX5_showAltersAsWritten_55 : decode cX5_showAltersAsWritten 55 = .ok (.aload_n 1, 1) := by decide +kernel
theorem dX5_showAltersAsWritten_56 : decode cX5_showAltersAsWritten 56 = .ok (.iload 4, 2) := by decide +kernel
theorem dX5_showAltersAsWritten_58 : decode cX5_showAltersAsWritten 58 = .ok (.invokevirtual 146, 3) := by decide +kernel
theorem dX5_showAltersAsWritten_61 : decode cX5_showAltersAsWritten 61 = .ok (.iload_n 2, 1) := by decide +kernel
theorem dX5_showAltersAsWritten_62 : decode cX5_showAltersAsWritten 62 = .ok (.invokevirtual 139, 3) := by decide +kernel
theorem dX5_showAltersAsWritten_65 : decode cX5_showAltersAsWritten 65 = .ok (.goto 5, 3) := by decide +kernel
theorem dX5_showAltersAsWritten_68 : decode cX5_showAltersAsWritten 68 = .ok (.bipush (-3), 2) := by decide +kernel
theorem dX5_showAltersAsWritten_70 : decode cX5_showAltersAsWritten 70 = .ok (.iastore, 1) := by decide +kernel
theorem dX5_showAltersAsWritten_71 : decode cX5_showAltersAsWritten 71 = .ok (.iinc 3 1, 3) := by decide +kernel
theorem dX5_showAltersAsWritten_74 : decode cX5_showAltersAsWritten 74 = .ok (.goto (-63), 3) := by decide +kernel
theorem dX5_showAltersAsWritten_77 : decode cX5_showAltersAsWritten 77 = .ok (.return_, 1) := by decide +kernel
theorem dX5_alterToShow_0 : decode cX5_alterToShow 0 = .ok (.iload_n 1, 1) := by decide +kernel
theorem dX5_alterToShow_1 : decode cX5_alterToShow 1 = .ok (.iconst 1, 1) := by decide +kernel
theorem dX5_alterToShow_2 : decode cX5_alterToShow 2 = .ok (.if_icmp .lt 12, 3) := by decide +kernel
theorem dX5_alterToShow_5 : decode cX5_alterToShow 5 = .ok (.iload_n 1, 1) := by decide +kernel
theorem dX5_alterToShow_6 : decode cX5_alterToShow 6 = .ok (.aload_n 0, 1) := by decide +kernel
theorem dX5_alterToShow_7 : decode cX5_alterToShow 7 = .ok (.getfield 37, 3) := by decide +kernel
theorem dX5_alterToShow_10 : decode cX5_alterToShow 10 = .ok (.arraylength, 1) := by decide +kernel
theorem dX5_alterToShow_11 : decode cX5_alterToShow 11 = .ok (.if_icmp .lt 6, 3) := by decide +kernel
theorem dX5_alterToShow_14 : decode cX5_alterToShow 14 = .ok (.bipush (-3), 2) := by decide +kernel
theorem dX5_alterToShow_16 : decode cX5_alterToShow 16 = .ok (.ireturn, 1) := by decide +kernel
theorem dX5_alterToShow_17 : decode cX5_alterToShow 17 = .ok (.aload_n 0, 1) := by decide +kernel
theorem dX5_alterToShow_18 : decode cX5_alterToShow 18 = .ok (.getfield 37, 3) := by decide +kernel
theorem dX5_alterToShow_21 : decode cX5_alterToShow 21 = .ok (.iload_n 1, 1) := by decide +kernel
theorem dX5_alterToShow_22 : decode cX5_alterToShow 22 = .ok (.iaload, 1) := by decide +kernel
theorem dX5_alterToShow_23 : decode cX5_alterToShow 23 = .ok (.istore 4, 2) := by decide +kernel
theorem dX5_alterToShow_25 : decode cX5_alterToShow 25 = .ok (.iload 4, 2) := by decide +kernel
theorem dX5_alterToShow_27 : decode cX5_alterToShow 27 = .ok (.bipush (-3), 2) := by decide +kernel
theorem dX5_alterToShow_29 : decode cX5_alterToShow 29 = .ok (.if_icmp .ne 13, 3) := by decide +kernel
theorem dX5_alterToShow_32 : decode cX5_alterToShow 32 = .ok (.iload_n 3, 1) := by decide +kernel
theorem dX5_alterToShow_33 : decode cX5_alterToShow 33 = .ok (.iload_n 1, 1) := by decide +kernel
theorem dX5_alterToShow_34 : decode cX5_alterToShow 34 = .ok (.bipush 7, 2) := by decide +kernel
theorem dX5_alterToShow_36 : decode cX5_alterToShow 36 = .ok (.irem, 1) := by decide +kernel
theorem dX5_alterToShow_37 : decode cX5_alterToShow 37 = .ok (.invokestatic 149, 3) := by decide +kernel
theorem dX5_alterToShow_40 : decode cX5_alterToShow 40 = .ok (.istore 4, 2) := by decide +kernel
theorem dX5_alterToShow_42 : decode cX5_alterToShow 42 = .ok (.iload_n 2, 1) := by decide +kernel
theorem dX5_alterToShow_43 : decode cX5_alterToShow 43 = .ok (.iload 4, 2) := by decide +kernel
theorem dX5_alterToShow_45 : decode cX5_alterToShow 45 = .ok (.if_icmp .ne 6, 3) := by decide +kernel
theorem dX5_alterToShow_48 : decode cX5_alterToShow 48 = .ok (.bipush (-3), 2) := by decide +kernel
theorem dX5_alterToShow_50 : decode cX5_alterToShow 50 = .ok (.ireturn, 1) := by decide +kernel
theorem dX5_alterToShow_51 : decode cX5_alterToShow 51 = .ok (.aload_n 0, 1) := by decide +kernel
theorem dX5_alterToShow_52 : decode cX5_alterToShow 52 = .ok (.getfield 37, 3) := by decide +kernel
theorem dX5_alterToShow_55 : decode cX5_alterToShow 55 = .ok (.iload_n 1, 1) := by decide +kernel
theorem dX5_alterToShow_56 : decode cX5_alterToShow 56 = .ok (.iload_n 2, 1) := by decide +kernel
theorem dX5_alterToShow_57 : decode cX5_alterToShow 57 = .ok (.iastore, 1) := by decide +kernel
theorem dX5_alterToShow_58 : decode cX5_alterToShow 58 = .ok (.iload_n 2, 1) := by decide +kernel
theorem dX5_alterToShow_59 : decode cX5_alterToShow 59 = .ok (.ireturn, 1) := by decide +kernel
theorem dX6_init_0 : decode cX6_init 0 = .ok (.aload_n 0, 1) := by decide +kernel
theorem dX6_init_1 : decode cX6_init 1 = .ok (.invokespecial 3, 3) := by decide +kernel
theorem dX6_init_4 : decode cX6_init 4 = .ok (.aload_n 0, 1) := by decide +kernel
theorem dX6_init_5 : decode cX6_init 5 = .ok (.sipush 512, 3) := by decide +kernel
theorem dX6_init_8 : decode cX6_init 8 = .ok (.newarray .int, 2) := by decide +kernel
theorem dX6_init_10 : decode cX6_init 10 = .ok (.putfield 9, 3) := by decide +kernel
theorem dX6_init_13 : decode cX6_init 13 = .ok (.aload_n 0, 1) := by decide +kernel
theorem dX6_init_14 : decode cX6_init 14 = .ok (.sipush 512, 3) := by decide +kernel
theorem dX6_init_17 : decode cX6_init 17 = .ok (.newarray .int, 2) := by decide +kernel
theorem dX6_init_19 : decode cX6_init 19 = .ok (.putfield 15, 3) := by decide +kernel
theorem dX6_init_22 : decode cX6_init 22 = .ok (.aload_n 0, 1) := by decide +kernel
theorem dX6_init_23 : decode cX6_init 23 = .ok (.sipush 512, 3) := by decide +kernel
theorem dX6_init_26 : decode cX6_init 26 = .ok (.newarray .int, 2) := by decide +kernel
theorem dX6_init_28 : decode cX6_init 28 = .ok (.putfield 18, 3) := by decide +kernel
theorem dX6_init_31 : decode cX6_init 31 = .ok (.aload_n 0, 1) := by decide +kernel
theorem dX6_init_32 : decode cX6_init 32 = .ok (.sipush 512, 3) := by decide +kernel
theorem dX6_init_35 : decode cX6_init 35 = .ok (.newarray .int, 2) := by decide +kernel
theorem dX6_init_37 : decode cX6_init 37 = .ok (.putfield 21, 3) := by decide +kernel
theorem dX6_init_40 : decode cX6_init 40 = .ok (.aload_n 0, 1) := by decide +kernel
theorem dX6_init_41 : decode cX6_init 41 = .ok (.sipush 512, 3) := by decide +kernel
theorem dX6_init_44 : decode cX6_init 44 = .ok (.newarray .int, 2) := by decide +kernel
theorem dX6_init_46 : decode cX6_init 46 = .ok (.putfield 24, 3) := by decide +kernel
theorem dX6_init_49 : decode cX6_init 49 = .ok (.aload_n 0, 1) := by decide +kernel
theorem dX6_init_50 : decode cX6_init 50 = .ok (.sipush 512, 3) := by decide +kernel
theorem dX6_init_53 : decode cX6_init 53 = .ok (.newarray .int, 2) := by decide +kernel
theorem dX6_init_55 : decode cX6_init 55 = .ok (.putfield 27, 3) := by decide +kernel
theorem dX6_init_58 : decode cX6_init 58 = .ok (.aload_n 0, 1) := by decide +kernel
theorem dX6_init_59 : decode cX6_init 59 = .ok (.sipush 512, 3) := by decide +kernel
theorem dX6_init_62 : decode cX6_init 62 = .ok (.newarray .int, 2) := by decide +kernel
theorem dX6_init_64 : decode cX6_init 64 = .ok (.putfield 30, 3) := by decide +kernel
theorem dX6_init_67 : decode cX6_init 67 = .ok (.aload_n 0, 1) := by decide +kernel
theorem dX6_init_68 : decode cX6_init 68 = .ok (.iconst 1, 1) := by decide +kernel
theorem dX6_init_69 : decode cX6_init 69 = .ok (.putfield 33, 3) := by decide +kernel
theorem dX6_init_72 : decode cX6_init 72 = .ok (.aload_n 0, 1) := by decide +kernel
theorem dX6_init_73 : decode cX6_init 73 = .ok (.bipush 62, 2) := by decide +kernel
theorem dX6_init_75 : decode cX6_init 75 = .ok (.putfield 37, 3) := by decide +kernel
theorem dX6_init_78 : decode cX6_init 78 = .ok (.return_, 1) := by decide +kernel
theorem dX6_size_0 : decode cX6_size 0 = .ok (.aload_n 0, 1) := by decide +kernel
theorem dX6_size_1 : decode cX6_size 1 = .ok (.getfield 40, 3) := by decide +kernel
theorem dX6_size_4 : decode cX6_size 4 = .ok (.ireturn, 1) := by decide +kernel
theorem dX6_end_0 : decode cX6_end 0 = .ok (.aload_n 0, 1) := by decide +kernel
theorem dX6_end_1 : decode cX6_end 1 = .ok (.getfield 43, 3) := by decide +kernel
theorem dX6_end_4 : decode cX6_end 4 = .ok (.ireturn, 1) := by decide +kernel
theorem dX6_has_0 : decode cX6_has 0 = .ok (.iload_n 1, 1) := by decide +kernel
theorem dX6_has_1 : decode cX6_has 1 = .ok (.ifCond .lt 22, 3) := by decide +kernel
theorem dX6_has_4 : decode cX6_has 4 = .ok (.iload_n 1, 1) := by decide +kernel
theorem dX6_has_5 : decode cX6_has 5 = .ok (.aload_n 0, 1) := by decide +kernel
theorem dX6_has_6 : decode cX6_has 6 = .ok (.getfield 40, 3) := by decide +kernel
theorem dX6_has_9 : decode cX6_has 9 = .ok (.if_icmp .ge 14, 3) := by decide +kernel
theorem dX6_has_12 : decode cX6_has 12 = .ok (.iload_n 1, 1) := by decide +kernel
theorem dX6_has_13 : decode cX6_has 13 = .ok (.sipush 512, 3) := by decide +kernel
theorem dX6_has_16 : decode cX6_has 16 = .ok (.if_icmp .ge 7, 3) := by decide +kernel
theorem dX6_has_19 : decode cX6_has 19 = .ok (.iconst 1, 1) := by decide +kernel
theorem dX6_has_20 : decode cX6_has 20 = .ok (.goto 4, 3) := by decide +kernel
theorem dX6_has_23 : decode cX6_has 23 = .ok (.iconst 0, 1) := by decide +kernel
theorem dX6_has_24 : decode cX6_has 24 = .ok (.ireturn, 1) := by decide +kernel
theorem dX6_append_0 : decode cX6_append 0 = .ok (.aload_n 0, 1) := by decide +kernel
theorem dX6_append_1 : decode cX6_append 1 = .ok (.getfield 40, 3) := by decide +kernel
theorem dX6_append_4 : decode cX6_append 4 = .ok (.istore 4, 2) := by decide +kernel
theorem dX6_append_6 : decode cX6_append 6 = .ok (.iload 4, 2) := by decide +kernel
theorem dX6_append_8 : decode cX6_append 8 = .ok (.ifCond .lt 11, 3) := by decide +kernel
theorem dX6_append_11 : decode cX6_append 11 = .ok (.iload 4, 2) := by decide +kernel
theorem dX6_append_13 : decode cX6_append 13 = .ok (.sipush 512, 3) := by decide +kernel
theorem dX6_append_16 : decode cX6_append 16 = .ok (.if_icmp .lt 5, 3) := by decide +kernel
theorem dX6_append_19 : decode cX6_append 19 = .ok (.iconst (-1), 1) := by decide +kernel
theorem dX6_append_20 : decode cX6_append 20 = .ok (.ireturn, 1) := by decide +kernel
theorem dX6_append_21 : decode cX6_append 21 = .ok (.aload_n 0, 1) := by decide +kernel
theorem dX6_append_22 : decode cX6_append 22 = .ok (.getfield 21, 3) := by decide +kernel
theorem dX6_append_25 : decode cX6_append 25 = .ok (.iload 4, 2) := by decide +kernel
theorem dX6_append_27 : decode cX6_append 27 = .ok (.aload_n 0, 1) := by decide +kernel
theorem dX6_append_28 : decode cX6_append 28 = .ok (.getfield 43, 3) := by decide +kernel
theorem dX6_append_31 : decode cX6_append 31 = .ok (.iastore, 1) := by decide +kernel
theorem dX6_append_32 : decode cX6_append 32 = .ok (.aload_n 0, 1) := by decide +kernel
theorem dX6_append_33 : decode cX6_append 33 = .ok (.getfield 24, 3) := by decide +kernel
theorem dX6_append_36 : decode cX6_append 36 = .ok (.iload 4, 2) := by decide +kernel
theorem dX6_append_38 : decode cX6_append 38 = .ok (.iload_n 3, 1) := by decide +kernel
theorem dX6_append_39 : decode cX6_append 39 = .ok (.iastore, 1) := by decide +kernel
theorem dX6_append_40 : decode cX6_append 40 = .ok (.aload_n 0, 1) := by decide +kernel
theorem dX6_append_41 : decode cX6_append 41 = .ok (.iload 4, 2) := by decide +kernel
theorem dX6_append_43 : decode cX6_append 43 = .ok (.iconst 1, 1) := by decide +kernel
theorem dX6_append_44 : decode cX6_append 44 = .ok (.iadd, 1) := by decide +kernel
theorem dX6_append_45 : decode cX6_append 45 = .ok (.putfield 40, 3) := by decide +kernel
theorem dX6_append_48 : decode cX6_append 48 = .ok (.aload_n 0, 1) := by decide +kernel
theorem dX6_append_49 : decode cX6_append 49 = .ok (.dup, 1) := by decide +kernel
theorem dX6_append_50 : decode cX6_append 50 = .ok (.getfield 43, 3) := by decide +kernel
theorem dX6_append_53 : decode cX6_append 53 = .ok (.iload_n 3, 1) := by decide +kernel
theorem dX6_append_54 : decode cX6_append 54 = .ok (.iadd, 1) := by decide +kernel
theorem dX6_append_55 : decode cX6_append 55 = .ok (.putfield 43, 3) := by decide +kernel
theorem dX6_append_58 : decode cX6_append 58 = .ok (.aload_n 0, 1) := by decide +kernel
theorem dX6_append_59 : decode cX6_append 59 = .ok (.iload 4, 2) := by decide +kernel
theorem dX6_append_61 : decode cX6_append 61 = .ok (.iload_n 1, 1) := by decide +kernel
theorem dX6_append_62 : decode cX6_append 62 = .ok (.iload_n 2, 1) := by decide +kernel
theorem dX6_append_63 : decode cX6_append 63 = .ok (.invokevirtual 46, 3) := by decide +kernel
theorem dX6_append_66 : decode cX6_append 66 = .ok (.iload 4, 2) := by decide +kernel
theorem dX6_append_68 : decode cX6_append 68 = .ok (.ireturn, 1) := by decide +kernel
theorem dX6_removeLast_0 : decode cX6_removeLast 0 = .ok (.aload_n 0, 1) := by decide +kernel
theorem dX6_removeLast_1 : decode cX6_removeLast 1 = .ok (.getfield 40, 3) := by decide +kernel
theorem dX6_removeLast_4 : decode cX6_removeLast 4 = .ok (.iconst 1, 1) := by decide +kernel
theorem dX6_removeLast_5 : decode cX6_removeLast 5 = .ok (.isub, 1) := by decide +kernel
theorem dX6_removeLast_6 : decode cX6_removeLast 6 = .ok (.istore_n 1, 1) := by decide +kernel
theorem dX6_removeLast_7 : decode cX6_removeLast 7 = .ok (.aload_n 0, 1) := by decide +kernel
theorem dX6_removeLast_8 : decode cX6_removeLast 8 = .ok (.iload_n 1, 1) := by decide +kernel
theorem dX6_removeLast_9 : decode cX6_removeLast 9 = .ok (.invokevirtual 50, 3) := by decide +kernel
theorem dX6_removeLast_12 : decode cX6_removeLast 12 = .ok (.ifCond .ne 5, 3) := by decide +kernel
theorem dX6_removeLast_15 : decode cX6_removeLast 15 = .ok (.iconst 0, 1) := by decide +kernel
theorem dX6_removeLast_16 : decode cX6_removeLast 16 = .ok (.ireturn, 1) := by decide +kernel
theorem dX6_removeLast_17 : decode cX6_removeLast 17 = .ok (.aload_n 0, 1) := by decide +kernel
theorem dX6_removeLast_18 : decode cX6_removeLast 18 = .ok (.iload_n 1, 1) := by decide +kernel
theorem dX6_removeLast_19 : decode cX6_removeLast 19 = .ok (.putfield 40, 3) := by decide +kernel
theorem dX6_removeLast_22 : decode cX6_removeLast 22 = .ok (.aload_n 0, 1) := by decide +kernel
theorem dX6_removeLast_23 : decode cX6_removeLast 23 = .ok (.aload_n 0, 1) := by decide +kernel
theorem dX6_removeLast_24 : decode cX6_removeLast 24 = .ok (.getfield 21, 3) := by decide +kernel
theorem dX6_removeLast_27 : decode cX6_removeLast 27 = .ok (.iload_n 1, 1) := by decide +kernel
theorem dX6_removeLast_28 : decode cX6_removeLast 28 = .ok (.iaload, 1) := by decide +kernel
theorem dX6_removeLast_29 : decode cX6_removeLast 29 = .ok (.putfield 43, 3) := by decide +kernel
theorem dX6_removeLast_32 : decode cX6_removeLast 32 = .ok (.aload_n 0, 1) := by decide +kernel
theorem dX6_removeLast_33 : decode cX6_removeLast 33 = .ok (.getfield 24, 3) := by decide +kernel
theorem dX6_removeLast_36 : decode cX6_removeLast 36 = .ok (.iload_n 1, 1) := by decide +kernel
theorem dX6_removeLast_37 : decode cX6_removeLast 37 = .ok (.iaload, 1) := by decide +kernel
theorem dX6_removeLast_38 : decode cX6_removeLast 38 = .ok (.ireturn, 1) := by decide +kernel
theorem dX6_givePitch_0 : decode cX6_givePitch 0 = .ok (.aload_n 0, 1) := by decide +kernel
theorem dX6_givePitch_1 : decode cX6_givePitch 1 = .ok (.iload_n 1, 1) := by decide +kernel
theorem dX6_givePitch_2 : decode cX6_givePitch 2 = .ok (.invokevirtual 50, 3) := by decide +kernel
theorem dX6_givePitch_5 : decode cX6_givePitch 5 = .ok (.ifCond .ne 4, 3) := by decide +kernel
theorem dX6_givePitch_8 : decode cX6_givePitch 8 = .ok (.return_, 1) := by decide +kernel
theorem dX6_givePitch_9 : decode cX6_givePitch 9 = .ok (.aload_n 0, 1) := by decide +kernel
end
section
theorem dX6_givePitch_10 : decode cX6_givePitch 10 = .ok (.getfield 9, 3) := by decide +kernel
theorem dX6_givePitch_13 : decode cX6_givePitch 13 = .ok (.iload_n 1, 1) := by decide +kernel
theorem dX6_givePitch_14 : decode cX6_givePitch 14 = .ok (.iload_n 2, 1) := by decide +kernel
theorem dX6_givePitch_15 : decode cX6_givePitch 15 = .ok (.iastore, 1) := by decide +kernel
theorem dX6_givePitch_16 : decode cX6_givePitch 16 = .ok (.aload_n 0, 1) := by decide +kernel
theorem dX6_givePitch_17 : decode cX6_givePitch 17 = .ok (.getfield 15, 3) := by decide +kernel
theorem dX6_givePitch_20 : decode cX6_givePitch 20 = .ok (.iload_n 1, 1) := by decide +kernel
theorem dX6_givePitch_21 : decode cX6_givePitch 21 = .ok (.iload_n 3, 1) := by decide +kernel
theorem dX6_givePitch_22 : decode cX6_givePitch 22 = .ok (.iastore, 1) := by decide +kernel
theorem dX6_givePitch_23 : decode cX6_givePitch 23 = .ok (.aload_n 0, 1) := by decide +kernel
theorem dX6_givePitch_24 : decode cX6_givePitch 24 = .ok (.getfield 18, 3) := by decide +kernel
theorem dX6_givePitch_27 : decode cX6_givePitch 27 = .ok (.iload_n 1, 1) := by decide +kernel
theorem dX6_givePitch_28 : decode cX6_givePitch 28 = .ok (.iload_n 2, 1) := by decide +kernel
theorem dX6_givePitch_29 : decode cX6_givePitch 29 = .ok (.ifCond .ne 7, 3) := by decide +kernel
theorem dX6_givePitch_32 : decode cX6_givePitch 32 = .ok (.iconst (-1), 1) := by decide +kernel
theorem dX6_givePitch_33 : decode cX6_givePitch 33 = .ok (.goto 9, 3) := by decide +kernel
theorem dX6_givePitch_36 : decode cX6_givePitch 36 = .ok (.iload_n 2, 1) := by decide +kernel
theorem dX6_givePitch_37 : decode cX6_givePitch 37 = .ok (.invokestatic 54, 3) := by decide +kernel
theorem dX6_givePitch_40 : decode cX6_givePitch 40 = .ok (.iload_n 3, 1) := by decide +kernel
theorem dX6_givePitch_41 : decode cX6_givePitch 41 = .ok (.iadd, 1) := by decide +kernel
theorem dX6_givePitch_42 : decode cX6_givePitch 42 = .ok (.iastore, 1) := by decide +kernel
theorem dX6_givePitch_43 : decode cX6_givePitch 43 = .ok (.aload_n 0, 1) := by decide +kernel
theorem dX6_givePitch_44 : decode cX6_givePitch 44 = .ok (.iload_n 1, 1) := by decide +kernel
theorem dX6_givePitch_45 : decode cX6_givePitch 45 = .ok (.invokevirtual 60, 3) := by decide +kernel
theorem dX6_givePitch_48 : decode cX6_givePitch 48 = .ok (.return_, 1) := by decide +kernel
theorem dX6_writeForInstrument_0 : decode cX6_writeForInstrument 0 = .ok (.aload_n 0, 1) := by decide +kernel
theorem dX6_writeForInstrument_1 : decode cX6_writeForInstrument 1 = .ok (.iload_n 1, 1) := by decide +kernel
theorem dX6_writeForInstrument_2 : decode cX6_writeForInstrument 2 = .ok (.invokevirtual 50, 3) := by decide +kernel
theorem dX6_writeForInstrument_5 : decode cX6_writeForInstrument 5 = .ok (.ifCond .ne 4, 3) := by decide +kernel
theorem dX6_writeForInstrument_8 : decode cX6_writeForInstrument 8 = .ok (.return_, 1) := by decide +kernel
theorem dX6_writeForInstrument_9 : decode cX6_writeForInstrument 9 = .ok (.aload_n 0, 1) := by decide +kernel
theorem dX6_writeForInstrument_10 : decode cX6_writeForInstrument 10 = .ok (.getfield 9, 3) := by decide +kernel
theorem dX6_writeForInstrument_13 : decode cX6_writeForInstrument 13 = .ok (.iload_n 1, 1) := by decide +kernel
theorem dX6_writeForInstrument_14 : decode cX6_writeForInstrument 14 = .ok (.iaload, 1) := by decide +kernel
theorem dX6_writeForInstrument_15 : decode cX6_writeForInstrument 15 = .ok (.iconst 4, 1) := by decide +kernel
theorem dX6_writeForInstrument_16 : decode cX6_writeForInstrument 16 = .ok (.aload_n 0, 1) := by decide +kernel
theorem dX6_writeForInstrument_17 : decode cX6_writeForInstrument 17 = .ok (.getfield 64, 3) := by decide +kernel
theorem dX6_writeForInstrument_20 : decode cX6_writeForInstrument 20 = .ok (.imul, 1) := by decide +kernel
theorem dX6_writeForInstrument_21 : decode cX6_writeForInstrument 21 = .ok (.iadd, 1) := by decide +kernel
theorem dX6_writeForInstrument_22 : decode cX6_writeForInstrument 22 = .ok (.bipush 7, 2) := by decide +kernel
theorem dX6_writeForInstrument_24 : decode cX6_writeForInstrument 24 = .ok (.aload_n 0, 1) := by decide +kernel
theorem dX6_writeForInstrument_25 : decode cX6_writeForInstrument 25 = .ok (.getfield 67, 3) := by decide +kernel
theorem dX6_writeForInstrument_28 : decode cX6_writeForInstrument 28 = .ok (.imul, 1) := by decide +kernel
theorem dX6_writeForInstrument_29 : decode cX6_writeForInstrument 29 = .ok (.iadd, 1) := by decide +kernel
theorem dX6_writeForInstrument_30 : decode cX6_writeForInstrument 30 = .ok (.istore_n 2, 1) := by decide +kernel
theorem dX6_writeForInstrument_31 : decode cX6_writeForInstrument 31 = .ok (.aload_n 0, 1) := by decide +kernel
theorem dX6_writeForInstrument_32 : decode cX6_writeForInstrument 32 = .ok (.getfield 18, 3) := by decide +kernel
theorem dX6_writeForInstrument_35 : decode cX6_writeForInstrument 35 = .ok (.iload_n 1, 1) := by decide +kernel
theorem dX6_writeForInstrument_36 : decode cX6_writeForInstrument 36 = .ok (.iaload, 1) := by decide +kernel
theorem dX6_writeForInstrument_37 : decode cX6_writeForInstrument 37 = .ok (.bipush 7, 2) := by decide +kernel
theorem dX6_writeForInstrument_39 : decode cX6_writeForInstrument 39 = .ok (.aload_n 0, 1) := by decide +kernel
theorem dX6_writeForInstrument_40 : decode cX6_writeForInstrument 40 = .ok (.getfield 64, 3) := by decide +kernel
theorem dX6_writeForInstrument_43 : decode cX6_writeForInstrument 43 = .ok (.imul, 1) := by decide +kernel
theorem dX6_writeForInstrument_44 : decode cX6_writeForInstrument 44 = .ok (.iadd, 1) := by decide +kernel
theorem dX6_writeForInstrument_45 : decode cX6_writeForInstrument 45 = .ok (.bipush 12, 2) := by decide +kernel
theorem dX6_writeForInstrument_47 : decode cX6_writeForInstrument 47 = .ok (.aload_n 0, 1) := by decide +kernel
theorem dX6_writeForInstrument_48 : decode cX6_writeForInstrument 48 = .ok (.getfield 67, 3) := by decide +kernel
theorem dX6_writeForInstrument_51 : decode cX6_writeForInstrument 51 = .ok (.imul, 1) := by decide +kernel
theorem dX6_writeForInstrument_52 : decode cX6_writeForInstrument 52 = .ok (.iadd, 1) := by decide +kernel
theorem dX6_writeForInstrument_53 : decode cX6_writeForInstrument 53 = .ok (.iload_n 2, 1) := by decide +kernel
theorem dX6_writeForInstrument_54 : decode cX6_writeForInstrument 54 = .ok (.invokestatic 54, 3) := by decide +kernel
theorem dX6_writeForInstrument_57 : decode cX6_writeForInstrument 57 = .ok (.isub, 1) := by decide +kernel
theorem dX6_writeForInstrument_58 : decode cX6_writeForInstrument 58 = .ok (.istore_n 3, 1) := by decide +kernel
theorem dX6_writeForInstrument_59 : decode cX6_writeForInstrument 59 = .ok (.aload_n 0, 1) := by decide +kernel
theorem dX6_writeForInstrument_60 : decode cX6_writeForInstrument 60 = .ok (.getfield 9, 3) := by decide +kernel
theorem dX6_writeForInstrument_63 : decode cX6_writeForInstrument 63 = .ok (.iload_n 1, 1) := by decide +kernel
theorem dX6_writeForInstrument_64 : decode cX6_writeForInstrument 64 = .ok (.iaload, 1) := by decide +kernel
theorem dX6_writeForInstrument_65 : decode cX6_writeForInstrument 65 = .ok (.ifCond .eq 15, 3) := by decide +kernel
theorem dX6_writeForInstrument_68 : decode cX6_writeForInstrument 68 = .ok (.iload_n 2, 1) := by decide +kernel
theorem dX6_writeForInstrument_69 : decode cX6_writeForInstrument 69 = .ok (.iload_n 3, 1) := by decide +kernel
theorem dX6_writeForInstrument_70 : decode cX6_writeForInstrument 70 = .ok (.invokestatic 70, 3) := by decide +kernel
theorem dX6_writeForInstrument_73 : decode cX6_writeForInstrument 73 = .ok (.ifCond .eq 7, 3) := by decide +kernel
theorem dX6_writeForInstrument_76 : decode cX6_writeForInstrument 76 = .ok (.iconst 1, 1) := by decide +kernel
theorem dX6_writeForInstrument_77 : decode cX6_writeForInstrument 77 = .ok (.goto 4, 3) := by decide +kernel
theorem dX6_writeForInstrument_80 : decode cX6_writeForInstrument 80 = .ok (.iconst 0, 1) := by decide +kernel
theorem dX6_writeForInstrument_81 : decode cX6_writeForInstrument 81 = .ok (.istore 4, 2) := by decide +kernel
theorem dX6_writeForInstrument_83 : decode cX6_writeForInstrument 83 = .ok (.aload_n 0, 1) := by decide +kernel
theorem dX6_writeForInstrument_84 : decode cX6_writeForInstrument 84 = .ok (.getfield 27, 3) := by decide +kernel
theorem dX6_writeForInstrument_87 : decode cX6_writeForInstrument 87 = .ok (.iload_n 1, 1) := by decide +kernel
theorem dX6_writeForInstrument_88 : decode cX6_writeForInstrument 88 = .ok (.iload 4, 2) := by decide +kernel
theorem dX6_writeForInstrument_90 : decode cX6_writeForInstrument 90 = .ok (.ifCond .eq 7, 3) := by decide +kernel
theorem dX6_writeForInstrument_93 : decode cX6_writeForInstrument 93 = .ok (.iload_n 2, 1) := by decide +kernel
theorem dX6_writeForInstrument_94 : decode cX6_writeForInstrument 94 = .ok (.goto 4, 3) := by decide +kernel
theorem dX6_writeForInstrument_97 : decode cX6_writeForInstrument 97 = .ok (.iconst (-1), 1) := by decide +kernel
theorem dX6_writeForInstrument_98 : decode cX6_writeForInstrument 98 = .ok (.iastore, 1) := by decide +kernel
theorem dX6_writeForInstrument_99 : decode cX6_writeForInstrument 99 = .ok (.aload_n 0, 1) := by decide +kernel
theorem dX6_writeForInstrument_100 : decode cX6_writeForInstrument 100 = .ok (.getfield 30, 3) := by decide +kernel
theorem dX6_writeForInstrument_103 : decode cX6_writeForInstrument 103 = .ok (.iload_n 1, 1) := by decide +kernel
theorem dX6_writeForInstrument_104 : decode cX6_writeForInstrument 104 = .ok (.iload 4, 2) := by decide +kernel
theorem dX6_writeForInstrument_106 : decode cX6_writeForInstrument 106 = .ok (.ifCond .eq 7, 3) := by decide +kernel
theorem dX6_writeForInstrument_109 : decode cX6_writeForInstrument 109 = .ok (.iload_n 3, 1) := by decide +kernel
theorem dX6_writeForInstrument_110 : decode cX6_writeForInstrument 110 = .ok (.goto 5, 3) := by decide +kernel
theorem dX6_writeForInstrument_113 : decode cX6_writeForInstrument 113 = .ok (.bipush (-3), 2) := by decide +kernel
theorem dX6_writeForInstrument_115 : decode cX6_writeForInstrument 115 = .ok (.iastore, 1) := by decide +kernel
theorem dX6_writeForInstrument_116 : decode cX6_writeForInstrument 116 = .ok (.return_, 1) := by decide +kernel
theorem dX6_changeRange_0 : decode cX6_changeRange 0 = .ok (.aload_n 0, 1) := by decide +kernel
theorem dX6_changeRange_1 : decode cX6_changeRange 1 = .ok (.iload_n 1, 1) := by decide +kernel
theorem dX6_changeRange_2 : decode cX6_changeRange 2 = .ok (.putfield 33, 3) := by decide +kernel
theorem dX6_changeRange_5 : decode cX6_changeRange 5 = .ok (.aload_n 0, 1) := by decide +kernel
theorem dX6_changeRange_6 : decode cX6_changeRange 6 = .ok (.iload_n 2, 1) := by decide +kernel
theorem dX6_changeRange_7 : decode cX6_changeRange 7 = .ok (.putfield 37, 3) := by decide +kernel
theorem dX6_changeRange_10 : decode cX6_changeRange 10 = .ok (.return_, 1) := by decide +kernel
theorem dX6_changeShift_0 : decode cX6_changeShift 0 = .ok (.aload_n 0, 1) := by decide +kernel
theorem dX6_changeShift_1 : decode cX6_changeShift 1 = .ok (.iload_n 1, 1) := by decide +kernel
theorem dX6_changeShift_2 : decode cX6_changeShift 2 = .ok (.putfield 64, 3) := by decide +kernel
theorem dX6_changeShift_5 : decode cX6_changeShift 5 = .ok (.aload_n 0, 1) := by decide +kernel
theorem dX6_changeShift_6 : decode cX6_changeShift 6 = .ok (.iload_n 2, 1) := by decide +kernel
theorem dX6_changeShift_7 : decode cX6_changeShift 7 = .ok (.putfield 67, 3) := by decide +kernel
theorem dX6_changeShift_10 : decode cX6_changeShift 10 = .ok (.iconst 0, 1) := by decide +kernel
theorem dX6_changeShift_11 : decode cX6_changeShift 11 = .ok (.istore_n 3, 1) := by decide +kernel
theorem dX6_changeShift_12 : decode cX6_changeShift 12 = .ok (.iload_n 3, 1) := by decide +kernel
theorem dX6_changeShift_13 : decode cX6_changeShift 13 = .ok (.aload_n 0, 1) := by decide +kernel
theorem dX6_changeShift_14 : decode cX6_changeShift 14 = .ok (.getfield 40, 3) := by decide +kernel
theorem dX6_changeShift_17 : decode cX6_changeShift 17 = .ok (.if_icmp .ge 14, 3) := by decide +kernel
theorem dX6_changeShift_20 : decode cX6_changeShift 20 = .ok (.aload_n 0, 1) := by decide +kernel
theorem dX6_changeShift_21 : decode cX6_changeShift 21 = .ok (.iload_n 3, 1) := by decide +kernel
theorem dX6_changeShift_22 : decode cX6_changeShift 22 = .ok (.invokevirtual 60, 3) := by decide +kernel
theorem dX6_changeShift_25 : decode cX6_changeShift 25 = .ok (.iinc 3 1, 3) := by decide +kernel
theorem dX6_changeShift_28 : decode cX6_changeShift 28 = .ok (.goto (-16), 3) := by decide +kernel
theorem dX6_changeShift_31 : decode cX6_changeShift 31 = .ok (.return_, 1) := by decide +kernel
theorem dX6_isNote_0 : decode cX6_isNote 0 = .ok (.aload_n 0, 1) := by decide +kernel
theorem dX6_isNote_1 : decode cX6_isNote 1 = .ok (.iload_n 1, 1) := by decide +kernel
theorem dX6_isNote_2 : decode cX6_isNote 2 = .ok (.invokevirtual 50, 3) := by decide +kernel
theorem dX6_isNote_5 : decode cX6_isNote 5 = .ok (.ifCond .eq 16, 3) := by decide +kernel
theorem dX6_isNote_8 : decode cX6_isNote 8 = .ok (.aload_n 0, 1) := by decide +kernel
theorem dX6_isNote_9 : decode cX6_isNote 9 = .ok (.getfield 9, 3) := by decide +kernel
theorem dX6_isNote_12 : decode cX6_isNote 12 = .ok (.iload_n 1, 1) := by decide +kernel
theorem dX6_isNote_13 : decode cX6_isNote 13 = .ok (.iaload, 1) := by decide +kernel
theorem dX6_isNote_14 : decode cX6_isNote 14 = .ok (.ifCond .eq 7, 3) := by decide +kernel
theorem dX6_isNote_17 : decode cX6_isNote 17 = .ok (.iconst 1, 1) := by decide +kernel
theorem dX6_isNote_18 : decode cX6_isNote 18 = .ok (.goto 4, 3) := by decide +kernel
theorem dX6_isNote_21 : decode cX6_isNote 21 = .ok (.iconst 0, 1) := by decide +kernel
theorem dX6_isNote_22 : decode cX6_isNote 22 = .ok (.ireturn, 1) := by decide +kernel
theorem dX6_placeAt_0 : decode cX6_placeAt 0 = .ok (.aload_n 0, 1) := by decide +kernel
theorem dX6_placeAt_1 : decode cX6_placeAt 1 = .ok (.iload_n 1, 1) := by decide +kernel
theorem dX6_placeAt_2 : decode cX6_placeAt 2 = .ok (.invokevirtual 50, 3) := by decide +kernel
theorem dX6_placeAt_5 : decode cX6_placeAt 5 = .ok (.ifCond .eq 12, 3) := by decide +kernel
theorem dX6_placeAt_8 : decode cX6_placeAt 8 = .ok (.aload_n 0, 1) := by decide +kernel
theorem dX6_placeAt_9 : decode cX6_placeAt 9 = .ok (.getfield 9, 3) := by decide +kernel
theorem dX6_placeAt_12 : decode cX6_placeAt 12 = .ok (.iload_n 1, 1) := by decide +kernel
theorem dX6_placeAt_13 : decode cX6_placeAt 13 = .ok (.iaload, 1) := by decide +kernel
theorem dX6_placeAt_14 : decode cX6_placeAt 14 = .ok (.goto 4, 3) := by decide +kernel
theorem dX6_placeAt_17 : decode cX6_placeAt 17 = .ok (.iconst 0, 1) := by decide +kernel
theorem dX6_placeAt_18 : decode cX6_placeAt 18 = .ok (.ireturn, 1) := by decide +kernel
theorem dX6_alterAt_0 : decode cX6_alterAt 0 = .ok (.aload_n 0, 1) := by decide +kernel
theorem dX6_alterAt_1 : decode cX6_alterAt 1 = .ok (.iload_n 1, 1) := by decide +kernel
theorem dX6_alterAt_2 : decode cX6_alterAt 2 = .ok (.invokevirtual 50, 3) := by decide +kernel
theorem dX6_alterAt_5 : decode cX6_alterAt 5 = .ok (.ifCond .eq 12, 3) := by decide +kernel
theorem dX6_alterAt_8 : decode cX6_alterAt 8 = .ok (.aload_n 0, 1) := by decide +kernel
theorem dX6_alterAt_9 : decode cX6_alterAt 9 = .ok (.getfield 15, 3) := by decide +kernel
theorem dX6_alterAt_12 : decode cX6_alterAt 12 = .ok (.iload_n 1, 1) := by decide +kernel
theorem dX6_alterAt_13 : decode cX6_alterAt 13 = .ok (.iaload, 1) := by decide +kernel
theorem dX6_alterAt_14 : decode cX6_alterAt 14 = .ok (.goto 4, 3) := by decide +kernel
theorem dX6_alterAt_17 : decode cX6_alterAt 17 = .ok (.iconst 0, 1) := by decide +kernel
theorem dX6_alterAt_18 : decode cX6_alterAt 18 = .ok (.ireturn, 1) := by decide +kernel
theorem dX6_heightAt_0 : decode cX6_heightAt 0 = .ok (.aload_n 0, 1) := by decide +kernel
theorem dX6_heightAt_1 : decode cX6_heightAt 1 = .ok (.iload_n 1, 1) := by decide +kernel
theorem dX6_heightAt_2 : decode cX6_heightAt 2 = .ok (.invokevirtual 50, 3) := by decide +kernel
theorem dX6_heightAt_5 : decode cX6_heightAt 5 = .ok (.ifCond .eq 12, 3) := by decide +kernel
theorem dX6_heightAt_8 : decode cX6_heightAt 8 = .ok (.aload_n 0, 1) := by decide +kernel
theorem dX6_heightAt_9 : decode cX6_heightAt 9 = .ok (.getfield 18, 3) := by decide +kernel
theorem dX6_heightAt_12 : decode cX6_heightAt 12 = .ok (.iload_n 1, 1) := by decide +kernel
theorem dX6_heightAt_13 : decode cX6_heightAt 13 = .ok (.iaload, 1) := by decide +kernel
theorem dX6_heightAt_14 : decode cX6_heightAt 14 = .ok (.goto 4, 3) := by decide +kernel
theorem dX6_heightAt_17 : decode cX6_heightAt 17 = .ok (.iconst (-1), 1) := by decide +kernel
theorem dX6_heightAt_18 : decode cX6_heightAt 18 = .ok (.ireturn, 1) := by decide +kernel
theorem dX6_beginAt_0 : decode cX6_beginAt 0 = .ok (.aload_n 0, 1) := by decide +kernel
theorem dX6_beginAt_1 : decode cX6_beginAt 1 = .ok (.iload_n 1, 1) := by decide +kernel
theorem dX6_beginAt_2 : decode cX6_beginAt 2 = .ok (.invokevirtual 50, 3) := by decide +kernel
theorem dX6_beginAt_5 : decode cX6_beginAt 5 = .ok (.ifCond .eq 12, 3) := by decide +kernel
theorem dX6_beginAt_8 : decode cX6_beginAt 8 = .ok (.aload_n 0, 1) := by decide +kernel
theorem dX6_beginAt_9 : decode cX6_beginAt 9 = .ok (.getfield 21, 3) := by decide +kernel
theorem dX6_beginAt_12 : decode cX6_beginAt 12 = .ok (.iload_n 1, 1) := by decide +kernel
theorem dX6_beginAt_13 : decode cX6_beginAt 13 = .ok (.iaload, 1) := by decide +kernel
theorem dX6_beginAt_14 : decode cX6_beginAt 14 = .ok (.goto 7, 3) := by decide +kernel
theorem dX6_beginAt_17 : decode cX6_beginAt 17 = .ok (.aload_n 0, 1) := by decide +kernel
theorem dX6_beginAt_18 : decode cX6_beginAt 18 = .ok (.getfield 43, 3) := by decide +kernel
theorem dX6_beginAt_21 : decode cX6_beginAt 21 = .ok (.ireturn, 1) := by decide +kernel
theorem dX6_endAt_0 : decode cX6_endAt 0 = .ok (.aload_n 0, 1) := by decide +kernel
theorem dX6_endAt_1 : decode cX6_endAt 1 = .ok (.iload_n 1, 1) := by decide +kernel
theorem dX6_endAt_2 : decode cX6_endAt 2 = .ok (.invokevirtual 50, 3) := by decide +kernel
theorem dX6_endAt_5 : decode cX6_endAt 5 = .ok (.ifCond .eq 19, 3) := by decide +kernel
theorem dX6_endAt_8 : decode cX6_endAt 8 = .ok (.aload_n 0, 1) := by decide +kernel
theorem dX6_endAt_9 : decode cX6_endAt 9 = .ok (.getfield 21, 3) := by decide +kernel
theorem dX6_endAt_12 : decode cX6_endAt 12 = .ok (.iload_n 1, 1) := by decide +kernel
theorem dX6_endAt_13 : decode cX6_endAt 13 = .ok (.iaload, 1) := by decide +kernel
theorem dX6_endAt_14 : decode cX6_endAt 14 = .ok (.aload_n 0, 1) := by decide +kernel
theorem dX6_endAt_15 : decode cX6_endAt 15 = .ok (.getfield 24, 3) := by decide +kernel
theorem dX6_endAt_18 : decode cX6_endAt 18 = .ok (.iload_n 1, 1) := by decide +kernel
theorem dX6_endAt_19 : decode cX6_endAt 19 = .ok (.iaload, 1) := by decide +kernel
theorem dX6_endAt_20 : decode cX6_endAt 20 = .ok (.iadd, 1) := by decide +kernel
theorem dX6_endAt_21 : decode cX6_endAt 21 = .ok (.goto 7, 3) := by decide +kernel
theorem dX6_endAt_24 : decode cX6_endAt 24 = .ok (.aload_n 0, 1) := by decide +kernel
theorem dX6_endAt_25 : decode cX6_endAt 25 = .ok (.getfield 43, 3) := by decide +kernel
theorem dX6_endAt_28 : decode cX6_endAt 28 = .ok (.ireturn, 1) := by decide +kernel
theorem dX6_firstEndingBehind_0 : decode cX6_firstEndingBehind 0 = .ok (.iconst 0, 1) := by decide +kernel
theorem dX6_firstEndingBehind_1 : decode cX6_firstEndingBehind 1 = .ok (.istore_n 2, 1) := by decide +kernel
theorem dX6_firstEndingBehind_2 : decode cX6_firstEndingBehind 2 = .ok (.aload_n 0, 1) := by decide +kernel
theorem dX6_firstEndingBehind_3 : decode cX6_firstEndingBehind 3 = .ok (.getfield 40, 3) := by decide +kernel
theorem dX6_firstEndingBehind_6 : decode cX6_firstEndingBehind 6 = .ok (.istore_n 3, 1) := by decide +kernel
theorem dX6_firstEndingBehind_7 : decode cX6_firstEndingBehind 7 = .ok (.iconst 0, 1) := by decide +kernel
theorem dX6_firstEndingBehind_8 : decode cX6_firstEndingBehind 8 = .ok (.istore 4, 2) := by decide +kernel
theorem dX6_firstEndingBehind_10 : decode cX6_firstEndingBehind 10 = .ok (.iload 4, 2) := by decide +kernel
theorem dX6_firstEndingBehind_12 : decode cX6_firstEndingBehind 12 = .ok (.bipush 32, 2) := by decide +kernel
theorem dX6_firstEndingBehind_14 : decode cX6_firstEndingBehind 14 = .ok (.if_icmp .ge 42, 3) := by decide +kernel
theorem dX6_firstEndingBehind_17 : decode cX6_firstEndingBehind 17 = .ok (.iload_n 2, 1) := by decide +kernel
theorem dX6_firstEndingBehind_18 : decode cX6_firstEndingBehind 18 = .ok (.iload_n 3, 1) := by decide +kernel
theorem dX6_firstEndingBehind_19 : decode cX6_firstEndingBehind 19 = .ok (.if_icmp .ge 37, 3) := by decide +kernel
theorem dX6_firstEndingBehind_22 : decode cX6_firstEndingBehind 22 = .ok (.iload_n 2, 1) := by decide +kernel
theorem dX6_firstEndingBehind_23 : decode cX6_firstEndingBehind 23 = .ok (.iload_n 3, 1) := by decide +kernel
theorem dX6_firstEndingBehind_24 : decode cX6_firstEndingBehind 24 = .ok (.iadd, 1) := by decide +kernel
theorem dX6_firstEndingBehind_25 : decode cX6_firstEndingBehind 25 = .ok (.iconst 2, 1) := by decide +kernel
theorem dX6_firstEndingBehind_26 : decode cX6_firstEndingBehind 26 = .ok (.idiv, 1) := by decide +kernel
theorem dX6_firstEndingBehind_27 : decode cX6_firstEndingBehind 27 = .ok (.istore 5, 2) := by decide +kernel
theorem dX6_firstEndingBehind_29 : decode cX6_firstEndingBehind 29 = .ok (.aload_n 0, 1) := by decide +kernel
theorem dX6_firstEndingBehind_30 : decode cX6_firstEndingBehind 30 = .ok (.iload 5, 2) := by decide +kernel
theorem dX6_firstEndingBehind_32 : decode cX6_firstEndingBehind 32 = .ok (.invokevirtual 74, 3) := by decide +kernel
theorem dX6_firstEndingBehind_35 : decode cX6_firstEndingBehind 35 = .ok (.iload_n 1, 1) := by decide +kernel
theorem dX6_firstEndingBehind_36 : decode cX6_firstEndingBehind 36 = .ok (.if_icmp .le 9, 3) := by decide +kernel
theorem dX6_firstEndingBehind_39 : decode cX6_firstEndingBehind 39 = .ok (.iload 5, 2) := by decide +kernel
theorem dX6_firstEndingBehind_41 : decode cX6_firstEndingBehind 41 = .ok (.istore_n 3, 1) := by decide +kernel
theorem dX6_firstEndingBehind_42 : decode cX6_firstEndingBehind 42 = .ok (.goto 8, 3) := by decide +kernel
theorem dX6_firstEndingBehind_45 : decode cX6_firstEndingBehind 45 = .ok (.iload 5, 2) := by decide +kernel
theorem dX6_firstEndingBehind_47 : decode cX6_firstEndingBehind 47 = .ok (.iconst 1, 1) := by decide +kernel
theorem dX6_firstEndingBehind_48 : decode cX6_firstEndingBehind 48 = .ok (.iadd, 1) := by decide +kernel
theorem dX6_firstEndingBehind_49 : decode cX6_firstEndingBehind 49 = .ok (.istore_n 2, 1) := by decide +kernel
theorem dX6_firstEndingBehind_50 : decode cX6_firstEndingBehind 50 = .ok (.iinc 4 1, 3) := by decide +kernel
theorem dX6_firstEndingBehind_53 : decode cX6_firstEndingBehind 53 = .ok (.goto (-43), 3) := by decide +kernel
theorem dX6_firstEndingBehind_56 : decode cX6_firstEndingBehind 56 = .ok (.iload_n 2, 1) := by decide +kernel
theorem dX6_firstEndingBehind_57 : decode cX6_firstEndingBehind 57 = .ok (.ireturn, 1) := by decide +kernel
theorem dX6_isOutOfRange_0 : decode cX6_isOutOfRange 0 = .ok (.aload_n 0, 1) := by decide +kernel
theorem dX6_isOutOfRange_1 : decode cX6_isOutOfRange 1 = .ok (.iload_n 1, 1) := by decide +kernel
theorem dX6_isOutOfRange_2 : decode cX6_isOutOfRange 2 = .ok (.invokevirtual 50, 3) := by decide +kernel
theorem dX6_isOutOfRange_5 : decode cX6_isOutOfRange 5 = .ok (.ifCond .eq 42, 3) := by decide +kernel
theorem dX6_isOutOfRange_8 : decode cX6_isOutOfRange 8 = .ok (.aload_n 0, 1) := by decide +kernel
theorem dX6_isOutOfRange_9 : decode cX6_isOutOfRange 9 = .ok (.getfield 9, 3) := by decide +kernel
theorem dX6_isOutOfRange_12 : decode cX6_isOutOfRange 12 = .ok (.iload_n 1, 1) := by decide +kernel
theorem dX6_isOutOfRange_13 : decode cX6_isOutOfRange 13 = .ok (.iaload, 1) := by decide +kernel
theorem dX6_isOutOfRange_14 : decode cX6_isOutOfRange 14 = .ok (.ifCond .eq 33, 3) := by decide +kernel
theorem dX6_isOutOfRange_17 : decode cX6_isOutOfRange 17 = .ok (.aload_n 0, 1) := by decide +kernel
theorem dX6_isOutOfRange_18 : decode cX6_isOutOfRange 18 = .ok (.getfield 9, 3) := by decide +kernel
theorem dX6_isOutOfRange_21 : decode cX6_isOutOfRange 21 = .ok (.iload_n 1, 1) := by decide +kernel
theorem dX6_isOutOfRange_22 : decode cX6_isOutOfRange 22 = .ok (.iaload, 1) := by decide +kernel
theorem dX6_isOutOfRange_23 : decode cX6_isOutOfRange 23 = .ok (.aload_n 0, 1) := by decide +kernel
theorem dX6_isOutOfRange_24 : decode cX6_isOutOfRange 24 = .ok (.getfield 33, 3) := by decide +kernel
theorem dX6_isOutOfRange_27 : decode cX6_isOutOfRange 27 = .ok (.if_icmp .lt 16, 3) := by decide +kernel
theorem dX6_isOutOfRange_30 : decode cX6_isOutOfRange 30 = .ok (.aload_n 0, 1) := by decide +kernel
theorem dX6_isOutOfRange_31 : decode cX6_isOutOfRange 31 = .ok (.getfield 9, 3) := by decide +kernel
theorem dX6_isOutOfRange_34 : decode cX6_isOutOfRange 34 = .ok (.iload_n 1, 1) := by decide +kernel
theorem dX6_isOutOfRange_35 : decode cX6_isOutOfRange 35 = .ok (.iaload, 1) := by decide +kernel
theorem dX6_isOutOfRange_36 : decode cX6_isOutOfRange 36 = .ok (.aload_n 0, 1) := by decide +kernel
theorem dX6_isOutOfRange_37 : decode cX6_isOutOfRange 37 = .ok (.getfield 37, 3) := by decide +kernel
theorem dX6_isOutOfRange_40 : decode cX6_isOutOfRange 40 = .ok (.if_icmp .le 7, 3) := by decide +kernel
theorem dX6_isOutOfRange_43 : decode cX6_isOutOfRange 43 = .ok (.iconst 1, 1) := by decide +kernel
theorem dX6_isOutOfRange_44 : decode cX6_isOutOfRange 44 = .ok (.goto 4, 3) := by decide +kernel
theorem dX6_isOutOfRange_47 : decode cX6_isOutOfRange 47 = .ok (.iconst 0, 1) := by decide +kernel
theorem dX6_isOutOfRange_48 : decode cX6_isOutOfRange 48 = .ok (.ireturn, 1) := by decide +kernel
theorem dX6_writtenPlaceAt_0 : decode cX6_writtenPlaceAt 0 = .ok (.aload_n 0, 1) := by decide +kernel
theorem dX6_writtenPlaceAt_1 : decode cX6_writtenPlaceAt 1 = .ok (.iload_n 1, 1) := by decide +kernel
theorem dX6_writtenPlaceAt_2 : decode cX6_writtenPlaceAt 2 = .ok (.invokevirtual 50, 3) := by decide +kernel
theorem dX6_writtenPlaceAt_5 : decode cX6_writtenPlaceAt 5 = .ok (.ifCond .eq 12, 3) := by decide +kernel
theorem dX6_writtenPlaceAt_8 : decode cX6_writtenPlaceAt 8 = .ok (.aload_n 0, 1) := by decide +kernel
theorem dX6_writtenPlaceAt_9 : decode cX6_writtenPlaceAt 9 = .ok (.getfield 27, 3) := by decide +kernel
theorem dX6_writtenPlaceAt_12 : decode cX6_writtenPlaceAt 12 = .ok (.iload_n 1, 1) := by decide +kernel
theorem dX6_writtenPlaceAt_13 : decode cX6_writtenPlaceAt 13 = .ok (.iaload, 1) := by decide +kernel
theorem dX6_writtenPlaceAt_14 : decode cX6_writtenPlaceAt 14 = .ok (.goto 4, 3) := by decide +kernel
theorem dX6_writtenPlaceAt_17 : decode cX6_writtenPlaceAt 17 = .ok (.iconst (-1), 1) := by decide +kernel
theorem dX6_writtenPlaceAt_18 : decode cX6_writtenPlaceAt 18 = .ok (.ireturn, 1) := by decide +kernel
theorem dX6_writtenAlterAt_0 : decode cX6_writtenAlterAt 0 = .ok (.aload_n 0, 1) := by decide +kernel
theorem dX6_writtenAlterAt_1 : decode cX6_writtenAlterAt 1 = .ok (.iload_n 1, 1) := by decide +kernel
theorem dX6_writtenAlterAt_2 : decode cX6_writtenAlterAt 2 = .ok (.invokevirtual 50, 3) := by decide +kernel
theorem dX6_writtenAlterAt_5 : decode cX6_writtenAlterAt 5 = .ok (.ifCond .eq 12, 3) := by decide +kernel
theorem dX6_writtenAlterAt_8 : decode cX6_writtenAlterAt 8 = .ok (.aload_n 0, 1) := by decide +kernel
theorem dX6_writtenAlterAt_9 : decode cX6_writtenAlterAt 9 = .ok (.getfield 30, 3) := by decide +kernel
theorem dX6_writtenAlterAt_12 : decode cX6_writtenAlterAt 12 = .ok (.iload_n 1, 1) := by decide +kernel
theorem dX6_writtenAlterAt_13 : decode cX6_writtenAlterAt 13 = .ok (.iaload, 1) := by decide +kernel
theorem dX6_writtenAlterAt_14 : decode cX6_writtenAlterAt 14 = .ok (.goto 5, 3) := by decide +kernel
theorem dX6_writtenAlterAt_17 : decode cX6_writtenAlterAt 17 = .ok (.bipush (-3), 2) := by decide +kernel
theorem dX6_writtenAlterAt_19 : decode cX6_writtenAlterAt 19 = .ok (.ireturn, 1) := by decide +kernel
theorem dX6_keyAsWritten_0 : decode cX6_keyAsWritten 0 = .ok (.iload_n 1, 1) := by decide +kernel
theorem dX6_keyAsWritten_1 : decode cX6_keyAsWritten 1 = .ok (.aload_n 0, 1) := by decide +kernel
theorem dX6_keyAsWritten_2 : decode cX6_keyAsWritten 2 = .ok (.getfield 64, 3) := by decide +kernel
theorem dX6_keyAsWritten_5 : decode cX6_keyAsWritten 5 = .ok (.iadd, 1) := by decide +kernel
theorem dX6_keyAsWritten_6 : decode cX6_keyAsWritten 6 = .ok (.istore_n 2, 1) := by decide +kernel
theorem dX6_keyAsWritten_7 : decode cX6_keyAsWritten 7 = .ok (.iload_n 2, 1) := by decide +kernel
theorem dX6_keyAsWritten_8 : decode cX6_keyAsWritten 8 = .ok (.bipush 7, 2) := by decide +kernel
theorem dX6_keyAsWritten_10 : decode cX6_keyAsWritten 10 = .ok (.if_icmp .le 8, 3) := by decide +kernel
theorem dX6_keyAsWritten_13 : decode cX6_keyAsWritten 13 = .ok (.iload_n 2, 1) := by decide +kernel
theorem dX6_keyAsWritten_14 : decode cX6_keyAsWritten 14 = .ok (.bipush 12, 2) := by decide +kernel
theorem dX6_keyAsWritten_16 : decode cX6_keyAsWritten 16 = .ok (.isub, 1) := by decide +kernel
theorem dX6_keyAsWritten_17 : decode cX6_keyAsWritten 17 = .ok (.ireturn, 1) := by decide +kernel
theorem dX6_keyAsWritten_18 : decode cX6_keyAsWritten 18 = .ok (.iload_n 2, 1) := by decide +kernel
theorem dX6_keyAsWritten_19 : decode cX6_keyAsWritten 19 = .ok (.bipush (-7), 2) := by decide +kernel
theorem dX6_keyAsWritten_21 : decode cX6_keyAsWritten 21 = .ok (.if_icmp .ge 10, 3) := by decide +kernel
theorem dX6_keyAsWritten_24 : decode cX6_keyAsWritten 24 = .ok (.iload_n 2, 1) := by decide +kernel
theorem dX6_keyAsWritten_25 : decode cX6_keyAsWritten 25 = .ok (.bipush 12, 2) := by decide +kernel
theorem dX6_keyAsWritten_27 : decode cX6_keyAsWritten 27 = .ok (.iadd, 1) := by decide +kernel
theorem dX6_keyAsWritten_28 : decode cX6_keyAsWritten 28 = .ok (.goto 4, 3) := by decide +kernel
theorem dX6_keyAsWritten_31 : decode cX6_keyAsWritten 31 = .ok (.iload_n 2, 1) := by decide +kernel
theorem dX6_keyAsWritten_32 : decode cX6_keyAsWritten 32 = .ok (.ireturn, 1) := by decide +kernel
theorem dX6_notesOutOfRange_0 : decode cX6_notesOutOfRange 0 = .ok (.iconst 0, 1) := by decide +kernel
theorem dX6_notesOutOfRange_1 : decode cX6_notesOutOfRange 1 = .ok (.istore_n 1, 1) := by decide +kernel
theorem dX6_notesOutOfRange_2 : decode cX6_notesOutOfRange 2 = .ok (.iconst 0, 1) := by decide +kernel
theorem dX6_notesOutOfRange_3 : decode cX6_notesOutOfRange 3 = .ok (.istore_n 2, 1) := by decide +kernel
theorem dX6_notesOutOfRange_4 : decode cX6_notesOutOfRange 4 = .ok (.iload_n 2, 1) := by decide +kernel
theorem dX6_notesOutOfRange_5 : decode cX6_notesOutOfRange 5 = .ok (.aload_n 0, 1) := by decide +kernel
theorem dX6_notesOutOfRange_6 : decode cX6_notesOutOfRange 6 = .ok (.getfield 40, 3) := by decide +kernel
theorem dX6_notesOutOfRange_9 : decode cX6_notesOutOfRange 9 = .ok (.if_icmp .ge 25, 3) := by decide +kernel
theorem dX6_notesOutOfRange_12 : decode cX6_notesOutOfRange 12 = .ok (.iload_n 1, 1) := by decide +kernel
theorem dX6_notesOutOfRange_13 : decode cX6_notesOutOfRange 13 = .ok (.aload_n 0, 1) := by decide +kernel
theorem dX6_notesOutOfRange_14 : decode cX6_notesOutOfRange 14 = .ok (.iload_n 2, 1) := by decide +kernel
theorem dX6_notesOutOfRange_15 : decode cX6_notesOutOfRange 15 = .ok (.invokevirtual 80, 3) := by decide +kernel
theorem dX6_notesOutOfRange_18 : decode cX6_notesOutOfRange 18 = .ok (.ifCond .eq 7, 3) := by decide +kernel
theorem dX6_notesOutOfRange_21 : decode cX6_notesOutOfRange 21 = .ok (.iconst 1, 1) := by decide +kernel
theorem dX6_notesOutOfRange_22 : decode cX6_notesOutOfRange 22 = .ok (.goto 4, 3) := by decide +kernel
theorem dX6_notesOutOfRange_25 : decode cX6_notesOutOfRange 25 = .ok (.iconst 0, 1) := by decide +kernel
theorem dX6_notesOutOfRange_26 : decode cX6_notesOutOfRange 26 = .ok (.iadd, 1) := by decide +kernel
theorem dX6_notesOutOfRange_27 : decode cX6_notesOutOfRange 27 = .ok (.istore_n 1, 1) := by decide +kernel
theorem dX6_notesOutOfRange_28 : decode cX6_notesOutOfRange 28 = .ok (.iinc 2 1, 3) := by decide +kernel
theorem dX6_notesOutOfRange_31 : decode cX6_notesOutOfRange 31 = .ok (.goto (-27), 3) := by decide +kernel
theorem dX6_notesOutOfRange_34 : decode cX6_notesOutOfRange 34 = .ok (.iload_n 1, 1) := by decide +kernel
theorem dX6_notesOutOfRange_35 : decode cX6_notesOutOfRange 35 = .ok (.ireturn, 1) := by decide +kernel
theorem dX6_notesWithoutWrittenPitch_0 : decode cX6_notesWithoutWrittenPitch 0 = .ok (.iconst 0, 1) := by decide +kernel
theorem dX6_notesWithoutWrittenPitch_1 : decode cX6_notesWithoutWrittenPitch 1 = .ok (.istore_n 1, 1) := by decide +kernel
theorem dX6_notesWithoutWrittenPitch_2 : decode cX6_notesWithoutWrittenPitch 2 = .ok (.iconst 0, 1) := by decide +kernel
theorem dX6_notesWithoutWrittenPitch_3 : decode cX6_notesWithoutWrittenPitch 3 = .ok (.istore_n 2, 1) := by decide +kernel
theorem dX6_notesWithoutWrittenPitch_4 : decode cX6_notesWithoutWrittenPitch 4 = .ok (.iload_n 2, 1) := by decide +kernel
theorem dX6_notesWithoutWrittenPitch_5 : decode cX6_notesWithoutWrittenPitch 5 = .ok (.aload_n 0, 1) := by decide +kernel
theorem dX6_notesWithoutWrittenPitch_6 : decode cX6_notesWithoutWrittenPitch 6 = .ok (.getfield 40, 3) := by decide +kernel
theorem dX6_notesWithoutWrittenPitch_9 : decode cX6_notesWithoutWrittenPitch 9 = .ok (.if_icmp .ge 35, 3) := by decide +kernel
theorem dX6_notesWithoutWrittenPitch_12 : decode cX6_notesWithoutWrittenPitch 12 = .ok (.iload_n 1, 1) := by decide +kernel
theorem dX6_notesWithoutWrittenPitch_13 : decode cX6_notesWithoutWrittenPitch 13 = .ok (.aload_n 0, 1) := by decide +kernel
theorem dX6_notesWithoutWrittenPitch_14 : decode cX6_notesWithoutWrittenPitch 14 = .ok (.iload_n 2, 1) := by decide +kernel
theorem dX6_notesWithoutWrittenPitch_15 : decode cX6_notesWithoutWrittenPitch 15 = .ok (.invokevirtual 77, 3) := by decide +kernel
theorem dX6_notesWithoutWrittenPitch_18 : decode cX6_notesWithoutWrittenPitch 18 = .ok (.ifCond .eq 17, 3) := by decide +kernel
theorem dX6_notesWithoutWrittenPitch_21 : decode cX6_notesWithoutWrittenPitch 21 = .ok (.aload_n 0, 1) := by decide +kernel
theorem dX6_notesWithoutWrittenPitch_22 : decode cX6_notesWithoutWrittenPitch 22 = .ok (.getfield 27, 3) := by decide +kernel
theorem dX6_notesWithoutWrittenPitch_25 : decode cX6_notesWithoutWrittenPitch 25 = .ok (.iload_n 2, 1) := by decide +kernel
theorem dX6_notesWithoutWrittenPitch_26 : decode cX6_notesWithoutWrittenPitch 26 = .ok (.iaload, 1) := by decide +kernel
theorem dX6_notesWithoutWrittenPitch_27 : decode cX6_notesWithoutWrittenPitch 27 = .ok (.iconst (-1), 1) := by decide +kernel
theorem dX6_notesWithoutWrittenPitch_28 : decode cX6_notesWithoutWrittenPitch 28 = .ok (.if_icmp .ne 7, 3) := by decide +kernel
theorem dX6_notesWithoutWrittenPitch_31 : decode cX6_notesWithoutWrittenPitch 31 = .ok (.iconst 1, 1) := by decide +kernel
theorem dX6_notesWithoutWrittenPitch_32 : decode cX6_notesWithoutWrittenPitch 32 = .ok (.goto 4, 3) := by decide +kernel
theorem dX6_notesWithoutWrittenPitch_35 : decode cX6_notesWithoutWrittenPitch 35 = .ok (.iconst 0, 1) := by decide +kernel
theorem dX6_notesWithoutWrittenPitch_36 : decode cX6_notesWithoutWrittenPitch 36 = .ok (.iadd, 1) := by decide +kernel
theorem dX6_notesWithoutWrittenPitch_37 : decode cX6_notesWithoutWrittenPitch 37 = .ok (.istore_n 1, 1) := by decide +kernel
theorem dX6_notesWithoutWrittenPitch_38 : decode cX6_notesWithoutWrittenPitch 38 = .ok (.iinc 2 1, 3) := by decide +kernel
theorem dX6_notesWithoutWrittenPitch_41 : decode cX6_notesWithoutWrittenPitch 41 = .ok (.goto (-37), 3) := by decide +kernel
theorem dX6_notesWithoutWrittenPitch_44 : decode cX6_notesWithoutWrittenPitch 44 = .ok (.iload_n 1, 1) := by decide +kernel
theorem dX6_notesWithoutWrittenPitch_45 : decode cX6_notesWithoutWrittenPitch 45 = .ok (.ireturn, 1) := by decide +kernel
theorem dX7_isPitch_0 : decode cX7_isPitch 0 = .ok (.iload_n 0, 1) := by decide +kernel
theorem dX7_isPitch_1 : decode cX7_isPitch 1 = .ok (.iconst 1, 1) := by decide +kernel
theorem dX7_isPitch_2 : decode cX7_isPitch 2 = .ok (.if_icmp .lt 24, 3) := by decide +kernel
theorem dX7_isPitch_5 : decode cX7_isPitch 5 = .ok (.iload_n 0, 1) := by decide +kernel
theorem dX7_isPitch_6 : decode cX7_isPitch 6 = .ok (.bipush 62, 2) := by decide +kernel
theorem dX7_isPitch_8 : decode cX7_isPitch 8 = .ok (.if_icmp .gt 18, 3) := by decide +kernel
theorem dX7_isPitch_11 : decode cX7_isPitch 11 = .ok (.iload_n 1, 1) := by decide +kernel
theorem dX7_isPitch_12 : decode cX7_isPitch 12 = .ok (.bipush (-2), 2) := by decide +kernel
theorem dX7_isPitch_14 : decode cX7_isPitch 14 = .ok (.if_icmp .lt 12, 3) := by decide +kernel
theorem dX7_isPitch_17 : decode cX7_isPitch 17 = .ok (.iload_n 1, 1) := by decide +kernel
theorem dX7_isPitch_18 : decode cX7_isPitch 18 = .ok (.iconst 2, 1) := by decide +kernel
theorem dX7_isPitch_19 : decode cX7_isPitch 19 = .ok (.if_icmp .gt 7, 3) := by decide +kernel
theorem dX7_isPitch_22 : decode cX7_isPitch 22 = .ok (.iconst 1, 1) := by decide +kernel
theorem dX7_isPitch_23 : decode cX7_isPitch 23 = .ok (.goto 4, 3) := by decide +kernel
theorem dX7_isPitch_26 : decode cX7_isPitch 26 = .ok (.iconst 0, 1) := by decide +kernel
theorem dX7_isPitch_27 : decode cX7_isPitch 27 = .ok (.ireturn, 1) := by decide +kernel
theorem dX7_plainHeight_0 : decode cX7_plainHeight 0 = .ok (.iload_n 0, 1) := by decide +kernel
theorem dX7_plainHeight_1 : decode cX7_plainHeight 1 = .ok (.bipush 7, 2) := by decide +kernel
theorem dX7_plainHeight_3 : decode cX7_plainHeight 3 = .ok (.invokestatic 9, 3) := by decide +kernel
theorem dX7_plainHeight_6 : decode cX7_plainHeight 6 = .ok (.istore_n 1, 1) := by decide +kernel
theorem dX7_plainHeight_7 : decode cX7_plainHeight 7 = .ok (.iload_n 1, 1) := by decide +kernel
theorem dX7_plainHeight_8 : decode cX7_plainHeight 8 = .ok (.ifCond .lt 19, 3) := by decide +kernel
theorem dX7_plainHeight_11 : decode cX7_plainHeight 11 = .ok (.iload_n 1, 1) := by decide +kernel
theorem dX7_plainHeight_12 : decode cX7_plainHeight 12 = .ok (.getstatic 15, 3) := by decide +kernel
theorem dX7_plainHeight_15 : decode cX7_plainHeight 15 = .ok (.arraylength, 1) := by decide +kernel
theorem dX7_plainHeight_16 : decode cX7_plainHeight 16 = .ok (.if_icmp .ge 11, 3) := by decide +kernel
theorem dX7_plainHeight_19 : decode cX7_plainHeight 19 = .ok (.getstatic 15, 3) := by decide +kernel
theorem dX7_plainHeight_22 : decode cX7_plainHeight 22 = .ok (.iload_n 1, 1) := by decide +kernel
theorem dX7_plainHeight_23 : decode cX7_plainHeight 23 = .ok (.iaload, 1) := by decide +kernel
theorem dX7_plainHeight_24 : decode cX7_plainHeight 24 = .ok (.goto 4, 3) := by decide +kernel
theorem dX7_plainHeight_27 : decode cX7_plainHeight 27 = .ok (.iconst 0, 1) := by decide +kernel
theorem dX7_plainHeight_28 : decode cX7_plainHeight 28 = .ok (.istore_n 2, 1) := by decide +kernel
theorem dX7_plainHeight_29 : decode cX7_plainHeight 29 = .ok (.bipush 12, 2) := by decide +kernel
theorem dX7_plainHeight_31 : decode cX7_plainHeight 31 = .ok (.iload_n 0, 1) := by decide +kernel
theorem dX7_plainHeight_32 : decode cX7_plainHeight 32 = .ok (.bipush 7, 2) := by decide +kernel
theorem dX7_plainHeight_34 : decode cX7_plainHeight 34 = .ok (.invokestatic 21, 3) := by decide +kernel
theorem dX7_plainHeight_37 : decode cX7_plainHeight 37 = .ok (.imul, 1) := by decide +kernel
theorem dX7_plainHeight_38 : decode cX7_plainHeight 38 = .ok (.iload_n 2, 1) := by decide +kernel
theorem dX7_plainHeight_39 : decode cX7_plainHeight 39 = .ok (.iadd, 1) := by decide +kernel
theorem dX7_plainHeight_40 : decode cX7_plainHeight 40 = .ok (.ireturn, 1) := by decide +kernel
theorem dX7_alterByKey_0 : decode cX7_alterByKey 0 = .ok (.iload_n 1, 1) := by decide +kernel
theorem dX7_alterByKey_1 : decode cX7_alterByKey 1 = .ok (.ifCond .lt 11, 3) := by decide +kernel
theorem dX7_alterByKey_4 : decode cX7_alterByKey 4 = .ok (.iload_n 1, 1) := by decide +kernel
theorem dX7_alterByKey_5 : decode cX7_alterByKey 5 = .ok (.getstatic 24, 3) := by decide +kernel
theorem dX7_alterByKey_8 : decode cX7_alterByKey 8 = .ok (.arraylength, 1) := by decide +kernel
theorem dX7_alterByKey_9 : decode cX7_alterByKey 9 = .ok (.if_icmp .lt 5, 3) := by decide +kernel
theorem dX7_alterByKey_12 : decode cX7_alterByKey 12 = .ok (.iconst 0, 1) := by decide +kernel
theorem dX7_alterByKey_13 : decode cX7_alterByKey 13 = .ok (.ireturn, 1) := by decide +kernel
theorem dX7_alterByKey_14 : decode cX7_alterByKey 14 = .ok (.getstatic 24, 3) := by decide +kernel
theorem dX7_alterByKey_17 : decode cX7_alterByKey 17 = .ok (.iload_n 1, 1) := by decide +kernel
theorem dX7_alterByKey_18 : decode cX7_alterByKey 18 = .ok (.iaload, 1) := by decide +kernel
theorem dX7_alterByKey_19 : decode cX7_alterByKey 19 = .ok (.istore_n 2, 1) := by decide +kernel
theorem dX7_alterByKey_20 : decode cX7_alterByKey 20 = .ok (.iload_n 0, 1) := by decide +kernel
theorem dX7_alterByKey_21 : decode cX7_alterByKey 21 = .ok (.iload_n 2, 1) := by decide +kernel
theorem dX7_alterByKey_22 : decode cX7_alterByKey 22 = .ok (.if_icmp .le 5, 3) := by decide +kernel
theorem dX7_alterByKey_25 : decode cX7_alterByKey 25 = .ok (.iconst 1, 1) := by decide +kernel
theorem dX7_alterByKey_26 : decode cX7_alterByKey 26 = .ok (.ireturn, 1) := by decide +kernel
theorem dX7_alterByKey_27 : decode cX7_alterByKey 27 = .ok (.iload_n 0, 1) := by decide +kernel
theorem dX7_alterByKey_28 : decode cX7_alterByKey 28 = .ok (.ineg, 1) := by decide +kernel
theorem dX7_alterByKey_29 : decode cX7_alterByKey 29 = .ok (.bipush 6, 2) := by decide +kernel
theorem dX7_alterByKey_31 : decode cX7_alterByKey 31 = .ok (.iload_n 2, 1) := by decide +kernel
theorem dX7_alterByKey_32 : decode cX7_alterByKey 32 = .ok (.isub, 1) := by decide +kernel
theorem dX7_alterByKey_33 : decode cX7_alterByKey 33 = .ok (.if_icmp .le 7, 3) := by decide +kernel
theorem dX7_alterByKey_36 : decode cX7_alterByKey 36 = .ok (.iconst (-1), 1) := by decide +kernel
theorem dX7_alterByKey_37 : decode cX7_alterByKey 37 = .ok (.goto 4, 3) := by decide +kernel
theorem dX7_alterByKey_40 : decode cX7_alterByKey 40 = .ok (.iconst 0, 1) := by decide +kernel
theorem dX7_alterByKey_41 : decode cX7_alterByKey 41 = .ok (.ireturn, 1) := by decide +kernel
theorem dX8_isValue_0 : decode cX8_isValue 0 = .ok (.iconst 0, 1) := by decide +kernel
theorem dX8_isValue_1 : decode cX8_isValue 1 = .ok (.istore_n 1, 1) := by decide +kernel
theorem dX8_isValue_2 : decode cX8_isValue 2 = .ok (.iload_n 1, 1) := by decide +kernel
theorem dX8_isValue_3 : decode cX8_isValue 3 = .ok (.getstatic 7, 3) := by decide +kernel
theorem dX8_isValue_6 : decode cX8_isValue 6 = .ok (.arraylength, 1) := by decide +kernel
theorem dX8_isValue_7 : decode cX8_isValue 7 = .ok (.if_icmp .ge 20, 3) := by decide +kernel
theorem dX8_isValue_10 : decode cX8_isValue 10 = .ok (.getstatic 7, 3) := by decide +kernel
theorem dX8_isValue_13 : decode cX8_isValue 13 = .ok (.iload_n 1, 1) := by decide +kernel
theorem dX8_isValue_14 : decode cX8_isValue 14 = .ok (.iaload, 1) := by decide +kernel
theorem dX8_isValue_15 : decode cX8_isValue 15 = .ok (.iload_n 0, 1) := by decide +kernel
theorem dX8_isValue_16 : decode cX8_isValue 16 = .ok (.if_icmp .ne 5, 3) := by decide +kernel
theorem dX8_isValue_19 : decode cX8_isValue 19 = .ok (.iconst 1, 1) := by decide +kernel
theorem dX8_isValue_20 : decode cX8_isValue 20 = .ok (.ireturn, 1) := by decide +kernel
theorem dX8_isValue_21 : decode cX8_isValue 21 = .ok (.iinc 1 1, 3) := by decide +kernel
theorem dX8_isValue_24 : decode cX8_isValue 24 = .ok (.goto (-22), 3) := by decide +kernel
theorem dX8_isValue_27 : decode cX8_isValue 27 = .ok (.iconst 0, 1) := by decide +kernel
theorem dX8_isValue_28 : decode cX8_isValue 28 = .ok (.ireturn, 1) := by decide +kernel
theorem dX8_greatestIn_0 : decode cX8_greatestIn 0 = .ok (.iconst 0, 1) := by decide +kernel
theorem dX8_greatestIn_1 : decode cX8_greatestIn 1 = .ok (.istore_n 1, 1) := by decide +kernel
theorem dX8_greatestIn_2 : decode cX8_greatestIn 2 = .ok (.iload_n 1, 1) := by decide +kernel
theorem dX8_greatestIn_3 : decode cX8_greatestIn 3 = .ok (.getstatic 7, 3) := by decide +kernel
theorem dX8_greatestIn_6 : decode cX8_greatestIn 6 = .ok (.arraylength, 1) := by decide +kernel
theorem dX8_greatestIn_7 : decode cX8_greatestIn 7 = .ok (.if_icmp .ge 24, 3) := by decide +kernel
theorem dX8_greatestIn_10 : decode cX8_greatestIn 10 = .ok (.getstatic 7, 3) := by decide +kernel
theorem dX8_greatestIn_13 : decode cX8_greatestIn 13 = .ok (.iload_n 1, 1) := by decide +kernel
theorem dX8_greatestIn_14 : decode cX8_greatestIn 14 = .ok (.iaload, 1) := by decide +kernel
theorem dX8_greatestIn_15 : decode cX8_greatestIn 15 = .ok (.iload_n 0, 1) := by decide +kernel
theorem dX8_greatestIn_16 : decode cX8_greatestIn 16 = .ok (.if_icmp .gt 9, 3) := by decide +kernel
theorem dX8_greatestIn_19 : decode cX8_greatestIn 19 = .ok (.getstatic 7, 3) := by decide +kernel
theorem dX8_greatestIn_22 : decode cX8_greatestIn 22 = .ok (.iload_n 1, 1) := by decide +kernel
theorem dX8_greatestIn_23 : decode cX8_greatestIn 23 = .ok (.iaload, 1) := by decide +kernel
theorem dX8_greatestIn_24 : decode cX8_greatestIn 24 = .ok (.ireturn, 1) := by decide +kernel
theorem dX8_greatestIn_25 : decode cX8_greatestIn 25 = .ok (.iinc 1 1, 3) := by decide +kernel
theorem dX8_greatestIn_28 : decode cX8_greatestIn 28 = .ok (.goto (-26), 3) := by decide +kernel
theorem dX8_greatestIn_31 : decode cX8_greatestIn 31 = .ok (.iload_n 0, 1) := by decide +kernel
theorem dX8_greatestIn_32 : decode cX8_greatestIn 32 = .ok (.ireturn, 1) := by decide +kernel
theorem dX9_init_0 : decode cX9_init 0 = .ok (.aload_n 0, 1) := by decide +kernel
theorem dX9_init_1 : decode cX9_init 1 = .ok (.invokespecial 3, 3) := by decide +kernel
theorem dX9_init_4 : decode cX9_init 4 = .ok (.aload_n 0, 1) := by decide +kernel
theorem dX9_init_5 : decode cX9_init 5 = .ok (.iconst 4, 1) := by decide +kernel
theorem dX9_init_6 : decode cX9_init 6 = .ok (.anewarray 9, 3) := by decide +kernel
theorem dX9_init_9 : decode cX9_init 9 = .ok (.putfield 11, 3) := by decide +kernel
theorem dX9_init_12 : decode cX9_init 12 = .ok (.iconst 0, 1) := by decide +kernel
theorem dX9_init_13 : decode cX9_init 13 = .ok (.istore_n 1, 1) := by decide +kernel
theorem dX9_init_14 : decode cX9_init 14 = .ok (.iload_n 1, 1) := by decide +kernel
theorem dX9_init_15 : decode cX9_init 15 = .ok (.aload_n 0, 1) := by decide +kernel
theorem dX9_init_16 : decode cX9_init 16 = .ok (.getfield 11, 3) := by decide +kernel
theorem dX9_init_19 : decode cX9_init 19 = .ok (.arraylength, 1) := by decide +kernel
theorem dX9_init_20 : decode cX9_init 20 = .ok (.if_icmp .ge 22, 3) := by decide +kernel
theorem dX9_init_23 : decode cX9_init 23 = .ok (.aload_n 0, 1) := by decide +kernel
theorem dX9_init_24 : decode cX9_init 24 = .ok (.getfield 11, 3) := by decide +kernel
theorem dX9_init_27 : decode cX9_init 27 = .ok (.iload_n 1, 1) := by decide +kernel
theorem dX9_init_28 : decode cX9_init 28 = .ok (.new 9, 3) := by decide +kernel
theorem dX9_init_31 : decode cX9_init 31 = .ok (.dup, 1) := by decide +kernel
theorem dX9_init_32 : decode cX9_init 32 = .ok (.invokespecial 15, 3) := by decide +kernel
theorem dX9_init_35 : decode cX9_init 35 = .ok (.aastore, 1) := by decide +kernel
theorem dX9_init_36 : decode cX9_init 36 = .ok (.iinc 1 1, 3) := by decide +kernel
theorem dX9_init_39 : decode cX9_init 39 = .ok (.goto (-25), 3) := by decide +kernel
theorem dX9_init_42 : decode cX9_init 42 = .ok (.aload_n 0, 1) := by decide +kernel
theorem dX9_init_43 : decode cX9_init 43 = .ok (.new 16, 3) := by decide +kernel
theorem dX9_init_46 : decode cX9_init 46 = .ok (.dup, 1) := by decide +kernel
theorem dX9_init_47 : decode cX9_init 47 = .ok (.invokespecial 18, 3) := by decide +kernel
theorem dX9_init_50 : decode cX9_init 50 = .ok (.putfield 19, 3) := by decide +kernel
theorem dX9_init_53 : decode cX9_init 53 = .ok (.aload_n 0, 1) := by decide +kernel
theorem dX9_init_54 : decode cX9_init 54 = .ok (.new 23, 3) := by decide +kernel
theorem dX9_init_57 : decode cX9_init 57 = .ok (.dup, 1) := by decide +kernel
theorem dX9_init_58 : decode cX9_init 58 = .ok (.invokespecial 25, 3) := by decide +kernel
theorem dX9_init_61 : decode cX9_init 61 = .ok (.putfield 26, 3) := by decide +kernel
theorem dX9_init_64 : decode cX9_init 64 = .ok (.aload_n 0, 1) := by decide +kernel
theorem dX9_init_65 : decode cX9_init 65 = .ok (.new 30, 3) := by decide +kernel
theorem dX9_init_68 : decode cX9_init 68 = .ok (.dup, 1) := by decide +kernel
theorem dX9_init_69 : decode cX9_init 69 = .ok (.invokespecial 32, 3) := by decide +kernel
theorem dX9_init_72 : decode cX9_init 72 = .ok (.putfield 33, 3) := by decide +kernel
theorem dX9_init_75 : decode cX9_init 75 = .ok (.aload_n 0, 1) := by decide +kernel
theorem dX9_init_76 : decode cX9_init 76 = .ok (.new 37, 3) := by decide +kernel
theorem dX9_init_79 : decode cX9_init 79 = .ok (.dup, 1) := by decide +kernel
theorem dX9_init_80 : decode cX9_init 80 = .ok (.invokespecial 39, 3) := by decide +kernel
theorem dX9_init_83 : decode cX9_init 83 = .ok (.putfield 40, 3) := by decide +kernel
theorem dX9_init_86 : decode cX9_init 86 = .ok (.aload_n 0, 1) := by decide +kernel
theorem dX9_init_87 : decode cX9_init 87 = .ok (.new 44, 3) := by decide +kernel
theorem dX9_init_90 : decode cX9_init 90 = .ok (.dup, 1) := by decide +kernel
theorem dX9_init_91 : decode cX9_init 91 = .ok (.invokespecial 46, 3) := by decide +kernel
theorem dX9_init_94 : decode cX9_init 94 = .ok (.putfield 47, 3) := by decide +kernel
theorem dX9_init_97 : decode cX9_init 97 = .ok (.aload_n 0, 1) := by decide +kernel
theorem dX9_init_98 : decode cX9_init 98 = .ok (.new 51, 3) := by decide +kernel
theorem dX9_init_101 : decode cX9_init 101 = .ok (.dup, 1) := by decide +kernel
theorem dX9_init_102 : decode cX9_init 102 = .ok (.invokespecial 53, 3) := by decide +kernel
theorem dX9_init_105 : decode cX9_init 105 = .ok (.putfield 54, 3) := by decide +kernel
theorem dX9_init_108 : decode cX9_init 108 = .ok (.aload_n 0, 1) := by decide +kernel
theorem dX9_init_109 : decode cX9_init 109 = .ok (.iconst 0, 1) := by decide +kernel
theorem dX9_init_110 : decode cX9_init 110 = .ok (.putfield 58, 3) := by decide +kernel
theorem dX9_init_113 : decode cX9_init 113 = .ok (.aload_n 0, 1) := by decide +kernel
theorem dX9_init_114 : decode cX9_init 114 = .ok (.iconst 0, 1) := by decide +kernel
theorem dX9_init_115 : decode cX9_init 115 = .ok (.putfield 62, 3) := by decide +kernel
theorem dX9_init_118 : decode cX9_init 118 = .ok (.aload_n 0, 1) := by decide +kernel
theorem dX9_init_119 : decode cX9_init 119 = .ok (.iconst 0, 1) := by decide +kernel
theorem dX9_init_120 : decode cX9_init 120 = .ok (.putfield 65, 3) := by decide +kernel
theorem dX9_init_123 : decode cX9_init 123 = .ok (.aload_n 0, 1) := by decide +kernel
theorem dX9_init_124 : decode cX9_init 124 = .ok (.iconst (-1), 1) := by decide +kernel
theorem dX9_init_125 : decode cX9_init 125 = .ok (.putfield 68, 3) := by decide +kernel
theorem dX9_init_128 : decode cX9_init 128 = .ok (.aload_n 0, 1) := by decide +kernel
theorem dX9_init_129 : decode cX9_init 129 = .ok (.iconst (-1), 1) := by decide +kernel
theorem dX9_init_130 : decode cX9_init 130 = .ok (.putfield 72, 3) := by decide +kernel
theorem dX9_init_133 : decode cX9_init 133 = .ok (.return_, 1) := by decide +kernel
theorem dX9_addNote_0 : decode cX9_addNote 0 = .ok (.aload_n 0, 1) := by decide +kernel
theorem dX9_addNote_1 : decode cX9_addNote 1 = .ok (.iload_n 1, 1) := by decide +kernel
theorem dX9_addNote_2 : decode cX9_addNote 2 = .ok (.invokevirtual 75, 3) := by decide +kernel
theorem dX9_addNote_5 : decode cX9_addNote 5 = .ok (.astore 5, 2) := by decide +kernel
theorem dX9_addNote_7 : decode cX9_addNote 7 = .ok (.iload_n 2, 1) := by decide +kernel
theorem dX9_addNote_8 : decode cX9_addNote 8 = .ok (.iload_n 3, 1) := by decide +kernel
theorem dX9_addNote_9 : decode cX9_addNote 9 = .ok (.invokestatic 79, 3) := by decide +kernel
theorem dX9_addNote_12 : decode cX9_addNote 12 = .ok (.iload 4, 2) := by decide +kernel
theorem dX9_addNote_14 : decode cX9_addNote 14 = .ok (.invokestatic 83, 3) := by decide +kernel
theorem dX9_addNote_17 : decode cX9_addNote 17 = .ok (.aload_n 0, 1) := by decide +kernel
theorem dX9_addNote_18 : decode cX9_addNote 18 = .ok (.aload 5, 2) := by decide +kernel
theorem dX9_addNote_20 : decode cX9_addNote 20 = .ok (.iload 4, 2) := by decide +kernel
theorem dX9_addNote_22 : decode cX9_addNote 22 = .ok (.invokevirtual 87, 3) := by decide +kernel
theorem dX9_addNote_25 : decode cX9_addNote 25 = .ok (.aload_n 0, 1) := by decide +kernel
theorem dX9_addNote_26 : decode cX9_addNote 26 = .ok (.invokevirtual 91, 3) := by decide +kernel
theorem dX9_addNote_29 : decode cX9_addNote 29 = .ok (.aload 5, 2) := by decide +kernel
theorem dX9_addNote_31 : decode cX9_addNote 31 = .ok (.iload_n 2, 1) := by decide +kernel
theorem dX9_addNote_32 : decode cX9_addNote 32 = .ok (.iload_n 3, 1) := by decide +kernel
theorem dX9_addNote_33 : decode cX9_addNote 33 = .ok (.iload 4, 2) := by decide +kernel
theorem dX9_addNote_35 : decode cX9_addNote 35 = .ok (.invokevirtual 94, 3) := by decide +kernel
theorem dX9_addNote_38 : decode cX9_addNote 38 = .ok (.ireturn, 1) := by decide +kernel
theorem dX9_addRest_0 : decode cX9_addRest 0 = .ok (.aload_n 0, 1) := by decide +kernel
theorem dX9_addRest_1 : decode cX9_addRest 1 = .ok (.iload_n 1, 1) := by decide +kernel
theorem dX9_addRest_2 : decode cX9_addRest 2 = .ok (.invokevirtual 75, 3) := by decide +kernel
theorem dX9_addRest_5 : decode cX9_addRest 5 = .ok (.astore_n 3, 1) := by decide +kernel
theorem dX9_addRest_6 : decode cX9_addRest 6 = .ok (.iload_n 2, 1) := by decide +kernel
theorem dX9_addRest_7 : decode cX9_addRest 7 = .ok (.invokestatic 83, 3) := by decide +kernel
theorem dX9_addRest_10 : decode cX9_addRest 10 = .ok (.aload_n 0, 1) := by decide +kernel
theorem dX9_addRest_11 : decode cX9_addRest 11 = .ok (.aload_n 3, 1) := by decide +kernel
theorem dX9_addRest_12 : decode cX9_addRest 12 = .ok (.iload_n 2, 1) := by decide +kernel
theorem dX9_addRest_13 : decode cX9_addRest 13 = .ok (.invokevirtual 87, 3) := by decide +kernel
theorem dX9_addRest_16 : decode cX9_addRest 16 = .ok (.aload_n 0, 1) := by decide +kernel
theorem dX9_addRest_17 : decode cX9_addRest 17 = .ok (.invokevirtual 91, 3) := by decide +kernel
theorem dX9_addRest_20 : decode cX9_addRest 20 = .ok (.aload_n 3, 1) := by decide +kernel
theorem dX9_addRest_21 : decode cX9_addRest 21 = .ok (.iconst 0, 1) := by decide +kernel
theorem dX9_addRest_22 : decode cX9_addRest 22 = .ok (.iconst 0, 1) := by decide +kernel
theorem dX9_addRest_23 : decode cX9_addRest 23 = .ok (.iload_n 2, 1) := by decide +kernel
theorem dX9_addRest_24 : decode cX9_addRest 24 = .ok (.invokevirtual 94, 3) := by decide +kernel
theorem dX9_addRest_27 : decode cX9_addRest 27 = .ok (.ireturn, 1) := by decide +kernel
theorem dX9_takeLast_0 : decode cX9_takeLast 0 = .ok (.aload_n 0, 1) := by decide +kernel
theorem dX9_takeLast_1 : decode cX9_takeLast 1 = .ok (.iload_n 1, 1) := by decide +kernel
theorem dX9_takeLast_2 : decode cX9_takeLast 2 = .ok (.invokevirtual 75, 3) := by decide +kernel
theorem dX9_takeLast_5 : decode cX9_takeLast 5 = .ok (.astore_n 2, 1) := by decide +kernel
theorem dX9_takeLast_6 : decode cX9_takeLast 6 = .ok (.aload_n 2, 1) := by decide +kernel
theorem dX9_takeLast_7 : decode cX9_takeLast 7 = .ok (.invokevirtual 98, 3) := by decide +kernel
theorem dX9_takeLast_10 : decode cX9_takeLast 10 = .ok (.ifCond .ne 13, 3) := by decide +kernel
theorem dX9_takeLast_13 : decode cX9_takeLast 13 = .ok (.new 102, 3) := by decide +kernel
theorem dX9_takeLast_16 : decode cX9_takeLast 16 = .ok (.dup, 1) := by decide +kernel
theorem dX9_takeLast_17 : decode cX9_takeLast 17 = .ok (.ldc 104, 2) := by decide +kernel
theorem dX9_takeLast_19 : decode cX9_takeLast 19 = .ok (.invokespecial 106, 3) := by decide +kernel
theorem dX9_takeLast_22 : decode cX9_takeLast 22 = .ok (.athrow, 1) := by decide +kernel
theorem dX9_takeLast_23 : decode cX9_takeLast 23 = .ok (.aload_n 0, 1) := by decide +kernel
theorem dX9_takeLast_24 : decode cX9_takeLast 24 = .ok (.invokevirtual 91, 3) := by decide +kernel
theorem dX9_takeLast_27 : decode cX9_takeLast 27 = .ok (.aload_n 2, 1) := by decide +kernel
theorem dX9_takeLast_28 : decode cX9_takeLast 28 = .ok (.invokevirtual 109, 3) := by decide +kernel
theorem dX9_takeLast_31 : decode cX9_takeLast 31 = .ok (.ireturn, 1) := by decide +kernel
theorem dX9_setPitch_0 : decode cX9_setPitch 0 = .ok (.aload_n 0, 1) := by decide +kernel
theorem dX9_setPitch_1 : decode cX9_setPitch 1 = .ok (.iload_n 1, 1) := by decide +kernel
theorem dX9_setPitch_2 : decode cX9_setPitch 2 = .ok (.iload_n 2, 1) := by decide +kernel
theorem dX9_setPitch_3 : decode cX9_setPitch 3 = .ok (.invokevirtual 112, 3) := by decide +kernel
theorem dX9_setPitch_6 : decode cX9_setPitch 6 = .ok (.astore 5, 2) := by decide +kernel
theorem dX9_setPitch_8 : decode cX9_setPitch 8 = .ok (.iload_n 3, 1) := by decide +kernel
theorem dX9_setPitch_9 : decode cX9_setPitch 9 = .ok (.iload 4, 2) := by decide +kernel
theorem dX9_setPitch_11 : decode cX9_setPitch 11 = .ok (.invokestatic 79, 3) := by decide +kernel
theorem dX9_setPitch_14 : decode cX9_setPitch 14 = .ok (.aload 5, 2) := by decide +kernel
theorem dX9_setPitch_16 : decode cX9_setPitch 16 = .ok (.iload_n 2, 1) := by decide +kernel
theorem dX9_setPitch_17 : decode cX9_setPitch 17 = .ok (.invokestatic 116, 3) := by decide +kernel
theorem dX9_setPitch_20 : decode cX9_setPitch 20 = .ok (.aload 5, 2) := by decide +kernel
theorem dX9_setPitch_22 : decode cX9_setPitch 22 = .ok (.iload_n 2, 1) := by decide +kernel
theorem dX9_setPitch_23 : decode cX9_setPitch 23 = .ok (.invokevirtual 119, 3) := by decide +kernel
theorem dX9_setPitch_26 : decode cX9_setPitch 26 = .ok (.istore 6, 2) := by decide +kernel
theorem dX9_setPitch_28 : decode cX9_setPitch 28 = .ok (.aload_n 0, 1) := by decide +kernel
theorem dX9_setPitch_29 : decode cX9_setPitch 29 = .ok (.invokevirtual 91, 3) := by decide +kernel
theorem dX9_setPitch_32 : decode cX9_setPitch 32 = .ok (.aload 5, 2) := by decide +kernel
theorem dX9_setPitch_34 : decode cX9_setPitch 34 = .ok (.iload_n 2, 1) := by decide +kernel
theorem dX9_setPitch_35 : decode cX9_setPitch 35 = .ok (.iload_n 3, 1) := by decide +kernel
theorem dX9_setPitch_36 : decode cX9_setPitch 36 = .ok (.iload 4, 2) := by decide +kernel
theorem dX9_setPitch_38 : decode cX9_setPitch 38 = .ok (.invokevirtual 123, 3) := by decide +kernel
theorem dX9_setPitch_41 : decode cX9_setPitch 41 = .ok (.iload 6, 2) := by decide +kernel
theorem dX9_setPitch_43 : decode cX9_setPitch 43 = .ok (.ireturn, 1) := by decide +kernel
theorem dX9_setMetre_0 : decode cX9_setMetre 0 = .ok (.iload_n 1, 1) := by decide +kernel
theorem dX9_setMetre_1 : decode cX9_setMetre 1 = .ok (.invokestatic 127, 3) := by decide +kernel
theorem dX9_setMetre_4 : decode cX9_setMetre 4 = .ok (.iload_n 2, 1) := by decide +kernel
theorem dX9_setMetre_5 : decode cX9_setMetre 5 = .ok (.iconst 1, 1) := by decide +kernel
theorem dX9_setMetre_6 : decode cX9_setMetre 6 = .ok (.if_icmp .lt 25, 3) := by decide +kernel
theorem dX9_setMetre_9 : decode cX9_setMetre 9 = .ok (.iload_n 2, 1) := by decide +kernel
theorem dX9_setMetre_10 : decode cX9_setMetre 10 = .ok (.bipush 12, 2) := by decide +kernel
theorem dX9_setMetre_12 : decode cX9_setMetre 12 = .ok (.if_icmp .gt 19, 3) := by decide +kernel
theorem dX9_setMetre_15 : decode cX9_setMetre 15 = .ok (.iload_n 3, 1) := by decide +kernel
theorem dX9_setMetre_16 : decode cX9_setMetre 16 = .ok (.iconst 2, 1) := by decide +kernel
theorem dX9_setMetre_17 : decode cX9_setMetre 17 = .ok (.if_icmp .eq 24, 3) := by decide +kernel
theorem dX9_setMetre_20 : decode cX9_setMetre 20 = .ok (.iload_n 3, 1) := by decide +kernel
theorem dX9_setMetre_21 : decode cX9_setMetre 21 = .ok (.iconst 4, 1) := by decide +kernel
theorem dX9_setMetre_22 : decode cX9_setMetre 22 = .ok (.if_icmp .eq 19, 3) := by decide +kernel
theorem dX9_setMetre_25 : decode cX9_setMetre 25 = .ok (.iload_n 3, 1) := by decide +kernel
theorem dX9_setMetre_26 : decode cX9_setMetre 26 = .ok (.bipush 8, 2) := by decide +kernel
theorem dX9_setMetre_28 : decode cX9_setMetre 28 = .ok (.if_icmp .eq 13, 3) := by decide +kernel
theorem dX9_setMetre_31 : decode cX9_setMetre 31 = .ok (.new 130, 3) := by decide +kernel
theorem dX9_setMetre_34 : decode cX9_setMetre 34 = .ok (.dup, 1) := by decide +kernel
theorem dX9_setMetre_35 : decode cX9_setMetre 35 = .ok (.ldc 132, 2) := by decide +kernel
theorem dX9_setMetre_37 : decode cX9_setMetre 37 = .ok (.invokespecial 134, 3) := by decide +kernel
theorem dX9_setMetre_40 : decode cX9_setMetre 40 = .ok (.athrow, 1) := by decide +kernel
theorem dX9_setMetre_41 : decode cX9_setMetre 41 = .ok (.aload_n 0, 1) := by decide +kernel
theorem dX9_setMetre_42 : decode cX9_setMetre 42 = .ok (.invokevirtual 91, 3) := by decide +kernel
theorem dX9_setMetre_45 : decode cX9_setMetre 45 = .ok (.aload_n 0, 1) := by decide +kernel
theorem dX9_setMetre_46 : decode cX9_setMetre 46 = .ok (.getfield 19, 3) := by decide +kernel
theorem dX9_setMetre_49 : decode cX9_setMetre 49 = .ok (.iload_n 1, 1) := by decide +kernel
theorem dX9_setMetre_50 : decode cX9_setMetre 50 = .ok (.iload_n 2, 1) := by decide +kernel
theorem dX9_setMetre_51 : decode cX9_setMetre 51 = .ok (.iload_n 3, 1) := by decide +kernel
theorem dX9_setMetre_52 : decode cX9_setMetre 52 = .ok (.invokevirtual 135, 3) := by decide +kernel
theorem dX9_setMetre_55 : decode cX9_setMetre 55 = .ok (.aload_n 0, 1) := by decide +kernel
theorem dX9_setMetre_56 : decode cX9_setMetre 56 = .ok (.getfield 19, 3) := by decide +kernel
theorem dX9_setMetre_59 : decode cX9_setMetre 59 = .ok (.iload_n 1, 1) := by decide +kernel
theorem dX9_setMetre_60 : decode cX9_setMetre 60 = .ok (.invokevirtual 138, 3) := by decide +kernel
theorem dX9_setMetre_63 : decode cX9_setMetre 63 = .ok (.ireturn, 1) := by decide +kernel
theorem dX9_setKey_0 : decode cX9_setKey 0 = .ok (.iload_n 1, 1) := by decide +kernel
theorem dX9_setKey_1 : decode cX9_setKey 1 = .ok (.invokestatic 127, 3) := by decide +kernel
theorem dX9_setKey_4 : decode cX9_setKey 4 = .ok (.iload_n 2, 1) := by decide +kernel
theorem dX9_setKey_5 : decode cX9_setKey 5 = .ok (.invokestatic 141, 3) := by decide +kernel
theorem dX9_setKey_8 : decode cX9_setKey 8 = .ok (.aload_n 0, 1) := by decide +kernel
theorem dX9_setKey_9 : decode cX9_setKey 9 = .ok (.getfield 19, 3) := by decide +kernel
theorem dX9_setKey_12 : decode cX9_setKey 12 = .ok (.iload_n 1, 1) := by decide +kernel
theorem dX9_setKey_13 : decode cX9_setKey 13 = .ok (.invokevirtual 144, 3) := by decide +kernel
theorem dX9_setKey_16 : decode cX9_setKey 16 = .ok (.istore_n 3, 1) := by decide +kernel
theorem dX9_setKey_17 : decode cX9_setKey 17 = .ok (.aload_n 0, 1) := by decide +kernel
theorem dX9_setKey_18 : decode cX9_setKey 18 = .ok (.invokevirtual 91, 3) := by decide +kernel
theorem dX9_setKey_21 : decode cX9_setKey 21 = .ok (.aload_n 0, 1) := by decide +kernel
theorem dX9_setKey_22 : decode cX9_setKey 22 = .ok (.getfield 19, 3) := by decide +kernel
theorem dX9_setKey_25 : decode cX9_setKey 25 = .ok (.iload_n 1, 1) := by decide +kernel
theorem dX9_setKey_26 : decode cX9_setKey 26 = .ok (.iload_n 2, 1) := by decide +kernel
theorem dX9_setKey_27 : decode cX9_setKey 27 = .ok (.invokevirtual 147, 3) := by decide +kernel
theorem dX9_setKey_30 : decode cX9_setKey 30 = .ok (.iload_n 3, 1) := by decide +kernel
theorem dX9_setKey_31 : decode cX9_setKey 31 = .ok (.ireturn, 1) := by decide +kernel
theorem dX9_setRange_0 : decode cX9_setRange 0 = .ok (.aload_n 0, 1) := by decide +kernel
theorem dX9_setRange_1 : decode cX9_setRange 1 = .ok (.iload_n 1, 1) := by decide +kernel
theorem dX9_setRange_2 : decode cX9_setRange 2 = .ok (.invokevirtual 75, 3) := by decide +kernel
theorem dX9_setRange_5 : decode cX9_setRange 5 = .ok (.astore 4, 2) := by decide +kernel
theorem dX9_setRange_7 : decode cX9_setRange 7 = .ok (.iload_n 2, 1) := by decide +kernel
theorem dX9_setRange_8 : decode cX9_setRange 8 = .ok (.iconst 1, 1) := by decide +kernel
theorem dX9_setRange_9 : decode cX9_setRange 9 = .ok (.if_icmp .lt 20, 3) := by decide +kernel
theorem dX9_setRange_12 : decode cX9_setRange 12 = .ok (.iload_n 2, 1) := by decide +kernel
theorem dX9_setRange_13 : decode cX9_setRange 13 = .ok (.bipush 62, 2) := by decide +kernel
theorem dX9_setRange_15 : decode cX9_setRange 15 = .ok (.if_icmp .gt 14, 3) := by decide +kernel
theorem dX9_setRange_18 : decode cX9_setRange 18 = .ok (.iload_n 3, 1) := by decide +kernel
theorem dX9_setRange_19 : decode cX9_setRange 19 = .ok (.iload_n 2, 1) := by decide +kernel
theorem dX9_setRange_20 : decode cX9_setRange 20 = .ok (.if_icmp .lt 9, 3) := by decide +kernel
theorem dX9_setRange_23 : decode cX9_setRange 23 = .ok (.iload_n 3, 1) := by decide +kernel
theorem dX9_setRange_24 : decode cX9_setRange 24 = .ok (.bipush 62, 2) := by decide +kernel
theorem dX9_setRange_26 : decode cX9_setRange 26 = .ok (.if_icmp .le 13, 3) := by decide +kernel
theorem dX9_setRange_29 : decode cX9_setRange 29 = .ok (.new 130, 3) := by decide +kernel
theorem dX9_setRange_32 : decode cX9_setRange 32 = .ok (.dup, 1) := by decide +kernel
theorem dX9_setRange_33 : decode cX9_setRange 33 = .ok (.ldc 150, 2) := by decide +kernel
theorem dX9_setRange_35 : decode cX9_setRange 35 = .ok (.invokespecial 134, 3) := by decide +kernel
theorem dX9_setRange_38 : decode cX9_setRange 38 = .ok (.athrow, 1) := by decide +kernel
theorem dX9_setRange_39 : decode cX9_setRange 39 = .ok (.aload_n 0, 1) := by decide +kernel
theorem dX9_setRange_40 : decode cX9_setRange 40 = .ok (.invokevirtual 91, 3) := by decide +kernel
theorem dX9_setRange_43 : decode cX9_setRange 43 = .ok (.aload 4, 2) := by decide +kernel
theorem dX9_setRange_45 : decode cX9_setRange 45 = .ok (.iload_n 2, 1) := by decide +kernel
theorem dX9_setRange_46 : decode cX9_setRange 46 = .ok (.iload_n 3, 1) := by decide +kernel
theorem dX9_setRange_47 : decode cX9_setRange 47 = .ok (.invokevirtual 152, 3) := by decide +kernel
theorem dX9_setRange_50 : decode cX9_setRange 50 = .ok (.aload 4, 2) := by decide +kernel
theorem dX9_setRange_52 : decode cX9_setRange 52 = .ok (.invokevirtual 155, 3) := by decide +kernel
theorem dX9_setRange_55 : decode cX9_setRange 55 = .ok (.ireturn, 1) := by decide +kernel
theorem dX9_setShift_0 : decode cX9_setShift 0 = .ok (.aload_n 0, 1) := by decide +kernel
theorem dX9_setShift_1 : decode cX9_setShift 1 = .ok (.iload_n 1, 1) := by decide +kernel
theorem dX9_setShift_2 : decode cX9_setShift 2 = .ok (.invokevirtual 75, 3) := by decide +kernel
theorem dX9_setShift_5 : decode cX9_setShift 5 = .ok (.astore 4, 2) := by decide +kernel
theorem dX9_setShift_7 : decode cX9_setShift 7 = .ok (.iload_n 2, 1) := by decide +kernel
theorem dX9_setShift_8 : decode cX9_setShift 8 = .ok (.bipush (-6), 2) := by decide +kernel
theorem dX9_setShift_10 : decode cX9_setShift 10 = .ok (.if_icmp .lt 20, 3) := by decide +kernel
theorem dX9_setShift_13 : decode cX9_setShift 13 = .ok (.iload_n 2, 1) := by decide +kernel
theorem dX9_setShift_14 : decode cX9_setShift 14 = .ok (.bipush 6, 2) := by decide +kernel
theorem dX9_setShift_16 : decode cX9_setShift 16 = .ok (.if_icmp .gt 14, 3) := by decide +kernel
theorem dX9_setShift_19 : decode cX9_setShift 19 = .ok (.iload_n 3, 1) := by decide +kernel
theorem dX9_setShift_20 : decode cX9_setShift 20 = .ok (.bipush (-2), 2) := by decide +kernel
theorem dX9_setShift_22 : decode cX9_setShift 22 = .ok (.if_icmp .lt 8, 3) := by decide +kernel
theorem dX9_setShift_25 : decode cX9_setShift 25 = .ok (.iload_n 3, 1) := by decide +kernel
theorem dX9_setShift_26 : decode cX9_setShift 26 = .ok (.iconst 2, 1) := by decide +kernel
theorem dX9_setShift_27 : decode cX9_setShift 27 = .ok (.if_icmp .le 13, 3) := by decide +kernel
theorem dX9_setShift_30 : decode cX9_setShift 30 = .ok (.new 130, 3) := by decide +kernel
theorem dX9_setShift_33 : decode cX9_setShift 33 = .ok (.dup, 1) := by decide +kernel
theorem dX9_setShift_34 : decode cX9_setShift 34 = .ok (.ldc 158, 2) := by decide +kernel
theorem dX9_setShift_36 : decode cX9_setShift 36 = .ok (.invokespecial 134, 3) := by decide +kernel
theorem dX9_setShift_39 : decode cX9_setShift 39 = .ok (.athrow, 1) := by decide +kernel
theorem dX9_setShift_40 : decode cX9_setShift 40 = .ok (.aload_n 0, 1) := by decide +kernel
theorem dX9_setShift_41 : decode cX9_setShift 41 = .ok (.invokevirtual 91, 3) := by decide +kernel
theorem dX9_setShift_44 : decode cX9_setShift 44 = .ok (.aload 4, 2) := by decide +kernel
theorem dX9_setShift_46 : decode cX9_setShift 46 = .ok (.iload_n 2, 1) := by decide +kernel
theorem dX9_setShift_47 : decode cX9_setShift 47 = .ok (.iload_n 3, 1) := by decide +kernel
theorem dX9_setShift_48 : decode cX9_setShift 48 = .ok (.invokevirtual 160, 3) := by decide +kernel
theorem dX9_setShift_51 : decode cX9_setShift 51 = .ok (.aload 4, 2) := by decide +kernel
theorem dX9_setShift_53 : decode cX9_setShift 53 = .ok (.invokevirtual 163, 3) := by decide +kernel
theorem dX9_setShift_56 : decode cX9_setShift 56 = .ok (.ireturn, 1) := by decide +kernel
theorem dX9_events_0 : decode cX9_events 0 = .ok (.aload_n 0, 1) := by decide +kernel
theorem dX9_events_1 : decode cX9_events 1 = .ok (.iload_n 1, 1) := by decide +kernel
theorem dX9_events_2 : decode cX9_events 2 = .ok (.invokevirtual 75, 3) := by decide +kernel
theorem dX9_events_5 : decode cX9_events 5 = .ok (.invokevirtual 98, 3) := by decide +kernel
theorem dX9_events_8 : decode cX9_events 8 = .ok (.ireturn, 1) := by decide +kernel
theorem dX9_heightOf_0 : decode cX9_heightOf 0 = .ok (.aload_n 0, 1) := by decide +kernel
theorem dX9_heightOf_1 : decode cX9_heightOf 1 = .ok (.iload_n 1, 1) := by decide +kernel
theorem dX9_heightOf_2 : decode cX9_heightOf 2 = .ok (.iload_n 2, 1) := by decide +kernel
theorem dX9_heightOf_3 : decode cX9_heightOf 3 = .ok (.invokevirtual 112, 3) := by decide +kernel
theorem dX9_heightOf_6 : decode cX9_heightOf 6 = .ok (.iload_n 2, 1) := by decide +kernel
theorem dX9_heightOf_7 : decode cX9_heightOf 7 = .ok (.invokevirtual 119, 3) := by decide +kernel
theorem dX9_heightOf_10 : decode cX9_heightOf 10 = .ok (.ireturn, 1) := by decide +kernel
theorem dX9_writtenPlace_0 : decode cX9_writtenPlace 0 = .ok (.aload_n 0, 1) := by decide +kernel
theorem dX9_writtenPlace_1 : decode cX9_writtenPlace 1 = .ok (.iload_n 1, 1) := by decide +kernel
theorem dX9_writtenPlace_2 : decode cX9_writtenPlace 2 = .ok (.iload_n 2, 1) := by decide +kernel
theorem dX9_writtenPlace_3 : decode cX9_writtenPlace 3 = .ok (.invokevirtual 112, 3) := by decide +kernel
theorem dX9_writtenPlace_6 : decode cX9_writtenPlace 6 = .ok (.iload_n 2, 1) := by decide +kernel
theorem dX9_writtenPlace_7 : decode cX9_writtenPlace 7 = .ok (.invokevirtual 172, 3) := by decide +kernel
theorem dX9_writtenPlace_10 : decode cX9_writtenPlace 10 = .ok (.ireturn, 1) := by decide +kernel
theorem dX9_writtenAlter_0 : decode cX9_writtenAlter 0 = .ok (.aload_n 0, 1) := by decide +kernel
theorem dX9_writtenAlter_1 : decode cX9_writtenAlter 1 = .ok (.iload_n 1, 1) := by decide +kernel
theorem dX9_writtenAlter_2 : decode cX9_writtenAlter 2 = .ok (.iload_n 2, 1) := by decide +kernel
theorem dX9_writtenAlter_3 : decode cX9_writtenAlter 3 = .ok (.invokevirtual 112, 3) := by decide +kernel
theorem dX9_writtenAlter_6 : decode cX9_writtenAlter 6 = .ok (.iload_n 2, 1) := by decide +kernel
theorem dX9_writtenAlter_7 : decode cX9_writtenAlter 7 = .ok (.invokevirtual 175, 3) := by decide +kernel
theorem dX9_writtenAlter_10 : decode cX9_writtenAlter 10 = .ok (.ireturn, 1) := by decide +kernel
theorem dX9_beginOfBar_0 : decode cX9_beginOfBar 0 = .ok (.iload_n 1, 1) := by decide +kernel
theorem dX9_beginOfBar_1 : decode cX9_beginOfBar 1 = .ok (.invokestatic 127, 3) := by decide +kernel
theorem dX9_beginOfBar_4 : decode cX9_beginOfBar 4 = .ok (.aload_n 0, 1) := by decide +kernel
theorem dX9_beginOfBar_5 : decode cX9_beginOfBar 5 = .ok (.getfield 19, 3) := by decide +kernel
theorem dX9_beginOfBar_8 : decode cX9_beginOfBar 8 = .ok (.iload_n 1, 1) := by decide +kernel
theorem dX9_beginOfBar_9 : decode cX9_beginOfBar 9 = .ok (.invokevirtual 189, 3) := by decide +kernel
theorem dX9_beginOfBar_12 : decode cX9_beginOfBar 12 = .ok (.ireturn, 1) := by decide +kernel
theorem dX9_lengthOfBar_0 : decode cX9_lengthOfBar 0 = .ok (.iload_n 1, 1) := by decide +kernel
theorem dX9_lengthOfBar_1 : decode cX9_lengthOfBar 1 = .ok (.invokestatic 127, 3) := by decide +kernel
theorem dX9_lengthOfBar_4 : decode cX9_lengthOfBar 4 = .ok (.aload_n 0, 1) := by decide +kernel
theorem dX9_lengthOfBar_5 : decode cX9_lengthOfBar 5 = .ok (.getfield 19, 3) := by decide +kernel
theorem dX9_lengthOfBar_8 : decode cX9_lengthOfBar 8 = .ok (.iload_n 1, 1) := by decide +kernel
theorem dX9_lengthOfBar_9 : decode cX9_lengthOfBar 9 = .ok (.invokevirtual 138, 3) := by decide +kernel
theorem dX9_lengthOfBar_12 : decode cX9_lengthOfBar 12 = .ok (.ireturn, 1) := by decide +kernel
theorem dX9_signs_0 : decode cX9_signs 0 = .ok (.aload_n 0, 1) := by decide +kernel
theorem dX9_signs_1 : decode cX9_signs 1 = .ok (.iload_n 1, 1) := by decide +kernel
theorem dX9_signs_2 : decode cX9_signs 2 = .ok (.iload_n 2, 1) := by decide +kernel
theorem dX9_signs_3 : decode cX9_signs 3 = .ok (.invokevirtual 190, 3) := by decide +kernel
theorem dX9_signs_6 : decode cX9_signs 6 = .ok (.invokevirtual 194, 3) := by decide +kernel
theorem dX9_signs_9 : decode cX9_signs 9 = .ok (.ireturn, 1) := by decide +kernel
theorem dX9_eventOf_0 : decode cX9_eventOf 0 = .ok (.aload_n 0, 1) := by decide +kernel
theorem dX9_eventOf_1 : decode cX9_eventOf 1 = .ok (.iload_n 1, 1) := by decide +kernel
theorem dX9_eventOf_2 : decode cX9_eventOf 2 = .ok (.iload_n 2, 1) := by decide +kernel
theorem dX9_eventOf_3 : decode cX9_eventOf 3 = .ok (.iload_n 3, 1) := by decide +kernel
theorem dX9_eventOf_4 : decode cX9_eventOf 4 = .ok (.invokevirtual 195, 3) := by decide +kernel
theorem dX9_eventOf_7 : decode cX9_eventOf 7 = .ok (.iload_n 3, 1) := by decide +kernel
theorem dX9_eventOf_8 : decode cX9_eventOf 8 = .ok (.invokevirtual 199, 3) := by decide +kernel
theorem dX9_eventOf_11 : decode cX9_eventOf 11 = .ok (.ireturn, 1) := by decide +kernel
theorem dX9_lengthOf_0 : decode cX9_lengthOf 0 = .ok (.aload_n 0, 1) := by decide +kernel
theorem dX9_lengthOf_1 : decode cX9_lengthOf 1 = .ok (.iload_n 1, 1) := by decide +kernel
theorem dX9_lengthOf_2 : decode cX9_lengthOf 2 = .ok (.iload_n 2, 1) := by decide +kernel
theorem dX9_lengthOf_3 : decode cX9_lengthOf 3 = .ok (.iload_n 3, 1) := by decide +kernel
theorem dX9_lengthOf_4 : decode cX9_lengthOf 4 = .ok (.invokevirtual 195, 3) := by decide +kernel
theorem dX9_lengthOf_7 : decode cX9_lengthOf 7 = .ok (.iload_n 3, 1) := by decide +kernel
theorem dX9_lengthOf_8 : decode cX9_lengthOf 8 = .ok (.invokevirtual 202, 3) := by decide +kernel
theorem dX9_lengthOf_11 : decode cX9_lengthOf 11 = .ok (.ireturn, 1) := by decide +kernel
theorem dX9_isTied_0 : decode cX9_isTied 0 = .ok (.aload_n 0, 1) := by decide +kernel
theorem dX9_isTied_1 : decode cX9_isTied 1 = .ok (.iload_n 1, 1) := by decide +kernel
theorem dX9_isTied_2 : decode cX9_isTied 2 = .ok (.iload_n 2, 1) := by decide +kernel
theorem dX9_isTied_3 : decode cX9_isTied 3 = .ok (.iload_n 3, 1) := by decide +kernel
theorem dX9_isTied_4 : decode cX9_isTied 4 = .ok (.invokevirtual 195, 3) := by decide +kernel
theorem dX9_isTied_7 : decode cX9_isTied 7 = .ok (.iload_n 3, 1) := by decide +kernel
theorem dX9_isTied_8 : decode cX9_isTied 8 = .ok (.invokevirtual 203, 3) := by decide +kernel
theorem dX9_isTied_11 : decode cX9_isTied 11 = .ok (.ireturn, 1) := by decide +kernel
theorem dX9_shown_0 : decode cX9_shown 0 = .ok (.aload_n 0, 1) := by decide +kernel
theorem dX9_shown_1 : decode cX9_shown 1 = .ok (.iload_n 1, 1) := by decide +kernel
theorem dX9_shown_2 : decode cX9_shown 2 = .ok (.iload_n 2, 1) := by decide +kernel
theorem dX9_shown_3 : decode cX9_shown 3 = .ok (.iload_n 3, 1) := by decide +kernel
theorem dX9_shown_4 : decode cX9_shown 4 = .ok (.invokevirtual 195, 3) := by decide +kernel
theorem dX9_shown_7 : decode cX9_shown 7 = .ok (.iload_n 3, 1) := by decide +kernel
theorem dX9_shown_8 : decode cX9_shown 8 = .ok (.invokevirtual 207, 3) := by decide +kernel
theorem dX9_shown_11 : decode cX9_shown 11 = .ok (.ireturn, 1) := by decide +kernel
theorem dX9_shownWritten_0 : decode cX9_shownWritten 0 = .ok (.aload_n 0, 1) := by decide +kernel
theorem dX9_shownWritten_1 : decode cX9_shownWritten 1 = .ok (.iload_n 1, 1) := by decide +kernel
theorem dX9_shownWritten_2 : decode cX9_shownWritten 2 = .ok (.iload_n 2, 1) := by decide +kernel
theorem dX9_shownWritten_3 : decode cX9_shownWritten 3 = .ok (.iload_n 3, 1) := by decide +kernel
theorem dX9_shownWritten_4 : decode cX9_shownWritten 4 = .ok (.invokevirtual 195, 3) := by decide +kernel
theorem dX9_shownWritten_7 : decode cX9_shownWritten 7 = .ok (.iload_n 3, 1) := by decide +kernel
theorem dX9_shownWritten_8 : decode cX9_shownWritten 8 = .ok (.invokevirtual 210, 3) := by decide +kernel
theorem dX9_shownWritten_11 : decode cX9_shownWritten 11 = .ok (.ireturn, 1) := by decide +kernel
theorem dX9_beams_0 : decode cX9_beams 0 = .ok (.aload_n 0, 1) := by decide +kernel
theorem dX9_beams_1 : decode cX9_beams 1 = .ok (.iload_n 1, 1) := by decide +kernel
theorem dX9_beams_2 : decode cX9_beams 2 = .ok (.iload_n 2, 1) := by decide +kernel
theorem dX9_beams_3 : decode cX9_beams 3 = .ok (.invokevirtual 190, 3) := by decide +kernel
theorem dX9_beams_6 : decode cX9_beams 6 = .ok (.invokevirtual 213, 3) := by decide +kernel
theorem dX9_beams_9 : decode cX9_beams 9 = .ok (.ireturn, 1) := by decide +kernel
theorem dX9_beamOf_0 : decode cX9_beamOf 0 = .ok (.aload_n 0, 1) := by decide +kernel
theorem dX9_beamOf_1 : decode cX9_beamOf 1 = .ok (.iload_n 1, 1) := by decide +kernel
theorem dX9_beamOf_2 : decode cX9_beamOf 2 = .ok (.iload_n 2, 1) := by decide +kernel
theorem dX9_beamOf_3 : decode cX9_beamOf 3 = .ok (.iload_n 3, 1) := by decide +kernel
theorem dX9_beamOf_4 : decode cX9_beamOf 4 = .ok (.invokevirtual 195, 3) := by decide +kernel
theorem dX9_beamOf_7 : decode cX9_beamOf 7 = .ok (.iload_n 3, 1) := by decide +kernel
theorem dX9_beamOf_8 : decode cX9_beamOf 8 = .ok (.invokevirtual 216, 3) := by decide +kernel
theorem dX9_beamOf_11 : decode cX9_beamOf 11 = .ok (.ireturn, 1) := by decide +kernel
theorem dX9_missing_0 : decode cX9_missing 0 = .ok (.aload_n 0, 1) := by decide +kernel
theorem dX9_missing_1 : decode cX9_missing 1 = .ok (.iload_n 1, 1) := by decide +kernel
theorem dX9_missing_2 : decode cX9_missing 2 = .ok (.invokevirtual 75, 3) := by decide +kernel
theorem dX9_missing_5 : decode cX9_missing 5 = .ok (.astore_n 3, 1) := by decide +kernel
theorem dX9_missing_6 : decode cX9_missing 6 = .ok (.iload_n 2, 1) := by decide +kernel
theorem dX9_missing_7 : decode cX9_missing 7 = .ok (.invokestatic 127, 3) := by decide +kernel
theorem dX9_missing_10 : decode cX9_missing 10 = .ok (.aload_n 0, 1) := by decide +kernel
theorem dX9_missing_11 : decode cX9_missing 11 = .ok (.getfield 19, 3) := by decide +kernel
theorem dX9_missing_14 : decode cX9_missing 14 = .ok (.aload_n 3, 1) := by decide +kernel
theorem dX9_missing_15 : decode cX9_missing 15 = .ok (.invokevirtual 219, 3) := by decide +kernel
theorem dX9_missing_18 : decode cX9_missing 18 = .ok (.iload_n 2, 1) := by decide +kernel
theorem dX9_missing_19 : decode cX9_missing 19 = .ok (.invokevirtual 222, 3) := by decide +kernel
theorem dX9_missing_22 : decode cX9_missing 22 = .ok (.ireturn, 1) := by decide +kernel
theorem dX9_moments_0 : decode cX9_moments 0 = .ok (.aload_n 0, 1) := by decide +kernel
theorem dX9_moments_1 : decode cX9_moments 1 = .ok (.invokevirtual 225, 3) := by decide +kernel
theorem dX9_moments_4 : decode cX9_moments 4 = .ok (.aload_n 0, 1) := by decide +kernel
theorem dX9_moments_5 : decode cX9_moments 5 = .ok (.getfield 33, 3) := by decide +kernel
theorem dX9_moments_8 : decode cX9_moments 8 = .ok (.invokevirtual 228, 3) := by decide +kernel
theorem dX9_moments_11 : decode cX9_moments 11 = .ok (.ireturn, 1) := by decide +kernel
theorem dX9_tickOf_0 : decode cX9_tickOf 0 = .ok (.aload_n 0, 1) := by decide +kernel
theorem dX9_tickOf_1 : decode cX9_tickOf 1 = .ok (.iload_n 1, 1) := by decide +kernel
theorem dX9_tickOf_2 : decode cX9_tickOf 2 = .ok (.invokevirtual 229, 3) := by decide +kernel
theorem dX9_tickOf_5 : decode cX9_tickOf 5 = .ok (.aload_n 0, 1) := by decide +kernel
theorem dX9_tickOf_6 : decode cX9_tickOf 6 = .ok (.getfield 33, 3) := by decide +kernel
theorem dX9_tickOf_9 : decode cX9_tickOf 9 = .ok (.iload_n 1, 1) := by decide +kernel
theorem dX9_tickOf_10 : decode cX9_tickOf 10 = .ok (.invokevirtual 232, 3) := by decide +kernel
theorem dX9_tickOf_13 : decode cX9_tickOf 13 = .ok (.ireturn, 1) := by decide +kernel
theorem dX9_root_0 : decode cX9_root 0 = .ok (.aload_n 0, 1) := by decide +kernel
theorem dX9_root_1 : decode cX9_root 1 = .ok (.iload_n 1, 1) := by decide +kernel
theorem dX9_root_2 : decode cX9_root 2 = .ok (.invokevirtual 229, 3) := by decide +kernel
theorem dX9_root_5 : decode cX9_root 5 = .ok (.aload_n 0, 1) := by decide +kernel
theorem dX9_root_6 : decode cX9_root 6 = .ok (.iload_n 1, 1) := by decide +kernel
theorem dX9_root_7 : decode cX9_root 7 = .ok (.invokevirtual 237, 3) := by decide +kernel
theorem dX9_root_10 : decode cX9_root 10 = .ok (.invokevirtual 241, 3) := by decide +kernel
theorem dX9_root_13 : decode cX9_root 13 = .ok (.ireturn, 1) := by decide +kernel
theorem dX9_kind_0 : decode cX9_kind 0 = .ok (.aload_n 0, 1) := by decide +kernel
theorem dX9_kind_1 : decode cX9_kind 1 = .ok (.iload_n 1, 1) := by decide +kernel
theorem dX9_kind_2 : decode cX9_kind 2 = .ok (.invokevirtual 229, 3) := by decide +kernel
theorem dX9_kind_5 : decode cX9_kind 5 = .ok (.aload_n 0, 1) := by decide +kernel
theorem dX9_kind_6 : decode cX9_kind 6 = .ok (.iload_n 1, 1) := by decide +kernel
theorem dX9_kind_7 : decode cX9_kind 7 = .ok (.invokevirtual 237, 3) := by decide +kernel
theorem dX9_kind_10 : decode cX9_kind 10 = .ok (.invokevirtual 244, 3) := by decide +kernel
theorem dX9_kind_13 : decode cX9_kind 13 = .ok (.ireturn, 1) := by decide +kernel
theorem dX9_inversion_0 : decode cX9_inversion 0 = .ok (.aload_n 0, 1) := by decide +kernel
theorem dX9_inversion_1 : decode cX9_inversion 1 = .ok (.iload_n 1, 1) := by decide +kernel
theorem dX9_inversion_2 : decode cX9_inversion 2 = .ok (.invokevirtual 229, 3) := by decide +kernel
theorem dX9_inversion_5 : decode cX9_inversion 5 = .ok (.aload_n 0, 1) := by decide +kernel
theorem dX9_inversion_6 : decode cX9_inversion 6 = .ok (.iload_n 1, 1) := by decide +kernel
theorem dX9_inversion_7 : decode cX9_inversion 7 = .ok (.invokevirtual 237, 3) := by decide +kernel
theorem dX9_inversion_10 : decode cX9_inversion 10 = .ok (.invokevirtual 247, 3) := by decide +kernel
theorem dX9_inversion_13 : decode cX9_inversion 13 = .ok (.ireturn, 1) := by decide +kernel
theorem dX9_faults_0 : decode cX9_faults 0 = .ok (.aload_n 0, 1) := by decide +kernel
theorem dX9_faults_1 : decode cX9_faults 1 = .ok (.invokevirtual 250, 3) := by decide +kernel
theorem dX9_faults_4 : decode cX9_faults 4 = .ok (.aload_n 0, 1) := by decide +kernel
theorem dX9_faults_5 : decode cX9_faults 5 = .ok (.getfield 47, 3) := by decide +kernel
theorem dX9_faults_8 : decode cX9_faults 8 = .ok (.invokevirtual 253, 3) := by decide +kernel
theorem dX9_faults_11 : decode cX9_faults 11 = .ok (.ireturn, 1) := by decide +kernel
theorem dX9_kindOfFault_0 : decode cX9_kindOfFault 0 = .ok (.aload_n 0, 1) := by decide +kernel
theorem dX9_kindOfFault_1 : decode cX9_kindOfFault 1 = .ok (.invokevirtual 250, 3) := by decide +kernel
theorem dX9_kindOfFault_4 : decode cX9_kindOfFault 4 = .ok (.aload_n 0, 1) := by decide +kernel
theorem dX9_kindOfFault_5 : decode cX9_kindOfFault 5 = .ok (.iload_n 1, 1) := by decide +kernel
theorem dX9_kindOfFault_6 : decode cX9_kindOfFault 6 = .ok (.invokevirtual 254, 3) := by decide +kernel
theorem dX9_kindOfFault_9 : decode cX9_kindOfFault 9 = .ok (.aload_n 0, 1) := by decide +kernel
theorem dX9_kindOfFault_10 : decode cX9_kindOfFault 10 = .ok (.getfield 47, 3) := by decide +kernel
theorem dX9_kindOfFault_13 : decode cX9_kindOfFault 13 = .ok (.iload_n 1, 1) := by decide +kernel
theorem dX9_kindOfFault_14 : decode cX9_kindOfFault 14 = .ok (.invokevirtual 257, 3) := by decide +kernel
theorem dX9_kindOfFault_17 : decode cX9_kindOfFault 17 = .ok (.ireturn, 1) := by decide +kernel
theorem dX9_tickOfFault_0 : decode cX9_tickOfFault 0 = .ok (.aload_n 0, 1) := by decide +kernel
theorem dX9_tickOfFault_1 : decode cX9_tickOfFault 1 = .ok (.invokevirtual 250, 3) := by decide +kernel
theorem dX9_tickOfFault_4 : decode cX9_tickOfFault 4 = .ok (.aload_n 0, 1) := by decide +kernel
theorem dX9_tickOfFault_5 : decode cX9_tickOfFault 5 = .ok (.iload_n 1, 1) := by decide +kernel
theorem dX9_tickOfFault_6 : decode cX9_tickOfFault 6 = .ok (.invokevirtual 254, 3) := by decide +kernel
theorem dX9_tickOfFault_9 : decode cX9_tickOfFault 9 = .ok (.aload_n 0, 1) := by decide +kernel
theorem dX9_tickOfFault_10 : decode cX9_tickOfFault 10 = .ok (.getfield 47, 3) := by decide +kernel
theorem dX9_tickOfFault_13 : decode cX9_tickOfFault 13 = .ok (.iload_n 1, 1) := by decide +kernel
theorem dX9_tickOfFault_14 : decode cX9_tickOfFault 14 = .ok (.invokevirtual 260, 3) := by decide +kernel
theorem dX9_tickOfFault_17 : decode cX9_tickOfFault 17 = .ok (.ireturn, 1) := by decide +kernel
theorem dX9_partsOfFault_0 : decode cX9_partsOfFault 0 = .ok (.aload_n 0, 1) := by decide +kernel
theorem dX9_partsOfFault_1 : decode cX9_partsOfFault 1 = .ok (.invokevirtual 250, 3) := by decide +kernel
theorem dX9_partsOfFault_4 : decode cX9_partsOfFault 4 = .ok (.aload_n 0, 1) := by decide +kernel
theorem dX9_partsOfFault_5 : decode cX9_partsOfFault 5 = .ok (.iload_n 1, 1) := by decide +kernel
theorem dX9_partsOfFault_6 : decode cX9_partsOfFault 6 = .ok (.invokevirtual 254, 3) := by decide +kernel
theorem dX9_partsOfFault_9 : decode cX9_partsOfFault 9 = .ok (.aload_n 0, 1) := by decide +kernel
theorem dX9_partsOfFault_10 : decode cX9_partsOfFault 10 = .ok (.getfield 47, 3) := by decide +kernel
theorem dX9_partsOfFault_13 : decode cX9_partsOfFault 13 = .ok (.iload_n 1, 1) := by decide +kernel
theorem dX9_partsOfFault_14 : decode cX9_partsOfFault 14 = .ok (.invokevirtual 261, 3) := by decide +kernel
theorem dX9_partsOfFault_17 : decode cX9_partsOfFault 17 = .ok (.ireturn, 1) := by decide +kernel
theorem dX9_bars_0 : decode cX9_bars 0 = .ok (.aload_n 0, 1) := by decide +kernel
theorem dX9_bars_1 : decode cX9_bars 1 = .ok (.getfield 19, 3) := by decide +kernel
theorem dX9_bars_4 : decode cX9_bars 4 = .ok (.aload_n 0, 1) := by decide +kernel
theorem dX9_bars_5 : decode cX9_bars 5 = .ok (.invokevirtual 274, 3) := by decide +kernel
theorem dX9_bars_8 : decode cX9_bars 8 = .ok (.invokevirtual 277, 3) := by decide +kernel
theorem dX9_bars_11 : decode cX9_bars 11 = .ok (.ireturn, 1) := by decide +kernel
theorem dX9_widthOf_0 : decode cX9_widthOf 0 = .ok (.iload_n 1, 1) := by decide +kernel
theorem dX9_widthOf_1 : decode cX9_widthOf 1 = .ok (.invokestatic 127, 3) := by decide +kernel
theorem dX9_widthOf_4 : decode cX9_widthOf 4 = .ok (.aload_n 0, 1) := by decide +kernel
theorem dX9_widthOf_5 : decode cX9_widthOf 5 = .ok (.invokevirtual 280, 3) := by decide +kernel
theorem dX9_widthOf_8 : decode cX9_widthOf 8 = .ok (.aload_n 0, 1) := by decide +kernel
theorem dX9_widthOf_9 : decode cX9_widthOf 9 = .ok (.getfield 54, 3) := by decide +kernel
theorem dX9_widthOf_12 : decode cX9_widthOf 12 = .ok (.iload_n 1, 1) := by decide +kernel
theorem dX9_widthOf_13 : decode cX9_widthOf 13 = .ok (.invokevirtual 283, 3) := by decide +kernel
theorem dX9_widthOf_16 : decode cX9_widthOf 16 = .ok (.ireturn, 1) := by decide +kernel
theorem dX9_lines_0 : decode cX9_lines 0 = .ok (.iload_n 1, 1) := by decide +kernel
theorem dX9_lines_1 : decode cX9_lines 1 = .ok (.invokestatic 286, 3) := by decide +kernel
theorem dX9_lines_4 : decode cX9_lines 4 = .ok (.aload_n 0, 1) := by decide +kernel
theorem dX9_lines_5 : decode cX9_lines 5 = .ok (.invokevirtual 280, 3) := by decide +kernel
theorem dX9_lines_8 : decode cX9_lines 8 = .ok (.aload_n 0, 1) := by decide +kernel
theorem dX9_lines_9 : decode cX9_lines 9 = .ok (.iload_n 1, 1) := by decide +kernel
theorem dX9_lines_10 : decode cX9_lines 10 = .ok (.invokevirtual 289, 3) := by decide +kernel
theorem dX9_lines_13 : decode cX9_lines 13 = .ok (.aload_n 0, 1) := by decide +kernel
theorem dX9_lines_14 : decode cX9_lines 14 = .ok (.getfield 54, 3) := by decide +kernel
theorem dX9_lines_17 : decode cX9_lines 17 = .ok (.invokevirtual 292, 3) := by decide +kernel
theorem dX9_lines_20 : decode cX9_lines 20 = .ok (.ireturn, 1) := by decide +kernel
theorem dX9_lineOf_0 : decode cX9_lineOf 0 = .ok (.iload_n 2, 1) := by decide +kernel
theorem dX9_lineOf_1 : decode cX9_lineOf 1 = .ok (.invokestatic 127, 3) := by decide +kernel
theorem dX9_lineOf_4 : decode cX9_lineOf 4 = .ok (.iload_n 1, 1) := by decide +kernel
theorem dX9_lineOf_5 : decode cX9_lineOf 5 = .ok (.invokestatic 286, 3) := by decide +kernel
theorem dX9_lineOf_8 : decode cX9_lineOf 8 = .ok (.aload_n 0, 1) := by decide +kernel
theorem dX9_lineOf_9 : decode cX9_lineOf 9 = .ok (.invokevirtual 280, 3) := by decide +kernel
theorem dX9_lineOf_12 : decode cX9_lineOf 12 = .ok (.aload_n 0, 1) := by decide +kernel
theorem dX9_lineOf_13 : decode cX9_lineOf 13 = .ok (.iload_n 1, 1) := by decide +kernel
theorem dX9_lineOf_14 : decode cX9_lineOf 14 = .ok (.invokevirtual 289, 3) := by decide +kernel
theorem dX9_lineOf_17 : decode cX9_lineOf 17 = .ok (.aload_n 0, 1) := by decide +kernel
theorem dX9_lineOf_18 : decode cX9_lineOf 18 = .ok (.getfield 54, 3) := by decide +kernel
theorem dX9_lineOf_21 : decode cX9_lineOf 21 = .ok (.iload_n 2, 1) := by decide +kernel
theorem dX9_lineOf_22 : decode cX9_lineOf 22 = .ok (.invokevirtual 293, 3) := by decide +kernel
theorem dX9_lineOf_25 : decode cX9_lineOf 25 = .ok (.ireturn, 1) := by decide +kernel
theorem dX9_costOf_0 : decode cX9_costOf 0 = .ok (.iload_n 1, 1) := by decide +kernel
theorem dX9_costOf_1 : decode cX9_costOf 1 = .ok (.invokestatic 286, 3) := by decide +kernel
theorem dX9_costOf_4 : decode cX9_costOf 4 = .ok (.aload_n 0, 1) := by decide +kernel
theorem dX9_costOf_5 : decode cX9_costOf 5 = .ok (.invokevirtual 280, 3) := by decide +kernel
theorem dX9_costOf_8 : decode cX9_costOf 8 = .ok (.aload_n 0, 1) := by decide +kernel
theorem dX9_costOf_9 : decode cX9_costOf 9 = .ok (.iload_n 1, 1) := by decide +kernel
theorem dX9_costOf_10 : decode cX9_costOf 10 = .ok (.invokevirtual 289, 3) := by decide +kernel
theorem dX9_costOf_13 : decode cX9_costOf 13 = .ok (.aload_n 0, 1) := by decide +kernel
theorem dX9_costOf_14 : decode cX9_costOf 14 = .ok (.getfield 54, 3) := by decide +kernel
theorem dX9_costOf_17 : decode cX9_costOf 17 = .ok (.invokevirtual 296, 3) := by decide +kernel
theorem dX9_costOf_20 : decode cX9_costOf 20 = .ok (.ireturn, 1) := by decide +kernel
theorem dX9_digest_0 : decode cX9_digest 0 = .ok (.aload_n 0, 1) := by decide +kernel
theorem dX9_digest_1 : decode cX9_digest 1 = .ok (.invokevirtual 280, 3) := by decide +kernel
theorem dX9_digest_4 : decode cX9_digest 4 = .ok (.aload_n 0, 1) := by decide +kernel
theorem dX9_digest_5 : decode cX9_digest 5 = .ok (.invokevirtual 250, 3) := by decide +kernel
theorem dX9_digest_8 : decode cX9_digest 8 = .ok (.ldc2_w 305, 3) := by decide +kernel
theorem dX9_digest_11 : decode cX9_digest 11 = .ok (.lstore_n 1, 1) := by decide +kernel
theorem dX9_digest_12 : decode cX9_digest 12 = .ok (.iconst 0, 1) := by decide +kernel
theorem dX9_digest_13 : decode cX9_digest 13 = .ok (.istore_n 3, 1) := by decide +kernel
theorem dX9_digest_14 : decode cX9_digest 14 = .ok (.iload_n 3, 1) := by decide +kernel
theorem dX9_digest_15 : decode cX9_digest 15 = .ok (.aload_n 0, 1) := by decide +kernel
theorem dX9_digest_16 : decode cX9_digest 16 = .ok (.getfield 11, 3) := by decide +kernel
theorem dX9_digest_19 : decode cX9_digest 19 = .ok (.arraylength, 1) := by decide +kernel
theorem dX9_digest_20 : decode cX9_digest 20 = .ok (.if_icmp .ge 21, 3) := by decide +kernel
theorem dX9_digest_23 : decode cX9_digest 23 = .ok (.aload_n 0, 1) := by decide +kernel
theorem dX9_digest_24 : decode cX9_digest 24 = .ok (.lload_n 1, 1) := by decide +kernel
theorem dX9_digest_25 : decode cX9_digest 25 = .ok (.aload_n 0, 1) := by decide +kernel
theorem dX9_digest_26 : decode cX9_digest 26 = .ok (.getfield 11, 3) := by decide +kernel
theorem dX9_digest_29 : decode cX9_digest 29 = .ok (.iload_n 3, 1) := by decide +kernel
theorem dX9_digest_30 : decode cX9_digest 30 = .ok (.aaload, 1) := by decide +kernel
theorem dX9_digest_31 : decode cX9_digest 31 = .ok (.invokevirtual 307, 3) := by decide +kernel
theorem dX9_digest_34 : decode cX9_digest 34 = .ok (.lstore_n 1, 1) := by decide +kernel
theorem dX9_digest_35 : decode cX9_digest 35 = .ok (.iinc 3 1, 3) := by decide +kernel
theorem dX9_digest_38 : decode cX9_digest 38 = .ok (.goto (-24), 3) := by decide +kernel
theorem dX9_digest_41 : decode cX9_digest 41 = .ok (.iconst 0, 1) := by decide +kernel
theorem dX9_digest_42 : decode cX9_digest 42 = .ok (.istore_n 3, 1) := by decide +kernel
theorem dX9_digest_43 : decode cX9_digest 43 = .ok (.iload_n 3, 1) := by decide +kernel
theorem dX9_digest_44 : decode cX9_digest 44 = .ok (.bipush 24, 2) := by decide +kernel
theorem dX9_digest_46 : decode cX9_digest 46 = .ok (.if_icmp .ge 16, 3) := by decide +kernel
theorem dX9_digest_49 : decode cX9_digest 49 = .ok (.aload_n 0, 1) := by decide +kernel
theorem dX9_digest_50 : decode cX9_digest 50 = .ok (.lload_n 1, 1) := by decide +kernel
theorem dX9_digest_51 : decode cX9_digest 51 = .ok (.iload_n 3, 1) := by decide +kernel
theorem dX9_digest_52 : decode cX9_digest 52 = .ok (.invokevirtual 311, 3) := by decide +kernel
theorem dX9_digest_55 : decode cX9_digest 55 = .ok (.lstore_n 1, 1) := by decide +kernel
theorem dX9_digest_56 : decode cX9_digest 56 = .ok (.iinc 3 1, 3) := by decide +kernel
theorem dX9_digest_59 : decode cX9_digest 59 = .ok (.goto (-16), 3) := by decide +kernel
theorem dX9_digest_62 : decode cX9_digest 62 = .ok (.aload_n 0, 1) := by decide +kernel
theorem dX9_digest_63 : decode cX9_digest 63 = .ok (.lload_n 1, 1) := by decide +kernel
theorem dX9_digest_64 : decode cX9_digest 64 = .ok (.invokevirtual 315, 3) := by decide +kernel
theorem dX9_digest_67 : decode cX9_digest 67 = .ok (.lstore_n 1, 1) := by decide +kernel
theorem dX9_digest_68 : decode cX9_digest 68 = .ok (.aload_n 0, 1) := by decide +kernel
theorem dX9_digest_69 : decode cX9_digest 69 = .ok (.lload_n 1, 1) := by decide +kernel
theorem dX9_digest_70 : decode cX9_digest 70 = .ok (.invokevirtual 319, 3) := by decide +kernel
theorem dX9_digest_73 : decode cX9_digest 73 = .ok (.lstore_n 1, 1) := by decide +kernel
theorem dX9_digest_74 : decode cX9_digest 74 = .ok (.lload_n 1, 1) := by decide +kernel
theorem dX9_digest_75 : decode cX9_digest 75 = .ok (.aload_n 0, 1) := by decide +kernel
theorem dX9_digest_76 : decode cX9_digest 76 = .ok (.invokevirtual 322, 3) := by decide +kernel
theorem dX9_digest_79 : decode cX9_digest 79 = .ok (.i2l, 1) := by decide +kernel
theorem dX9_digest_80 : decode cX9_digest 80 = .ok (.invokestatic 325, 3) := by decide +kernel
theorem dX9_digest_83 : decode cX9_digest 83 = .ok (.lstore_n 1, 1) := by decide +kernel
theorem dX9_digest_84 : decode cX9_digest 84 = .ok (.aload_n 0, 1) := by decide +kernel
theorem dX9_digest_85 : decode cX9_digest 85 = .ok (.lload_n 1, 1) := by decide +kernel
theorem dX9_digest_86 : decode cX9_digest 86 = .ok (.bipush 40, 2) := by decide +kernel
theorem dX9_digest_88 : decode cX9_digest 88 = .ok (.invokevirtual 329, 3) := by decide +kernel
theorem dX9_digest_91 : decode cX9_digest 91 = .ok (.lstore_n 1, 1) := by decide +kernel
theorem dX9_digest_92 : decode cX9_digest 92 = .ok (.aload_n 0, 1) := by decide +kernel
theorem dX9_digest_93 : decode cX9_digest 93 = .ok (.lload_n 1, 1) := by decide +kernel
theorem dX9_digest_94 : decode cX9_digest 94 = .ok (.bipush 100, 2) := by decide +kernel
theorem dX9_digest_96 : decode cX9_digest 96 = .ok (.invokevirtual 329, 3) := by decide +kernel
theorem dX9_digest_99 : decode cX9_digest 99 = .ok (.lreturn, 1) := by decide +kernel
theorem dX9_mix_0 : decode cX9_mix 0 = .ok (.lload_n 0, 1) := by decide +kernel
theorem dX9_mix_1 : decode cX9_mix 1 = .ok (.ldc2_w 332, 3) := by decide +kernel
theorem dX9_mix_4 : decode cX9_mix 4 = .ok (.lmul, 1) := by decide +kernel
theorem dX9_mix_5 : decode cX9_mix 5 = .ok (.lload_n 2, 1) := by decide +kernel
theorem dX9_mix_6 : decode cX9_mix 6 = .ok (.ladd, 1) := by decide +kernel
theorem dX9_mix_7 : decode cX9_mix 7 = .ok (.lreturn, 1) := by decide +kernel
theorem dX9_mixPart_0 : decode cX9_mixPart 0 = .ok (.lload_n 1, 1) := by decide +kernel
theorem dX9_mixPart_1 : decode cX9_mixPart 1 = .ok (.aload_n 3, 1) := by decide +kernel
theorem dX9_mixPart_2 : decode cX9_mixPart 2 = .ok (.invokevirtual 98, 3) := by decide +kernel
theorem dX9_mixPart_5 : decode cX9_mixPart 5 = .ok (.i2l, 1) := by decide +kernel
theorem dX9_mixPart_6 : decode cX9_mixPart 6 = .ok (.invokestatic 325, 3) := by decide +kernel
theorem dX9_mixPart_9 : decode cX9_mixPart 9 = .ok (.lstore_n 1, 1) := by decide +kernel
theorem dX9_mixPart_10 : decode cX9_mixPart 10 = .ok (.iconst 0, 1) := by decide +kernel
theorem dX9_mixPart_11 : decode cX9_mixPart 11 = .ok (.istore 4, 2) := by decide +kernel
theorem dX9_mixPart_13 : decode cX9_mixPart 13 = .ok (.iload 4, 2) := by decide +kernel
theorem dX9_mixPart_15 : decode cX9_mixPart 15 = .ok (.aload_n 3, 1) := by decide +kernel
theorem dX9_mixPart_16 : decode cX9_mixPart 16 = .ok (.invokevirtual 98, 3) := by decide +kernel
theorem dX9_mixPart_19 : decode cX9_mixPart 19 = .ok (.if_icmp .ge 76, 3) := by decide +kernel
theorem dX9_mixPart_22 : decode cX9_mixPart 22 = .ok (.lload_n 1, 1) := by decide +kernel
theorem dX9_mixPart_23 : decode cX9_mixPart 23 = .ok (.aload_n 3, 1) := by decide +kernel
theorem dX9_mixPart_24 : decode cX9_mixPart 24 = .ok (.iload 4, 2) := by decide +kernel
theorem dX9_mixPart_26 : decode cX9_mixPart 26 = .ok (.invokevirtual 166, 3) := by decide +kernel
theorem dX9_mixPart_29 : decode cX9_mixPart 29 = .ok (.i2l, 1) := by decide +kernel
theorem dX9_mixPart_30 : decode cX9_mixPart 30 = .ok (.invokestatic 325, 3) := by decide +kernel
theorem dX9_mixPart_33 : decode cX9_mixPart 33 = .ok (.lstore_n 1, 1) := by decide +kernel
theorem dX9_mixPart_34 : decode cX9_mixPart 34 = .ok (.lload_n 1, 1) := by decide +kernel
theorem dX9_mixPart_35 : decode cX9_mixPart 35 = .ok (.aload_n 3, 1) := by decide +kernel
theorem dX9_mixPart_36 : decode cX9_mixPart 36 = .ok (.iload 4, 2) := by decide +kernel
theorem dX9_mixPart_38 : decode cX9_mixPart 38 = .ok (.invokevirtual 119, 3) := by decide +kernel
theorem dX9_mixPart_41 : decode cX9_mixPart 41 = .ok (.i2l, 1) := by decide +kernel
theorem dX9_mixPart_42 : decode cX9_mixPart 42 = .ok (.invokestatic 325, 3) := by decide +kernel
theorem dX9_mixPart_45 : decode cX9_mixPart 45 = .ok (.lstore_n 1, 1) := by decide +kernel
theorem dX9_mixPart_46 : decode cX9_mixPart 46 = .ok (.lload_n 1, 1) := by decide +kernel
theorem dX9_mixPart_47 : decode cX9_mixPart 47 = .ok (.aload_n 0, 1) := by decide +kernel
theorem dX9_mixPart_48 : decode cX9_mixPart 48 = .ok (.getfield 19, 3) := by decide +kernel
theorem dX9_mixPart_51 : decode cX9_mixPart 51 = .ok (.aload_n 3, 1) := by decide +kernel
theorem dX9_mixPart_52 : decode cX9_mixPart 52 = .ok (.iload 4, 2) := by decide +kernel
theorem dX9_mixPart_54 : decode cX9_mixPart 54 = .ok (.invokevirtual 166, 3) := by decide +kernel
theorem dX9_mixPart_57 : decode cX9_mixPart 57 = .ok (.invokevirtual 169, 3) := by decide +kernel
theorem dX9_mixPart_60 : decode cX9_mixPart 60 = .ok (.i2l, 1) := by decide +kernel
theorem dX9_mixPart_61 : decode cX9_mixPart 61 = .ok (.invokestatic 325, 3) := by decide +kernel
theorem dX9_mixPart_64 : decode cX9_mixPart 64 = .ok (.lstore_n 1, 1) := by decide +kernel
theorem dX9_mixPart_65 : decode cX9_mixPart 65 = .ok (.lload_n 1, 1) := by decide +kernel
theorem dX9_mixPart_66 : decode cX9_mixPart 66 = .ok (.aload_n 3, 1) := by decide +kernel
theorem dX9_mixPart_67 : decode cX9_mixPart 67 = .ok (.iload 4, 2) := by decide +kernel
theorem dX9_mixPart_69 : decode cX9_mixPart 69 = .ok (.invokevirtual 172, 3) := by decide +kernel
theorem dX9_mixPart_72 : decode cX9_mixPart 72 = .ok (.i2l, 1) := by decide +kernel
theorem dX9_mixPart_73 : decode cX9_mixPart 73 = .ok (.invokestatic 325, 3) := by decide +kernel
theorem dX9_mixPart_76 : decode cX9_mixPart 76 = .ok (.lstore_n 1, 1) := by decide +kernel
theorem dX9_mixPart_77 : decode cX9_mixPart 77 = .ok (.lload_n 1, 1) := by decide +kernel
theorem dX9_mixPart_78 : decode cX9_mixPart 78 = .ok (.aload_n 3, 1) := by decide +kernel
theorem dX9_mixPart_79 : decode cX9_mixPart 79 = .ok (.iload 4, 2) := by decide +kernel
theorem dX9_mixPart_81 : decode cX9_mixPart 81 = .ok (.invokevirtual 175, 3) := by decide +kernel
theorem dX9_mixPart_84 : decode cX9_mixPart 84 = .ok (.i2l, 1) := by decide +kernel
theorem dX9_mixPart_85 : decode cX9_mixPart 85 = .ok (.invokestatic 325, 3) := by decide +kernel
theorem dX9_mixPart_88 : decode cX9_mixPart 88 = .ok (.lstore_n 1, 1) := by decide +kernel
theorem dX9_mixPart_89 : decode cX9_mixPart 89 = .ok (.iinc 4 1, 3) := by decide +kernel
theorem dX9_mixPart_92 : decode cX9_mixPart 92 = .ok (.goto (-79), 3) := by decide +kernel
theorem dX9_mixPart_95 : decode cX9_mixPart 95 = .ok (.lload_n 1, 1) := by decide +kernel
theorem dX9_mixPart_96 : decode cX9_mixPart 96 = .ok (.lreturn, 1) := by decide +kernel
theorem dX9_mixBar_0 : decode cX9_mixBar 0 = .ok (.lload_n 1, 1) := by decide +kernel
theorem dX9_mixBar_1 : decode cX9_mixBar 1 = .ok (.aload_n 0, 1) := by decide +kernel
theorem dX9_mixBar_2 : decode cX9_mixBar 2 = .ok (.getfield 19, 3) := by decide +kernel
theorem dX9_mixBar_5 : decode cX9_mixBar 5 = .ok (.iload_n 3, 1) := by decide +kernel
theorem dX9_mixBar_6 : decode cX9_mixBar 6 = .ok (.invokevirtual 189, 3) := by decide +kernel
theorem dX9_mixBar_9 : decode cX9_mixBar 9 = .ok (.i2l, 1) := by decide +kernel
theorem dX9_mixBar_10 : decode cX9_mixBar 10 = .ok (.invokestatic 325, 3) := by decide +kernel
theorem dX9_mixBar_13 : decode cX9_mixBar 13 = .ok (.lstore_n 1, 1) := by decide +kernel
theorem dX9_mixBar_14 : decode cX9_mixBar 14 = .ok (.lload_n 1, 1) := by decide +kernel
theorem dX9_mixBar_15 : decode cX9_mixBar 15 = .ok (.aload_n 0, 1) := by decide +kernel
theorem dX9_mixBar_16 : decode cX9_mixBar 16 = .ok (.getfield 19, 3) := by decide +kernel
theorem dX9_mixBar_19 : decode cX9_mixBar 19 = .ok (.iload_n 3, 1) := by decide +kernel
theorem dX9_mixBar_20 : decode cX9_mixBar 20 = .ok (.invokevirtual 138, 3) := by decide +kernel
theorem dX9_mixBar_23 : decode cX9_mixBar 23 = .ok (.i2l, 1) := by decide +kernel
theorem dX9_mixBar_24 : decode cX9_mixBar 24 = .ok (.invokestatic 325, 3) := by decide +kernel
theorem dX9_mixBar_27 : decode cX9_mixBar 27 = .ok (.lstore_n 1, 1) := by decide +kernel
theorem dX9_mixBar_28 : decode cX9_mixBar 28 = .ok (.lload_n 1, 1) := by decide +kernel
theorem dX9_mixBar_29 : decode cX9_mixBar 29 = .ok (.aload_n 0, 1) := by decide +kernel
theorem dX9_mixBar_30 : decode cX9_mixBar 30 = .ok (.getfield 54, 3) := by decide +kernel
theorem dX9_mixBar_33 : decode cX9_mixBar 33 = .ok (.iload_n 3, 1) := by decide +kernel
theorem dX9_mixBar_34 : decode cX9_mixBar 34 = .ok (.invokevirtual 283, 3) := by decide +kernel
theorem dX9_mixBar_37 : decode cX9_mixBar 37 = .ok (.i2l, 1) := by decide +kernel
theorem dX9_mixBar_38 : decode cX9_mixBar 38 = .ok (.invokestatic 325, 3) := by decide +kernel
theorem dX9_mixBar_41 : decode cX9_mixBar 41 = .ok (.lstore_n 1, 1) := by decide +kernel
theorem dX9_mixBar_42 : decode cX9_mixBar 42 = .ok (.iconst 0, 1) := by decide +kernel
theorem dX9_mixBar_43 : decode cX9_mixBar 43 = .ok (.istore 4, 2) := by decide +kernel
theorem dX9_mixBar_45 : decode cX9_mixBar 45 = .ok (.iload 4, 2) := by decide +kernel
theorem dX9_mixBar_47 : decode cX9_mixBar 47 = .ok (.aload_n 0, 1) := by decide +kernel
theorem dX9_mixBar_48 : decode cX9_mixBar 48 = .ok (.getfield 11, 3) := by decide +kernel
theorem dX9_mixBar_51 : decode cX9_mixBar 51 = .ok (.arraylength, 1) := by decide +kernel
theorem dX9_mixBar_52 : decode cX9_mixBar 52 = .ok (.if_icmp .ge 96, 3) := by decide +kernel
theorem dX9_mixBar_55 : decode cX9_mixBar 55 = .ok (.aload_n 0, 1) := by decide +kernel
theorem dX9_mixBar_56 : decode cX9_mixBar 56 = .ok (.iload 4, 2) := by decide +kernel
theorem dX9_mixBar_58 : decode cX9_mixBar 58 = .ok (.iload_n 3, 1) := by decide +kernel
theorem dX9_mixBar_59 : decode cX9_mixBar 59 = .ok (.invokevirtual 190, 3) := by decide +kernel
theorem dX9_mixBar_62 : decode cX9_mixBar 62 = .ok (.astore 5, 2) := by decide +kernel
theorem dX9_mixBar_64 : decode cX9_mixBar 64 = .ok (.lload_n 1, 1) := by decide +kernel
theorem dX9_mixBar_65 : decode cX9_mixBar 65 = .ok (.aload 5, 2) := by decide +kernel
theorem dX9_mixBar_67 : decode cX9_mixBar 67 = .ok (.invokevirtual 194, 3) := by decide +kernel
theorem dX9_mixBar_70 : decode cX9_mixBar 70 = .ok (.i2l, 1) := by decide +kernel
theorem dX9_mixBar_71 : decode cX9_mixBar 71 = .ok (.invokestatic 325, 3) := by decide +kernel
theorem dX9_mixBar_74 : decode cX9_mixBar 74 = .ok (.lstore_n 1, 1) := by decide +kernel
theorem dX9_mixBar_75 : decode cX9_mixBar 75 = .ok (.lload_n 1, 1) := by decide +kernel
theorem dX9_mixBar_76 : decode cX9_mixBar 76 = .ok (.aload 5, 2) := by decide +kernel
theorem dX9_mixBar_78 : decode cX9_mixBar 78 = .ok (.invokevirtual 213, 3) := by decide +kernel
theorem dX9_mixBar_81 : decode cX9_mixBar 81 = .ok (.i2l, 1) := by decide +kernel
theorem dX9_mixBar_82 : decode cX9_mixBar 82 = .ok (.invokestatic 325, 3) := by decide +kernel
theorem dX9_mixBar_85 : decode cX9_mixBar 85 = .ok (.lstore_n 1, 1) := by decide +kernel
theorem dX9_mixBar_86 : decode cX9_mixBar 86 = .ok (.lload_n 1, 1) := by decide +kernel
theorem dX9_mixBar_87 : decode cX9_mixBar 87 = .ok (.aload_n 0, 1) := by decide +kernel
theorem dX9_mixBar_88 : decode cX9_mixBar 88 = .ok (.getfield 19, 3) := by decide +kernel
theorem dX9_mixBar_91 : decode cX9_mixBar 91 = .ok (.aload_n 0, 1) := by decide +kernel
theorem dX9_mixBar_92 : decode cX9_mixBar 92 = .ok (.getfield 11, 3) := by decide +kernel
theorem dX9_mixBar_95 : decode cX9_mixBar 95 = .ok (.iload 4, 2) := by decide +kernel
theorem dX9_mixBar_97 : decode cX9_mixBar 97 = .ok (.aaload, 1) := by decide +kernel
theorem dX9_mixBar_98 : decode cX9_mixBar 98 = .ok (.invokevirtual 219, 3) := by decide +kernel
theorem dX9_mixBar_101 : decode cX9_mixBar 101 = .ok (.iload_n 3, 1) := by decide +kernel
theorem dX9_mixBar_102 : decode cX9_mixBar 102 = .ok (.invokevirtual 222, 3) := by decide +kernel
theorem dX9_mixBar_105 : decode cX9_mixBar 105 = .ok (.i2l, 1) := by decide +kernel
theorem dX9_mixBar_106 : decode cX9_mixBar 106 = .ok (.invokestatic 325, 3) := by decide +kernel
theorem dX9_mixBar_109 : decode cX9_mixBar 109 = .ok (.lstore_n 1, 1) := by decide +kernel
theorem dX9_mixBar_110 : decode cX9_mixBar 110 = .ok (.lload_n 1, 1) := by decide +kernel
theorem dX9_mixBar_111 : decode cX9_mixBar 111 = .ok (.aload_n 0, 1) := by decide +kernel
theorem dX9_mixBar_112 : decode cX9_mixBar 112 = .ok (.getfield 11, 3) := by decide +kernel
theorem dX9_mixBar_115 : decode cX9_mixBar 115 = .ok (.iload 4, 2) := by decide +kernel
theorem dX9_mixBar_117 : decode cX9_mixBar 117 = .ok (.aaload, 1) := by decide +kernel
theorem dX9_mixBar_118 : decode cX9_mixBar 118 = .ok (.aload_n 0, 1) := by decide +kernel
theorem dX9_mixBar_119 : decode cX9_mixBar 119 = .ok (.getfield 19, 3) := by decide +kernel
theorem dX9_mixBar_122 : decode cX9_mixBar 122 = .ok (.iload_n 3, 1) := by decide +kernel
theorem dX9_mixBar_123 : decode cX9_mixBar 123 = .ok (.invokevirtual 144, 3) := by decide +kernel
theorem dX9_mixBar_126 : decode cX9_mixBar 126 = .ok (.invokevirtual 186, 3) := by decide +kernel
theorem dX9_mixBar_129 : decode cX9_mixBar 129 = .ok (.i2l, 1) := by decide +kernel
theorem dX9_mixBar_130 : decode cX9_mixBar 130 = .ok (.invokestatic 325, 3) := by decide +kernel
theorem dX9_mixBar_133 : decode cX9_mixBar 133 = .ok (.lstore_n 1, 1) := by decide +kernel
theorem dX9_mixBar_134 : decode cX9_mixBar 134 = .ok (.aload_n 0, 1) := by decide +kernel
theorem dX9_mixBar_135 : decode cX9_mixBar 135 = .ok (.lload_n 1, 1) := by decide +kernel
theorem dX9_mixBar_136 : decode cX9_mixBar 136 = .ok (.aload 5, 2) := by decide +kernel
theorem dX9_mixBar_138 : decode cX9_mixBar 138 = .ok (.invokevirtual 334, 3) := by decide +kernel
theorem dX9_mixBar_141 : decode cX9_mixBar 141 = .ok (.lstore_n 1, 1) := by decide +kernel
theorem dX9_mixBar_142 : decode cX9_mixBar 142 = .ok (.iinc 4 1, 3) := by decide +kernel
theorem dX9_mixBar_145 : decode cX9_mixBar 145 = .ok (.goto (-100), 3) := by decide +kernel
theorem dX9_mixBar_148 : decode cX9_mixBar 148 = .ok (.lload_n 1, 1) := by decide +kernel
theorem dX9_mixBar_149 : decode cX9_mixBar 149 = .ok (.lreturn, 1) := by decide +kernel
theorem dX9_mixSigns_0 : decode cX9_mixSigns 0 = .ok (.iconst 0, 1) := by decide +kernel
theorem dX9_mixSigns_1 : decode cX9_mixSigns 1 = .ok (.istore 4, 2) := by decide +kernel
theorem dX9_mixSigns_3 : decode cX9_mixSigns 3 = .ok (.iload 4, 2) := by decide +kernel
theorem dX9_mixSigns_5 : decode cX9_mixSigns 5 = .ok (.aload_n 3, 1) := by decide +kernel
theorem dX9_mixSigns_6 : decode cX9_mixSigns 6 = .ok (.invokevirtual 194, 3) := by decide +kernel
theorem dX9_mixSigns_9 : decode cX9_mixSigns 9 = .ok (.if_icmp .ge 88, 3) := by decide +kernel
theorem dX9_mixSigns_12 : decode cX9_mixSigns 12 = .ok (.lload_n 1, 1) := by decide +kernel
theorem dX9_mixSigns_13 : decode cX9_mixSigns 13 = .ok (.aload_n 3, 1) := by decide +kernel
theorem dX9_mixSigns_14 : decode cX9_mixSigns 14 = .ok (.iload 4, 2) := by decide +kernel
theorem dX9_mixSigns_16 : decode cX9_mixSigns 16 = .ok (.invokevirtual 199, 3) := by decide +kernel
theorem dX9_mixSigns_19 : decode cX9_mixSigns 19 = .ok (.i2l, 1) := by decide +kernel
theorem dX9_mixSigns_20 : decode cX9_mixSigns 20 = .ok (.invokestatic 325, 3) := by decide +kernel
theorem dX9_mixSigns_23 : decode cX9_mixSigns 23 = .ok (.lstore_n 1, 1) := by decide +kernel
theorem dX9_mixSigns_24 : decode cX9_mixSigns 24 = .ok (.lload_n 1, 1) := by decide +kernel
theorem dX9_mixSigns_25 : decode cX9_mixSigns 25 = .ok (.aload_n 3, 1) := by decide +kernel
theorem dX9_mixSigns_26 : decode cX9_mixSigns 26 = .ok (.iload 4, 2) := by decide +kernel
theorem dX9_mixSigns_28 : decode cX9_mixSigns 28 = .ok (.invokevirtual 202, 3) := by decide +kernel
theorem dX9_mixSigns_31 : decode cX9_mixSigns 31 = .ok (.i2l, 1) := by decide +kernel
theorem dX9_mixSigns_32 : decode cX9_mixSigns 32 = .ok (.invokestatic 325, 3) := by decide +kernel
theorem dX9_mixSigns_35 : decode cX9_mixSigns 35 = .ok (.lstore_n 1, 1) := by decide +kernel
theorem dX9_mixSigns_36 : decode cX9_mixSigns 36 = .ok (.lload_n 1, 1) := by decide +kernel
theorem dX9_mixSigns_37 : decode cX9_mixSigns 37 = .ok (.aload_n 3, 1) := by decide +kernel
theorem dX9_mixSigns_38 : decode cX9_mixSigns 38 = .ok (.iload 4, 2) := by decide +kernel
theorem dX9_mixSigns_40 : decode cX9_mixSigns 40 = .ok (.invokevirtual 203, 3) := by decide +kernel
theorem dX9_mixSigns_43 : decode cX9_mixSigns 43 = .ok (.ifCond .eq 7, 3) := by decide +kernel
theorem dX9_mixSigns_46 : decode cX9_mixSigns 46 = .ok (.lconst 1, 1) := by decide +kernel
theorem dX9_mixSigns_47 : decode cX9_mixSigns 47 = .ok (.goto 4, 3) := by decide +kernel
theorem dX9_mixSigns_50 : decode cX9_mixSigns 50 = .ok (.lconst 0, 1) := by decide +kernel
theorem dX9_mixSigns_51 : decode cX9_mixSigns 51 = .ok (.invokestatic 325, 3) := by decide +kernel
theorem dX9_mixSigns_54 : decode cX9_mixSigns 54 = .ok (.lstore_n 1, 1) := by decide +kernel
theorem dX9_mixSigns_55 : decode cX9_mixSigns 55 = .ok (.lload_n 1, 1) := by decide +kernel
theorem dX9_mixSigns_56 : decode cX9_mixSigns 56 = .ok (.aload_n 3, 1) := by decide +kernel
theorem dX9_mixSigns_57 : decode cX9_mixSigns 57 = .ok (.iload 4, 2) := by decide +kernel
theorem dX9_mixSigns_59 : decode cX9_mixSigns 59 = .ok (.invokevirtual 207, 3) := by decide +kernel
theorem dX9_mixSigns_62 : decode cX9_mixSigns 62 = .ok (.i2l, 1) := by decide +kernel
theorem dX9_mixSigns_63 : decode cX9_mixSigns 63 = .ok (.invokestatic 325, 3) := by decide +kernel
theorem dX9_mixSigns_66 : decode cX9_mixSigns 66 = .ok (.lstore_n 1, 1) := by decide +kernel
theorem dX9_mixSigns_67 : decode cX9_mixSigns 67 = .ok (.lload_n 1, 1) := by decide +kernel
theorem dX9_mixSigns_68 : decode cX9_mixSigns 68 = .ok (.aload_n 3, 1) := by decide +kernel
theorem dX9_mixSigns_69 : decode cX9_mixSigns 69 = .ok (.iload 4, 2) := by decide +kernel
theorem dX9_mixSigns_71 : decode cX9_mixSigns 71 = .ok (.invokevirtual 210, 3) := by decide +kernel
theorem dX9_mixSigns_74 : decode cX9_mixSigns 74 = .ok (.i2l, 1) := by decide +kernel
theorem dX9_mixSigns_75 : decode cX9_mixSigns 75 = .ok (.invokestatic 325, 3) := by decide +kernel
theorem dX9_mixSigns_78 : decode cX9_mixSigns 78 = .ok (.lstore_n 1, 1) := by decide +kernel
theorem dX9_mixSigns_79 : decode cX9_mixSigns 79 = .ok (.lload_n 1, 1) := by decide +kernel
theorem dX9_mixSigns_80 : decode cX9_mixSigns 80 = .ok (.aload_n 3, 1) := by decide +kernel
theorem dX9_mixSigns_81 : decode cX9_mixSigns 81 = .ok (.iload 4, 2) := by decide +kernel
theorem dX9_mixSigns_83 : decode cX9_mixSigns 83 = .ok (.invokevirtual 216, 3) := by decide +kernel
theorem dX9_mixSigns_86 : decode cX9_mixSigns 86 = .ok (.i2l, 1) := by decide +kernel
theorem dX9_mixSigns_87 : decode cX9_mixSigns 87 = .ok (.invokestatic 325, 3) := by decide +kernel
theorem dX9_mixSigns_90 : decode cX9_mixSigns 90 = .ok (.lstore_n 1, 1) := by decide +kernel
theorem dX9_mixSigns_91 : decode cX9_mixSigns 91 = .ok (.iinc 4 1, 3) := by decide +kernel
theorem dX9_mixSigns_94 : decode cX9_mixSigns 94 = .ok (.goto (-91), 3) := by decide +kernel
theorem dX9_mixSigns_97 : decode cX9_mixSigns 97 = .ok (.lload_n 1, 1) := by decide +kernel
theorem dX9_mixSigns_98 : decode cX9_mixSigns 98 = .ok (.lreturn, 1) := by decide +kernel
theorem dX9_mixMoments_0 : decode cX9_mixMoments 0 = .ok (.lload_n 1, 1) := by decide +kernel
theorem dX9_mixMoments_1 : decode cX9_mixMoments 1 = .ok (.aload_n 0, 1) := by decide +kernel
theorem dX9_mixMoments_2 : decode cX9_mixMoments 2 = .ok (.getfield 33, 3) := by decide +kernel
theorem dX9_mixMoments_5 : decode cX9_mixMoments 5 = .ok (.invokevirtual 228, 3) := by decide +kernel
theorem dX9_mixMoments_8 : decode cX9_mixMoments 8 = .ok (.i2l, 1) := by decide +kernel
theorem dX9_mixMoments_9 : decode cX9_mixMoments 9 = .ok (.invokestatic 325, 3) := by decide +kernel
theorem dX9_mixMoments_12 : decode cX9_mixMoments 12 = .ok (.lstore_n 1, 1) := by decide +kernel
theorem dX9_mixMoments_13 : decode cX9_mixMoments 13 = .ok (.iconst 0, 1) := by decide +kernel
theorem dX9_mixMoments_14 : decode cX9_mixMoments 14 = .ok (.istore_n 3, 1) := by decide +kernel
theorem dX9_mixMoments_15 : decode cX9_mixMoments 15 = .ok (.iload_n 3, 1) := by decide +kernel
theorem dX9_mixMoments_16 : decode cX9_mixMoments 16 = .ok (.aload_n 0, 1) := by decide +kernel
theorem dX9_mixMoments_17 : decode cX9_mixMoments 17 = .ok (.getfield 33, 3) := by decide +kernel
theorem dX9_mixMoments_20 : decode cX9_mixMoments 20 = .ok (.invokevirtual 228, 3) := by decide +kernel
theorem dX9_mixMoments_23 : decode cX9_mixMoments 23 = .ok (.if_icmp .ge 108, 3) := by decide +kernel
theorem dX9_mixMoments_26 : decode cX9_mixMoments 26 = .ok (.lload_n 1, 1) := by decide +kernel
theorem dX9_mixMoments_27 : decode cX9_mixMoments 27 = .ok (.aload_n 0, 1) := by decide +kernel
theorem dX9_mixMoments_28 : decode cX9_mixMoments 28 = .ok (.getfield 33, 3) := by decide +kernel
theorem dX9_mixMoments_31 : decode cX9_mixMoments 31 = .ok (.iload_n 3, 1) := by decide +kernel
theorem dX9_mixMoments_32 : decode cX9_mixMoments 32 = .ok (.invokevirtual 232, 3) := by decide +kernel
theorem dX9_mixMoments_35 : decode cX9_mixMoments 35 = .ok (.i2l, 1) := by decide +kernel
theorem dX9_mixMoments_36 : decode cX9_mixMoments 36 = .ok (.invokestatic 325, 3) := by decide +kernel
theorem dX9_mixMoments_39 : decode cX9_mixMoments 39 = .ok (.lstore_n 1, 1) := by decide +kernel
theorem dX9_mixMoments_40 : decode cX9_mixMoments 40 = .ok (.iconst 0, 1) := by decide +kernel
theorem dX9_mixMoments_41 : decode cX9_mixMoments 41 = .ok (.istore 4, 2) := by decide +kernel
theorem dX9_mixMoments_43 : decode cX9_mixMoments 43 = .ok (.iload 4, 2) := by decide +kernel
theorem dX9_mixMoments_45 : decode cX9_mixMoments 45 = .ok (.aload_n 0, 1) := by decide +kernel
theorem dX9_mixMoments_46 : decode cX9_mixMoments 46 = .ok (.getfield 11, 3) := by decide +kernel
theorem dX9_mixMoments_49 : decode cX9_mixMoments 49 = .ok (.arraylength, 1) := by decide +kernel
theorem dX9_mixMoments_50 : decode cX9_mixMoments 50 = .ok (.if_icmp .ge 35, 3) := by decide +kernel
theorem dX9_mixMoments_53 : decode cX9_mixMoments 53 = .ok (.lload_n 1, 1) := by decide +kernel
theorem dX9_mixMoments_54 : decode cX9_mixMoments 54 = .ok (.aload_n 0, 1) := by decide +kernel
theorem dX9_mixMoments_55 : decode cX9_mixMoments 55 = .ok (.getfield 11, 3) := by decide +kernel
theorem dX9_mixMoments_58 : decode cX9_mixMoments 58 = .ok (.iload 4, 2) := by decide +kernel
theorem dX9_mixMoments_60 : decode cX9_mixMoments 60 = .ok (.aaload, 1) := by decide +kernel
theorem dX9_mixMoments_61 : decode cX9_mixMoments 61 = .ok (.aload_n 0, 1) := by decide +kernel
theorem dX9_mixMoments_62 : decode cX9_mixMoments 62 = .ok (.getfield 33, 3) := by decide +kernel
theorem dX9_mixMoments_65 : decode cX9_mixMoments 65 = .ok (.iload_n 3, 1) := by decide +kernel
theorem dX9_mixMoments_66 : decode cX9_mixMoments 66 = .ok (.iload 4, 2) := by decide +kernel
theorem dX9_mixMoments_68 : decode cX9_mixMoments 68 = .ok (.invokevirtual 235, 3) := by decide +kernel
theorem dX9_mixMoments_71 : decode cX9_mixMoments 71 = .ok (.invokevirtual 119, 3) := by decide +kernel
theorem dX9_mixMoments_74 : decode cX9_mixMoments 74 = .ok (.i2l, 1) := by decide +kernel
theorem dX9_mixMoments_75 : decode cX9_mixMoments 75 = .ok (.invokestatic 325, 3) := by decide +kernel
theorem dX9_mixMoments_78 : decode cX9_mixMoments 78 = .ok (.lstore_n 1, 1) := by decide +kernel
theorem dX9_mixMoments_79 : decode cX9_mixMoments 79 = .ok (.iinc 4 1, 3) := by decide +kernel
theorem dX9_mixMoments_82 : decode cX9_mixMoments 82 = .ok (.goto (-39), 3) := by decide +kernel
theorem dX9_mixMoments_85 : decode cX9_mixMoments 85 = .ok (.aload_n 0, 1) := by decide +kernel
theorem dX9_mixMoments_86 : decode cX9_mixMoments 86 = .ok (.iload_n 3, 1) := by decide +kernel
theorem dX9_mixMoments_87 : decode cX9_mixMoments 87 = .ok (.invokevirtual 237, 3) := by decide +kernel
theorem dX9_mixMoments_90 : decode cX9_mixMoments 90 = .ok (.astore 4, 2) := by decide +kernel
theorem dX9_mixMoments_92 : decode cX9_mixMoments 92 = .ok (.lload_n 1, 1) := by decide +kernel
theorem dX9_mixMoments_93 : decode cX9_mixMoments 93 = .ok (.aload 4, 2) := by decide +kernel
theorem dX9_mixMoments_95 : decode cX9_mixMoments 95 = .ok (.invokevirtual 241, 3) := by decide +kernel
theorem dX9_mixMoments_98 : decode cX9_mixMoments 98 = .ok (.i2l, 1) := by decide +kernel
theorem dX9_mixMoments_99 : decode cX9_mixMoments 99 = .ok (.invokestatic 325, 3) := by decide +kernel
theorem dX9_mixMoments_102 : decode cX9_mixMoments 102 = .ok (.lstore_n 1, 1) := by decide +kernel
theorem dX9_mixMoments_103 : decode cX9_mixMoments 103 = .ok (.lload_n 1, 1) := by decide +kernel
theorem dX9_mixMoments_104 : decode cX9_mixMoments 104 = .ok (.aload 4, 2) := by decide +kernel
theorem dX9_mixMoments_106 : decode cX9_mixMoments 106 = .ok (.invokevirtual 244, 3) := by decide +kernel
theorem dX9_mixMoments_109 : decode cX9_mixMoments 109 = .ok (.i2l, 1) := by decide +kernel
theorem dX9_mixMoments_110 : decode cX9_mixMoments 110 = .ok (.invokestatic 325, 3) := by decide +kernel
theorem dX9_mixMoments_113 : decode cX9_mixMoments 113 = .ok (.lstore_n 1, 1) := by decide +kernel
theorem dX9_mixMoments_114 : decode cX9_mixMoments 114 = .ok (.lload_n 1, 1) := by decide +kernel
theorem dX9_mixMoments_115 : decode cX9_mixMoments 115 = .ok (.aload 4, 2) := by decide +kernel
theorem dX9_mixMoments_117 : decode cX9_mixMoments 117 = .ok (.invokevirtual 247, 3) := by decide +kernel
theorem dX9_mixMoments_120 : decode cX9_mixMoments 120 = .ok (.i2l, 1) := by decide +kernel
theorem dX9_mixMoments_121 : decode cX9_mixMoments 121 = .ok (.invokestatic 325, 3) := by decide +kernel
theorem dX9_mixMoments_124 : decode cX9_mixMoments 124 = .ok (.lstore_n 1, 1) := by decide +kernel
theorem dX9_mixMoments_125 : decode cX9_mixMoments 125 = .ok (.iinc 3 1, 3) := by decide +kernel
theorem dX9_mixMoments_128 : decode cX9_mixMoments 128 = .ok (.goto (-113), 3) := by decide +kernel
theorem dX9_mixMoments_131 : decode cX9_mixMoments 131 = .ok (.lload_n 1, 1) := by decide +kernel
theorem dX9_mixMoments_132 : decode cX9_mixMoments 132 = .ok (.lreturn, 1) := by decide +kernel
theorem dX9_mixFaults_0 : decode cX9_mixFaults 0 = .ok (.lload_n 1, 1) := by decide +kernel
theorem dX9_mixFaults_1 : decode cX9_mixFaults 1 = .ok (.aload_n 0, 1) := by decide +kernel
theorem dX9_mixFaults_2 : decode cX9_mixFaults 2 = .ok (.getfield 47, 3) := by decide +kernel
theorem dX9_mixFaults_5 : decode cX9_mixFaults 5 = .ok (.invokevirtual 253, 3) := by decide +kernel
theorem dX9_mixFaults_8 : decode cX9_mixFaults 8 = .ok (.i2l, 1) := by decide +kernel
theorem dX9_mixFaults_9 : decode cX9_mixFaults 9 = .ok (.invokestatic 325, 3) := by decide +kernel
theorem dX9_mixFaults_12 : decode cX9_mixFaults 12 = .ok (.lstore_n 1, 1) := by decide +kernel
theorem dX9_mixFaults_13 : decode cX9_mixFaults 13 = .ok (.iconst 0, 1) := by decide +kernel
theorem dX9_mixFaults_14 : decode cX9_mixFaults 14 = .ok (.istore_n 3, 1) := by decide +kernel
theorem dX9_mixFaults_15 : decode cX9_mixFaults 15 = .ok (.iload_n 3, 1) := by decide +kernel
theorem dX9_mixFaults_16 : decode cX9_mixFaults 16 = .ok (.aload_n 0, 1) := by decide +kernel
theorem dX9_mixFaults_17 : decode cX9_mixFaults 17 = .ok (.getfield 47, 3) := by decide +kernel
theorem dX9_mixFaults_20 : decode cX9_mixFaults 20 = .ok (.invokevirtual 253, 3) := by decide +kernel
theorem dX9_mixFaults_23 : decode cX9_mixFaults 23 = .ok (.if_icmp .ge 51, 3) := by decide +kernel
theorem dX9_mixFaults_26 : decode cX9_mixFaults 26 = .ok (.lload_n 1, 1) := by decide +kernel
theorem dX9_mixFaults_27 : decode cX9_mixFaults 27 = .ok (.aload_n 0, 1) := by decide +kernel
theorem dX9_mixFaults_28 : decode cX9_mixFaults 28 = .ok (.getfield 47, 3) := by decide +kernel
theorem dX9_mixFaults_31 : decode cX9_mixFaults 31 = .ok (.iload_n 3, 1) := by decide +kernel
theorem dX9_mixFaults_32 : decode cX9_mixFaults 32 = .ok (.invokevirtual 257, 3) := by decide +kernel
theorem dX9_mixFaults_35 : decode cX9_mixFaults 35 = .ok (.i2l, 1) := by decide +kernel
theorem dX9_mixFaults_36 : decode cX9_mixFaults 36 = .ok (.invokestatic 325, 3) := by decide +kernel
theorem dX9_mixFaults_39 : decode cX9_mixFaults 39 = .ok (.lstore_n 1, 1) := by decide +kernel
theorem dX9_mixFaults_40 : decode cX9_mixFaults 40 = .ok (.lload_n 1, 1) := by decide +kernel
theorem dX9_mixFaults_41 : decode cX9_mixFaults 41 = .ok (.aload_n 0, 1) := by decide +kernel
theorem dX9_mixFaults_42 : decode cX9_mixFaults 42 = .ok (.getfield 47, 3) := by decide +kernel
theorem dX9_mixFaults_45 : decode cX9_mixFaults 45 = .ok (.iload_n 3, 1) := by decide +kernel
theorem dX9_mixFaults_46 : decode cX9_mixFaults 46 = .ok (.invokevirtual 260, 3) := by decide +kernel
theorem dX9_mixFaults_49 : decode cX9_mixFaults 49 = .ok (.i2l, 1) := by decide +kernel
theorem dX9_mixFaults_50 : decode cX9_mixFaults 50 = .ok (.invokestatic 325, 3) := by decide +kernel
theorem dX9_mixFaults_53 : decode cX9_mixFaults 53 = .ok (.lstore_n 1, 1) := by decide +kernel
theorem dX9_mixFaults_54 : decode cX9_mixFaults 54 = .ok (.lload_n 1, 1) := by decide +kernel
theorem dX9_mixFaults_55 : decode cX9_mixFaults 55 = .ok (.aload_n 0, 1) := by decide +kernel
theorem dX9_mixFaults_56 : decode cX9_mixFaults 56 = .ok (.getfield 47, 3) := by decide +kernel
theorem dX9_mixFaults_59 : decode cX9_mixFaults 59 = .ok (.iload_n 3, 1) := by decide +kernel
theorem dX9_mixFaults_60 : decode cX9_mixFaults 60 = .ok (.invokevirtual 261, 3) := by decide +kernel
theorem dX9_mixFaults_63 : decode cX9_mixFaults 63 = .ok (.i2l, 1) := by decide +kernel
theorem dX9_mixFaults_64 : decode cX9_mixFaults 64 = .ok (.invokestatic 325, 3) := by decide +kernel
theorem dX9_mixFaults_67 : decode cX9_mixFaults 67 = .ok (.lstore_n 1, 1) := by decide +kernel
theorem dX9_mixFaults_68 : decode cX9_mixFaults 68 = .ok (.iinc 3 1, 3) := by decide +kernel
theorem dX9_mixFaults_71 : decode cX9_mixFaults 71 = .ok (.goto (-56), 3) := by decide +kernel
theorem dX9_mixFaults_74 : decode cX9_mixFaults 74 = .ok (.lload_n 1, 1) := by decide +kernel
theorem dX9_mixFaults_75 : decode cX9_mixFaults 75 = .ok (.lreturn, 1) := by decide +kernel
theorem dX9_mixLines_0 : decode cX9_mixLines 0 = .ok (.aload_n 0, 1) := by decide +kernel
theorem dX9_mixLines_1 : decode cX9_mixLines 1 = .ok (.iload_n 3, 1) := by decide +kernel
theorem dX9_mixLines_2 : decode cX9_mixLines 2 = .ok (.invokevirtual 289, 3) := by decide +kernel
theorem dX9_mixLines_5 : decode cX9_mixLines 5 = .ok (.lload_n 1, 1) := by decide +kernel
theorem dX9_mixLines_6 : decode cX9_mixLines 6 = .ok (.aload_n 0, 1) := by decide +kernel
theorem dX9_mixLines_7 : decode cX9_mixLines 7 = .ok (.getfield 54, 3) := by decide +kernel
theorem dX9_mixLines_10 : decode cX9_mixLines 10 = .ok (.invokevirtual 292, 3) := by decide +kernel
theorem dX9_mixLines_13 : decode cX9_mixLines 13 = .ok (.i2l, 1) := by decide +kernel
theorem dX9_mixLines_14 : decode cX9_mixLines 14 = .ok (.invokestatic 325, 3) := by decide +kernel
theorem dX9_mixLines_17 : decode cX9_mixLines 17 = .ok (.lstore_n 1, 1) := by decide +kernel
theorem dX9_mixLines_18 : decode cX9_mixLines 18 = .ok (.lload_n 1, 1) := by decide +kernel
theorem dX9_mixLines_19 : decode cX9_mixLines 19 = .ok (.aload_n 0, 1) := by decide +kernel
theorem dX9_mixLines_20 : decode cX9_mixLines 20 = .ok (.getfield 54, 3) := by decide +kernel
theorem dX9_mixLines_23 : decode cX9_mixLines 23 = .ok (.invokevirtual 296, 3) := by decide +kernel
theorem dX9_mixLines_26 : decode cX9_mixLines 26 = .ok (.i2l, 1) := by decide +kernel
theorem dX9_mixLines_27 : decode cX9_mixLines 27 = .ok (.invokestatic 325, 3) := by decide +kernel
theorem dX9_mixLines_30 : decode cX9_mixLines 30 = .ok (.lreturn, 1) := by decide +kernel
theorem dX9_forgetWhatFollows_0 : decode cX9_forgetWhatFollows 0 = .ok (.aload_n 0, 1) := by decide +kernel
theorem dX9_forgetWhatFollows_1 : decode cX9_forgetWhatFollows 1 = .ok (.iconst 0, 1) := by decide +kernel
theorem dX9_forgetWhatFollows_2 : decode cX9_forgetWhatFollows 2 = .ok (.putfield 58, 3) := by decide +kernel
theorem dX9_forgetWhatFollows_5 : decode cX9_forgetWhatFollows 5 = .ok (.aload_n 0, 1) := by decide +kernel
theorem dX9_forgetWhatFollows_6 : decode cX9_forgetWhatFollows 6 = .ok (.iconst 0, 1) := by decide +kernel
theorem dX9_forgetWhatFollows_7 : decode cX9_forgetWhatFollows 7 = .ok (.putfield 62, 3) := by decide +kernel
theorem dX9_forgetWhatFollows_10 : decode cX9_forgetWhatFollows 10 = .ok (.aload_n 0, 1) := by decide +kernel
theorem dX9_forgetWhatFollows_11 : decode cX9_forgetWhatFollows 11 = .ok (.iconst 0, 1) := by decide +kernel
theorem dX9_forgetWhatFollows_12 : decode cX9_forgetWhatFollows 12 = .ok (.putfield 65, 3) := by decide +kernel
theorem dX9_forgetWhatFollows_15 : decode cX9_forgetWhatFollows 15 = .ok (.aload_n 0, 1) := by decide +kernel
theorem dX9_forgetWhatFollows_16 : decode cX9_forgetWhatFollows 16 = .ok (.iconst (-1), 1) := by decide +kernel
theorem dX9_forgetWhatFollows_17 : decode cX9_forgetWhatFollows 17 = .ok (.putfield 68, 3) := by decide +kernel
theorem dX9_forgetWhatFollows_20 : decode cX9_forgetWhatFollows 20 = .ok (.aload_n 0, 1) := by decide +kernel
theorem dX9_forgetWhatFollows_21 : decode cX9_forgetWhatFollows 21 = .ok (.iconst (-1), 1) := by decide +kernel
theorem dX9_forgetWhatFollows_22 : decode cX9_forgetWhatFollows 22 = .ok (.putfield 72, 3) := by decide +kernel
theorem dX9_forgetWhatFollows_25 : decode cX9_forgetWhatFollows 25 = .ok (.return_, 1) := by decide +kernel
theorem dX9_hear_0 : decode cX9_hear 0 = .ok (.aload_n 0, 1) := by decide +kernel
theorem dX9_hear_1 : decode cX9_hear 1 = .ok (.getfield 58, 3) := by decide +kernel
theorem dX9_hear_4 : decode cX9_hear 4 = .ok (.ifCond .ne 19, 3) := by decide +kernel
theorem dX9_hear_7 : decode cX9_hear 7 = .ok (.aload_n 0, 1) := by decide +kernel
theorem dX9_hear_8 : decode cX9_hear 8 = .ok (.getfield 33, 3) := by decide +kernel
theorem dX9_hear_11 : decode cX9_hear 11 = .ok (.aload_n 0, 1) := by decide +kernel
theorem dX9_hear_12 : decode cX9_hear 12 = .ok (.getfield 11, 3) := by decide +kernel
theorem dX9_hear_15 : decode cX9_hear 15 = .ok (.invokevirtual 338, 3) := by decide +kernel
theorem dX9_hear_18 : decode cX9_hear 18 = .ok (.aload_n 0, 1) := by decide +kernel
theorem dX9_hear_19 : decode cX9_hear 19 = .ok (.iconst 1, 1) := by decide +kernel
theorem dX9_hear_20 : decode cX9_hear 20 = .ok (.putfield 58, 3) := by decide +kernel
theorem dX9_hear_23 : decode cX9_hear 23 = .ok (.return_, 1) := by decide +kernel
theorem dX9_searchFaults_0 : decode cX9_searchFaults 0 = .ok (.aload_n 0, 1) := by decide +kernel
theorem dX9_searchFaults_1 : decode cX9_searchFaults 1 = .ok (.invokevirtual 225, 3) := by decide +kernel
theorem dX9_searchFaults_4 : decode cX9_searchFaults 4 = .ok (.aload_n 0, 1) := by decide +kernel
theorem dX9_searchFaults_5 : decode cX9_searchFaults 5 = .ok (.getfield 62, 3) := by decide +kernel
theorem dX9_searchFaults_8 : decode cX9_searchFaults 8 = .ok (.ifCond .ne 23, 3) := by decide +kernel
theorem dX9_searchFaults_11 : decode cX9_searchFaults 11 = .ok (.aload_n 0, 1) := by decide +kernel
theorem dX9_searchFaults_12 : decode cX9_searchFaults 12 = .ok (.getfield 47, 3) := by decide +kernel
theorem dX9_searchFaults_15 : decode cX9_searchFaults 15 = .ok (.aload_n 0, 1) := by decide +kernel
theorem dX9_searchFaults_16 : decode cX9_searchFaults 16 = .ok (.getfield 11, 3) := by decide +kernel
theorem dX9_searchFaults_19 : decode cX9_searchFaults 19 = .ok (.aload_n 0, 1) := by decide +kernel
theorem dX9_searchFaults_20 : decode cX9_searchFaults 20 = .ok (.getfield 33, 3) := by decide +kernel
theorem dX9_searchFaults_23 : decode cX9_searchFaults 23 = .ok (.invokevirtual 270, 3) := by decide +kernel
theorem dX9_searchFaults_26 : decode cX9_searchFaults 26 = .ok (.aload_n 0, 1) := by decide +kernel
theorem dX9_searchFaults_27 : decode cX9_searchFaults 27 = .ok (.iconst 1, 1) := by decide +kernel
theorem dX9_searchFaults_28 : decode cX9_searchFaults 28 = .ok (.putfield 62, 3) := by decide +kernel
theorem dX9_searchFaults_31 : decode cX9_searchFaults 31 = .ok (.return_, 1) := by decide +kernel
theorem dX9_measureWidths_0 : decode cX9_measureWidths 0 = .ok (.aload_n 0, 1) := by decide +kernel
theorem dX9_measureWidths_1 : decode cX9_measureWidths 1 = .ok (.invokevirtual 225, 3) := by decide +kernel
theorem dX9_measureWidths_4 : decode cX9_measureWidths 4 = .ok (.aload_n 0, 1) := by decide +kernel
theorem dX9_measureWidths_5 : decode cX9_measureWidths 5 = .ok (.getfield 65, 3) := by decide +kernel
theorem dX9_measureWidths_8 : decode cX9_measureWidths 8 = .ok (.ifCond .ne 23, 3) := by decide +kernel
theorem dX9_measureWidths_11 : decode cX9_measureWidths 11 = .ok (.aload_n 0, 1) := by decide +kernel
theorem dX9_measureWidths_12 : decode cX9_measureWidths 12 = .ok (.getfield 54, 3) := by decide +kernel
theorem dX9_measureWidths_15 : decode cX9_measureWidths 15 = .ok (.aload_n 0, 1) := by decide +kernel
theorem dX9_measureWidths_16 : decode cX9_measureWidths 16 = .ok (.getfield 19, 3) := by decide +kernel
theorem dX9_measureWidths_19 : decode cX9_measureWidths 19 = .ok (.aload_n 0, 1) := by decide +kernel
theorem dX9_measureWidths_20 : decode cX9_measureWidths 20 = .ok (.getfield 33, 3) := by decide +kernel
theorem dX9_measureWidths_23 : decode cX9_measureWidths 23 = .ok (.invokevirtual 342, 3) := by decide +kernel
theorem dX9_measureWidths_26 : decode cX9_measureWidths 26 = .ok (.aload_n 0, 1) := by decide +kernel
theorem dX9_measureWidths_27 : decode cX9_measureWidths 27 = .ok (.iconst 1, 1) := by decide +kernel
theorem dX9_measureWidths_28 : decode cX9_measureWidths 28 = .ok (.putfield 65, 3) := by decide +kernel
theorem dX9_measureWidths_31 : decode cX9_measureWidths 31 = .ok (.return_, 1) := by decide +kernel
theorem dX9_breakLines_0 : decode cX9_breakLines 0 = .ok (.aload_n 0, 1) := by decide +kernel
theorem dX9_breakLines_1 : decode cX9_breakLines 1 = .ok (.getfield 54, 3) := by decide +kernel
theorem dX9_breakLines_4 : decode cX9_breakLines 4 = .ok (.aload_n 0, 1) := by decide +kernel
theorem dX9_breakLines_5 : decode cX9_breakLines 5 = .ok (.getfield 19, 3) := by decide +kernel
theorem dX9_breakLines_8 : decode cX9_breakLines 8 = .ok (.aload_n 0, 1) := by decide +kernel
theorem dX9_breakLines_9 : decode cX9_breakLines 9 = .ok (.invokevirtual 274, 3) := by decide +kernel
theorem dX9_breakLines_12 : decode cX9_breakLines 12 = .ok (.invokevirtual 277, 3) := by decide +kernel
theorem dX9_breakLines_15 : decode cX9_breakLines 15 = .ok (.iload_n 1, 1) := by decide +kernel
theorem dX9_breakLines_16 : decode cX9_breakLines 16 = .ok (.invokevirtual 345, 3) := by decide +kernel
theorem dX9_breakLines_19 : decode cX9_breakLines 19 = .ok (.return_, 1) := by decide +kernel
theorem dX9_lastEnd_0 : decode cX9_lastEnd 0 = .ok (.iconst 0, 1) := by decide +kernel
theorem dX9_lastEnd_1 : decode cX9_lastEnd 1 = .ok (.istore_n 1, 1) := by decide +kernel
theorem dX9_lastEnd_2 : decode cX9_lastEnd 2 = .ok (.iconst 0, 1) := by decide +kernel
theorem dX9_lastEnd_3 : decode cX9_lastEnd 3 = .ok (.istore_n 2, 1) := by decide +kernel
theorem dX9_lastEnd_4 : decode cX9_lastEnd 4 = .ok (.iload_n 2, 1) := by decide +kernel
theorem dX9_lastEnd_5 : decode cX9_lastEnd 5 = .ok (.aload_n 0, 1) := by decide +kernel
theorem dX9_lastEnd_6 : decode cX9_lastEnd 6 = .ok (.getfield 11, 3) := by decide +kernel
theorem dX9_lastEnd_9 : decode cX9_lastEnd 9 = .ok (.arraylength, 1) := by decide +kernel
theorem dX9_lastEnd_10 : decode cX9_lastEnd 10 = .ok (.if_icmp .ge 23, 3) := by decide +kernel
theorem dX9_lastEnd_13 : decode cX9_lastEnd 13 = .ok (.iload_n 1, 1) := by decide +kernel
theorem dX9_lastEnd_14 : decode cX9_lastEnd 14 = .ok (.aload_n 0, 1) := by decide +kernel
theorem dX9_lastEnd_15 : decode cX9_lastEnd 15 = .ok (.getfield 11, 3) := by decide +kernel
theorem dX9_lastEnd_18 : decode cX9_lastEnd 18 = .ok (.iload_n 2, 1) := by decide +kernel
theorem dX9_lastEnd_19 : decode cX9_lastEnd 19 = .ok (.aaload, 1) := by decide +kernel
theorem dX9_lastEnd_20 : decode cX9_lastEnd 20 = .ok (.invokevirtual 219, 3) := by decide +kernel
theorem dX9_lastEnd_23 : decode cX9_lastEnd 23 = .ok (.invokestatic 348, 3) := by decide +kernel
theorem dX9_lastEnd_26 : decode cX9_lastEnd 26 = .ok (.istore_n 1, 1) := by decide +kernel
theorem dX9_lastEnd_27 : decode cX9_lastEnd 27 = .ok (.iinc 2 1, 3) := by decide +kernel
theorem dX9_lastEnd_30 : decode cX9_lastEnd 30 = .ok (.goto (-26), 3) := by decide +kernel
theorem dX9_lastEnd_33 : decode cX9_lastEnd 33 = .ok (.iload_n 1, 1) := by decide +kernel
theorem dX9_lastEnd_34 : decode cX9_lastEnd 34 = .ok (.ireturn, 1) := by decide +kernel
theorem dX9_allEvents_0 : decode cX9_allEvents 0 = .ok (.iconst 0, 1) := by decide +kernel
theorem dX9_allEvents_1 : decode cX9_allEvents 1 = .ok (.istore_n 1, 1) := by decide +kernel
theorem dX9_allEvents_2 : decode cX9_allEvents 2 = .ok (.iconst 0, 1) := by decide +kernel
theorem dX9_allEvents_3 : decode cX9_allEvents 3 = .ok (.istore_n 2, 1) := by decide +kernel
theorem dX9_allEvents_4 : decode cX9_allEvents 4 = .ok (.iload_n 2, 1) := by decide +kernel
theorem dX9_allEvents_5 : decode cX9_allEvents 5 = .ok (.aload_n 0, 1) := by decide +kernel
theorem dX9_allEvents_6 : decode cX9_allEvents 6 = .ok (.getfield 11, 3) := by decide +kernel
theorem dX9_allEvents_9 : decode cX9_allEvents 9 = .ok (.arraylength, 1) := by decide +kernel
theorem dX9_allEvents_10 : decode cX9_allEvents 10 = .ok (.if_icmp .ge 21, 3) := by decide +kernel
theorem dX9_allEvents_13 : decode cX9_allEvents 13 = .ok (.iload_n 1, 1) := by decide +kernel
theorem dX9_allEvents_14 : decode cX9_allEvents 14 = .ok (.aload_n 0, 1) := by decide +kernel
theorem dX9_allEvents_15 : decode cX9_allEvents 15 = .ok (.getfield 11, 3) := by decide +kernel
theorem dX9_allEvents_18 : decode cX9_allEvents 18 = .ok (.iload_n 2, 1) := by decide +kernel
theorem dX9_allEvents_19 : decode cX9_allEvents 19 = .ok (.aaload, 1) := by decide +kernel
theorem dX9_allEvents_20 : decode cX9_allEvents 20 = .ok (.invokevirtual 98, 3) := by decide +kernel
theorem dX9_allEvents_23 : decode cX9_allEvents 23 = .ok (.iadd, 1) := by decide +kernel
theorem dX9_allEvents_24 : decode cX9_allEvents 24 = .ok (.istore_n 1, 1) := by decide +kernel
theorem dX9_allEvents_25 : decode cX9_allEvents 25 = .ok (.iinc 2 1, 3) := by decide +kernel
theorem dX9_allEvents_28 : decode cX9_allEvents 28 = .ok (.goto (-24), 3) := by decide +kernel
theorem dX9_allEvents_31 : decode cX9_allEvents 31 = .ok (.iload_n 1, 1) := by decide +kernel
theorem dX9_allEvents_32 : decode cX9_allEvents 32 = .ok (.ireturn, 1) := by decide +kernel
theorem dX9_partAt_0 : decode cX9_partAt 0 = .ok (.iload_n 1, 1) := by decide +kernel
theorem dX9_partAt_1 : decode cX9_partAt 1 = .ok (.ifCond .lt 12, 3) := by decide +kernel
theorem dX9_partAt_4 : decode cX9_partAt 4 = .ok (.iload_n 1, 1) := by decide +kernel
theorem dX9_partAt_5 : decode cX9_partAt 5 = .ok (.aload_n 0, 1) := by decide +kernel
theorem dX9_partAt_6 : decode cX9_partAt 6 = .ok (.getfield 11, 3) := by decide +kernel
theorem dX9_partAt_9 : decode cX9_partAt 9 = .ok (.arraylength, 1) := by decide +kernel
theorem dX9_partAt_10 : decode cX9_partAt 10 = .ok (.if_icmp .lt 14, 3) := by decide +kernel
theorem dX9_partAt_13 : decode cX9_partAt 13 = .ok (.new 353, 3) := by decide +kernel
theorem dX9_partAt_16 : decode cX9_partAt 16 = .ok (.dup, 1) := by decide +kernel
theorem dX9_partAt_17 : decode cX9_partAt 17 = .ok (.ldc_w 355, 3) := by decide +kernel
theorem dX9_partAt_20 : decode cX9_partAt 20 = .ok (.invokespecial 357, 3) := by decide +kernel
theorem dX9_partAt_23 : decode cX9_partAt 23 = .ok (.athrow, 1) := by decide +kernel
theorem dX9_partAt_24 : decode cX9_partAt 24 = .ok (.aload_n 0, 1) := by decide +kernel
theorem dX9_partAt_25 : decode cX9_partAt 25 = .ok (.getfield 11, 3) := by decide +kernel
theorem dX9_partAt_28 : decode cX9_partAt 28 = .ok (.iload_n 1, 1) := by decide +kernel
theorem dX9_partAt_29 : decode cX9_partAt 29 = .ok (.aaload, 1) := by decide +kernel
theorem dX9_partAt_30 : decode cX9_partAt 30 = .ok (.areturn, 1) := by decide +kernel
theorem dX9_partWith_0 : decode cX9_partWith 0 = .ok (.aload_n 0, 1) := by decide +kernel
theorem dX9_partWith_1 : decode cX9_partWith 1 = .ok (.iload_n 1, 1) := by decide +kernel
theorem dX9_partWith_2 : decode cX9_partWith 2 = .ok (.invokevirtual 75, 3) := by decide +kernel
theorem dX9_partWith_5 : decode cX9_partWith 5 = .ok (.astore_n 3, 1) := by decide +kernel
theorem dX9_partWith_6 : decode cX9_partWith 6 = .ok (.aload_n 3, 1) := by decide +kernel
theorem dX9_partWith_7 : decode cX9_partWith 7 = .ok (.iload_n 2, 1) := by decide +kernel
theorem dX9_partWith_8 : decode cX9_partWith 8 = .ok (.invokevirtual 358, 3) := by decide +kernel
theorem dX9_partWith_11 : decode cX9_partWith 11 = .ok (.ifCond .ne 14, 3) := by decide +kernel
theorem dX9_partWith_14 : decode cX9_partWith 14 = .ok (.new 353, 3) := by decide +kernel
theorem dX9_partWith_17 : decode cX9_partWith 17 = .ok (.dup, 1) := by decide +kernel
theorem dX9_partWith_18 : decode cX9_partWith 18 = .ok (.ldc_w 361, 3) := by decide +kernel
theorem dX9_partWith_21 : decode cX9_partWith 21 = .ok (.invokespecial 357, 3) := by decide +kernel
theorem dX9_partWith_24 : decode cX9_partWith 24 = .ok (.athrow, 1) := by decide +kernel
theorem dX9_partWith_25 : decode cX9_partWith 25 = .ok (.aload_n 3, 1) := by decide +kernel
theorem dX9_partWith_26 : decode cX9_partWith 26 = .ok (.areturn, 1) := by decide +kernel
theorem dX9_measureAt_0 : decode cX9_measureAt 0 = .ok (.aload_n 0, 1) := by decide +kernel
theorem dX9_measureAt_1 : decode cX9_measureAt 1 = .ok (.iload_n 1, 1) := by decide +kernel
theorem dX9_measureAt_2 : decode cX9_measureAt 2 = .ok (.invokevirtual 75, 3) := by decide +kernel
theorem dX9_measureAt_5 : decode cX9_measureAt 5 = .ok (.astore_n 3, 1) := by decide +kernel
theorem dX9_measureAt_6 : decode cX9_measureAt 6 = .ok (.iload_n 2, 1) := by decide +kernel
theorem dX9_measureAt_7 : decode cX9_measureAt 7 = .ok (.invokestatic 127, 3) := by decide +kernel
theorem dX9_measureAt_10 : decode cX9_measureAt 10 = .ok (.iload_n 1, 1) := by decide +kernel
theorem dX9_measureAt_11 : decode cX9_measureAt 11 = .ok (.aload_n 0, 1) := by decide +kernel
theorem dX9_measureAt_12 : decode cX9_measureAt 12 = .ok (.getfield 68, 3) := by decide +kernel
theorem dX9_measureAt_15 : decode cX9_measureAt 15 = .ok (.if_icmp .ne 11, 3) := by decide +kernel
theorem dX9_measureAt_18 : decode cX9_measureAt 18 = .ok (.iload_n 2, 1) := by decide +kernel
theorem dX9_measureAt_19 : decode cX9_measureAt 19 = .ok (.aload_n 0, 1) := by decide +kernel
theorem dX9_measureAt_20 : decode cX9_measureAt 20 = .ok (.getfield 72, 3) := by decide +kernel
theorem dX9_measureAt_23 : decode cX9_measureAt 23 = .ok (.if_icmp .eq 26, 3) := by decide +kernel
theorem dX9_measureAt_26 : decode cX9_measureAt 26 = .ok (.aload_n 0, 1) := by decide +kernel
theorem dX9_measureAt_27 : decode cX9_measureAt 27 = .ok (.getfield 26, 3) := by decide +kernel
theorem dX9_measureAt_30 : decode cX9_measureAt 30 = .ok (.aload_n 3, 1) := by decide +kernel
theorem dX9_measureAt_31 : decode cX9_measureAt 31 = .ok (.aload_n 0, 1) := by decide +kernel
theorem dX9_measureAt_32 : decode cX9_measureAt 32 = .ok (.getfield 19, 3) := by decide +kernel
theorem dX9_measureAt_35 : decode cX9_measureAt 35 = .ok (.iload_n 2, 1) := by decide +kernel
theorem dX9_measureAt_36 : decode cX9_measureAt 36 = .ok (.invokevirtual 363, 3) := by decide +kernel
theorem dX9_measureAt_39 : decode cX9_measureAt 39 = .ok (.aload_n 0, 1) := by decide +kernel
theorem dX9_measureAt_40 : decode cX9_measureAt 40 = .ok (.iload_n 1, 1) := by decide +kernel
theorem dX9_measureAt_41 : decode cX9_measureAt 41 = .ok (.putfield 68, 3) := by decide +kernel
theorem dX9_measureAt_44 : decode cX9_measureAt 44 = .ok (.aload_n 0, 1) := by decide +kernel
theorem dX9_measureAt_45 : decode cX9_measureAt 45 = .ok (.iload_n 2, 1) := by decide +kernel
theorem dX9_measureAt_46 : decode cX9_measureAt 46 = .ok (.putfield 72, 3) := by decide +kernel
theorem dX9_measureAt_49 : decode cX9_measureAt 49 = .ok (.aload_n 0, 1) := by decide +kernel
theorem dX9_measureAt_50 : decode cX9_measureAt 50 = .ok (.getfield 26, 3) := by decide +kernel
theorem dX9_measureAt_53 : decode cX9_measureAt 53 = .ok (.areturn, 1) := by decide +kernel
theorem dX9_measureWith_0 : decode cX9_measureWith 0 = .ok (.aload_n 0, 1) := by decide +kernel
theorem dX9_measureWith_1 : decode cX9_measureWith 1 = .ok (.iload_n 1, 1) := by decide +kernel
theorem dX9_measureWith_2 : decode cX9_measureWith 2 = .ok (.iload_n 2, 1) := by decide +kernel
theorem dX9_measureWith_3 : decode cX9_measureWith 3 = .ok (.invokevirtual 190, 3) := by decide +kernel
theorem dX9_measureWith_6 : decode cX9_measureWith 6 = .ok (.astore 4, 2) := by decide +kernel
theorem dX9_measureWith_8 : decode cX9_measureWith 8 = .ok (.aload 4, 2) := by decide +kernel
theorem dX9_measureWith_10 : decode cX9_measureWith 10 = .ok (.iload_n 3, 1) := by decide +kernel
theorem dX9_measureWith_11 : decode cX9_measureWith 11 = .ok (.invokevirtual 367, 3) := by decide +kernel
theorem dX9_measureWith_14 : decode cX9_measureWith 14 = .ok (.ifCond .ne 14, 3) := by decide +kernel
theorem dX9_measureWith_17 : decode cX9_measureWith 17 = .ok (.new 353, 3) := by decide +kernel
theorem dX9_measureWith_20 : decode cX9_measureWith 20 = .ok (.dup, 1) := by decide +kernel
theorem dX9_measureWith_21 : decode cX9_measureWith 21 = .ok (.ldc_w 368, 3) := by decide +kernel
theorem dX9_measureWith_24 : decode cX9_measureWith 24 = .ok (.invokespecial 357, 3) := by decide +kernel
theorem dX9_measureWith_27 : decode cX9_measureWith 27 = .ok (.athrow, 1) := by decide +kernel
theorem dX9_measureWith_28 : decode cX9_measureWith 28 = .ok (.aload 4, 2) := by decide +kernel
theorem dX9_measureWith_30 : decode cX9_measureWith 30 = .ok (.areturn, 1) := by decide +kernel
theorem dX9_chordAt_0 : decode cX9_chordAt 0 = .ok (.aload_n 0, 1) := by decide +kernel
theorem dX9_chordAt_1 : decode cX9_chordAt 1 = .ok (.getfield 40, 3) := by decide +kernel
theorem dX9_chordAt_4 : decode cX9_chordAt 4 = .ok (.aload_n 0, 1) := by decide +kernel
theorem dX9_chordAt_5 : decode cX9_chordAt 5 = .ok (.getfield 11, 3) := by decide +kernel
theorem dX9_chordAt_8 : decode cX9_chordAt 8 = .ok (.aload_n 0, 1) := by decide +kernel
theorem dX9_chordAt_9 : decode cX9_chordAt 9 = .ok (.getfield 33, 3) := by decide +kernel
theorem dX9_chordAt_12 : decode cX9_chordAt 12 = .ok (.iload_n 1, 1) := by decide +kernel
theorem dX9_chordAt_13 : decode cX9_chordAt 13 = .ok (.invokevirtual 370, 3) := by decide +kernel
theorem dX9_chordAt_16 : decode cX9_chordAt 16 = .ok (.aload_n 0, 1) := by decide +kernel
theorem dX9_chordAt_17 : decode cX9_chordAt 17 = .ok (.getfield 40, 3) := by decide +kernel
theorem dX9_chordAt_20 : decode cX9_chordAt 20 = .ok (.areturn, 1) := by decide +kernel
theorem dX9_checkMoment_0 : decode cX9_checkMoment 0 = .ok (.aload_n 0, 1) := by decide +kernel
theorem dX9_checkMoment_1 : decode cX9_checkMoment 1 = .ok (.invokevirtual 225, 3) := by decide +kernel
theorem dX9_checkMoment_4 : decode cX9_checkMoment 4 = .ok (.aload_n 0, 1) := by decide +kernel
theorem dX9_checkMoment_5 : decode cX9_checkMoment 5 = .ok (.getfield 33, 3) := by decide +kernel
theorem dX9_checkMoment_8 : decode cX9_checkMoment 8 = .ok (.iload_n 1, 1) := by decide +kernel
theorem dX9_checkMoment_9 : decode cX9_checkMoment 9 = .ok (.invokevirtual 374, 3) := by decide +kernel
theorem dX9_checkMoment_12 : decode cX9_checkMoment 12 = .ok (.ifCond .ne 14, 3) := by decide +kernel
theorem dX9_checkMoment_15 : decode cX9_checkMoment 15 = .ok (.new 353, 3) := by decide +kernel
theorem dX9_checkMoment_18 : decode cX9_checkMoment 18 = .ok (.dup, 1) := by decide +kernel
theorem dX9_checkMoment_19 : decode cX9_checkMoment 19 = .ok (.ldc_w 375, 3) := by decide +kernel
theorem dX9_checkMoment_22 : decode cX9_checkMoment 22 = .ok (.invokespecial 357, 3) := by decide +kernel
theorem dX9_checkMoment_25 : decode cX9_checkMoment 25 = .ok (.athrow, 1) := by decide +kernel
theorem dX9_checkMoment_26 : decode cX9_checkMoment 26 = .ok (.return_, 1) := by decide +kernel
theorem dX9_checkFault_0 : decode cX9_checkFault 0 = .ok (.aload_n 0, 1) := by decide +kernel
theorem dX9_checkFault_1 : decode cX9_checkFault 1 = .ok (.getfield 47, 3) := by decide +kernel
theorem dX9_checkFault_4 : decode cX9_checkFault 4 = .ok (.iload_n 1, 1) := by decide +kernel
theorem dX9_checkFault_5 : decode cX9_checkFault 5 = .ok (.invokevirtual 377, 3) := by decide +kernel
theorem dX9_checkFault_8 : decode cX9_checkFault 8 = .ok (.ifCond .ne 14, 3) := by decide +kernel
theorem dX9_checkFault_11 : decode cX9_checkFault 11 = .ok (.new 353, 3) := by decide +kernel
theorem dX9_checkFault_14 : decode cX9_checkFault 14 = .ok (.dup, 1) := by decide +kernel
theorem dX9_checkFault_15 : decode cX9_checkFault 15 = .ok (.ldc_w 378, 3) := by decide +kernel
theorem dX9_checkFault_18 : decode cX9_checkFault 18 = .ok (.invokespecial 357, 3) := by decide +kernel
theorem dX9_checkFault_21 : decode cX9_checkFault 21 = .ok (.athrow, 1) := by decide +kernel
theorem dX9_checkFault_22 : decode cX9_checkFault 22 = .ok (.return_, 1) := by decide +kernel
theorem dX9_checkRoom_0 : decode cX9_checkRoom 0 = .ok (.aload_n 0, 1) := by decide +kernel
theorem dX9_checkRoom_1 : decode cX9_checkRoom 1 = .ok (.invokevirtual 380, 3) := by decide +kernel
theorem dX9_checkRoom_4 : decode cX9_checkRoom 4 = .ok (.sipush 512, 3) := by decide +kernel
theorem dX9_checkRoom_7 : decode cX9_checkRoom 7 = .ok (.if_icmp .ge 19, 3) := by decide +kernel
theorem dX9_checkRoom_10 : decode cX9_checkRoom 10 = .ok (.aload_n 1, 1) := by decide +kernel
theorem dX9_checkRoom_11 : decode cX9_checkRoom 11 = .ok (.invokevirtual 219, 3) := by decide +kernel
theorem dX9_checkRoom_14 : decode cX9_checkRoom 14 = .ok (.iload_n 2, 1) := by decide +kernel
theorem dX9_checkRoom_15 : decode cX9_checkRoom 15 = .ok (.iadd, 1) := by decide +kernel
theorem dX9_checkRoom_16 : decode cX9_checkRoom 16 = .ok (.aload_n 0, 1) := by decide +kernel
theorem dX9_checkRoom_17 : decode cX9_checkRoom 17 = .ok (.getfield 19, 3) := by decide +kernel
theorem dX9_checkRoom_20 : decode cX9_checkRoom 20 = .ok (.invokevirtual 383, 3) := by decide +kernel
theorem dX9_checkRoom_23 : decode cX9_checkRoom 23 = .ok (.if_icmp .le 14, 3) := by decide +kernel
theorem dX9_checkRoom_26 : decode cX9_checkRoom 26 = .ok (.new 102, 3) := by decide +kernel
theorem dX9_checkRoom_29 : decode cX9_checkRoom 29 = .ok (.dup, 1) := by decide +kernel
theorem dX9_checkRoom_30 : decode cX9_checkRoom 30 = .ok (.ldc_w 384, 3) := by decide +kernel
theorem dX9_checkRoom_33 : decode cX9_checkRoom 33 = .ok (.invokespecial 106, 3) := by decide +kernel
theorem dX9_checkRoom_36 : decode cX9_checkRoom 36 = .ok (.athrow, 1) := by decide +kernel
theorem dX9_checkRoom_37 : decode cX9_checkRoom 37 = .ok (.return_, 1) := by decide +kernel
theorem dX9_checkNote_0 : decode cX9_checkNote 0 = .ok (.aload_n 0, 1) := by decide +kernel
theorem dX9_checkNote_1 : decode cX9_checkNote 1 = .ok (.iload_n 1, 1) := by decide +kernel
theorem dX9_checkNote_2 : decode cX9_checkNote 2 = .ok (.invokevirtual 386, 3) := by decide +kernel
theorem dX9_checkNote_5 : decode cX9_checkNote 5 = .ok (.ifCond .ne 14, 3) := by decide +kernel
theorem dX9_checkNote_8 : decode cX9_checkNote 8 = .ok (.new 102, 3) := by decide +kernel
theorem dX9_checkNote_11 : decode cX9_checkNote 11 = .ok (.dup, 1) := by decide +kernel
theorem dX9_checkNote_12 : decode cX9_checkNote 12 = .ok (.ldc_w 389, 3) := by decide +kernel
theorem dX9_checkNote_15 : decode cX9_checkNote 15 = .ok (.invokespecial 106, 3) := by decide +kernel
theorem dX9_checkNote_18 : decode cX9_checkNote 18 = .ok (.athrow, 1) := by decide +kernel
theorem dX9_checkNote_19 : decode cX9_checkNote 19 = .ok (.return_, 1) := by decide +kernel
theorem dX9_checkBar_0 : decode cX9_checkBar 0 = .ok (.iload_n 0, 1) := by decide +kernel
theorem dX9_checkBar_1 : decode cX9_checkBar 1 = .ok (.ifCond .lt 9, 3) := by decide +kernel
theorem dX9_checkBar_4 : decode cX9_checkBar 4 = .ok (.iload_n 0, 1) := by decide +kernel
theorem dX9_checkBar_5 : decode cX9_checkBar 5 = .ok (.bipush 24, 2) := by decide +kernel
theorem dX9_checkBar_7 : decode cX9_checkBar 7 = .ok (.if_icmp .lt 14, 3) := by decide +kernel
theorem dX9_checkBar_10 : decode cX9_checkBar 10 = .ok (.new 353, 3) := by decide +kernel
theorem dX9_checkBar_13 : decode cX9_checkBar 13 = .ok (.dup, 1) := by decide +kernel
theorem dX9_checkBar_14 : decode cX9_checkBar 14 = .ok (.ldc_w 391, 3) := by decide +kernel
theorem dX9_checkBar_17 : decode cX9_checkBar 17 = .ok (.invokespecial 357, 3) := by decide +kernel
theorem dX9_checkBar_20 : decode cX9_checkBar 20 = .ok (.athrow, 1) := by decide +kernel
theorem dX9_checkBar_21 : decode cX9_checkBar 21 = .ok (.return_, 1) := by decide +kernel
theorem dX9_checkPitch_0 : decode cX9_checkPitch 0 = .ok (.iload_n 0, 1) := by decide +kernel
theorem dX9_checkPitch_1 : decode cX9_checkPitch 1 = .ok (.iload_n 1, 1) := by decide +kernel
theorem dX9_checkPitch_2 : decode cX9_checkPitch 2 = .ok (.invokestatic 393, 3) := by decide +kernel
theorem dX9_checkPitch_5 : decode cX9_checkPitch 5 = .ok (.ifCond .ne 14, 3) := by decide +kernel
theorem dX9_checkPitch_8 : decode cX9_checkPitch 8 = .ok (.new 130, 3) := by decide +kernel
theorem dX9_checkPitch_11 : decode cX9_checkPitch 11 = .ok (.dup, 1) := by decide +kernel
theorem dX9_checkPitch_12 : decode cX9_checkPitch 12 = .ok (.ldc_w 397, 3) := by decide +kernel
theorem dX9_checkPitch_15 : decode cX9_checkPitch 15 = .ok (.invokespecial 134, 3) := by decide +kernel
theorem dX9_checkPitch_18 : decode cX9_checkPitch 18 = .ok (.athrow, 1) := by decide +kernel
theorem dX9_checkPitch_19 : decode cX9_checkPitch 19 = .ok (.return_, 1) := by decide +kernel
theorem dX9_checkValue_0 : decode cX9_checkValue 0 = .ok (.iload_n 0, 1) := by decide +kernel
theorem dX9_checkValue_1 : decode cX9_checkValue 1 = .ok (.invokestatic 399, 3) := by decide +kernel
theorem dX9_checkValue_4 : decode cX9_checkValue 4 = .ok (.ifCond .ne 14, 3) := by decide +kernel
theorem dX9_checkValue_7 : decode cX9_checkValue 7 = .ok (.new 130, 3) := by decide +kernel
theorem dX9_checkValue_10 : decode cX9_checkValue 10 = .ok (.dup, 1) := by decide +kernel
theorem dX9_checkValue_11 : decode cX9_checkValue 11 = .ok (.ldc_w 404, 3) := by decide +kernel
theorem dX9_checkValue_14 : decode cX9_checkValue 14 = .ok (.invokespecial 134, 3) := by decide +kernel
theorem dX9_checkValue_17 : decode cX9_checkValue 17 = .ok (.athrow, 1) := by decide +kernel
theorem dX9_checkValue_18 : decode cX9_checkValue 18 = .ok (.return_, 1) := by decide +kernel
theorem dX9_checkKey_0 : decode cX9_checkKey 0 = .ok (.iload_n 0, 1) := by decide +kernel
theorem dX9_checkKey_1 : decode cX9_checkKey 1 = .ok (.bipush (-7), 2) := by decide +kernel
theorem dX9_checkKey_3 : decode cX9_checkKey 3 = .ok (.if_icmp .lt 9, 3) := by decide +kernel
theorem dX9_checkKey_6 : decode cX9_checkKey 6 = .ok (.iload_n 0, 1) := by decide +kernel
theorem dX9_checkKey_7 : decode cX9_checkKey 7 = .ok (.bipush 7, 2) := by decide +kernel
theorem dX9_checkKey_9 : decode cX9_checkKey 9 = .ok (.if_icmp .le 14, 3) := by decide +kernel
theorem dX9_checkKey_12 : decode cX9_checkKey 12 = .ok (.new 130, 3) := by decide +kernel
theorem dX9_checkKey_15 : decode cX9_checkKey 15 = .ok (.dup, 1) := by decide +kernel
theorem dX9_checkKey_16 : decode cX9_checkKey 16 = .ok (.ldc_w 406, 3) := by decide +kernel
theorem dX9_checkKey_19 : decode cX9_checkKey 19 = .ok (.invokespecial 134, 3) := by decide +kernel
theorem dX9_checkKey_22 : decode cX9_checkKey 22 = .ok (.athrow, 1) := by decide +kernel
theorem dX9_checkKey_23 : decode cX9_checkKey 23 = .ok (.return_, 1) := by decide +kernel
theorem dX9_checkWidth_0 : decode cX9_checkWidth 0 = .ok (.iload_n 0, 1) := by decide +kernel
theorem dX9_checkWidth_1 : decode cX9_checkWidth 1 = .ok (.bipush 10, 2) := by decide +kernel
theorem dX9_checkWidth_3 : decode cX9_checkWidth 3 = .ok (.if_icmp .lt 10, 3) := by decide +kernel
theorem dX9_checkWidth_6 : decode cX9_checkWidth 6 = .ok (.iload_n 0, 1) := by decide +kernel
theorem dX9_checkWidth_7 : decode cX9_checkWidth 7 = .ok (.sipush 400, 3) := by decide +kernel
theorem dX9_checkWidth_10 : decode cX9_checkWidth 10 = .ok (.if_icmp .le 14, 3) := by decide +kernel
theorem dX9_checkWidth_13 : decode cX9_checkWidth 13 = .ok (.new 130, 3) := by decide +kernel
theorem dX9_checkWidth_16 : decode cX9_checkWidth 16 = .ok (.dup, 1) := by decide +kernel
theorem dX9_checkWidth_17 : decode cX9_checkWidth 17 = .ok (.ldc_w 408, 3) := by decide +kernel
theorem dX9_checkWidth_20 : decode cX9_checkWidth 20 = .ok (.invokespecial 134, 3) := by decide +kernel
theorem dX9_checkWidth_23 : decode cX9_checkWidth 23 = .ok (.athrow, 1) := by decide +kernel
theorem dX9_checkWidth_24 : decode cX9_checkWidth 24 = .ok (.return_, 1) := by decide +kernel
theorem dJ6_compare_7cf53_0 : decode cJ6_compare_7cf53 0 = .ok (.iload_n 0, 1) := by decide +kernel
theorem dJ6_compare_7cf53_1 : decode cJ6_compare_7cf53 1 = .ok (.iload_n 1, 1) := by decide +kernel
theorem dJ6_compare_7cf53_2 : decode cJ6_compare_7cf53 2 = .ok (.if_icmp .ge 7, 3) := by decide +kernel
theorem dJ6_compare_7cf53_5 : decode cJ6_compare_7cf53 5 = .ok (.iconst (-1), 1) := by decide +kernel
theorem dJ6_compare_7cf53_6 : decode cJ6_compare_7cf53 6 = .ok (.goto 13, 3) := by decide +kernel
theorem dJ6_compare_7cf53_9 : decode cJ6_compare_7cf53 9 = .ok (.iload_n 0, 1) := by decide +kernel
theorem dJ6_compare_7cf53_10 : decode cJ6_compare_7cf53 10 = .ok (.iload_n 1, 1) := by decide +kernel
theorem dJ6_compare_7cf53_11 : decode cJ6_compare_7cf53 11 = .ok (.if_icmp .ne 7, 3) := by decide +kernel
theorem dJ6_compare_7cf53_14 : decode cJ6_compare_7cf53 14 = .ok (.iconst 0, 1) := by decide +kernel
theorem dJ6_compare_7cf53_15 : decode cJ6_compare_7cf53 15 = .ok (.goto 4, 3) := by decide +kernel
theorem dJ6_compare_7cf53_18 : decode cJ6_compare_7cf53 18 = .ok (.iconst 1, 1) := by decide +kernel
theorem dJ6_compare_7cf53_19 : decode cJ6_compare_7cf53 19 = .ok (.ireturn, 1) := by decide +kernel
theorem dJ6_bitCount_0f7a4_0 : decode cJ6_bitCount_0f7a4 0 = .ok (.iload_n 0, 1) := by decide +kernel
theorem dJ6_bitCount_0f7a4_1 : decode cJ6_bitCount_0f7a4 1 = .ok (.iload_n 0, 1) := by decide +kernel
theorem dJ6_bitCount_0f7a4_2 : decode cJ6_bitCount_0f7a4 2 = .ok (.iconst 1, 1) := by decide +kernel
theorem dJ6_bitCount_0f7a4_3 : decode cJ6_bitCount_0f7a4 3 = .ok (.iushr, 1) := by decide +kernel
theorem dJ6_bitCount_0f7a4_4 : decode cJ6_bitCount_0f7a4 4 = .ok (.ldc_w 265, 3) := by decide +kernel
theorem dJ6_bitCount_0f7a4_7 : decode cJ6_bitCount_0f7a4 7 = .ok (.iand, 1) := by decide +kernel
theorem dJ6_bitCount_0f7a4_8 : decode cJ6_bitCount_0f7a4 8 = .ok (.isub, 1) := by decide +kernel
theorem dJ6_bitCount_0f7a4_9 : decode cJ6_bitCount_0f7a4 9 = .ok (.istore_n 0, 1) := by decide +kernel
theorem dJ6_bitCount_0f7a4_10 : decode cJ6_bitCount_0f7a4 10 = .ok (.iload_n 0, 1) := by decide +kernel
theorem dJ6_bitCount_0f7a4_11 : decode cJ6_bitCount_0f7a4 11 = .ok (.ldc_w 266, 3) := by decide +kernel
theorem dJ6_bitCount_0f7a4_14 : decode cJ6_bitCount_0f7a4 14 = .ok (.iand, 1) := by decide +kernel
theorem dJ6_bitCount_0f7a4_15 : decode cJ6_bitCount_0f7a4 15 = .ok (.iload_n 0, 1) := by decide +kernel
theorem dJ6_bitCount_0f7a4_16 : decode cJ6_bitCount_0f7a4 16 = .ok (.iconst 2, 1) := by decide +kernel
theorem dJ6_bitCount_0f7a4_17 : decode cJ6_bitCount_0f7a4 17 = .ok (.iushr, 1) := by decide +kernel
theorem dJ6_bitCount_0f7a4_18 : decode cJ6_bitCount_0f7a4 18 = .ok (.ldc_w 266, 3) := by decide +kernel
theorem dJ6_bitCount_0f7a4_21 : decode cJ6_bitCount_0f7a4 21 = .ok (.iand, 1) := by decide +kernel
theorem dJ6_bitCount_0f7a4_22 : decode cJ6_bitCount_0f7a4 22 = .ok (.iadd, 1) := by decide +kernel
theorem dJ6_bitCount_0f7a4_23 : decode cJ6_bitCount_0f7a4 23 = .ok (.istore_n 0, 1) := by decide +kernel
theorem dJ6_bitCount_0f7a4_24 : decode cJ6_bitCount_0f7a4 24 = .ok (.iload_n 0, 1) := by decide +kernel
theorem dJ6_bitCount_0f7a4_25 : decode cJ6_bitCount_0f7a4 25 = .ok (.iload_n 0, 1) := by decide +kernel
theorem dJ6_bitCount_0f7a4_26 : decode cJ6_bitCount_0f7a4 26 = .ok (.iconst 4, 1) := by decide +kernel
theorem dJ6_bitCount_0f7a4_27 : decode cJ6_bitCount_0f7a4 27 = .ok (.iushr, 1) := by decide +kernel
theorem dJ6_bitCount_0f7a4_28 : decode cJ6_bitCount_0f7a4 28 = .ok (.iadd, 1) := by decide +kernel
theorem dJ6_bitCount_0f7a4_29 : decode cJ6_bitCount_0f7a4 29 = .ok (.ldc_w 267, 3) := by decide +kernel
theorem dJ6_bitCount_0f7a4_32 : decode cJ6_bitCount_0f7a4 32 = .ok (.iand, 1) := by decide +kernel
theorem dJ6_bitCount_0f7a4_33 : decode cJ6_bitCount_0f7a4 33 = .ok (.istore_n 0, 1) := by decide +kernel
theorem dJ6_bitCount_0f7a4_34 : decode cJ6_bitCount_0f7a4 34 = .ok (.iload_n 0, 1) := by decide +kernel
theorem dJ6_bitCount_0f7a4_35 : decode cJ6_bitCount_0f7a4 35 = .ok (.iload_n 0, 1) := by decide +kernel
theorem dJ6_bitCount_0f7a4_36 : decode cJ6_bitCount_0f7a4 36 = .ok (.bipush 8, 2) := by decide +kernel
theorem dJ6_bitCount_0f7a4_38 : decode cJ6_bitCount_0f7a4 38 = .ok (.iushr, 1) := by decide +kernel
theorem dJ6_bitCount_0f7a4_39 : decode cJ6_bitCount_0f7a4 39 = .ok (.iadd, 1) := by decide +kernel
theorem dJ6_bitCount_0f7a4_40 : decode cJ6_bitCount_0f7a4 40 = .ok (.istore_n 0, 1) := by decide +kernel
theorem dJ6_bitCount_0f7a4_41 : decode cJ6_bitCount_0f7a4 41 = .ok (.iload_n 0, 1) := by decide +kernel
theorem dJ6_bitCount_0f7a4_42 : decode cJ6_bitCount_0f7a4 42 = .ok (.iload_n 0, 1) := by decide +kernel
theorem dJ6_bitCount_0f7a4_43 : decode cJ6_bitCount_0f7a4 43 = .ok (.bipush 16, 2) := by decide +kernel
theorem dJ6_bitCount_0f7a4_45 : decode cJ6_bitCount_0f7a4 45 = .ok (.iushr, 1) := by decide +kernel
theorem dJ6_bitCount_0f7a4_46 : decode cJ6_bitCount_0f7a4 46 = .ok (.iadd, 1) := by decide +kernel
theorem dJ6_bitCount_0f7a4_47 : decode cJ6_bitCount_0f7a4 47 = .ok (.istore_n 0, 1) := by decide +kernel
theorem dJ6_bitCount_0f7a4_48 : decode cJ6_bitCount_0f7a4 48 = .ok (.iload_n 0, 1) := by decide +kernel
theorem dJ6_bitCount_0f7a4_49 : decode cJ6_bitCount_0f7a4 49 = .ok (.bipush 63, 2) := by decide +kernel
theorem dJ6_bitCount_0f7a4_51 : decode cJ6_bitCount_0f7a4 51 = .ok (.iand, 1) := by decide +kernel
theorem dJ6_bitCount_0f7a4_52 : decode cJ6_bitCount_0f7a4 52 = .ok (.ireturn, 1) := by decide +kernel
theorem dJ9_floorDiv_7cf53_0 : decode cJ9_floorDiv_7cf53 0 = .ok (.iload_n 0, 1) := by decide +kernel
theorem dJ9_floorDiv_7cf53_1 : decode cJ9_floorDiv_7cf53 1 = .ok (.iload_n 1, 1) := by decide +kernel
theorem dJ9_floorDiv_7cf53_2 : decode cJ9_floorDiv_7cf53 2 = .ok (.idiv, 1) := by decide +kernel
theorem dJ9_floorDiv_7cf53_3 : decode cJ9_floorDiv_7cf53 3 = .ok (.istore_n 2, 1) := by decide +kernel
theorem dJ9_floorDiv_7cf53_4 : decode cJ9_floorDiv_7cf53 4 = .ok (.iload_n 0, 1) := by decide +kernel
theorem dJ9_floorDiv_7cf53_5 : decode cJ9_floorDiv_7cf53 5 = .ok (.iload_n 1, 1) := by decide +kernel
theorem dJ9_floorDiv_7cf53_6 : decode cJ9_floorDiv_7cf53 6 = .ok (.ixor, 1) := by decide +kernel
theorem dJ9_floorDiv_7cf53_7 : decode cJ9_floorDiv_7cf53 7 = .ok (.ifCond .ge 14, 3) := by decide +kernel
theorem dJ9_floorDiv_7cf53_10 : decode cJ9_floorDiv_7cf53 10 = .ok (.iload_n 2, 1) := by decide +kernel
theorem dJ9_floorDiv_7cf53_11 : decode cJ9_floorDiv_7cf53 11 = .ok (.iload_n 1, 1) := by decide +kernel
theorem dJ9_floorDiv_7cf53_12 : decode cJ9_floorDiv_7cf53 12 = .ok (.imul, 1) := by decide +kernel
theorem dJ9_floorDiv_7cf53_13 : decode cJ9_floorDiv_7cf53 13 = .ok (.iload_n 0, 1) := by decide +kernel
theorem dJ9_floorDiv_7cf53_14 : decode cJ9_floorDiv_7cf53 14 = .ok (.if_icmp .eq 7, 3) := by decide +kernel
theorem dJ9_floorDiv_7cf53_17 : decode cJ9_floorDiv_7cf53 17 = .ok (.iload_n 2, 1) := by decide +kernel
theorem dJ9_floorDiv_7cf53_18 : decode cJ9_floorDiv_7cf53 18 = .ok (.iconst 1, 1) := by decide +kernel
theorem dJ9_floorDiv_7cf53_19 : decode cJ9_floorDiv_7cf53 19 = .ok (.isub, 1) := by decide +kernel
theorem dJ9_floorDiv_7cf53_20 : decode cJ9_floorDiv_7cf53 20 = .ok (.ireturn, 1) := by decide +kernel
theorem dJ9_floorDiv_7cf53_21 : decode cJ9_floorDiv_7cf53 21 = .ok (.iload_n 2, 1) := by decide +kernel
theorem dJ9_floorDiv_7cf53_22 : decode cJ9_floorDiv_7cf53 22 = .ok (.ireturn, 1) := by decide +kernel
theorem dJ9_floorMod_7cf53_0 : decode cJ9_floorMod_7cf53 0 = .ok (.iload_n 0, 1) := by decide +kernel
theorem dJ9_floorMod_7cf53_1 : decode cJ9_floorMod_7cf53 1 = .ok (.iload_n 1, 1) := by decide +kernel
theorem dJ9_floorMod_7cf53_2 : decode cJ9_floorMod_7cf53 2 = .ok (.irem, 1) := by decide +kernel
theorem dJ9_floorMod_7cf53_3 : decode cJ9_floorMod_7cf53 3 = .ok (.istore_n 2, 1) := by decide +kernel
theorem dJ9_floorMod_7cf53_4 : decode cJ9_floorMod_7cf53 4 = .ok (.iload_n 0, 1) := by decide +kernel
theorem dJ9_floorMod_7cf53_5 : decode cJ9_floorMod_7cf53 5 = .ok (.iload_n 1, 1) := by decide +kernel
theorem dJ9_floorMod_7cf53_6 : decode cJ9_floorMod_7cf53 6 = .ok (.ixor, 1) := by decide +kernel
theorem dJ9_floorMod_7cf53_7 : decode cJ9_floorMod_7cf53 7 = .ok (.ifCond .ge 11, 3) := by decide +kernel
theorem dJ9_floorMod_7cf53_10 : decode cJ9_floorMod_7cf53 10 = .ok (.iload_n 2, 1) := by decide +kernel
theorem dJ9_floorMod_7cf53_11 : decode cJ9_floorMod_7cf53 11 = .ok (.ifCond .eq 7, 3) := by decide +kernel
theorem dJ9_floorMod_7cf53_14 : decode cJ9_floorMod_7cf53 14 = .ok (.iload_n 2, 1) := by decide +kernel
theorem dJ9_floorMod_7cf53_15 : decode cJ9_floorMod_7cf53 15 = .ok (.iload_n 1, 1) := by decide +kernel
theorem dJ9_floorMod_7cf53_16 : decode cJ9_floorMod_7cf53 16 = .ok (.iadd, 1) := by decide +kernel
theorem dJ9_floorMod_7cf53_17 : decode cJ9_floorMod_7cf53 17 = .ok (.ireturn, 1) := by decide +kernel
theorem dJ9_floorMod_7cf53_18 : decode cJ9_floorMod_7cf53 18 = .ok (.iload_n 2, 1) := by decide +kernel
theorem dJ9_floorMod_7cf53_19 : decode cJ9_floorMod_7cf53 19 = .ok (.ireturn, 1) := by decide +kernel
theorem dJ9_abs_0f7a4_0 : decode cJ9_abs_0f7a4 0 = .ok (.iload_n 0, 1) := by decide +kernel
theorem dJ9_abs_0f7a4_1 : decode cJ9_abs_0f7a4 1 = .ok (.ifCond .ge 8, 3) := by decide +kernel
theorem dJ9_abs_0f7a4_4 : decode cJ9_abs_0f7a4 4 = .ok (.iload_n 0, 1) := by decide +kernel
theorem dJ9_abs_0f7a4_5 : decode cJ9_abs_0f7a4 5 = .ok (.ineg, 1) := by decide +kernel
theorem dJ9_abs_0f7a4_6 : decode cJ9_abs_0f7a4 6 = .ok (.goto 4, 3) := by decide +kernel
theorem dJ9_abs_0f7a4_9 : decode cJ9_abs_0f7a4 9 = .ok (.iload_n 0, 1) := by decide +kernel
theorem dJ9_abs_0f7a4_10 : decode cJ9_abs_0f7a4 10 = .ok (.ireturn, 1) := by decide +kernel
theorem dJ9_max_7cf53_0 : decode cJ9_max_7cf53 0 = .ok (.iload_n 0, 1) := by decide +kernel
theorem dJ9_max_7cf53_1 : decode cJ9_max_7cf53 1 = .ok (.iload_n 1, 1) := by decide +kernel
theorem dJ9_max_7cf53_2 : decode cJ9_max_7cf53 2 = .ok (.if_icmp .lt 7, 3) := by decide +kernel
theorem dJ9_max_7cf53_5 : decode cJ9_max_7cf53 5 = .ok (.iload_n 0, 1) := by decide +kernel
theorem dJ9_max_7cf53_6 : decode cJ9_max_7cf53 6 = .ok (.goto 4, 3) := by decide +kernel
theorem dJ9_max_7cf53_9 : decode cJ9_max_7cf53 9 = .ok (.iload_n 1, 1) := by decide +kernel
theorem dJ9_max_7cf53_10 : decode cJ9_max_7cf53 10 = .ok (.ireturn, 1) := by decide +kernel
theorem dJ9_min_7cf53_0 : decode cJ9_min_7cf53 0 = .ok (.iload_n 0, 1) := by decide +kernel
theorem dJ9_min_7cf53_1 : decode cJ9_min_7cf53 1 = .ok (.iload_n 1, 1) := by decide +kernel
theorem dJ9_min_7cf53_2 : decode cJ9_min_7cf53 2 = .ok (.if_icmp .gt 7, 3) := by decide +kernel
theorem dJ9_min_7cf53_5 : decode cJ9_min_7cf53 5 = .ok (.iload_n 0, 1) := by decide +kernel
theorem dJ9_min_7cf53_6 : decode cJ9_min_7cf53 6 = .ok (.goto 4, 3) := by decide +kernel
theorem dJ9_min_7cf53_9 : decode cJ9_min_7cf53 9 = .ok (.iload_n 1, 1) := by decide +kernel
theorem dJ9_min_7cf53_10 : decode cJ9_min_7cf53 10 = .ok (.ireturn, 1) := by decide +kernel
theorem dJ7_fill_53178_0 : decode cJ7_fill_53178 0 = .ok (.iconst 0, 1) := by decide +kernel
theorem dJ7_fill_53178_1 : decode cJ7_fill_53178 1 = .ok (.istore_n 2, 1) := by decide +kernel
theorem dJ7_fill_53178_2 : decode cJ7_fill_53178 2 = .ok (.aload_n 0, 1) := by decide +kernel
theorem dJ7_fill_53178_3 : decode cJ7_fill_53178 3 = .ok (.arraylength, 1) := by decide +kernel
theorem dJ7_fill_53178_4 : decode cJ7_fill_53178 4 = .ok (.istore_n 3, 1) := by decide +kernel
theorem dJ7_fill_53178_5 : decode cJ7_fill_53178 5 = .ok (.iload_n 2, 1) := by decide +kernel
theorem dJ7_fill_53178_6 : decode cJ7_fill_53178 6 = .ok (.iload_n 3, 1) := by decide +kernel
theorem dJ7_fill_53178_7 : decode cJ7_fill_53178 7 = .ok (.if_icmp .ge 13, 3) := by decide +kernel
theorem dJ7_fill_53178_10 : decode cJ7_fill_53178 10 = .ok (.aload_n 0, 1) := by decide +kernel
theorem dJ7_fill_53178_11 : decode cJ7_fill_53178 11 = .ok (.iload_n 2, 1) := by decide +kernel
theorem dJ7_fill_53178_12 : decode cJ7_fill_53178 12 = .ok (.iload_n 1, 1) := by decide +kernel
theorem dJ7_fill_53178_13 : decode cJ7_fill_53178 13 = .ok (.iastore, 1) := by decide +kernel
theorem dJ7_fill_53178_14 : decode cJ7_fill_53178 14 = .ok (.iinc 2 1, 3) := by decide +kernel
theorem dJ7_fill_53178_17 : decode cJ7_fill_53178 17 = .ok (.goto (-12), 3) := by decide +kernel
theorem dJ7_fill_53178_20 : decode cJ7_fill_53178 20 = .ok (.return_, 1) := by decide +kernel
theorem dL_below_0 : decode cL_below 0 = .ok (.iload_n 0, 1) := by decide +kernel
theorem dL_below_1 : decode cL_below 1 = .ok (.ldc 7, 2) := by decide +kernel
theorem dL_below_3 : decode cL_below 3 = .ok (.iand, 1) := by decide +kernel
theorem dL_below_4 : decode cL_below 4 = .ok (.iload_n 1, 1) := by decide +kernel
theorem dL_below_5 : decode cL_below 5 = .ok (.irem, 1) := by decide +kernel
theorem dL_below_6 : decode cL_below 6 = .ok (.ireturn, 1) := by decide +kernel
theorem dL_cell_0 : decode cL_cell 0 = .ok (.iload_n 1, 1) := by decide +kernel
theorem dL_cell_1 : decode cL_cell 1 = .ok (.aload_n 0, 1) := by decide +kernel
theorem dL_cell_2 : decode cL_cell 2 = .ok (.arraylength, 1) := by decide +kernel
theorem dL_cell_3 : decode cL_cell 3 = .ok (.if_icmp .ge 9, 3) := by decide +kernel
theorem dL_cell_6 : decode cL_cell 6 = .ok (.aload_n 0, 1) := by decide +kernel
theorem dL_cell_7 : decode cL_cell 7 = .ok (.iload_n 1, 1) := by decide +kernel
theorem dL_cell_8 : decode cL_cell 8 = .ok (.iaload, 1) := by decide +kernel
theorem dL_cell_9 : decode cL_cell 9 = .ok (.goto 9, 3) := by decide +kernel
theorem dL_cell_12 : decode cL_cell 12 = .ok (.ldc 8, 2) := by decide +kernel
theorem dL_cell_14 : decode cL_cell 14 = .ok (.iload_n 1, 1) := by decide +kernel
theorem dL_cell_15 : decode cL_cell 15 = .ok (.iconst 3, 1) := by decide +kernel
theorem dL_cell_16 : decode cL_cell 16 = .ok (.iadd, 1) := by decide +kernel
theorem dL_cell_17 : decode cL_cell 17 = .ok (.imul, 1) := by decide +kernel
theorem dL_cell_18 : decode cL_cell 18 = .ok (.ireturn, 1) := by decide +kernel
theorem dL_act_0 : decode cL_act 0 = .ok (.bipush 10, 2) := by decide +kernel
theorem dL_act_2 : decode cL_act 2 = .ok (.newarray .int, 2) := by decide +kernel
theorem dL_act_4 : decode cL_act 4 = .ok (.dup, 1) := by decide +kernel
theorem dL_act_5 : decode cL_act 5 = .ok (.iconst 0, 1) := by decide +kernel
theorem dL_act_6 : decode cL_act 6 = .ok (.iconst 4, 1) := by decide +kernel
theorem dL_act_7 : decode cL_act 7 = .ok (.iastore, 1) := by decide +kernel
theorem dL_act_8 : decode cL_act 8 = .ok (.dup, 1) := by decide +kernel
theorem dL_act_9 : decode cL_act 9 = .ok (.iconst 1, 1) := by decide +kernel
theorem dL_act_10 : decode cL_act 10 = .ok (.bipush 6, 2) := by decide +kernel
theorem dL_act_12 : decode cL_act 12 = .ok (.iastore, 1) := by decide +kernel
theorem dL_act_13 : decode cL_act 13 = .ok (.dup, 1) := by decide +kernel
theorem dL_act_14 : decode cL_act 14 = .ok (.iconst 2, 1) := by decide +kernel
theorem dL_act_15 : decode cL_act 15 = .ok (.bipush 8, 2) := by decide +kernel
theorem dL_act_17 : decode cL_act 17 = .ok (.iastore, 1) := by decide +kernel
theorem dL_act_18 : decode cL_act 18 = .ok (.dup, 1) := by decide +kernel
theorem dL_act_19 : decode cL_act 19 = .ok (.iconst 3, 1) := by decide +kernel
theorem dL_act_20 : decode cL_act 20 = .ok (.bipush 12, 2) := by decide +kernel
theorem dL_act_22 : decode cL_act 22 = .ok (.iastore, 1) := by decide +kernel
theorem dL_act_23 : decode cL_act 23 = .ok (.dup, 1) := by decide +kernel
theorem dL_act_24 : decode cL_act 24 = .ok (.iconst 4, 1) := by decide +kernel
theorem dL_act_25 : decode cL_act 25 = .ok (.bipush 16, 2) := by decide +kernel
theorem dL_act_27 : decode cL_act 27 = .ok (.iastore, 1) := by decide +kernel
theorem dL_act_28 : decode cL_act 28 = .ok (.dup, 1) := by decide +kernel
theorem dL_act_29 : decode cL_act 29 = .ok (.iconst 5, 1) := by decide +kernel
theorem dL_act_30 : decode cL_act 30 = .ok (.bipush 24, 2) := by decide +kernel
theorem dL_act_32 : decode cL_act 32 = .ok (.iastore, 1) := by decide +kernel
theorem dL_act_33 : decode cL_act 33 = .ok (.dup, 1) := by decide +kernel
theorem dL_act_34 : decode cL_act 34 = .ok (.bipush 6, 2) := by decide +kernel
theorem dL_act_36 : decode cL_act 36 = .ok (.bipush 32, 2) := by decide +kernel
theorem dL_act_38 : decode cL_act 38 = .ok (.iastore, 1) := by decide +kernel
theorem dL_act_39 : decode cL_act 39 = .ok (.dup, 1) := by decide +kernel
theorem dL_act_40 : decode cL_act 40 = .ok (.bipush 7, 2) := by decide +kernel
theorem dL_act_42 : decode cL_act 42 = .ok (.bipush 48, 2) := by decide +kernel
theorem dL_act_44 : decode cL_act 44 = .ok (.iastore, 1) := by decide +kernel
theorem dL_act_45 : decode cL_act 45 = .ok (.dup, 1) := by decide +kernel
theorem dL_act_46 : decode cL_act 46 = .ok (.bipush 8, 2) := by decide +kernel
theorem dL_act_48 : decode cL_act 48 = .ok (.bipush 64, 2) := by decide +kernel
theorem dL_act_50 : decode cL_act 50 = .ok (.iastore, 1) := by decide +kernel
theorem dL_act_51 : decode cL_act 51 = .ok (.dup, 1) := by decide +kernel
theorem dL_act_52 : decode cL_act 52 = .ok (.bipush 9, 2) := by decide +kernel
theorem dL_act_54 : decode cL_act 54 = .ok (.bipush 96, 2) := by decide +kernel
theorem dL_act_56 : decode cL_act 56 = .ok (.iastore, 1) := by decide +kernel
theorem dL_act_57 : decode cL_act 57 = .ok (.astore_n 2, 1) := by decide +kernel
theorem dL_act_58 : decode cL_act 58 = .ok (.iload_n 1, 1) := by decide +kernel
theorem dL_act_59 : decode cL_act 59 = .ok (.iconst 3, 1) := by decide +kernel
theorem dL_act_60 : decode cL_act 60 = .ok (.ishr, 1) := by decide +kernel
theorem dL_act_61 : decode cL_act 61 = .ok (.iconst 4, 1) := by decide +kernel
theorem dL_act_62 : decode cL_act 62 = .ok (.invokestatic 34, 3) := by decide +kernel
theorem dL_act_65 : decode cL_act 65 = .ok (.istore_n 3, 1) := by decide +kernel
theorem dL_act_66 : decode cL_act 66 = .ok (.iload_n 1, 1) := by decide +kernel
theorem dL_act_67 : decode cL_act 67 = .ok (.iconst 5, 1) := by decide +kernel
theorem dL_act_68 : decode cL_act 68 = .ok (.ishr, 1) := by decide +kernel
theorem dL_act_69 : decode cL_act 69 = .ok (.bipush 24, 2) := by decide +kernel
theorem dL_act_71 : decode cL_act 71 = .ok (.invokestatic 34, 3) := by decide +kernel
theorem dL_act_74 : decode cL_act 74 = .ok (.istore 4, 2) := by decide +kernel
theorem dL_act_76 : decode cL_act 76 = .ok (.iload_n 1, 1) := by decide +kernel
theorem dL_act_77 : decode cL_act 77 = .ok (.bipush 12, 2) := by decide +kernel
theorem dL_act_79 : decode cL_act 79 = .ok (.invokestatic 34, 3) := by decide +kernel
theorem dL_act_82 : decode cL_act 82 = .ok (.tableswitch 233 0 6 #[42, 62, 71, 102, 124, 155, 187], 42) := by decide +kernel
theorem dL_act_124 : decode cL_act 124 = .ok (.aload_n 0, 1) := by decide +kernel
theorem dL_act_125 : decode cL_act 125 = .ok (.iload_n 3, 1) := by decide +kernel
theorem dL_act_126 : decode cL_act 126 = .ok (.aload_n 2, 1) := by decide +kernel
theorem dL_act_127 : decode cL_act 127 = .ok (.iload_n 1, 1) := by decide +kernel
theorem dL_act_128 : decode cL_act 128 = .ok (.bipush 6, 2) := by decide +kernel
theorem dL_act_130 : decode cL_act 130 = .ok (.ishr, 1) := by decide +kernel
theorem dL_act_131 : decode cL_act 131 = .ok (.bipush 10, 2) := by decide +kernel
theorem dL_act_133 : decode cL_act 133 = .ok (.invokestatic 34, 3) := by decide +kernel
theorem dL_act_136 : decode cL_act 136 = .ok (.iaload, 1) := by decide +kernel
theorem dL_act_137 : decode cL_act 137 = .ok (.invokevirtual 42, 3) := by decide +kernel
theorem dL_act_140 : decode cL_act 140 = .ok (.pop, 1) := by decide +kernel
theorem dL_act_141 : decode cL_act 141 = .ok (.goto 228, 3) := by decide +kernel
theorem dL_act_144 : decode cL_act 144 = .ok (.aload_n 0, 1) := by decide +kernel
theorem dL_act_145 : decode cL_act 145 = .ok (.iload_n 3, 1) := by decide +kernel
theorem dL_act_146 : decode cL_act 146 = .ok (.invokevirtual 45, 3) := by decide +kernel
theorem dL_act_149 : decode cL_act 149 = .ok (.pop, 1) := by decide +kernel
theorem dL_act_150 : decode cL_act 150 = .ok (.goto 219, 3) := by decide +kernel
theorem dL_act_153 : decode cL_act 153 = .ok (.aload_n 0, 1) := by decide +kernel
theorem dL_act_154 : decode cL_act 154 = .ok (.iload 4, 2) := by decide +kernel
theorem dL_act_156 : decode cL_act 156 = .ok (.iconst 1, 1) := by decide +kernel
theorem dL_act_157 : decode cL_act 157 = .ok (.iload_n 1, 1) := by decide +kernel
theorem dL_act_158 : decode cL_act 158 = .ok (.bipush 8, 2) := by decide +kernel
theorem dL_act_160 : decode cL_act 160 = .ok (.ishr, 1) := by decide +kernel
theorem dL_act_161 : decode cL_act 161 = .ok (.bipush 12, 2) := by decide +kernel
theorem dL_act_163 : decode cL_act 163 = .ok (.invokestatic 34, 3) := by decide +kernel
theorem dL_act_166 : decode cL_act 166 = .ok (.iadd, 1) := by decide +kernel
theorem dL_act_167 : decode cL_act 167 = .ok (.iconst 2, 1) := by decide +kernel
theorem dL_act_168 : decode cL_act 168 = .ok (.iload_n 1, 1) := by decide +kernel
theorem dL_act_169 : decode cL_act 169 = .ok (.bipush 7, 2) := by decide +kernel
theorem dL_act_171 : decode cL_act 171 = .ok (.ishr, 1) := by decide +kernel
theorem dL_act_172 : decode cL_act 172 = .ok (.iconst 3, 1) := by decide +kernel
theorem dL_act_173 : decode cL_act 173 = .ok (.invokestatic 34, 3) := by decide +kernel
theorem dL_act_176 : decode cL_act 176 = .ok (.ishl, 1) := by decide +kernel
theorem dL_act_177 : decode cL_act 177 = .ok (.invokevirtual 49, 3) := by decide +kernel
theorem dL_act_180 : decode cL_act 180 = .ok (.pop, 1) := by decide +kernel
theorem dL_act_181 : decode cL_act 181 = .ok (.goto 188, 3) := by decide +kernel
theorem dL_act_184 : decode cL_act 184 = .ok (.aload_n 0, 1) := by decide +kernel
theorem dL_act_185 : decode cL_act 185 = .ok (.iload 4, 2) := by decide +kernel
theorem dL_act_187 : decode cL_act 187 = .ok (.iload_n 1, 1) := by decide +kernel
theorem dL_act_188 : decode cL_act 188 = .ok (.bipush 8, 2) := by decide +kernel
theorem dL_act_190 : decode cL_act 190 = .ok (.ishr, 1) := by decide +kernel
theorem dL_act_191 : decode cL_act 191 = .ok (.bipush 15, 2) := by decide +kernel
theorem dL_act_193 : decode cL_act 193 = .ok (.invokestatic 34, 3) := by decide +kernel
theorem dL_act_196 : decode cL_act 196 = .ok (.bipush 7, 2) := by decide +kernel
theorem dL_act_198 : decode cL_act 198 = .ok (.isub, 1) := by decide +kernel
theorem dL_act_199 : decode cL_act 199 = .ok (.invokevirtual 53, 3) := by decide +kernel
theorem dL_act_202 : decode cL_act 202 = .ok (.pop, 1) := by decide +kernel
theorem dL_act_203 : decode cL_act 203 = .ok (.goto 166, 3) := by decide +kernel
theorem dL_act_206 : decode cL_act 206 = .ok (.aload_n 0, 1) := by decide +kernel
theorem dL_act_207 : decode cL_act 207 = .ok (.iload_n 3, 1) := by decide +kernel
theorem dL_act_208 : decode cL_act 208 = .ok (.iload_n 1, 1) := by decide +kernel
theorem dL_act_209 : decode cL_act 209 = .ok (.bipush 7, 2) := by decide +kernel
theorem dL_act_211 : decode cL_act 211 = .ok (.ishr, 1) := by decide +kernel
theorem dL_act_212 : decode cL_act 212 = .ok (.bipush 13, 2) := by decide +kernel
theorem dL_act_214 : decode cL_act 214 = .ok (.invokestatic 34, 3) := by decide +kernel
theorem dL_act_217 : decode cL_act 217 = .ok (.bipush 6, 2) := by decide +kernel
theorem dL_act_219 : decode cL_act 219 = .ok (.isub, 1) := by decide +kernel
theorem dL_act_220 : decode cL_act 220 = .ok (.iload_n 1, 1) := by decide +kernel
theorem dL_act_221 : decode cL_act 221 = .ok (.bipush 9, 2) := by decide +kernel
theorem dL_act_223 : decode cL_act 223 = .ok (.ishr, 1) := by decide +kernel
theorem dL_act_224 : decode cL_act 224 = .ok (.iconst 5, 1) := by decide +kernel
theorem dL_act_225 : decode cL_act 225 = .ok (.invokestatic 34, 3) := by decide +kernel
theorem dL_act_228 : decode cL_act 228 = .ok (.iconst 2, 1) := by decide +kernel
theorem dL_act_229 : decode cL_act 229 = .ok (.isub, 1) := by decide +kernel
theorem dL_act_230 : decode cL_act 230 = .ok (.invokevirtual 56, 3) := by decide +kernel
theorem dL_act_233 : decode cL_act 233 = .ok (.pop, 1) := by decide +kernel
theorem dL_act_234 : decode cL_act 234 = .ok (.goto 135, 3) := by decide +kernel
theorem dL_act_237 : decode cL_act 237 = .ok (.aload_n 0, 1) := by decide +kernel
theorem dL_act_238 : decode cL_act 238 = .ok (.iload_n 3, 1) := by decide +kernel
theorem dL_act_239 : decode cL_act 239 = .ok (.iconst 1, 1) := by decide +kernel
theorem dL_act_240 : decode cL_act 240 = .ok (.iload_n 1, 1) := by decide +kernel
theorem dL_act_241 : decode cL_act 241 = .ok (.bipush 6, 2) := by decide +kernel
theorem dL_act_243 : decode cL_act 243 = .ok (.ishr, 1) := by decide +kernel
theorem dL_act_244 : decode cL_act 244 = .ok (.bipush 30, 2) := by decide +kernel
theorem dL_act_246 : decode cL_act 246 = .ok (.invokestatic 34, 3) := by decide +kernel
theorem dL_act_249 : decode cL_act 249 = .ok (.iadd, 1) := by decide +kernel
theorem dL_act_250 : decode cL_act 250 = .ok (.bipush 31, 2) := by decide +kernel
theorem dL_act_252 : decode cL_act 252 = .ok (.iload_n 1, 1) := by decide +kernel
theorem dL_act_253 : decode cL_act 253 = .ok (.bipush 9, 2) := by decide +kernel
theorem dL_act_255 : decode cL_act 255 = .ok (.ishr, 1) := by decide +kernel
theorem dL_act_256 : decode cL_act 256 = .ok (.bipush 32, 2) := by decide +kernel
theorem dL_act_258 : decode cL_act 258 = .ok (.invokestatic 34, 3) := by decide +kernel
theorem dL_act_261 : decode cL_act 261 = .ok (.iadd, 1) := by decide +kernel
theorem dL_act_262 : decode cL_act 262 = .ok (.invokevirtual 59, 3) := by decide +kernel
theorem dL_act_265 : decode cL_act 265 = .ok (.pop, 1) := by decide +kernel
theorem dL_act_266 : decode cL_act 266 = .ok (.goto 103, 3) := by decide +kernel
theorem dL_act_269 : decode cL_act 269 = .ok (.aload_n 0, 1) := by decide +kernel
theorem dL_act_270 : decode cL_act 270 = .ok (.iload_n 3, 1) := by decide +kernel
theorem dL_act_271 : decode cL_act 271 = .ok (.iload_n 1, 1) := by decide +kernel
theorem dL_act_272 : decode cL_act 272 = .ok (.bipush 6, 2) := by decide +kernel
theorem dL_act_274 : decode cL_act 274 = .ok (.ishr, 1) := by decide +kernel
theorem dL_act_275 : decode cL_act 275 = .ok (.iconst 1, 1) := by decide +kernel
theorem dL_act_276 : decode cL_act 276 = .ok (.aload_n 0, 1) := by decide +kernel
theorem dL_act_277 : decode cL_act 277 = .ok (.iload_n 3, 1) := by decide +kernel
theorem dL_act_278 : decode cL_act 278 = .ok (.invokevirtual 62, 3) := by decide +kernel
theorem dL_act_281 : decode cL_act 281 = .ok (.invokestatic 65, 3) := by decide +kernel
theorem dL_act_284 : decode cL_act 284 = .ok (.invokestatic 34, 3) := by decide +kernel
theorem dL_act_287 : decode cL_act 287 = .ok (.iconst 1, 1) := by decide +kernel
theorem dL_act_288 : decode cL_act 288 = .ok (.iload_n 1, 1) := by decide +kernel
theorem dL_act_289 : decode cL_act 289 = .ok (.bipush 9, 2) := by decide +kernel
theorem dL_act_291 : decode cL_act 291 = .ok (.ishr, 1) := by decide +kernel
theorem dL_act_292 : decode cL_act 292 = .ok (.bipush 62, 2) := by decide +kernel
theorem dL_act_294 : decode cL_act 294 = .ok (.invokestatic 34, 3) := by decide +kernel
theorem dL_act_297 : decode cL_act 297 = .ok (.iadd, 1) := by decide +kernel
theorem dL_act_298 : decode cL_act 298 = .ok (.iload_n 1, 1) := by decide +kernel
theorem dL_act_299 : decode cL_act 299 = .ok (.bipush 7, 2) := by decide +kernel
theorem dL_act_301 : decode cL_act 301 = .ok (.ishr, 1) := by decide +kernel
theorem dL_act_302 : decode cL_act 302 = .ok (.iconst 5, 1) := by decide +kernel
theorem dL_act_303 : decode cL_act 303 = .ok (.invokestatic 34, 3) := by decide +kernel
theorem dL_act_306 : decode cL_act 306 = .ok (.iconst 2, 1) := by decide +kernel
theorem dL_act_307 : decode cL_act 307 = .ok (.isub, 1) := by decide +kernel
theorem dL_act_308 : decode cL_act 308 = .ok (.invokevirtual 70, 3) := by decide +kernel
theorem dL_act_311 : decode cL_act 311 = .ok (.pop, 1) := by decide +kernel
theorem dL_act_312 : decode cL_act 312 = .ok (.goto 57, 3) := by decide +kernel
theorem dL_act_315 : decode cL_act 315 = .ok (.aload_n 0, 1) := by decide +kernel
theorem dL_act_316 : decode cL_act 316 = .ok (.iload_n 3, 1) := by decide +kernel
theorem dL_act_317 : decode cL_act 317 = .ok (.bipush 20, 2) := by decide +kernel
theorem dL_act_319 : decode cL_act 319 = .ok (.iload_n 1, 1) := by decide +kernel
theorem dL_act_320 : decode cL_act 320 = .ok (.bipush 6, 2) := by decide +kernel
theorem dL_act_322 : decode cL_act 322 = .ok (.ishr, 1) := by decide +kernel
theorem dL_act_323 : decode cL_act 323 = .ok (.bipush 20, 2) := by decide +kernel
theorem dL_act_325 : decode cL_act 325 = .ok (.invokestatic 34, 3) := by decide +kernel
theorem dL_act_328 : decode cL_act 328 = .ok (.iadd, 1) := by decide +kernel
theorem dL_act_329 : decode cL_act 329 = .ok (.iload_n 1, 1) := by decide +kernel
theorem dL_act_330 : decode cL_act 330 = .ok (.bipush 9, 2) := by decide +kernel
theorem dL_act_332 : decode cL_act 332 = .ok (.ishr, 1) := by decide +kernel
theorem dL_act_333 : decode cL_act 333 = .ok (.iconst 5, 1) := by decide +kernel
theorem dL_act_334 : decode cL_act 334 = .ok (.invokestatic 34, 3) := by decide +kernel
theorem dL_act_337 : decode cL_act 337 = .ok (.ifCond .ne 16, 3) := by decide +kernel
theorem dL_act_340 : decode cL_act 340 = .ok (.iload_n 1, 1) := by decide +kernel
theorem dL_act_341 : decode cL_act 341 = .ok (.bipush 11, 2) := by decide +kernel
theorem dL_act_343 : decode cL_act 343 = .ok (.ishr, 1) := by decide +kernel
theorem dL_act_344 : decode cL_act 344 = .ok (.iconst 5, 1) := by decide +kernel
theorem dL_act_345 : decode cL_act 345 = .ok (.invokestatic 34, 3) := by decide +kernel
theorem dL_act_348 : decode cL_act 348 = .ok (.iconst 2, 1) := by decide +kernel
theorem dL_act_349 : decode cL_act 349 = .ok (.isub, 1) := by decide +kernel
theorem dL_act_350 : decode cL_act 350 = .ok (.goto 4, 3) := by decide +kernel
theorem dL_act_353 : decode cL_act 353 = .ok (.iconst 0, 1) := by decide +kernel
theorem dL_act_354 : decode cL_act 354 = .ok (.aload_n 2, 1) := by decide +kernel
theorem dL_act_355 : decode cL_act 355 = .ok (.iload_n 1, 1) := by decide +kernel
theorem dL_act_356 : decode cL_act 356 = .ok (.bipush 8, 2) := by decide +kernel
theorem dL_act_358 : decode cL_act 358 = .ok (.ishr, 1) := by decide +kernel
theorem dL_act_359 : decode cL_act 359 = .ok (.bipush 10, 2) := by decide +kernel
theorem dL_act_361 : decode cL_act 361 = .ok (.invokestatic 34, 3) := by decide +kernel
theorem dL_act_364 : decode cL_act 364 = .ok (.iaload, 1) := by decide +kernel
theorem dL_act_365 : decode cL_act 365 = .ok (.invokevirtual 74, 3) := by decide +kernel
theorem dL_act_368 : decode cL_act 368 = .ok (.pop, 1) := by decide +kernel
theorem dL_act_369 : decode cL_act 369 = .ok (.goto 9, 3) := by decide +kernel
theorem dL_act_372 : decode cL_act 372 = .ok (.astore 5, 2) := by decide +kernel
theorem dL_act_374 : decode cL_act 374 = .ok (.return_, 1) := by decide +kernel
end
section
theorem dL_act_375 : decode cL_act 375 = .ok (.astore 5, 2) := by decide +kernel
theorem dL_act_377 : decode cL_act 377 = .ok (.return_, 1) := by decide +kernel
theorem dL_act_378 : decode cL_act 378 = .ok (.return_, 1) := by decide +kernel
theorem dL_isBarSound_0 : decode cL_isBarSound 0 = .ok (.aload_n 0, 1) := by decide +kernel
theorem dL_isBarSound_1 : decode cL_isBarSound 1 = .ok (.iload_n 1, 1) := by decide +kernel
theorem dL_isBarSound_2 : decode cL_isBarSound 2 = .ok (.iload_n 2, 1) := by decide +kernel
theorem dL_isBarSound_3 : decode cL_isBarSound 3 = .ok (.invokevirtual 81, 3) := by decide +kernel
theorem dL_isBarSound_6 : decode cL_isBarSound 6 = .ok (.istore_n 3, 1) := by decide +kernel
theorem dL_isBarSound_7 : decode cL_isBarSound 7 = .ok (.aload_n 0, 1) := by decide +kernel
theorem dL_isBarSound_8 : decode cL_isBarSound 8 = .ok (.iload_n 1, 1) := by decide +kernel
theorem dL_isBarSound_9 : decode cL_isBarSound 9 = .ok (.iload_n 2, 1) := by decide +kernel
theorem dL_isBarSound_10 : decode cL_isBarSound 10 = .ok (.invokevirtual 84, 3) := by decide +kernel
theorem dL_isBarSound_13 : decode cL_isBarSound 13 = .ok (.istore 4, 2) := by decide +kernel
theorem dL_isBarSound_15 : decode cL_isBarSound 15 = .ok (.iconst (-1), 1) := by decide +kernel
theorem dL_isBarSound_16 : decode cL_isBarSound 16 = .ok (.istore 5, 2) := by decide +kernel
theorem dL_isBarSound_18 : decode cL_isBarSound 18 = .ok (.iconst 0, 1) := by decide +kernel
theorem dL_isBarSound_19 : decode cL_isBarSound 19 = .ok (.istore 6, 2) := by decide +kernel
theorem dL_isBarSound_21 : decode cL_isBarSound 21 = .ok (.iload 6, 2) := by decide +kernel
theorem dL_isBarSound_23 : decode cL_isBarSound 23 = .ok (.iload_n 3, 1) := by decide +kernel
theorem dL_isBarSound_24 : decode cL_isBarSound 24 = .ok (.if_icmp .ge 319, 3) := by decide +kernel
theorem dL_isBarSound_27 : decode cL_isBarSound 27 = .ok (.aload_n 0, 1) := by decide +kernel
theorem dL_isBarSound_28 : decode cL_isBarSound 28 = .ok (.iload_n 1, 1) := by decide +kernel
theorem dL_isBarSound_29 : decode cL_isBarSound 29 = .ok (.iload_n 2, 1) := by decide +kernel
theorem dL_isBarSound_30 : decode cL_isBarSound 30 = .ok (.iload 6, 2) := by decide +kernel
theorem dL_isBarSound_32 : decode cL_isBarSound 32 = .ok (.invokevirtual 87, 3) := by decide +kernel
theorem dL_isBarSound_35 : decode cL_isBarSound 35 = .ok (.istore 7, 2) := by decide +kernel
theorem dL_isBarSound_37 : decode cL_isBarSound 37 = .ok (.aload_n 0, 1) := by decide +kernel
theorem dL_isBarSound_38 : decode cL_isBarSound 38 = .ok (.iload_n 1, 1) := by decide +kernel
theorem dL_isBarSound_39 : decode cL_isBarSound 39 = .ok (.iload_n 2, 1) := by decide +kernel
theorem dL_isBarSound_40 : decode cL_isBarSound 40 = .ok (.iload 6, 2) := by decide +kernel
theorem dL_isBarSound_42 : decode cL_isBarSound 42 = .ok (.invokevirtual 90, 3) := by decide +kernel
theorem dL_isBarSound_45 : decode cL_isBarSound 45 = .ok (.istore 8, 2) := by decide +kernel
theorem dL_isBarSound_47 : decode cL_isBarSound 47 = .ok (.aload_n 0, 1) := by decide +kernel
theorem dL_isBarSound_48 : decode cL_isBarSound 48 = .ok (.iload_n 1, 1) := by decide +kernel
theorem dL_isBarSound_49 : decode cL_isBarSound 49 = .ok (.iload 7, 2) := by decide +kernel
theorem dL_isBarSound_51 : decode cL_isBarSound 51 = .ok (.invokevirtual 93, 3) := by decide +kernel
theorem dL_isBarSound_54 : decode cL_isBarSound 54 = .ok (.ifCond .lt 7, 3) := by decide +kernel
theorem dL_isBarSound_57 : decode cL_isBarSound 57 = .ok (.iconst 1, 1) := by decide +kernel
theorem dL_isBarSound_58 : decode cL_isBarSound 58 = .ok (.goto 4, 3) := by decide +kernel
theorem dL_isBarSound_61 : decode cL_isBarSound 61 = .ok (.iconst 0, 1) := by decide +kernel
theorem dL_isBarSound_62 : decode cL_isBarSound 62 = .ok (.istore 9, 2) := by decide +kernel
theorem dL_isBarSound_64 : decode cL_isBarSound 64 = .ok (.aload_n 0, 1) := by decide +kernel
theorem dL_isBarSound_65 : decode cL_isBarSound 65 = .ok (.iload_n 1, 1) := by decide +kernel
theorem dL_isBarSound_66 : decode cL_isBarSound 66 = .ok (.iload_n 2, 1) := by decide +kernel
theorem dL_isBarSound_67 : decode cL_isBarSound 67 = .ok (.iload 6, 2) := by decide +kernel
theorem dL_isBarSound_69 : decode cL_isBarSound 69 = .ok (.invokevirtual 96, 3) := by decide +kernel
theorem dL_isBarSound_72 : decode cL_isBarSound 72 = .ok (.istore 10, 2) := by decide +kernel
theorem dL_isBarSound_74 : decode cL_isBarSound 74 = .ok (.iload 4, 2) := by decide +kernel
theorem dL_isBarSound_76 : decode cL_isBarSound 76 = .ok (.iload 8, 2) := by decide +kernel
theorem dL_isBarSound_78 : decode cL_isBarSound 78 = .ok (.iadd, 1) := by decide +kernel
theorem dL_isBarSound_79 : decode cL_isBarSound 79 = .ok (.istore 4, 2) := by decide +kernel
theorem dL_isBarSound_81 : decode cL_isBarSound 81 = .ok (.iload 6, 2) := by decide +kernel
theorem dL_isBarSound_83 : decode cL_isBarSound 83 = .ok (.iconst 1, 1) := by decide +kernel
theorem dL_isBarSound_84 : decode cL_isBarSound 84 = .ok (.iadd, 1) := by decide +kernel
theorem dL_isBarSound_85 : decode cL_isBarSound 85 = .ok (.iload_n 3, 1) := by decide +kernel
theorem dL_isBarSound_86 : decode cL_isBarSound 86 = .ok (.if_icmp .ge 26, 3) := by decide +kernel
theorem dL_isBarSound_89 : decode cL_isBarSound 89 = .ok (.aload_n 0, 1) := by decide +kernel
theorem dL_isBarSound_90 : decode cL_isBarSound 90 = .ok (.iload_n 1, 1) := by decide +kernel
theorem dL_isBarSound_91 : decode cL_isBarSound 91 = .ok (.iload_n 2, 1) := by decide +kernel
theorem dL_isBarSound_92 : decode cL_isBarSound 92 = .ok (.iload 6, 2) := by decide +kernel
theorem dL_isBarSound_94 : decode cL_isBarSound 94 = .ok (.iconst 1, 1) := by decide +kernel
theorem dL_isBarSound_95 : decode cL_isBarSound 95 = .ok (.iadd, 1) := by decide +kernel
theorem dL_isBarSound_96 : decode cL_isBarSound 96 = .ok (.invokevirtual 87, 3) := by decide +kernel
theorem dL_isBarSound_99 : decode cL_isBarSound 99 = .ok (.iload 7, 2) := by decide +kernel
theorem dL_isBarSound_101 : decode cL_isBarSound 101 = .ok (.if_icmp .ne 7, 3) := by decide +kernel
theorem dL_isBarSound_104 : decode cL_isBarSound 104 = .ok (.iconst 1, 1) := by decide +kernel
theorem dL_isBarSound_105 : decode cL_isBarSound 105 = .ok (.goto 43, 3) := by decide +kernel
theorem dL_isBarSound_108 : decode cL_isBarSound 108 = .ok (.iconst 0, 1) := by decide +kernel
theorem dL_isBarSound_109 : decode cL_isBarSound 109 = .ok (.goto 39, 3) := by decide +kernel
theorem dL_isBarSound_112 : decode cL_isBarSound 112 = .ok (.iload_n 2, 1) := by decide +kernel
theorem dL_isBarSound_113 : decode cL_isBarSound 113 = .ok (.bipush 23, 2) := by decide +kernel
theorem dL_isBarSound_115 : decode cL_isBarSound 115 = .ok (.if_icmp .ge 32, 3) := by decide +kernel
theorem dL_isBarSound_118 : decode cL_isBarSound 118 = .ok (.aload_n 0, 1) := by decide +kernel
theorem dL_isBarSound_119 : decode cL_isBarSound 119 = .ok (.iload_n 1, 1) := by decide +kernel
theorem dL_isBarSound_120 : decode cL_isBarSound 120 = .ok (.iload_n 2, 1) := by decide +kernel
theorem dL_isBarSound_121 : decode cL_isBarSound 121 = .ok (.iconst 1, 1) := by decide +kernel
theorem dL_isBarSound_122 : decode cL_isBarSound 122 = .ok (.iadd, 1) := by decide +kernel
theorem dL_isBarSound_123 : decode cL_isBarSound 123 = .ok (.invokevirtual 81, 3) := by decide +kernel
theorem dL_isBarSound_126 : decode cL_isBarSound 126 = .ok (.ifCond .le 21, 3) := by decide +kernel
theorem dL_isBarSound_129 : decode cL_isBarSound 129 = .ok (.aload_n 0, 1) := by decide +kernel
theorem dL_isBarSound_130 : decode cL_isBarSound 130 = .ok (.iload_n 1, 1) := by decide +kernel
theorem dL_isBarSound_131 : decode cL_isBarSound 131 = .ok (.iload_n 2, 1) := by decide +kernel
theorem dL_isBarSound_132 : decode cL_isBarSound 132 = .ok (.iconst 1, 1) := by decide +kernel
theorem dL_isBarSound_133 : decode cL_isBarSound 133 = .ok (.iadd, 1) := by decide +kernel
theorem dL_isBarSound_134 : decode cL_isBarSound 134 = .ok (.iconst 0, 1) := by decide +kernel
theorem dL_isBarSound_135 : decode cL_isBarSound 135 = .ok (.invokevirtual 87, 3) := by decide +kernel
theorem dL_isBarSound_138 : decode cL_isBarSound 138 = .ok (.iload 7, 2) := by decide +kernel
theorem dL_isBarSound_140 : decode cL_isBarSound 140 = .ok (.if_icmp .ne 7, 3) := by decide +kernel
theorem dL_isBarSound_143 : decode cL_isBarSound 143 = .ok (.iconst 1, 1) := by decide +kernel
theorem dL_isBarSound_144 : decode cL_isBarSound 144 = .ok (.goto 4, 3) := by decide +kernel
theorem dL_isBarSound_147 : decode cL_isBarSound 147 = .ok (.iconst 0, 1) := by decide +kernel
theorem dL_isBarSound_148 : decode cL_isBarSound 148 = .ok (.istore 11, 2) := by decide +kernel
theorem dL_isBarSound_150 : decode cL_isBarSound 150 = .ok (.aload_n 0, 1) := by decide +kernel
theorem dL_isBarSound_151 : decode cL_isBarSound 151 = .ok (.iload_n 1, 1) := by decide +kernel
theorem dL_isBarSound_152 : decode cL_isBarSound 152 = .ok (.iload_n 2, 1) := by decide +kernel
theorem dL_isBarSound_153 : decode cL_isBarSound 153 = .ok (.iload 6, 2) := by decide +kernel
theorem dL_isBarSound_155 : decode cL_isBarSound 155 = .ok (.invokevirtual 99, 3) := by decide +kernel
theorem dL_isBarSound_158 : decode cL_isBarSound 158 = .ok (.iload 9, 2) := by decide +kernel
theorem dL_isBarSound_160 : decode cL_isBarSound 160 = .ok (.ifCond .eq 12, 3) := by decide +kernel
theorem dL_isBarSound_163 : decode cL_isBarSound 163 = .ok (.iload 11, 2) := by decide +kernel
theorem dL_isBarSound_165 : decode cL_isBarSound 165 = .ok (.ifCond .eq 7, 3) := by decide +kernel
theorem dL_isBarSound_168 : decode cL_isBarSound 168 = .ok (.iconst 1, 1) := by decide +kernel
theorem dL_isBarSound_169 : decode cL_isBarSound 169 = .ok (.goto 4, 3) := by decide +kernel
theorem dL_isBarSound_172 : decode cL_isBarSound 172 = .ok (.iconst 0, 1) := by decide +kernel
theorem dL_isBarSound_173 : decode cL_isBarSound 173 = .ok (.if_icmp .ne 41, 3) := by decide +kernel
theorem dL_isBarSound_176 : decode cL_isBarSound 176 = .ok (.iload 10, 2) := by decide +kernel
theorem dL_isBarSound_178 : decode cL_isBarSound 178 = .ok (.ifCond .lt 15, 3) := by decide +kernel
theorem dL_isBarSound_181 : decode cL_isBarSound 181 = .ok (.iload 9, 2) := by decide +kernel
theorem dL_isBarSound_183 : decode cL_isBarSound 183 = .ok (.ifCond .eq 31, 3) := by decide +kernel
theorem dL_isBarSound_186 : decode cL_isBarSound 186 = .ok (.iload 8, 2) := by decide +kernel
theorem dL_isBarSound_188 : decode cL_isBarSound 188 = .ok (.bipush 12, 2) := by decide +kernel
theorem dL_isBarSound_190 : decode cL_isBarSound 190 = .ok (.if_icmp .gt 24, 3) := by decide +kernel
theorem dL_isBarSound_193 : decode cL_isBarSound 193 = .ok (.iload 10, 2) := by decide +kernel
theorem dL_isBarSound_195 : decode cL_isBarSound 195 = .ok (.iload 5, 2) := by decide +kernel
theorem dL_isBarSound_197 : decode cL_isBarSound 197 = .ok (.iconst 1, 1) := by decide +kernel
theorem dL_isBarSound_198 : decode cL_isBarSound 198 = .ok (.iadd, 1) := by decide +kernel
theorem dL_isBarSound_199 : decode cL_isBarSound 199 = .ok (.if_icmp .gt 15, 3) := by decide +kernel
theorem dL_isBarSound_202 : decode cL_isBarSound 202 = .ok (.iload 10, 2) := by decide +kernel
theorem dL_isBarSound_204 : decode cL_isBarSound 204 = .ok (.ifCond .lt 12, 3) := by decide +kernel
theorem dL_isBarSound_207 : decode cL_isBarSound 207 = .ok (.iload 10, 2) := by decide +kernel
theorem dL_isBarSound_209 : decode cL_isBarSound 209 = .ok (.iload 5, 2) := by decide +kernel
theorem dL_isBarSound_211 : decode cL_isBarSound 211 = .ok (.if_icmp .ge 5, 3) := by decide +kernel
theorem dL_isBarSound_214 : decode cL_isBarSound 214 = .ok (.iconst 0, 1) := by decide +kernel
theorem dL_isBarSound_215 : decode cL_isBarSound 215 = .ok (.ireturn, 1) := by decide +kernel
theorem dL_isBarSound_216 : decode cL_isBarSound 216 = .ok (.iload 5, 2) := by decide +kernel
theorem dL_isBarSound_218 : decode cL_isBarSound 218 = .ok (.iload 10, 2) := by decide +kernel
theorem dL_isBarSound_220 : decode cL_isBarSound 220 = .ok (.invokestatic 65, 3) := by decide +kernel
theorem dL_isBarSound_223 : decode cL_isBarSound 223 = .ok (.istore 5, 2) := by decide +kernel
theorem dL_isBarSound_225 : decode cL_isBarSound 225 = .ok (.aload_n 0, 1) := by decide +kernel
theorem dL_isBarSound_226 : decode cL_isBarSound 226 = .ok (.iload_n 1, 1) := by decide +kernel
theorem dL_isBarSound_227 : decode cL_isBarSound 227 = .ok (.iload_n 2, 1) := by decide +kernel
theorem dL_isBarSound_228 : decode cL_isBarSound 228 = .ok (.iload 6, 2) := by decide +kernel
theorem dL_isBarSound_230 : decode cL_isBarSound 230 = .ok (.invokevirtual 103, 3) := by decide +kernel
theorem dL_isBarSound_233 : decode cL_isBarSound 233 = .ok (.istore 12, 2) := by decide +kernel
theorem dL_isBarSound_235 : decode cL_isBarSound 235 = .ok (.iload 12, 2) := by decide +kernel
theorem dL_isBarSound_237 : decode cL_isBarSound 237 = .ok (.bipush (-3), 2) := by decide +kernel
theorem dL_isBarSound_239 : decode cL_isBarSound 239 = .ok (.if_icmp .lt 54, 3) := by decide +kernel
theorem dL_isBarSound_242 : decode cL_isBarSound 242 = .ok (.iload 12, 2) := by decide +kernel
theorem dL_isBarSound_244 : decode cL_isBarSound 244 = .ok (.iconst 2, 1) := by decide +kernel
theorem dL_isBarSound_245 : decode cL_isBarSound 245 = .ok (.if_icmp .gt 48, 3) := by decide +kernel
theorem dL_isBarSound_248 : decode cL_isBarSound 248 = .ok (.iload 9, 2) := by decide +kernel
theorem dL_isBarSound_250 : decode cL_isBarSound 250 = .ok (.ifCond .ne 23, 3) := by decide +kernel
theorem dL_isBarSound_253 : decode cL_isBarSound 253 = .ok (.iload 12, 2) := by decide +kernel
theorem dL_isBarSound_255 : decode cL_isBarSound 255 = .ok (.bipush (-3), 2) := by decide +kernel
theorem dL_isBarSound_257 : decode cL_isBarSound 257 = .ok (.if_icmp .ne 36, 3) := by decide +kernel
theorem dL_isBarSound_260 : decode cL_isBarSound 260 = .ok (.aload_n 0, 1) := by decide +kernel
theorem dL_isBarSound_261 : decode cL_isBarSound 261 = .ok (.iload_n 1, 1) := by decide +kernel
theorem dL_isBarSound_262 : decode cL_isBarSound 262 = .ok (.iload_n 2, 1) := by decide +kernel
theorem dL_isBarSound_263 : decode cL_isBarSound 263 = .ok (.iload 6, 2) := by decide +kernel
theorem dL_isBarSound_265 : decode cL_isBarSound 265 = .ok (.invokevirtual 106, 3) := by decide +kernel
theorem dL_isBarSound_268 : decode cL_isBarSound 268 = .ok (.bipush (-3), 2) := by decide +kernel
theorem dL_isBarSound_270 : decode cL_isBarSound 270 = .ok (.if_icmp .ne 23, 3) := by decide +kernel
theorem dL_isBarSound_273 : decode cL_isBarSound 273 = .ok (.iload 6, 2) := by decide +kernel
theorem dL_isBarSound_275 : decode cL_isBarSound 275 = .ok (.ifCond .le 20, 3) := by decide +kernel
theorem dL_isBarSound_278 : decode cL_isBarSound 278 = .ok (.iload 7, 2) := by decide +kernel
theorem dL_isBarSound_280 : decode cL_isBarSound 280 = .ok (.aload_n 0, 1) := by decide +kernel
theorem dL_isBarSound_281 : decode cL_isBarSound 281 = .ok (.iload_n 1, 1) := by decide +kernel
theorem dL_isBarSound_282 : decode cL_isBarSound 282 = .ok (.iload_n 2, 1) := by decide +kernel
theorem dL_isBarSound_283 : decode cL_isBarSound 283 = .ok (.iload 6, 2) := by decide +kernel
theorem dL_isBarSound_285 : decode cL_isBarSound 285 = .ok (.iconst 1, 1) := by decide +kernel
theorem dL_isBarSound_286 : decode cL_isBarSound 286 = .ok (.isub, 1) := by decide +kernel
theorem dL_isBarSound_287 : decode cL_isBarSound 287 = .ok (.invokevirtual 87, 3) := by decide +kernel
theorem dL_isBarSound_290 : decode cL_isBarSound 290 = .ok (.if_icmp .ge 5, 3) := by decide +kernel
theorem dL_isBarSound_293 : decode cL_isBarSound 293 = .ok (.iconst 0, 1) := by decide +kernel
theorem dL_isBarSound_294 : decode cL_isBarSound 294 = .ok (.ireturn, 1) := by decide +kernel
theorem dL_isBarSound_295 : decode cL_isBarSound 295 = .ok (.iload 9, 2) := by decide +kernel
theorem dL_isBarSound_297 : decode cL_isBarSound 297 = .ok (.ifCond .eq 40, 3) := by decide +kernel
theorem dL_isBarSound_300 : decode cL_isBarSound 300 = .ok (.aload_n 0, 1) := by decide +kernel
theorem dL_isBarSound_301 : decode cL_isBarSound 301 = .ok (.iload_n 1, 1) := by decide +kernel
theorem dL_isBarSound_302 : decode cL_isBarSound 302 = .ok (.iload 7, 2) := by decide +kernel
theorem dL_isBarSound_304 : decode cL_isBarSound 304 = .ok (.invokevirtual 109, 3) := by decide +kernel
theorem dL_isBarSound_307 : decode cL_isBarSound 307 = .ok (.ifCond .ge 7, 3) := by decide +kernel
theorem dL_isBarSound_310 : decode cL_isBarSound 310 = .ok (.iconst 1, 1) := by decide +kernel
theorem dL_isBarSound_311 : decode cL_isBarSound 311 = .ok (.goto 4, 3) := by decide +kernel
theorem dL_isBarSound_314 : decode cL_isBarSound 314 = .ok (.iconst 0, 1) := by decide +kernel
theorem dL_isBarSound_315 : decode cL_isBarSound 315 = .ok (.aload_n 0, 1) := by decide +kernel
theorem dL_isBarSound_316 : decode cL_isBarSound 316 = .ok (.iload_n 1, 1) := by decide +kernel
theorem dL_isBarSound_317 : decode cL_isBarSound 317 = .ok (.iload 7, 2) := by decide +kernel
theorem dL_isBarSound_319 : decode cL_isBarSound 319 = .ok (.invokevirtual 112, 3) := by decide +kernel
theorem dL_isBarSound_322 : decode cL_isBarSound 322 = .ok (.bipush (-3), 2) := by decide +kernel
theorem dL_isBarSound_324 : decode cL_isBarSound 324 = .ok (.if_icmp .ne 7, 3) := by decide +kernel
theorem dL_isBarSound_327 : decode cL_isBarSound 327 = .ok (.iconst 1, 1) := by decide +kernel
theorem dL_isBarSound_328 : decode cL_isBarSound 328 = .ok (.goto 4, 3) := by decide +kernel
theorem dL_isBarSound_331 : decode cL_isBarSound 331 = .ok (.iconst 0, 1) := by decide +kernel
theorem dL_isBarSound_332 : decode cL_isBarSound 332 = .ok (.if_icmp .eq 5, 3) := by decide +kernel
theorem dL_isBarSound_335 : decode cL_isBarSound 335 = .ok (.iconst 0, 1) := by decide +kernel
theorem dL_isBarSound_336 : decode cL_isBarSound 336 = .ok (.ireturn, 1) := by decide +kernel
theorem dL_isBarSound_337 : decode cL_isBarSound 337 = .ok (.iinc 6 1, 3) := by decide +kernel
theorem dL_isBarSound_340 : decode cL_isBarSound 340 = .ok (.goto (-319), 3) := by decide +kernel
theorem dL_isBarSound_343 : decode cL_isBarSound 343 = .ok (.iload 4, 2) := by decide +kernel
theorem dL_isBarSound_345 : decode cL_isBarSound 345 = .ok (.aload_n 0, 1) := by decide +kernel
theorem dL_isBarSound_346 : decode cL_isBarSound 346 = .ok (.iload_n 2, 1) := by decide +kernel
theorem dL_isBarSound_347 : decode cL_isBarSound 347 = .ok (.invokevirtual 115, 3) := by decide +kernel
theorem dL_isBarSound_350 : decode cL_isBarSound 350 = .ok (.if_icmp .ne 31, 3) := by decide +kernel
theorem dL_isBarSound_353 : decode cL_isBarSound 353 = .ok (.aload_n 0, 1) := by decide +kernel
theorem dL_isBarSound_354 : decode cL_isBarSound 354 = .ok (.iload_n 1, 1) := by decide +kernel
theorem dL_isBarSound_355 : decode cL_isBarSound 355 = .ok (.iload_n 2, 1) := by decide +kernel
theorem dL_isBarSound_356 : decode cL_isBarSound 356 = .ok (.invokevirtual 118, 3) := by decide +kernel
theorem dL_isBarSound_359 : decode cL_isBarSound 359 = .ok (.iload 5, 2) := by decide +kernel
theorem dL_isBarSound_361 : decode cL_isBarSound 361 = .ok (.iconst 1, 1) := by decide +kernel
theorem dL_isBarSound_362 : decode cL_isBarSound 362 = .ok (.iadd, 1) := by decide +kernel
theorem dL_isBarSound_363 : decode cL_isBarSound 363 = .ok (.if_icmp .ne 18, 3) := by decide +kernel
theorem dL_isBarSound_366 : decode cL_isBarSound 366 = .ok (.aload_n 0, 1) := by decide +kernel
theorem dL_isBarSound_367 : decode cL_isBarSound 367 = .ok (.iload_n 2, 1) := by decide +kernel
theorem dL_isBarSound_368 : decode cL_isBarSound 368 = .ok (.invokevirtual 121, 3) := by decide +kernel
theorem dL_isBarSound_371 : decode cL_isBarSound 371 = .ok (.iconst 2, 1) := by decide +kernel
theorem dL_isBarSound_372 : decode cL_isBarSound 372 = .ok (.iload_n 2, 1) := by decide +kernel
theorem dL_isBarSound_373 : decode cL_isBarSound 373 = .ok (.imul, 1) := by decide +kernel
theorem dL_isBarSound_374 : decode cL_isBarSound 374 = .ok (.if_icmp .lt 7, 3) := by decide +kernel
theorem dL_isBarSound_377 : decode cL_isBarSound 377 = .ok (.iconst 1, 1) := by decide +kernel
theorem dL_isBarSound_378 : decode cL_isBarSound 378 = .ok (.goto 4, 3) := by decide +kernel
theorem dL_isBarSound_381 : decode cL_isBarSound 381 = .ok (.iconst 0, 1) := by decide +kernel
theorem dL_isBarSound_382 : decode cL_isBarSound 382 = .ok (.ireturn, 1) := by decide +kernel
theorem dL_areMomentsSound_0 : decode cL_areMomentsSound 0 = .ok (.iconst 0, 1) := by decide +kernel
theorem dL_areMomentsSound_1 : decode cL_areMomentsSound 1 = .ok (.istore_n 1, 1) := by decide +kernel
theorem dL_areMomentsSound_2 : decode cL_areMomentsSound 2 = .ok (.iconst 0, 1) := by decide +kernel
theorem dL_areMomentsSound_3 : decode cL_areMomentsSound 3 = .ok (.istore_n 2, 1) := by decide +kernel
theorem dL_areMomentsSound_4 : decode cL_areMomentsSound 4 = .ok (.iload_n 2, 1) := by decide +kernel
theorem dL_areMomentsSound_5 : decode cL_areMomentsSound 5 = .ok (.iconst 4, 1) := by decide +kernel
theorem dL_areMomentsSound_6 : decode cL_areMomentsSound 6 = .ok (.if_icmp .ge 19, 3) := by decide +kernel
theorem dL_areMomentsSound_9 : decode cL_areMomentsSound 9 = .ok (.iload_n 1, 1) := by decide +kernel
theorem dL_areMomentsSound_10 : decode cL_areMomentsSound 10 = .ok (.aload_n 0, 1) := by decide +kernel
theorem dL_areMomentsSound_11 : decode cL_areMomentsSound 11 = .ok (.iload_n 2, 1) := by decide +kernel
theorem dL_areMomentsSound_12 : decode cL_areMomentsSound 12 = .ok (.invokevirtual 62, 3) := by decide +kernel
theorem dL_areMomentsSound_15 : decode cL_areMomentsSound 15 = .ok (.invokestatic 65, 3) := by decide +kernel
theorem dL_areMomentsSound_18 : decode cL_areMomentsSound 18 = .ok (.istore_n 1, 1) := by decide +kernel
theorem dL_areMomentsSound_19 : decode cL_areMomentsSound 19 = .ok (.iinc 2 1, 3) := by decide +kernel
theorem dL_areMomentsSound_22 : decode cL_areMomentsSound 22 = .ok (.goto (-18), 3) := by decide +kernel
theorem dL_areMomentsSound_25 : decode cL_areMomentsSound 25 = .ok (.aload_n 0, 1) := by decide +kernel
theorem dL_areMomentsSound_26 : decode cL_areMomentsSound 26 = .ok (.invokevirtual 124, 3) := by decide +kernel
theorem dL_areMomentsSound_29 : decode cL_areMomentsSound 29 = .ok (.istore_n 2, 1) := by decide +kernel
theorem dL_areMomentsSound_30 : decode cL_areMomentsSound 30 = .ok (.iload_n 2, 1) := by decide +kernel
theorem dL_areMomentsSound_31 : decode cL_areMomentsSound 31 = .ok (.iload_n 1, 1) := by decide +kernel
theorem dL_areMomentsSound_32 : decode cL_areMomentsSound 32 = .ok (.if_icmp .ge 5, 3) := by decide +kernel
theorem dL_areMomentsSound_35 : decode cL_areMomentsSound 35 = .ok (.iconst 0, 1) := by decide +kernel
theorem dL_areMomentsSound_36 : decode cL_areMomentsSound 36 = .ok (.ireturn, 1) := by decide +kernel
theorem dL_areMomentsSound_37 : decode cL_areMomentsSound 37 = .ok (.iconst (-1), 1) := by decide +kernel
theorem dL_areMomentsSound_38 : decode cL_areMomentsSound 38 = .ok (.istore_n 3, 1) := by decide +kernel
theorem dL_areMomentsSound_39 : decode cL_areMomentsSound 39 = .ok (.iconst 0, 1) := by decide +kernel
theorem dL_areMomentsSound_40 : decode cL_areMomentsSound 40 = .ok (.istore 4, 2) := by decide +kernel
theorem dL_areMomentsSound_42 : decode cL_areMomentsSound 42 = .ok (.iload 4, 2) := by decide +kernel
theorem dL_areMomentsSound_44 : decode cL_areMomentsSound 44 = .ok (.iload_n 2, 1) := by decide +kernel
theorem dL_areMomentsSound_45 : decode cL_areMomentsSound 45 = .ok (.if_icmp .ge 109, 3) := by decide +kernel
theorem dL_areMomentsSound_48 : decode cL_areMomentsSound 48 = .ok (.aload_n 0, 1) := by decide +kernel
theorem dL_areMomentsSound_49 : decode cL_areMomentsSound 49 = .ok (.iload 4, 2) := by decide +kernel
theorem dL_areMomentsSound_51 : decode cL_areMomentsSound 51 = .ok (.invokevirtual 128, 3) := by decide +kernel
theorem dL_areMomentsSound_54 : decode cL_areMomentsSound 54 = .ok (.istore 5, 2) := by decide +kernel
theorem dL_areMomentsSound_56 : decode cL_areMomentsSound 56 = .ok (.iload 5, 2) := by decide +kernel
theorem dL_areMomentsSound_58 : decode cL_areMomentsSound 58 = .ok (.iload_n 3, 1) := by decide +kernel
theorem dL_areMomentsSound_59 : decode cL_areMomentsSound 59 = .ok (.if_icmp .le 84, 3) := by decide +kernel
theorem dL_areMomentsSound_62 : decode cL_areMomentsSound 62 = .ok (.aload_n 0, 1) := by decide +kernel
theorem dL_areMomentsSound_63 : decode cL_areMomentsSound 63 = .ok (.iload 4, 2) := by decide +kernel
theorem dL_areMomentsSound_65 : decode cL_areMomentsSound 65 = .ok (.invokevirtual 131, 3) := by decide +kernel
theorem dL_areMomentsSound_68 : decode cL_areMomentsSound 68 = .ok (.ifCond .ge 7, 3) := by decide +kernel
theorem dL_areMomentsSound_71 : decode cL_areMomentsSound 71 = .ok (.iconst 1, 1) := by decide +kernel
theorem dL_areMomentsSound_72 : decode cL_areMomentsSound 72 = .ok (.goto 4, 3) := by decide +kernel
theorem dL_areMomentsSound_75 : decode cL_areMomentsSound 75 = .ok (.iconst 0, 1) := by decide +kernel
theorem dL_areMomentsSound_76 : decode cL_areMomentsSound 76 = .ok (.aload_n 0, 1) := by decide +kernel
theorem dL_areMomentsSound_77 : decode cL_areMomentsSound 77 = .ok (.iload 4, 2) := by decide +kernel
theorem dL_areMomentsSound_79 : decode cL_areMomentsSound 79 = .ok (.invokevirtual 134, 3) := by decide +kernel
theorem dL_areMomentsSound_82 : decode cL_areMomentsSound 82 = .ok (.ifCond .ge 7, 3) := by decide +kernel
theorem dL_areMomentsSound_85 : decode cL_areMomentsSound 85 = .ok (.iconst 1, 1) := by decide +kernel
theorem dL_areMomentsSound_86 : decode cL_areMomentsSound 86 = .ok (.goto 4, 3) := by decide +kernel
theorem dL_areMomentsSound_89 : decode cL_areMomentsSound 89 = .ok (.iconst 0, 1) := by decide +kernel
theorem dL_areMomentsSound_90 : decode cL_areMomentsSound 90 = .ok (.if_icmp .ne 53, 3) := by decide +kernel
theorem dL_areMomentsSound_93 : decode cL_areMomentsSound 93 = .ok (.aload_n 0, 1) := by decide +kernel
theorem dL_areMomentsSound_94 : decode cL_areMomentsSound 94 = .ok (.iload 4, 2) := by decide +kernel
theorem dL_areMomentsSound_96 : decode cL_areMomentsSound 96 = .ok (.invokevirtual 134, 3) := by decide +kernel
theorem dL_areMomentsSound_99 : decode cL_areMomentsSound 99 = .ok (.ifCond .ge 7, 3) := by decide +kernel
theorem dL_areMomentsSound_102 : decode cL_areMomentsSound 102 = .ok (.iconst 1, 1) := by decide +kernel
theorem dL_areMomentsSound_103 : decode cL_areMomentsSound 103 = .ok (.goto 4, 3) := by decide +kernel
theorem dL_areMomentsSound_106 : decode cL_areMomentsSound 106 = .ok (.iconst 0, 1) := by decide +kernel
theorem dL_areMomentsSound_107 : decode cL_areMomentsSound 107 = .ok (.aload_n 0, 1) := by decide +kernel
theorem dL_areMomentsSound_108 : decode cL_areMomentsSound 108 = .ok (.iload 4, 2) := by decide +kernel
theorem dL_areMomentsSound_110 : decode cL_areMomentsSound 110 = .ok (.invokevirtual 137, 3) := by decide +kernel
theorem dL_areMomentsSound_113 : decode cL_areMomentsSound 113 = .ok (.ifCond .ge 7, 3) := by decide +kernel
theorem dL_areMomentsSound_116 : decode cL_areMomentsSound 116 = .ok (.iconst 1, 1) := by decide +kernel
theorem dL_areMomentsSound_117 : decode cL_areMomentsSound 117 = .ok (.goto 4, 3) := by decide +kernel
theorem dL_areMomentsSound_120 : decode cL_areMomentsSound 120 = .ok (.iconst 0, 1) := by decide +kernel
theorem dL_areMomentsSound_121 : decode cL_areMomentsSound 121 = .ok (.if_icmp .ne 22, 3) := by decide +kernel
theorem dL_areMomentsSound_124 : decode cL_areMomentsSound 124 = .ok (.aload_n 0, 1) := by decide +kernel
theorem dL_areMomentsSound_125 : decode cL_areMomentsSound 125 = .ok (.iload 4, 2) := by decide +kernel
theorem dL_areMomentsSound_127 : decode cL_areMomentsSound 127 = .ok (.invokevirtual 134, 3) := by decide +kernel
theorem dL_areMomentsSound_130 : decode cL_areMomentsSound 130 = .ok (.iconst 3, 1) := by decide +kernel
theorem dL_areMomentsSound_131 : decode cL_areMomentsSound 131 = .ok (.if_icmp .ne 14, 3) := by decide +kernel
theorem dL_areMomentsSound_134 : decode cL_areMomentsSound 134 = .ok (.aload_n 0, 1) := by decide +kernel
theorem dL_areMomentsSound_135 : decode cL_areMomentsSound 135 = .ok (.iload 4, 2) := by decide +kernel
theorem dL_areMomentsSound_137 : decode cL_areMomentsSound 137 = .ok (.invokevirtual 137, 3) := by decide +kernel
theorem dL_areMomentsSound_140 : decode cL_areMomentsSound 140 = .ok (.ifCond .eq 5, 3) := by decide +kernel
theorem dL_areMomentsSound_143 : decode cL_areMomentsSound 143 = .ok (.iconst 0, 1) := by decide +kernel
theorem dL_areMomentsSound_144 : decode cL_areMomentsSound 144 = .ok (.ireturn, 1) := by decide +kernel
theorem dL_areMomentsSound_145 : decode cL_areMomentsSound 145 = .ok (.iload 5, 2) := by decide +kernel
theorem dL_areMomentsSound_147 : decode cL_areMomentsSound 147 = .ok (.istore_n 3, 1) := by decide +kernel
theorem dL_areMomentsSound_148 : decode cL_areMomentsSound 148 = .ok (.iinc 4 1, 3) := by decide +kernel
theorem dL_areMomentsSound_151 : decode cL_areMomentsSound 151 = .ok (.goto (-109), 3) := by decide +kernel
theorem dL_areMomentsSound_154 : decode cL_areMomentsSound 154 = .ok (.aload_n 0, 1) := by decide +kernel
theorem dL_areMomentsSound_155 : decode cL_areMomentsSound 155 = .ok (.invokevirtual 140, 3) := by decide +kernel
theorem dL_areMomentsSound_158 : decode cL_areMomentsSound 158 = .ok (.istore 4, 2) := by decide +kernel
theorem dL_areMomentsSound_160 : decode cL_areMomentsSound 160 = .ok (.iconst (-1), 1) := by decide +kernel
theorem dL_areMomentsSound_161 : decode cL_areMomentsSound 161 = .ok (.istore_n 3, 1) := by decide +kernel
theorem dL_areMomentsSound_162 : decode cL_areMomentsSound 162 = .ok (.iconst 0, 1) := by decide +kernel
theorem dL_areMomentsSound_163 : decode cL_areMomentsSound 163 = .ok (.istore 5, 2) := by decide +kernel
theorem dL_areMomentsSound_165 : decode cL_areMomentsSound 165 = .ok (.iload 5, 2) := by decide +kernel
theorem dL_areMomentsSound_167 : decode cL_areMomentsSound 167 = .ok (.iload 4, 2) := by decide +kernel
theorem dL_areMomentsSound_169 : decode cL_areMomentsSound 169 = .ok (.if_icmp .ge 84, 3) := by decide +kernel
theorem dL_areMomentsSound_172 : decode cL_areMomentsSound 172 = .ok (.aload_n 0, 1) := by decide +kernel
theorem dL_areMomentsSound_173 : decode cL_areMomentsSound 173 = .ok (.iload 5, 2) := by decide +kernel
theorem dL_areMomentsSound_175 : decode cL_areMomentsSound 175 = .ok (.invokevirtual 143, 3) := by decide +kernel
theorem dL_areMomentsSound_178 : decode cL_areMomentsSound 178 = .ok (.istore 6, 2) := by decide +kernel
theorem dL_areMomentsSound_180 : decode cL_areMomentsSound 180 = .ok (.aload_n 0, 1) := by decide +kernel
theorem dL_areMomentsSound_181 : decode cL_areMomentsSound 181 = .ok (.iload 5, 2) := by decide +kernel
theorem dL_areMomentsSound_183 : decode cL_areMomentsSound 183 = .ok (.invokevirtual 146, 3) := by decide +kernel
theorem dL_areMomentsSound_186 : decode cL_areMomentsSound 186 = .ok (.istore 7, 2) := by decide +kernel
theorem dL_areMomentsSound_188 : decode cL_areMomentsSound 188 = .ok (.aload_n 0, 1) := by decide +kernel
theorem dL_areMomentsSound_189 : decode cL_areMomentsSound 189 = .ok (.iload 5, 2) := by decide +kernel
theorem dL_areMomentsSound_191 : decode cL_areMomentsSound 191 = .ok (.invokevirtual 149, 3) := by decide +kernel
theorem dL_areMomentsSound_194 : decode cL_areMomentsSound 194 = .ok (.istore 8, 2) := by decide +kernel
theorem dL_areMomentsSound_196 : decode cL_areMomentsSound 196 = .ok (.iload 6, 2) := by decide +kernel
theorem dL_areMomentsSound_198 : decode cL_areMomentsSound 198 = .ok (.iload_n 3, 1) := by decide +kernel
theorem dL_areMomentsSound_199 : decode cL_areMomentsSound 199 = .ok (.if_icmp .lt 43, 3) := by decide +kernel
theorem dL_areMomentsSound_202 : decode cL_areMomentsSound 202 = .ok (.iload 7, 2) := by decide +kernel
theorem dL_areMomentsSound_204 : decode cL_areMomentsSound 204 = .ok (.ifCond .lt 38, 3) := by decide +kernel
theorem dL_areMomentsSound_207 : decode cL_areMomentsSound 207 = .ok (.iload 7, 2) := by decide +kernel
theorem dL_areMomentsSound_209 : decode cL_areMomentsSound 209 = .ok (.iconst 4, 1) := by decide +kernel
theorem dL_areMomentsSound_210 : decode cL_areMomentsSound 210 = .ok (.if_icmp .gt 32, 3) := by decide +kernel
theorem dL_areMomentsSound_213 : decode cL_areMomentsSound 213 = .ok (.iload 7, 2) := by decide +kernel
theorem dL_areMomentsSound_215 : decode cL_areMomentsSound 215 = .ok (.iconst 3, 1) := by decide +kernel
theorem dL_areMomentsSound_216 : decode cL_areMomentsSound 216 = .ok (.if_icmp .ge 14, 3) := by decide +kernel
theorem dL_areMomentsSound_219 : decode cL_areMomentsSound 219 = .ok (.iload 8, 2) := by decide +kernel
theorem dL_areMomentsSound_221 : decode cL_areMomentsSound 221 = .ok (.iconst 4, 1) := by decide +kernel
theorem dL_areMomentsSound_222 : decode cL_areMomentsSound 222 = .ok (.idiv, 1) := by decide +kernel
theorem dL_areMomentsSound_223 : decode cL_areMomentsSound 223 = .ok (.iload 8, 2) := by decide +kernel
theorem dL_areMomentsSound_225 : decode cL_areMomentsSound 225 = .ok (.iconst 4, 1) := by decide +kernel
theorem dL_areMomentsSound_226 : decode cL_areMomentsSound 226 = .ok (.irem, 1) := by decide +kernel
theorem dL_areMomentsSound_227 : decode cL_areMomentsSound 227 = .ok (.if_icmp .ge 15, 3) := by decide +kernel
theorem dL_areMomentsSound_230 : decode cL_areMomentsSound 230 = .ok (.iload 7, 2) := by decide +kernel
theorem dL_areMomentsSound_232 : decode cL_areMomentsSound 232 = .ok (.iconst 3, 1) := by decide +kernel
theorem dL_areMomentsSound_233 : decode cL_areMomentsSound 233 = .ok (.if_icmp .lt 11, 3) := by decide +kernel
theorem dL_areMomentsSound_236 : decode cL_areMomentsSound 236 = .ok (.iload 8, 2) := by decide +kernel
theorem dL_areMomentsSound_238 : decode cL_areMomentsSound 238 = .ok (.iconst 3, 1) := by decide +kernel
theorem dL_areMomentsSound_239 : decode cL_areMomentsSound 239 = .ok (.if_icmp .le 5, 3) := by decide +kernel
theorem dL_areMomentsSound_242 : decode cL_areMomentsSound 242 = .ok (.iconst 0, 1) := by decide +kernel
theorem dL_areMomentsSound_243 : decode cL_areMomentsSound 243 = .ok (.ireturn, 1) := by decide +kernel
theorem dL_areMomentsSound_244 : decode cL_areMomentsSound 244 = .ok (.iload 6, 2) := by decide +kernel
theorem dL_areMomentsSound_246 : decode cL_areMomentsSound 246 = .ok (.istore_n 3, 1) := by decide +kernel
theorem dL_areMomentsSound_247 : decode cL_areMomentsSound 247 = .ok (.iinc 5 1, 3) := by decide +kernel
theorem dL_areMomentsSound_250 : decode cL_areMomentsSound 250 = .ok (.goto (-85), 3) := by decide +kernel
theorem dL_areMomentsSound_253 : decode cL_areMomentsSound 253 = .ok (.iconst 1, 1) := by decide +kernel
theorem dL_areMomentsSound_254 : decode cL_areMomentsSound 254 = .ok (.ireturn, 1) := by decide +kernel
theorem dL_areLinesSound_0 : decode cL_areLinesSound 0 = .ok (.aload_n 0, 1) := by decide +kernel
theorem dL_areLinesSound_1 : decode cL_areLinesSound 1 = .ok (.invokevirtual 152, 3) := by decide +kernel
theorem dL_areLinesSound_4 : decode cL_areLinesSound 4 = .ok (.istore_n 2, 1) := by decide +kernel
theorem dL_areLinesSound_5 : decode cL_areLinesSound 5 = .ok (.iconst 0, 1) := by decide +kernel
theorem dL_areLinesSound_6 : decode cL_areLinesSound 6 = .ok (.istore_n 3, 1) := by decide +kernel
theorem dL_areLinesSound_7 : decode cL_areLinesSound 7 = .ok (.iconst (-1), 1) := by decide +kernel
theorem dL_areLinesSound_8 : decode cL_areLinesSound 8 = .ok (.istore 4, 2) := by decide +kernel
theorem dL_areLinesSound_10 : decode cL_areLinesSound 10 = .ok (.iconst 0, 1) := by decide +kernel
theorem dL_areLinesSound_11 : decode cL_areLinesSound 11 = .ok (.istore 5, 2) := by decide +kernel
theorem dL_areLinesSound_13 : decode cL_areLinesSound 13 = .ok (.iload 5, 2) := by decide +kernel
theorem dL_areLinesSound_15 : decode cL_areLinesSound 15 = .ok (.bipush 24, 2) := by decide +kernel
theorem dL_areLinesSound_17 : decode cL_areLinesSound 17 = .ok (.if_icmp .ge 129, 3) := by decide +kernel
theorem dL_areLinesSound_20 : decode cL_areLinesSound 20 = .ok (.aload_n 0, 1) := by decide +kernel
theorem dL_areLinesSound_21 : decode cL_areLinesSound 21 = .ok (.iload_n 1, 1) := by decide +kernel
theorem dL_areLinesSound_22 : decode cL_areLinesSound 22 = .ok (.iload 5, 2) := by decide +kernel
theorem dL_areLinesSound_24 : decode cL_areLinesSound 24 = .ok (.invokevirtual 155, 3) := by decide +kernel
theorem dL_areLinesSound_27 : decode cL_areLinesSound 27 = .ok (.istore 6, 2) := by decide +kernel
theorem dL_areLinesSound_29 : decode cL_areLinesSound 29 = .ok (.iload 6, 2) := by decide +kernel
theorem dL_areLinesSound_31 : decode cL_areLinesSound 31 = .ok (.ifCond .lt 7, 3) := by decide +kernel
theorem dL_areLinesSound_34 : decode cL_areLinesSound 34 = .ok (.iconst 1, 1) := by decide +kernel
theorem dL_areLinesSound_35 : decode cL_areLinesSound 35 = .ok (.goto 4, 3) := by decide +kernel
theorem dL_areLinesSound_38 : decode cL_areLinesSound 38 = .ok (.iconst 0, 1) := by decide +kernel
theorem dL_areLinesSound_39 : decode cL_areLinesSound 39 = .ok (.iload 5, 2) := by decide +kernel
theorem dL_areLinesSound_41 : decode cL_areLinesSound 41 = .ok (.iload_n 2, 1) := by decide +kernel
theorem dL_areLinesSound_42 : decode cL_areLinesSound 42 = .ok (.if_icmp .ge 7, 3) := by decide +kernel
theorem dL_areLinesSound_45 : decode cL_areLinesSound 45 = .ok (.iconst 1, 1) := by decide +kernel
theorem dL_areLinesSound_46 : decode cL_areLinesSound 46 = .ok (.goto 4, 3) := by decide +kernel
theorem dL_areLinesSound_49 : decode cL_areLinesSound 49 = .ok (.iconst 0, 1) := by decide +kernel
theorem dL_areLinesSound_50 : decode cL_areLinesSound 50 = .ok (.if_icmp .ne 35, 3) := by decide +kernel
theorem dL_areLinesSound_53 : decode cL_areLinesSound 53 = .ok (.iload 6, 2) := by decide +kernel
theorem dL_areLinesSound_55 : decode cL_areLinesSound 55 = .ok (.ifCond .lt 19, 3) := by decide +kernel
theorem dL_areLinesSound_58 : decode cL_areLinesSound 58 = .ok (.iload 6, 2) := by decide +kernel
theorem dL_areLinesSound_60 : decode cL_areLinesSound 60 = .ok (.iload 4, 2) := by decide +kernel
theorem dL_areLinesSound_62 : decode cL_areLinesSound 62 = .ok (.if_icmp .lt 23, 3) := by decide +kernel
theorem dL_areLinesSound_65 : decode cL_areLinesSound 65 = .ok (.iload 6, 2) := by decide +kernel
theorem dL_areLinesSound_67 : decode cL_areLinesSound 67 = .ok (.iload 4, 2) := by decide +kernel
theorem dL_areLinesSound_69 : decode cL_areLinesSound 69 = .ok (.iconst 1, 1) := by decide +kernel
theorem dL_areLinesSound_70 : decode cL_areLinesSound 70 = .ok (.iadd, 1) := by decide +kernel
theorem dL_areLinesSound_71 : decode cL_areLinesSound 71 = .ok (.if_icmp .gt 14, 3) := by decide +kernel
theorem dL_areLinesSound_74 : decode cL_areLinesSound 74 = .ok (.aload_n 0, 1) := by decide +kernel
theorem dL_areLinesSound_75 : decode cL_areLinesSound 75 = .ok (.iload 5, 2) := by decide +kernel
theorem dL_areLinesSound_77 : decode cL_areLinesSound 77 = .ok (.invokevirtual 158, 3) := by decide +kernel
theorem dL_areLinesSound_80 : decode cL_areLinesSound 80 = .ok (.bipush 6, 2) := by decide +kernel
theorem dL_areLinesSound_82 : decode cL_areLinesSound 82 = .ok (.if_icmp .ge 5, 3) := by decide +kernel
theorem dL_areLinesSound_85 : decode cL_areLinesSound 85 = .ok (.iconst 0, 1) := by decide +kernel
theorem dL_areLinesSound_86 : decode cL_areLinesSound 86 = .ok (.ireturn, 1) := by decide +kernel
theorem dL_areLinesSound_87 : decode cL_areLinesSound 87 = .ok (.iload 4, 2) := by decide +kernel
theorem dL_areLinesSound_89 : decode cL_areLinesSound 89 = .ok (.iload 6, 2) := by decide +kernel
theorem dL_areLinesSound_91 : decode cL_areLinesSound 91 = .ok (.invokestatic 65, 3) := by decide +kernel
theorem dL_areLinesSound_94 : decode cL_areLinesSound 94 = .ok (.istore 4, 2) := by decide +kernel
theorem dL_areLinesSound_96 : decode cL_areLinesSound 96 = .ok (.aload_n 0, 1) := by decide +kernel
theorem dL_areLinesSound_97 : decode cL_areLinesSound 97 = .ok (.iload 5, 2) := by decide +kernel
theorem dL_areLinesSound_99 : decode cL_areLinesSound 99 = .ok (.invokevirtual 158, 3) := by decide +kernel
theorem dL_areLinesSound_102 : decode cL_areLinesSound 102 = .ok (.istore 7, 2) := by decide +kernel
theorem dL_areLinesSound_104 : decode cL_areLinesSound 104 = .ok (.iload 5, 2) := by decide +kernel
theorem dL_areLinesSound_106 : decode cL_areLinesSound 106 = .ok (.iload_n 2, 1) := by decide +kernel
theorem dL_areLinesSound_107 : decode cL_areLinesSound 107 = .ok (.if_icmp .ge 33, 3) := by decide +kernel
theorem dL_areLinesSound_110 : decode cL_areLinesSound 110 = .ok (.iload_n 3, 1) := by decide +kernel
theorem dL_areLinesSound_111 : decode cL_areLinesSound 111 = .ok (.iload 5, 2) := by decide +kernel
theorem dL_areLinesSound_113 : decode cL_areLinesSound 113 = .ok (.iload_n 2, 1) := by decide +kernel
theorem dL_areLinesSound_114 : decode cL_areLinesSound 114 = .ok (.iconst 1, 1) := by decide +kernel
theorem dL_areLinesSound_115 : decode cL_areLinesSound 115 = .ok (.isub, 1) := by decide +kernel
theorem dL_areLinesSound_116 : decode cL_areLinesSound 116 = .ok (.if_icmp .ne 13, 3) := by decide +kernel
theorem dL_areLinesSound_119 : decode cL_areLinesSound 119 = .ok (.iload 7, 2) := by decide +kernel
theorem dL_areLinesSound_121 : decode cL_areLinesSound 121 = .ok (.iload_n 1, 1) := by decide +kernel
theorem dL_areLinesSound_122 : decode cL_areLinesSound 122 = .ok (.if_icmp .gt 7, 3) := by decide +kernel
theorem dL_areLinesSound_125 : decode cL_areLinesSound 125 = .ok (.iconst 0, 1) := by decide +kernel
theorem dL_areLinesSound_126 : decode cL_areLinesSound 126 = .ok (.goto 12, 3) := by decide +kernel
theorem dL_areLinesSound_129 : decode cL_areLinesSound 129 = .ok (.iload_n 1, 1) := by decide +kernel
theorem dL_areLinesSound_130 : decode cL_areLinesSound 130 = .ok (.iload 7, 2) := by decide +kernel
theorem dL_areLinesSound_132 : decode cL_areLinesSound 132 = .ok (.isub, 1) := by decide +kernel
theorem dL_areLinesSound_133 : decode cL_areLinesSound 133 = .ok (.iload_n 1, 1) := by decide +kernel
theorem dL_areLinesSound_134 : decode cL_areLinesSound 134 = .ok (.iload 7, 2) := by decide +kernel
theorem dL_areLinesSound_136 : decode cL_areLinesSound 136 = .ok (.isub, 1) := by decide +kernel
theorem dL_areLinesSound_137 : decode cL_areLinesSound 137 = .ok (.imul, 1) := by decide +kernel
theorem dL_areLinesSound_138 : decode cL_areLinesSound 138 = .ok (.iadd, 1) := by decide +kernel
theorem dL_areLinesSound_139 : decode cL_areLinesSound 139 = .ok (.istore_n 3, 1) := by decide +kernel
theorem dL_areLinesSound_140 : decode cL_areLinesSound 140 = .ok (.iinc 5 1, 3) := by decide +kernel
theorem dL_areLinesSound_143 : decode cL_areLinesSound 143 = .ok (.goto (-130), 3) := by decide +kernel
theorem dL_areLinesSound_146 : decode cL_areLinesSound 146 = .ok (.aload_n 0, 1) := by decide +kernel
theorem dL_areLinesSound_147 : decode cL_areLinesSound 147 = .ok (.iload_n 1, 1) := by decide +kernel
theorem dL_areLinesSound_148 : decode cL_areLinesSound 148 = .ok (.invokevirtual 161, 3) := by decide +kernel
theorem dL_areLinesSound_151 : decode cL_areLinesSound 151 = .ok (.iload 4, 2) := by decide +kernel
theorem dL_areLinesSound_153 : decode cL_areLinesSound 153 = .ok (.iconst 1, 1) := by decide +kernel
theorem dL_areLinesSound_154 : decode cL_areLinesSound 154 = .ok (.iadd, 1) := by decide +kernel
theorem dL_areLinesSound_155 : decode cL_areLinesSound 155 = .ok (.if_icmp .ne 16, 3) := by decide +kernel
theorem dL_areLinesSound_158 : decode cL_areLinesSound 158 = .ok (.aload_n 0, 1) := by decide +kernel
theorem dL_areLinesSound_159 : decode cL_areLinesSound 159 = .ok (.iload_n 1, 1) := by decide +kernel
theorem dL_areLinesSound_160 : decode cL_areLinesSound 160 = .ok (.invokevirtual 164, 3) := by decide +kernel
theorem dL_areLinesSound_163 : decode cL_areLinesSound 163 = .ok (.iload_n 3, 1) := by decide +kernel
theorem dL_areLinesSound_164 : decode cL_areLinesSound 164 = .ok (.if_icmp .gt 7, 3) := by decide +kernel
theorem dL_areLinesSound_167 : decode cL_areLinesSound 167 = .ok (.iconst 1, 1) := by decide +kernel
theorem dL_areLinesSound_168 : decode cL_areLinesSound 168 = .ok (.goto 4, 3) := by decide +kernel
theorem dL_areLinesSound_171 : decode cL_areLinesSound 171 = .ok (.iconst 0, 1) := by decide +kernel
theorem dL_areLinesSound_172 : decode cL_areLinesSound 172 = .ok (.ireturn, 1) := by decide +kernel
end
section
/-- a body of a method of the JDK's classes gives its contract, too -/
theorem j_bodyF {l : Launch} {G : jG} {y : MethodName} {own : String} {cc : ByteArray} {nL : Nat} {ret : Option FieldType} {nm : String} {room : Room} {av : List Value} {h : jH} {Post : jO → jH → Prop} (hy : plainFor y = true) (ho : y.cls = own ∧ y.name = nm) (hl : Nat.ble (lg_sl av).length nL = true)
    (k : J l G (own, cc, nL, ret, [], nm, room) (jQ G (own, cc, nL, ret, [], nm, room) Post) room.cells room.slots 0 (lv_args 0 av) [] h) : jC l G y (own, cc, nL, ret, [], nm, room) av h Post := by
  refine MetFree.of_bodySF (code := cc) (maxLocals := nL) (ret := ret) hy ?_ ?_
  · intro args s m h hn
    obtain ⟨meth, c, h1, h2, h3, h4, h5, h6, -, -⟩ := Cond.code_spec hn (atoms_spec (ws := jws y (own, cc, nL, ret, [], nm, room)) h _ List.mem_cons_self)
    exact ⟨meth, c, h1, h2, h3, h4, h5, h6⟩
  · intro p e s m args below meth c s₁ B hml hP _
    obtain ⟨rfl, hR, hK⟩ := hP
    have hh0 : s₁.heap = s.heap := by rw [B.state]; rfl
    have ht : c.exceptionTable.toList = tableOf [] := by
      obtain ⟨meth9, c9, h1, h2, -, -, -, -, h7, -⟩ := Cond.code_spec B.named (atoms_spec (ws := jws y (own, cc, nL, ret, [], nm, room)) B.pre _ List.mem_cons_self)
      cases Option.some.inj (h1.symm.trans B.method)
      cases Option.some.inj (h2.symm.trans (Stand.of_body B).code)
      rw [table_nil]
      rw [Array.isEmpty_iff.mp h7]
    have K := k p e s m av.toArray below meth c s.heap [] 0 0 _ (jstd_of (M := (own, cc, nL, ret, [], nm, room)) B hml ht ho.1 ho.2 hK) hR va_S.rf (lv_entry av (Nat.le_of_ble_eq_true hl)) (by simp) (by simp)
    rw [← lg_entry_eq] at K
    obtain ⟨t, a1, o, b1, b2, b3⟩ := K s₁ hh0 (Stand.of_body B)
    exact ⟨t, o, a1, b1, b2, b3⟩
end
