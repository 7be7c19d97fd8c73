section
/-! ===== BEGIN words of one list among another's, by their places ===== -/
theorem goodIn_r {big : List Cond} (ws : List Cond) (ps : List Nat) (hp : ws = ps.filterMap (fun i => big[i]?)) (h : ws.all goodWord = true) : GoodIn big ws := by
  intro w hw
  have h1 := List.all_eq_true.mp h w hw
  rw [hp] at hw
  obtain ⟨i, -, hi⟩ := List.mem_filterMap.mp hw
  have hm : w ∈ big := by first | exact List.mem_of_getElem? hi | exact List.getElem?_mem hi
  exact ⟨hm, good_of_word h1⟩
theorem goodIn_app {big a b : List Cond} (ha : GoodIn big a) (hb : GoodIn big b) : GoodIn big (a ++ b) := fun w h => (List.mem_append.mp h).elim (ha w) (hb w)
theorem goodIn_ca {big a b : List Cond} {c : Cond} (ha : GoodIn big (c :: a)) (hb : GoodIn big b) : GoodIn big (c :: (a ++ b)) := fun w h => (List.mem_cons.mp h).elim (fun e => ha w (List.mem_cons.mpr (Or.inl e))) (fun h => (List.mem_append.mp h).elim (fun h => ha w (List.mem_cons.mpr (Or.inr h))) (hb w))
theorem goodIn_sub {big ws : List Cond} (hm : ∀ w ∈ ws, w ∈ big) (h : ws.all goodWord = true) : GoodIn big ws := fun w hw => ⟨hm w hw, good_of_word (List.all_eq_true.mp h w hw)⟩
/-! ===== END ===== -/

/-! ===== BEGIN exceptions that leave a method, and their catching by the caller (launches without stack traces) ===== -/
section VXA
/-! The laws vx_back, vx_callV, vx_callS, vx_callSW, vx_throw0, vx_throwS follow proofs of the library, with one case more: JvmDerived/Free/Laws.lean (Back.of_free), Shelf42/LK1.lean (callV, callS), Shelf/KitTraced.lean (throwNew0V, throwNewS). -/
/-- where a method has thrown q: the class by its name, the cell, what was written, the world -/
def vx_T (XC : String → State → State → Prop) (st : State) (q : Addr) (t : State) (mc ms : Nat) (free : Addr → Prop) : Prop :=
  ∃ (E : String) (ce : Cell) (L : List Loc), XC E st t ∧ t.heap[q]? = some ce ∧ ce.vm = .none ∧ st.vm.findClass E = some ce.cls ∧ st.WarmedH t.vm ∧ st.sameButNew ({ t with vm := st.vm } : State) L mc ms ∧ ∀ z ∈ L, free z.base
def vx_Q (Qc : Array Value → State → Outcome → State → Prop) (XC : String → State → State → Prop) (mc ms : Nat) (free : Addr → Prop) : Array Value → State → Outcome → State → Prop := fun a st o t =>
  (Qc a st o t ∧ ∃ L, FrameEnd st o t L mc ms ∧ ∀ q ∈ L, free q.base) ∨ ∃ q, o = .threw q ∧ vx_T XC st q t mc ms free
/-- a callee that returns or throws -/
def vx_Met (l : Launch) (y : MethodName) (ws : List Cond) (rm : Room) (Pc : Array Value → State → Prop) (Qc : Array Value → State → Outcome → State → Prop) (XC : String → State → State → Prop) (mc ms : Nat) (free : Addr → Prop) : Prop :=
  MetFree l y (headSpec ws rm) Pc (fun _ _ _ _ _ => True) (vx_Q Qc XC mc ms free)
def vx_Post (XC : String → State → State → Prop) (mc ms : Nat) (free : Addr → Prop) : Pt → Array Value → Addr → Pt → Prop := fun A a q B =>
  ∃ (g : JFrame) (mk : MethodId) (t : State) (L : List Loc) (E : String) (ce : Cell), B.U.heap = t.heap ∧ B.U.vm = t.vm ∧ XC E (A.U.calling g mk a) t ∧ t.heap[q]? = some ce ∧ ce.vm = .none ∧ A.U.vm.findClass E = some ce.cls ∧ B.locs = A.locs ++ L ∧ (∀ z ∈ L, free z.base) ∧ B.cells = A.cells + mc ∧ B.slots = A.slots + ms
def vx_Back (l : Launch) (R : Room) (p : Program) (e : Env) (below : List Frame) (s : State) (sargs : Array Value) (y : MethodName) (len W9 : Nat)
    (Pre : Pt → Array Value → Prop) (Post : Pt → Array Value → Option Value → Pt → Prop) (PostX : Pt → Array Value → Addr → Pt → Prop) : Prop :=
  ∀ (m : MethodId) (meth : Method) (c : Code) (A : Pt) (g : JFrame) (ig : Instr) (mk : MethodId) (a : Array Value),
    Stand p l e R s m sargs below meth c A.U A.locs A.cells A.slots → g.method = m → g.locals.size = c.maxLocals → decode c.code g.pc = .ok (ig, len) →
    2 * g.monitorRoom + (g.stack.map fun v => v.category).sum ≤ W9 → A.U.methodNamed? y = some mk → Pre A a →
    (∃ (v : Option Value) (B : Pt), Stand p l e R s m sargs below meth c B.U B.locs B.cells B.slots ∧ Post A a v B ∧
      Steps p.tables e below (doInvoke e (A.U.setTop g) [] mk a).1 (B.U.setTop { g with pc := g.pc + len, stack := v.toList ++ g.stack })) ∨
    (∃ (q : Addr) (B : Pt), Stand p l e R s m sargs below meth c B.U B.locs B.cells B.slots ∧ PostX A a q B ∧
      Steps p.tables e below (doInvoke e (A.U.setTop g) [] mk a).1 ((B.U.setTop g).pushFrame (.throwing q)))
section Payer
variable {l : Launch} {R : Room} {p : Program} {e : Env} {below : List Frame} {s : State} {sargs : Array Value} {y : MethodName} {len W9 : Nat}
theorem vx_back {ws : List Cond} {rm : Room} {Pc : Array Value → State → Prop} {Qc : Array Value → State → Outcome → State → Prop} {XC : String → State → State → Prop} {mc ms : Nat} {free : Addr → Prop} {bytes : ByteArray} {maxL : Nat} {ret : Option FieldType}
    (hM : vx_Met l y ws rm Pc Qc XC mc ms free) (hblind : FrameBlind Pc) (hrc : rm.cells = mc) (hrs : rm.slots = ms)
    (hframes : rm.frames + 1 ≤ R.frames) (hlocals : W9 + (maxL + 11) + rm.locals ≤ R.locals)
    (hws : ∀ w ∈ ws, ∀ a' U, s.WarmedH U.vm → w.before a' U = true) (hcode : Cond.code y bytes maxL ret ∈ ws) (hinit : ∀ a' U, s.WarmedH U.vm → (Cond.initialized y.cls).before a' U = true) :
    vx_Back l R p e below s sargs y len W9 (PreOf R mc ms Pc) (PostOf Qc mc ms free) (vx_Post XC mc ms free) := by
  intro m meth c A g ig mk a X hg hsize hdg hW hn hp
  have h1 : (headSpec ws rm).pre.before a A.U = true := atoms_intro fun w hw => hws w hw _ _ X.warmed
  have h2 : (Cond.code y bytes maxL ret).before a A.U = true := hws _ hcode _ _ X.warmed
  have h3 : (Cond.initialized y.cls).before a A.U = true := hinit _ _ X.warmed
  have h4 : A.cells + (headSpec ws rm).room.cells ≤ R.cells := by rw [show (headSpec ws rm).room.cells = mc from hrc]; exact hp.1
  have h5 : A.slots + (headSpec ws rm).room.slots ≤ R.slots := by rw [show (headSpec ws rm).room.slots = ms from hrs]; exact hp.2.1
  have hPc : Pc a (A.U.calling g mk a) := hblind _ _ _ _ hp.2.2
  obtain ⟨U, Ls, c0, s0⟩ := A
  dsimp only [Pt.U, Pt.locs, Pt.cells, Pt.slots] at h1 h2 h3 h4 h5 X hn hPc ⊢
  obtain ⟨methY, cY, hmY, hcY, -, hlY, -, -, -, -⟩ := Cond.code_spec hn h2
  obtain ⟨kY, hkY, -⟩ := className_of_methodNamed hn
  have hinitY : kY.init = .initialized := Cond.initialized_spec (findClass_of_methodNamed hn) hkY h3
  have h : At U g.method c below := by rw [hg]; exact X.here
  have hlocals9 : W9 + (maxL + 11) + (headSpec ws rm).room.locals ≤ R.locals := hlocals
  have happ : (headSpec ws rm).appliesLoose y e.platform (U.calling g mk a) = true :=
    Spec.appliesLoose_calling (g := g) h hdg hn hkY hinitY
      (X.room_calling (g := g) (R' := (headSpec ws rm).room) hsize hmY hcY hframes (by rw [hlY]; omega) h4 h5) h1
  obtain ⟨mid, hmid⟩ := h.above
  have hfr : (U.setTop g).frames = (.java g :: mid) ++ below := by rw [State.frames_setTop' g h.top, hmid]; rfl
  obtain ⟨o, s₂, hsteps, -, hend, hq⟩ := Steps.callFree hM p X.admits X.cas X.clock (acts := []) hfr happ hPc trivial
  have hq' : vx_Q Qc XC mc ms free a (U.calling g mk a) o s₂ := hq
  rw [State.frames_setTop' g h.top] at hend
  obtain ⟨g₀, hg0⟩ := Option.isSome_iff_exists.mp h.top
  obtain ⟨r, hr⟩ := State.topJava?_eq_some.mp hg0
  have hr' : (({ U with heap := s₂.heap, slotsUsed := s₂.slotsUsed } : State).setVm s₂.vm).frames = .java g₀ :: r := hr
  rcases hq' with ⟨hqc, L, hfe, hL⟩ | ⟨q, rfl, E, ce, L, hx, hce, hcv, hcl, hW₂, hsm, hL⟩
  · obtain ⟨⟨v, rfl⟩, hW₂, e2, q2, q3, q4, q5, q6⟩ := id hfe
    have e3 : s₂ = ({ (U.calling g mk a).setFrames s₂.frames with heap := s₂.heap, slotsUsed := s₂.slotsUsed } : State).setVm s₂.vm := by
      have : s₂ = ({ s₂ with vm := (U.calling g mk a).vm } : State).setVm s₂.vm := rfl
      rw [e2] at this
      exact this
    obtain ⟨c₂, i₂, len₂, hc₂, hd₂, hf₂⟩ := hend
    have hW' : U.WarmedH s₂.vm := hW₂
    have hcc : c₂ = c := by
      have h1 : s₂.code? g.method = U.code? g.method := by
        rw [State.code?_eq, State.code?_eq, hW'.alike.method?]
      exact Option.some.inj (hc₂.symm.trans (h1.trans h.code))
    subst hcc
    have hlen : len₂ = len := by rw [hdg] at hd₂; cases hd₂; rfl
    subst hlen
    have hs₂ : s₂ = (({ U with heap := s₂.heap, slotsUsed := s₂.slotsUsed } : State).setVm s₂.vm).setTop { g with pc := g.pc + len₂, stack := v.toList ++ g.stack } := by
      refine e3.trans ?_
      rw [hf₂, State.calling_eq h.top, State.setFrames_setFrames, State.setTop_of_frames _ hr', hr]
      rfl
    have hsame : U.sameButNew ({ U with heap := s₂.heap, slotsUsed := s₂.slotsUsed } : State) L mc ms := by
      refine ⟨?_, q2, q3, q4, q5, q6⟩
      obtain ⟨t, ht, -⟩ := State.frames_cons hr
      show ({ U with heap := s₂.heap, slotsUsed := s₂.slotsUsed } : State) = { U.setFrames U.frames with heap := s₂.heap, slotsUsed := s₂.slotsUsed }
      rw [State.setFrames_self ht]
    subst hg
    refine Or.inl ⟨v, ⟨(({ U with heap := s₂.heap, slotsUsed := s₂.slotsUsed } : State).setVm s₂.vm), Ls ++ L, c0 + mc, s0 + ms⟩,
      ⟨X.admits, X.cas, X.clock, X.frames, X.room, X.hears, X.method, X.code, (X.here.setHeapUsed s₂.heap s₂.slotsUsed).setVm hW'.alike, X.tail, State.WarmedH.trans X.warmed hW', X.limits, X.bytes, X.same.trans (hsame.setVm s.vm)⟩,
      ⟨g, mk, s₂, L, rfl, rfl, hqc, rfl, hL, rfl, rfl⟩, ?_⟩
    show Steps p.tables e below _ ((({ U with heap := s₂.heap, slotsUsed := s₂.slotsUsed } : State).setVm s₂.vm).setTop { g with pc := g.pc + len₂, stack := v.toList ++ g.stack })
    rw [← hs₂]
    exact hsteps
  · obtain ⟨e2, q2, q3, q4, q5, q6⟩ := id hsm
    have e3 : s₂ = ({ (U.calling g mk a).setFrames s₂.frames with heap := s₂.heap, slotsUsed := s₂.slotsUsed } : State).setVm s₂.vm := by
      have : s₂ = ({ s₂ with vm := (U.calling g mk a).vm } : State).setVm s₂.vm := rfl
      rw [e2] at this
      exact this
    have hf₂ : s₂.frames = .throwing q :: .java g :: U.frames.tail := hend
    have hW' : U.WarmedH s₂.vm := hW₂
    have hs₂ : s₂ = ((({ U with heap := s₂.heap, slotsUsed := s₂.slotsUsed } : State).setVm s₂.vm).setTop g).pushFrame (.throwing q) := by
      refine e3.trans ?_
      rw [hf₂, State.calling_eq h.top, State.setFrames_setFrames, State.pushFrame, State.frames_setTop _ hr', State.setTop_of_frames _ hr', State.setFrames_setFrames, hr]
      rfl
    have hsame : U.sameButNew ({ U with heap := s₂.heap, slotsUsed := s₂.slotsUsed } : State) L mc ms := by
      refine ⟨?_, q2, q3, q4, q5, q6⟩
      obtain ⟨t, ht, -⟩ := State.frames_cons hr
      show ({ U with heap := s₂.heap, slotsUsed := s₂.slotsUsed } : State) = { U.setFrames U.frames with heap := s₂.heap, slotsUsed := s₂.slotsUsed }
      rw [State.setFrames_self ht]
    subst hg
    refine Or.inr ⟨q, ⟨(({ U with heap := s₂.heap, slotsUsed := s₂.slotsUsed } : State).setVm s₂.vm), Ls ++ L, c0 + mc, s0 + ms⟩,
      ⟨X.admits, X.cas, X.clock, X.frames, X.room, X.hears, X.method, X.code, (X.here.setHeapUsed s₂.heap s₂.slotsUsed).setVm hW'.alike, X.tail, State.WarmedH.trans X.warmed hW', X.limits, X.bytes, X.same.trans (hsame.setVm s.vm)⟩,
      ⟨g, mk, s₂, L, E, ce, rfl, rfl, hx, hce, hcv, hcl, rfl, hL, rfl, rfl⟩, ?_⟩
    show Steps p.tables e below _ (((({ U with heap := s₂.heap, slotsUsed := s₂.slotsUsed } : State).setVm s₂.vm).setTop g).pushFrame (.throwing q))
    rw [← hs₂]
    exact hsteps
end Payer
section Calls
variable {p : Program} {l : Launch} {e : Env} {R : Room} {s : State} {m : MethodId} {args : Array Value} {below : List Frame} {meth : Method} {c : Code} {T : State} {locs : List Loc} {cells slots : Nat}
theorem vx_callV (X : Stand p l e R s m args below meth c T locs cells slots) (hexec : p.tables.exec = Jvm.exec) {own C : String} {index : Nat} {y : MethodName} {bytes : ByteArray} {maxL : Nat} {ret : Option FieldType}
    (hown : s.vm.findClass own = some m.cls) (hlink : (Cond.methodLink own index y).before args s = true) (hinst : (Cond.instanceMethod y).before args s = true) (hsel : (Cond.selects C y y).before args s = true)
    (hcode : (Cond.code y bytes maxL ret).before args s = true) (hy : y.cls ≠ "java/lang/invoke/MethodHandle" ∧ y.cls ≠ "java/lang/invoke/VarHandle")
    {W9 : Nat} {Pre : Pt → Array Value → Prop} {Post : Pt → Array Value → Option Value → Pt → Prop} {PostX : Pt → Array Value → Addr → Pt → Prop} (hK : vx_Back l R p e below s args y 3 W9 Pre Post PostX)
    {b : Addr} {cellB : Cell} (hcell : T.heap[b]? = some cellB) (hobj : cellB.vm.isStatics = false) (hcls : s.vm.findClass C = some cellB.cls)
    {g : JFrame} (hg : g.method = m) (hsize : g.locals.size = c.maxLocals) {argsL rest : List Value} (hlen : ∀ sig, parseMethodDescriptor y.desc = some sig → argsL.length = sig.parameters.length)
    (hstack : g.stack = argsL.reverse ++ .ref b :: rest) (hW : 2 * g.monitorRoom + (rest.map fun v => v.category).sum ≤ W9) (hdg : decode c.code g.pc = .ok (.invokevirtual index, 3))
    (hpre : ∀ vm₁, s.WarmedH vm₁ → Pre ⟨T.setVm vm₁, locs, cells, slots⟩ (Value.ref b :: argsL).toArray) :
    (∃ (v : Option Value) (vm₁ : Vm) (B : Pt), s.WarmedH vm₁ ∧ Stand p l e R s m args below meth c B.U B.locs B.cells B.slots ∧ Post ⟨T.setVm vm₁, locs, cells, slots⟩ (Value.ref b :: argsL).toArray v B ∧
      ∀ target, Steps p.tables e below (B.U.setTop { g with pc := g.pc + 3, stack := v.toList ++ rest }) target → Steps p.tables e below (T.setTop g) target) ∨
    (∃ (q : Addr) (vm₁ : Vm) (B : Pt), s.WarmedH vm₁ ∧ Stand p l e R s m args below meth c B.U B.locs B.cells B.slots ∧ PostX ⟨T.setVm vm₁, locs, cells, slots⟩ (Value.ref b :: argsL).toArray q B ∧
      Steps p.tables e below (T.setTop g) ((B.U.setTop { g with stack := rest }).pushFrame (.throwing q))) := by
  obtain ⟨mk, methM, hnamed, hmethM, hstM, habM⟩ := Cond.instanceMethod_spec hinst
  obtain ⟨methM', cM, hmethM', -, -, -, -, -, -, hsigM⟩ := Cond.code_spec hnamed hcode
  cases hmethM.symm.trans hmethM'
  obtain ⟨c2, r2, m2, q1, q2, q3, q4, kP, hkP, hkPi⟩ := Cond.selects_spec hsel
  cases hcls.symm.trans q1
  cases (State.methodFound?_of_named hnamed hy).symm.trans q2
  cases hnamed.symm.trans q3
  have hselP : selectMethod e.platform s.vm cellB.cls mk = .method mk := by rw [Launch.admits_selectMethod X.admits]; exact q4
  obtain ⟨vm₁, X₁, hstep₁⟩ := X.invokevirtual hexec hown hlink hnamed hmethM hstM hkP hkPi hy (a := b) (cell := cellB) hcell
    (fun z h => by rw [h] at hobj; cases hobj) hselP hmethM habM hkP hkPi (g := g) hg (argsL := argsL) (rest := rest) (hlen _ hsigM) hstack hdg
  rcases hK m meth c ⟨T.setVm vm₁, locs, cells, slots⟩ { g with stack := rest } (.invokevirtual index) mk (Value.ref b :: argsL).toArray X₁ hg hsize hdg hW (X₁.named hnamed) (hpre vm₁ X₁.warmed) with ⟨v, B, X', hpost, hsteps⟩ | ⟨q, B, X', hpost, hsteps⟩
  · exact Or.inl ⟨v, vm₁, B, X₁.warmed, X', hpost, fun target h => hstep₁ _ fun acts => by rw [doInvoke_state]; exact hsteps.trans h⟩
  · exact Or.inr ⟨q, vm₁, B, X₁.warmed, X', hpost, hstep₁ _ fun acts => by rw [doInvoke_state]; exact hsteps⟩
theorem vx_callS (X : Stand p l e R s m args below meth c T locs cells slots) (hexec : p.tables.exec = Jvm.exec) {own : String} {index : Nat} {y : MethodName} {bytes : ByteArray} {maxL : Nat} {ret : Option FieldType}
    (hown : s.vm.findClass own = some m.cls) (hlink : (Cond.methodLink own index y).before args s = true) (hstat : (Cond.static y).before args s = true) (hinit : (Cond.initialized y.cls).before args s = true)
    (hcode : (Cond.code y bytes maxL ret).before args s = true) (hy : y.cls ≠ "java/lang/invoke/MethodHandle" ∧ y.cls ≠ "java/lang/invoke/VarHandle")
    {W9 : Nat} {Pre : Pt → Array Value → Prop} {Post : Pt → Array Value → Option Value → Pt → Prop} {PostX : Pt → Array Value → Addr → Pt → Prop} (hK : vx_Back l R p e below s args y 3 W9 Pre Post PostX)
    {g : JFrame} (hg : g.method = m) (hsize : g.locals.size = c.maxLocals) {argsL rest : List Value} (hlen : ∀ sig, parseMethodDescriptor y.desc = some sig → argsL.length = sig.parameters.length)
    (hstack : g.stack = argsL.reverse ++ rest) (hW : 2 * g.monitorRoom + (rest.map fun v => v.category).sum ≤ W9) (hdg : decode c.code g.pc = .ok (.invokestatic index, 3))
    (hpre : ∀ vm₁, s.WarmedH vm₁ → Pre ⟨T.setVm vm₁, locs, cells, slots⟩ argsL.toArray) :
    (∃ (v : Option Value) (vm₁ : Vm) (B : Pt), s.WarmedH vm₁ ∧ Stand p l e R s m args below meth c B.U B.locs B.cells B.slots ∧ Post ⟨T.setVm vm₁, locs, cells, slots⟩ argsL.toArray v B ∧
      ∀ target, Steps p.tables e below (B.U.setTop { g with pc := g.pc + 3, stack := v.toList ++ rest }) target → Steps p.tables e below (T.setTop g) target) ∨
    (∃ (q : Addr) (vm₁ : Vm) (B : Pt), s.WarmedH vm₁ ∧ Stand p l e R s m args below meth c B.U B.locs B.cells B.slots ∧ PostX ⟨T.setVm vm₁, locs, cells, slots⟩ argsL.toArray q B ∧
      Steps p.tables e below (T.setTop g) ((B.U.setTop { g with stack := rest }).pushFrame (.throwing q))) := by
  obtain ⟨mk, hnamed⟩ := Cond.code_named hcode
  obtain ⟨methM, cM, hmethM, -, -, -, -, -, -, hsigM⟩ := Cond.code_spec hnamed hcode
  have hstatic : methM.isStatic = true := Cond.static_spec hnamed hmethM hstat
  obtain ⟨kP, hkP, -⟩ := className_of_methodNamed hnamed
  have hinitP : kP.init = .initialized := Cond.initialized_spec (findClass_of_methodNamed hnamed) hkP hinit
  obtain ⟨vm₁, X₁, hstep₁⟩ := X.invokestatic hexec hown hlink hnamed hmethM hstatic hkP hinitP hy (g := g) hg (argsL := argsL) (rest := rest) (hlen _ hsigM) hstack hdg
  rcases hK m meth c ⟨T.setVm vm₁, locs, cells, slots⟩ { g with stack := rest } (.invokestatic index) mk argsL.toArray X₁ hg hsize hdg hW (X₁.named hnamed) (hpre vm₁ X₁.warmed) with ⟨v, B, X', hpost, hsteps⟩ | ⟨q, B, X', hpost, hsteps⟩
  · exact Or.inl ⟨v, vm₁, B, X₁.warmed, X', hpost, fun target h => hstep₁ _ fun acts => by rw [doInvoke_state]; exact hsteps.trans h⟩
  · exact Or.inr ⟨q, vm₁, B, X₁.warmed, X', hpost, hstep₁ _ fun acts => by rw [doInvoke_state]; exact hsteps⟩
end Calls
theorem vx_cls {s : State} {T : State} {vm₁ : Vm} {E : String} {k : ClassId} (hW : s.WarmedH vm₁) (h : (T.setVm vm₁).vm.findClass E = some k) : s.vm.findClass E = some k := by
  have h1 : vm₁.findClass E = some k := h
  rw [hW.alike.findClass] at h1
  exact h1
/-- the method's frame g, with q thrown over it -/
def vx_W (p : Program) (l : Launch) (e : Env) (R : Room) (s : State) (m : MethodId) (args : Array Value) (below : List Frame) (meth : Method) (c : Code) (H : Heap) (locs : List Loc) (cells slots : Nat) (Q : State → Prop) (g : JFrame) (q : Addr) : Prop :=
  ∀ T : State, T.heap = H → Stand p l e R s m args below meth c T locs cells slots → ∃ t, Steps p.tables e below ((T.setTop g).pushFrame (.throwing q)) t ∧ Q t
def vx_Run (p : Program) (l : Launch) (e : Env) (R : Room) (s : State) (m : MethodId) (args : Array Value) (below : List Frame) (meth : Method) (c : Code) (H : Heap) (locs : List Loc) (cells slots mc ms : Nat) (g : JFrame) (rest : List Value) (Qa : State → Outcome → State → Prop) (XC : String → State → State → Prop) (free : Addr → Prop) : Prop :=
  ∀ T : State, T.heap = H → Stand p l e R s m args below meth c T locs cells slots →
    (∃ (v : Option Value) (st₀ t T' : State) (L : List Loc), st₀.heap = H ∧ Stand p l e R s m args below meth c T' (locs ++ L) (cells + mc) (slots + ms) ∧ (∀ q ∈ L, free q.base) ∧ T'.heap = t.heap ∧ T'.vm = t.vm ∧ Qa st₀ (.returned v) t ∧
      Goes p e below T g T' { g with pc := g.pc + 3, stack := v.toList ++ rest }) ∨
    (∃ (q : Addr) (st₀ t T' : State) (L : List Loc) (E : String) (ce : Cell), st₀.heap = H ∧ Stand p l e R s m args below meth c T' (locs ++ L) (cells + mc) (slots + ms) ∧ (∀ z ∈ L, free z.base) ∧ T'.heap = t.heap ∧ T'.vm = t.vm ∧ XC E st₀ t ∧ t.heap[q]? = some ce ∧ ce.vm = .none ∧ s.vm.findClass E = some ce.cls ∧
      Steps p.tables e below (T.setTop g) ((T'.setTop { g with stack := rest }).pushFrame (.throwing q)))
def vx_X {S : Type} (px : S → Prop) (B : String → S → State → Prop) (A : Nat → Prop) : String → State → State → Prop := fun E st t => ∃ u : S, px u ∧ B E u t ∧ va_F A st t
section Runs
variable {p : Program} {l : Launch} {e : Env} {R : Room} {s : State} {m : MethodId} {args : Array Value} {below : List Frame} {meth : Method} {c : Code} {H : Heap} {locs : List Loc} {cells slots : Nat}
variable {y : MethodName} {bytes cc : ByteArray} {maxL nL mc ms n index : Nat} {ret : Option FieldType} {ws : List Cond} {rm : Room} {Pc : Array Value → State → Prop} {Qc : Array Value → State → Outcome → State → Prop} {XC : String → State → State → Prop} {free : Addr → Prop} {Ts : List Cond} {own C : String} {b : Addr} {As rest : List Value} {g : JFrame}
theorem vx_callBack (cb : CallB R s args own index y bytes maxL ret ws rm mc ms n) (hM : vx_Met l y ws rm Pc Qc XC mc ms free) (hbl : FrameBlind Pc) : vx_Back l R p e below s args y 3 8 (PreOf R mc ms Pc) (PostOf Qc mc ms free) (vx_Post XC mc ms free) := by
  obtain ⟨hrc, hrs, hfr, hlo, hws, hcw, -, hini, -⟩ := cb
  exact vx_back (bytes := bytes) (maxL := maxL) (ret := ret) hM hbl hrc hrs hfr hlo hws hcw (fun a' U hW => word_at hW (Or.inl (by first | rfl | simp [Cond.onTables, Cond.keeps, Cond.steady])) hini)
theorem vx_runV (S : CallFix p m c cc nL s args Ts own) (hM : vx_Met l y ws rm Pc Qc XC mc ms free) (cw : CallW R s args own C index y bytes maxL ret ws rm mc ms n) (hp : PreV s H C b Pc As)
    (hg : g.method = m) (hn : As.length = n) (hsize : g.locals.size = nL) (hstack : g.stack = As.reverse ++ .ref b :: rest) (hW : 2 * g.monitorRoom + (rest.map fun v => v.category).sum ≤ 8) (hdg : decode cc g.pc = .ok (.invokevirtual index, 3)) (hf : cells + mc ≤ R.cells ∧ slots + ms ≤ R.slots) :
    vx_Run p l e R s m args below meth c H locs cells slots mc ms g rest (Qc (Value.ref b :: As).toArray) XC free := by
  have hK : vx_Back l R p e below s args y 3 8 (PreOf R mc ms Pc) (PostOf Qc mc ms free) (vx_Post XC mc ms free) := vx_callBack cw.1 hM hp.1
  obtain ⟨⟨-, -, -, -, -, -, hcode, -, hy, hlen, hl⟩, hin, hse⟩ := cw
  obtain ⟨hx, hb, hml, ho, -⟩ := S
  obtain ⟨-, ⟨cellB, hcB, hoB, hclB⟩, hPc⟩ := hp
  intro T hT X
  rcases vx_callV X hx (C := C) (bytes := bytes) (maxL := maxL) (ret := ret) ho hl hin hse hcode hy hK (by rw [hT]; exact hcB) hoB hclB hg (hsize.trans hml.symm) (argsL := As) (rest := rest) (fun sig h => hn.trans (hlen sig h)) hstack hW (by rw [hb]; exact hdg)
    (fun vm₁ hW₁ => ⟨hf.1, hf.2, hPc (T.setVm vm₁) hT hW₁⟩) with ⟨v, vm₁, ⟨U', l2, c2, s2⟩, hW₁, X', ⟨g', mk, t, L, e1, e2, hq, h1, hL, h2, h3⟩, st⟩ | ⟨q, vm₁, ⟨U', l2, c2, s2⟩, hW₁, X', ⟨g', mk, t, L, E, ce, e1, e2, hq, hce, hcv, hcl, h1, hL, h2, h3⟩, st⟩
  · dsimp only [Pt.U, Pt.locs, Pt.cells, Pt.slots] at X' e1 e2 h1 h2 h3 st
    subst h1; subst h2; subst h3
    exact Or.inl ⟨v, (T.setVm vm₁).calling g' mk (Value.ref b :: As).toArray, t, U', L, hT, X', hL, e1, e2, hq, st⟩
  · dsimp only [Pt.U, Pt.locs, Pt.cells, Pt.slots] at X' e1 e2 h1 h2 h3 st hcl
    subst h1; subst h2; subst h3
    exact Or.inr ⟨q, (T.setVm vm₁).calling g' mk (Value.ref b :: As).toArray, t, U', L, E, ce, hT, X', hL, e1, e2, hq, hce, hcv, vx_cls hW₁ hcl, st⟩
theorem vx_runS (S : CallFix p m c cc nL s args Ts own) (hM : vx_Met l y ws rm Pc Qc XC mc ms free) (cw : CallB R s args own index y bytes maxL ret ws rm mc ms n ∧ (Cond.static y).before args s = true) (hp : PreS s H Pc As)
    (hg : g.method = m) (hn : As.length = n) (hsize : g.locals.size = nL) (hstack : g.stack = As.reverse ++ rest) (hW : 2 * g.monitorRoom + (rest.map fun v => v.category).sum ≤ 8) (hdg : decode cc g.pc = .ok (.invokestatic index, 3)) (hf : cells + mc ≤ R.cells ∧ slots + ms ≤ R.slots) :
    vx_Run p l e R s m args below meth c H locs cells slots mc ms g rest (Qc As.toArray) XC free := by
  have hK : vx_Back l R p e below s args y 3 8 (PreOf R mc ms Pc) (PostOf Qc mc ms free) (vx_Post XC mc ms free) := vx_callBack cw.1 hM hp.1
  obtain ⟨⟨-, -, -, -, -, -, hcode, hini, hy, hlen, hl⟩, hstt⟩ := cw
  obtain ⟨hx, hb, hml, ho, -⟩ := S
  intro T hT X
  rcases vx_callS X hx (bytes := bytes) (maxL := maxL) (ret := ret) ho hl hstt hini hcode hy hK hg (hsize.trans hml.symm) (argsL := As) (rest := rest) (fun sig h => hn.trans (hlen sig h)) hstack hW (by rw [hb]; exact hdg)
    (fun vm₁ hW₁ => ⟨hf.1, hf.2, hp.2 (T.setVm vm₁) hT hW₁⟩) with ⟨v, vm₁, ⟨U', l2, c2, s2⟩, hW₁, X', ⟨g', mk, t, L, e1, e2, hq, h1, hL, h2, h3⟩, st⟩ | ⟨q, vm₁, ⟨U', l2, c2, s2⟩, hW₁, X', ⟨g', mk, t, L, E, ce, e1, e2, hq, hce, hcv, hcl, h1, hL, h2, h3⟩, st⟩
  · dsimp only [Pt.U, Pt.locs, Pt.cells, Pt.slots] at X' e1 e2 h1 h2 h3 st
    subst h1; subst h2; subst h3
    exact Or.inl ⟨v, (T.setVm vm₁).calling g' mk As.toArray, t, U', L, hT, X', hL, e1, e2, hq, st⟩
  · dsimp only [Pt.U, Pt.locs, Pt.cells, Pt.slots] at X' e1 e2 h1 h2 h3 st hcl
    subst h1; subst h2; subst h3
    exact Or.inr ⟨q, (T.setVm vm₁).calling g' mk As.toArray, t, U', L, E, ce, hT, X', hL, e1, e2, hq, hce, hcv, vx_cls hW₁ hcl, st⟩
end Runs
section Rows
variable {p : Program} {l : Launch} {e : Env} {R : Room} {s : State} {m : MethodId} {args : Array Value} {below : List Frame} {meth : Method} {c : Code} {H : Heap} {locs : List Loc} {cells slots : Nat} {Q : State → Prop}
variable {mc ms : Nat} {free : Addr → Prop} {A0 A1 : Nat → Prop} {H0 : Heap} {a : Array Value} {pc : Nat} {ls : Array Slot} {st0 rest : List Value}
theorem vx_keep {st₀ t T' : State} {L : List Loc} (h0 : st₀.heap = H) (e1 : T'.heap = t.heap) (hS : va_S A0 H0 H locs) (hA : ∀ q, q < H.size → A1 q → A0 q) (hf : ∀ q, free q → A0 q) (hL : ∀ q ∈ L, free q.base) (hF : va_F A1 st₀ t) :
    H.size ≤ T'.heap.size ∧ (∀ q : Nat, q < H.size → ¬ A1 q → T'.heap[q]? = H[q]?) ∧ va_S A0 H0 T'.heap (locs ++ L) := by
  obtain ⟨hz, hk⟩ := hF
  rw [h0] at hz hk
  exact ⟨by rw [e1]; exact hz, fun q h1 h2 => by rw [e1]; exact hk q h1 h2,
    ⟨Nat.le_trans hS.1 (by rw [e1]; exact hz), fun q h1 h2 => by rw [e1, hk q (Nat.lt_of_lt_of_le h1 hS.1) (fun z => h2 (hA q (Nat.lt_of_lt_of_le h1 hS.1) z))]; exact hS.2.1 q h1 h2, fun q hq => by
      rcases List.mem_append.mp hq with h | h
      · exact hS.2.2 q h
      · exact hf _ (hL q h)⟩⟩
theorem vx_calli {S SX : Type} {post : Int32 → S → Prop} {px : SX → Prop} {B : S → State → Prop} {BX : String → SX → State → Prop} {AX : Nat → Prop} (hr : vx_Run p l e R s m args below meth c H locs cells slots mc ms (F0 m pc ls st0) rest (va_Qi post B A1 a) (vx_X px BX AX) free) (hS : va_S A0 H0 H locs) (hA : ∀ q, q < H.size → A1 q → A0 q) (hf : ∀ q, free q → A0 q) (hAX : ∀ q, q < H.size → AX q → A0 q)
    (kx : ∀ (E : String) (ce : Cell) (q9 : Addr) (u : SX) (t : State) (H1 : Heap) (locs1 : List Loc), t.heap = H1 → s.vm.Alike t.vm → px u → BX E u t → H.size ≤ H1.size → (∀ q : Nat, q < H.size → ¬ AX q → H1[q]? = H[q]?) → va_S A0 H0 H1 locs1 → H1[q9]? = some ce → ce.vm = .none → s.vm.findClass E = some ce.cls → vx_W p l e R s m args below meth c H1 locs1 (cells + mc) (slots + ms) Q (F0 m pc ls rest) q9)
    (kk : ∀ (r : Int32) (u : S) (t : State) (H1 : Heap) (locs1 : List Loc), t.heap = H1 → s.vm.Alike t.vm → post r u → B u t → H.size ≤ H1.size → (∀ q : Nat, q < H.size → ¬ A1 q → H1[q]? = H[q]?) → va_S A0 H0 H1 locs1 → W p l e R s m args below meth c H1 locs1 (cells + mc) (slots + ms) Q (F0 m (pc + 3) ls (.int r :: rest))) : W p l e R s m args below meth c H locs cells slots Q (F0 m pc ls st0) := by
  intro T hT X
  rcases hr T hT X with ⟨v, st₀, t, T', L, h0, X', hL, e1, e2, ⟨⟨r, u, hv, hp, hb⟩, hF⟩, st⟩ | ⟨q, st₀, t, T', L, E, ce, h0, X', hL, e1, e2, ⟨u, hp, hb, hF⟩, hce, hcv, hcl, st⟩
  · cases hv
    obtain ⟨k1, k2, k3⟩ := vx_keep h0 e1 hS hA hf hL hF
    obtain ⟨t2, a1, b1⟩ := kk r u t T'.heap (locs ++ L) e1.symm (by rw [← e2]; exact X'.warmed.alike) hp hb k1 k2 k3 T' rfl X'
    exact ⟨t2, st t2 a1, b1⟩
  · obtain ⟨k1, k2, k3⟩ := vx_keep h0 e1 hS hAX hf hL hF
    obtain ⟨t2, a1, b1⟩ := kx E ce q u t T'.heap (locs ++ L) e1.symm (by rw [← e2]; exact X'.warmed.alike) hp hb k1 k2 k3 (by rw [e1]; exact hce) hcv hcl T' rfl X'
    exact ⟨t2, st.trans a1, b1⟩
theorem vx_calll {S SX : Type} {post : Int64 → S → Prop} {px : SX → Prop} {B : S → State → Prop} {BX : String → SX → State → Prop} {AX : Nat → Prop} (hr : vx_Run p l e R s m args below meth c H locs cells slots mc ms (F0 m pc ls st0) rest (va_Ql post B A1 a) (vx_X px BX AX) free) (hS : va_S A0 H0 H locs) (hA : ∀ q, q < H.size → A1 q → A0 q) (hf : ∀ q, free q → A0 q) (hAX : ∀ q, q < H.size → AX q → A0 q)
    (kx : ∀ (E : String) (ce : Cell) (q9 : Addr) (u : SX) (t : State) (H1 : Heap) (locs1 : List Loc), t.heap = H1 → s.vm.Alike t.vm → px u → BX E u t → H.size ≤ H1.size → (∀ q : Nat, q < H.size → ¬ AX q → H1[q]? = H[q]?) → va_S A0 H0 H1 locs1 → H1[q9]? = some ce → ce.vm = .none → s.vm.findClass E = some ce.cls → vx_W p l e R s m args below meth c H1 locs1 (cells + mc) (slots + ms) Q (F0 m pc ls rest) q9)
    (kk : ∀ (r : Int64) (u : S) (t : State) (H1 : Heap) (locs1 : List Loc), t.heap = H1 → s.vm.Alike t.vm → post r u → B u t → H.size ≤ H1.size → (∀ q : Nat, q < H.size → ¬ A1 q → H1[q]? = H[q]?) → va_S A0 H0 H1 locs1 → W p l e R s m args below meth c H1 locs1 (cells + mc) (slots + ms) Q (F0 m (pc + 3) ls (.long r :: rest))) : W p l e R s m args below meth c H locs cells slots Q (F0 m pc ls st0) := by
  intro T hT X
  rcases hr T hT X with ⟨v, st₀, t, T', L, h0, X', hL, e1, e2, ⟨⟨r, u, hv, hp, hb⟩, hF⟩, st⟩ | ⟨q, st₀, t, T', L, E, ce, h0, X', hL, e1, e2, ⟨u, hp, hb, hF⟩, hce, hcv, hcl, st⟩
  · cases hv
    obtain ⟨k1, k2, k3⟩ := vx_keep h0 e1 hS hA hf hL hF
    obtain ⟨t2, a1, b1⟩ := kk r u t T'.heap (locs ++ L) e1.symm (by rw [← e2]; exact X'.warmed.alike) hp hb k1 k2 k3 T' rfl X'
    exact ⟨t2, st t2 a1, b1⟩
  · obtain ⟨k1, k2, k3⟩ := vx_keep h0 e1 hS hAX hf hL hF
    obtain ⟨t2, a1, b1⟩ := kx E ce q u t T'.heap (locs ++ L) e1.symm (by rw [← e2]; exact X'.warmed.alike) hp hb k1 k2 k3 (by rw [e1]; exact hce) hcv hcl T' rfl X'
    exact ⟨t2, st.trans a1, b1⟩
theorem vx_callf {S SX : Type} {post : UInt32 → S → Prop} {px : SX → Prop} {B : S → State → Prop} {BX : String → SX → State → Prop} {AX : Nat → Prop} (hr : vx_Run p l e R s m args below meth c H locs cells slots mc ms (F0 m pc ls st0) rest (va_Qf post B A1 a) (vx_X px BX AX) free) (hS : va_S A0 H0 H locs) (hA : ∀ q, q < H.size → A1 q → A0 q) (hf : ∀ q, free q → A0 q) (hAX : ∀ q, q < H.size → AX q → A0 q)
    (kx : ∀ (E : String) (ce : Cell) (q9 : Addr) (u : SX) (t : State) (H1 : Heap) (locs1 : List Loc), t.heap = H1 → s.vm.Alike t.vm → px u → BX E u t → H.size ≤ H1.size → (∀ q : Nat, q < H.size → ¬ AX q → H1[q]? = H[q]?) → va_S A0 H0 H1 locs1 → H1[q9]? = some ce → ce.vm = .none → s.vm.findClass E = some ce.cls → vx_W p l e R s m args below meth c H1 locs1 (cells + mc) (slots + ms) Q (F0 m pc ls rest) q9)
    (kk : ∀ (r : UInt32) (u : S) (t : State) (H1 : Heap) (locs1 : List Loc), t.heap = H1 → s.vm.Alike t.vm → post r u → B u t → H.size ≤ H1.size → (∀ q : Nat, q < H.size → ¬ A1 q → H1[q]? = H[q]?) → va_S A0 H0 H1 locs1 → W p l e R s m args below meth c H1 locs1 (cells + mc) (slots + ms) Q (F0 m (pc + 3) ls (.float r :: rest))) : W p l e R s m args below meth c H locs cells slots Q (F0 m pc ls st0) := by
  intro T hT X
  rcases hr T hT X with ⟨v, st₀, t, T', L, h0, X', hL, e1, e2, ⟨⟨r, u, hv, hp, hb⟩, hF⟩, st⟩ | ⟨q, st₀, t, T', L, E, ce, h0, X', hL, e1, e2, ⟨u, hp, hb, hF⟩, hce, hcv, hcl, st⟩
  · cases hv
    obtain ⟨k1, k2, k3⟩ := vx_keep h0 e1 hS hA hf hL hF
    obtain ⟨t2, a1, b1⟩ := kk r u t T'.heap (locs ++ L) e1.symm (by rw [← e2]; exact X'.warmed.alike) hp hb k1 k2 k3 T' rfl X'
    exact ⟨t2, st t2 a1, b1⟩
  · obtain ⟨k1, k2, k3⟩ := vx_keep h0 e1 hS hAX hf hL hF
    obtain ⟨t2, a1, b1⟩ := kx E ce q u t T'.heap (locs ++ L) e1.symm (by rw [← e2]; exact X'.warmed.alike) hp hb k1 k2 k3 (by rw [e1]; exact hce) hcv hcl T' rfl X'
    exact ⟨t2, st.trans a1, b1⟩
theorem vx_calld {S SX : Type} {post : UInt64 → S → Prop} {px : SX → Prop} {B : S → State → Prop} {BX : String → SX → State → Prop} {AX : Nat → Prop} (hr : vx_Run p l e R s m args below meth c H locs cells slots mc ms (F0 m pc ls st0) rest (va_Qd post B A1 a) (vx_X px BX AX) free) (hS : va_S A0 H0 H locs) (hA : ∀ q, q < H.size → A1 q → A0 q) (hf : ∀ q, free q → A0 q) (hAX : ∀ q, q < H.size → AX q → A0 q)
    (kx : ∀ (E : String) (ce : Cell) (q9 : Addr) (u : SX) (t : State) (H1 : Heap) (locs1 : List Loc), t.heap = H1 → s.vm.Alike t.vm → px u → BX E u t → H.size ≤ H1.size → (∀ q : Nat, q < H.size → ¬ AX q → H1[q]? = H[q]?) → va_S A0 H0 H1 locs1 → H1[q9]? = some ce → ce.vm = .none → s.vm.findClass E = some ce.cls → vx_W p l e R s m args below meth c H1 locs1 (cells + mc) (slots + ms) Q (F0 m pc ls rest) q9)
    (kk : ∀ (r : UInt64) (u : S) (t : State) (H1 : Heap) (locs1 : List Loc), t.heap = H1 → s.vm.Alike t.vm → post r u → B u t → H.size ≤ H1.size → (∀ q : Nat, q < H.size → ¬ A1 q → H1[q]? = H[q]?) → va_S A0 H0 H1 locs1 → W p l e R s m args below meth c H1 locs1 (cells + mc) (slots + ms) Q (F0 m (pc + 3) ls (.double r :: rest))) : W p l e R s m args below meth c H locs cells slots Q (F0 m pc ls st0) := by
  intro T hT X
  rcases hr T hT X with ⟨v, st₀, t, T', L, h0, X', hL, e1, e2, ⟨⟨r, u, hv, hp, hb⟩, hF⟩, st⟩ | ⟨q, st₀, t, T', L, E, ce, h0, X', hL, e1, e2, ⟨u, hp, hb, hF⟩, hce, hcv, hcl, st⟩
  · cases hv
    obtain ⟨k1, k2, k3⟩ := vx_keep h0 e1 hS hA hf hL hF
    obtain ⟨t2, a1, b1⟩ := kk r u t T'.heap (locs ++ L) e1.symm (by rw [← e2]; exact X'.warmed.alike) hp hb k1 k2 k3 T' rfl X'
    exact ⟨t2, st t2 a1, b1⟩
  · obtain ⟨k1, k2, k3⟩ := vx_keep h0 e1 hS hAX hf hL hF
    obtain ⟨t2, a1, b1⟩ := kx E ce q u t T'.heap (locs ++ L) e1.symm (by rw [← e2]; exact X'.warmed.alike) hp hb k1 k2 k3 (by rw [e1]; exact hce) hcv hcl T' rfl X'
    exact ⟨t2, st.trans a1, b1⟩
theorem vx_callv {S SX : Type} {post : S → Prop} {px : SX → Prop} {B : S → State → Prop} {BX : String → SX → State → Prop} {AX : Nat → Prop} (hr : vx_Run p l e R s m args below meth c H locs cells slots mc ms (F0 m pc ls st0) rest (va_Qv post B A1 a) (vx_X px BX AX) free) (hS : va_S A0 H0 H locs) (hA : ∀ q, q < H.size → A1 q → A0 q) (hf : ∀ q, free q → A0 q) (hAX : ∀ q, q < H.size → AX q → A0 q)
    (kx : ∀ (E : String) (ce : Cell) (q9 : Addr) (u : SX) (t : State) (H1 : Heap) (locs1 : List Loc), t.heap = H1 → s.vm.Alike t.vm → px u → BX E u t → H.size ≤ H1.size → (∀ q : Nat, q < H.size → ¬ AX q → H1[q]? = H[q]?) → va_S A0 H0 H1 locs1 → H1[q9]? = some ce → ce.vm = .none → s.vm.findClass E = some ce.cls → vx_W p l e R s m args below meth c H1 locs1 (cells + mc) (slots + ms) Q (F0 m pc ls rest) q9)
    (kk : ∀ (u : S) (t : State) (H1 : Heap) (locs1 : List Loc), t.heap = H1 → s.vm.Alike t.vm → post u → B u t → H.size ≤ H1.size → (∀ q : Nat, q < H.size → ¬ A1 q → H1[q]? = H[q]?) → va_S A0 H0 H1 locs1 → W p l e R s m args below meth c H1 locs1 (cells + mc) (slots + ms) Q (F0 m (pc + 3) ls (rest))) : W p l e R s m args below meth c H locs cells slots Q (F0 m pc ls st0) := by
  intro T hT X
  rcases hr T hT X with ⟨v, st₀, t, T', L, h0, X', hL, e1, e2, ⟨⟨u, hv, hp, hb⟩, hF⟩, st⟩ | ⟨q, st₀, t, T', L, E, ce, h0, X', hL, e1, e2, ⟨u, hp, hb, hF⟩, hce, hcv, hcl, st⟩
  · cases hv
    obtain ⟨k1, k2, k3⟩ := vx_keep h0 e1 hS hA hf hL hF
    obtain ⟨t2, a1, b1⟩ := kk u t T'.heap (locs ++ L) e1.symm (by rw [← e2]; exact X'.warmed.alike) hp hb k1 k2 k3 T' rfl X'
    exact ⟨t2, st t2 a1, b1⟩
  · obtain ⟨k1, k2, k3⟩ := vx_keep h0 e1 hS hAX hf hL hF
    obtain ⟨t2, a1, b1⟩ := kx E ce q u t T'.heap (locs ++ L) e1.symm (by rw [← e2]; exact X'.warmed.alike) hp hb k1 k2 k3 (by rw [e1]; exact hce) hcv hcl T' rfl X'
    exact ⟨t2, st.trans a1, b1⟩
/-- caught by the row x of this method's table; the rows ahead don't take it -/
theorem vx_catch {own name : String} {E : String} {ce : Cell} {q : Addr} (hown : s.vm.findClass own = some m.cls) (pre : List ExceptionTableEntry) (x : ExceptionTableEntry) (suf : List ExceptionTableEntry) (hsplit : c.exceptionTable.toList = pre ++ x :: suf)
    (hpass : ∀ z ∈ pre, covers z pc = false ∨ (z.catchType ≠ 0 ∧ ∃ nm : String, (Cond.classLink own z.catchType nm).before args s = true ∧ va_Nc E nm s)) (hx : covers x pc = true) (h0 : x.catchType ≠ 0)
    (hlink : (Cond.classLink own x.catchType name).before args s = true) (hcast : (Cond.castable E name).before args s = true) (hcell : H[q]? = some ce) (hv : ce.vm = .none) (hcl : s.vm.findClass E = some ce.cls)
    (kk : W p l e R s m args below meth c H locs cells slots Q (F0 m x.handlerPc ls [.ref q])) : vx_W p l e R s m args below meth c H locs cells slots Q (F0 m pc ls rest) q := by
  intro T hT X
  have hpl : e.platform.magicAccessors = ({} : Platform).magicAccessors := by rw [X.admits.platform]
  obtain ⟨c3, c4, hc3, hc4, hasg⟩ := Cond.castable_spec hcast
  cases Option.some.inj (hc3.symm.trans hcl)
  obtain ⟨c5, hc5, hcl5⟩ := Cond.classLink_spec hown hlink e.platform hpl
  cases Option.some.inj (hc4.symm.trans hc5)
  obtain ⟨vm', X', st⟩ := X.thenCaughtThrough q (g := F0 m pc ls rest) rfl (Steps.refl _) (by rw [hT]; exact hcell) (by rw [hv]; rfl) (by obtain ⟨k9, h9, -⟩ := Vm.findClass_spec hcl; exact ⟨k9, h9⟩) pre x suf hsplit
    (fun z hz => by
      rcases hpass z hz with h | ⟨hz0, nm, hl1, hn1⟩
      · exact Or.inl h
      · obtain ⟨c6, hc6, hcl6⟩ := Cond.classLink_spec hown hl1 e.platform hpl
        obtain ⟨a8, b8, h1, h2, h3⟩ := hn1
        cases Option.some.inj (h1.symm.trans hcl)
        cases Option.some.inj (h2.symm.trans hc6)
        exact Or.inr ⟨hz0, _, hcl6, h3⟩) hx (Or.inr ⟨h0, c4, hcl5, hasg⟩)
  obtain ⟨t, a1, b1⟩ := kk (T.setVm vm') hT X'
  exact ⟨t, st.trans a1, b1⟩
end Rows
section Ends
variable {p : Program} {l : Launch} {e : Env} {R : Room} {s : State} {m : MethodId} {args : Array Value} {below : List Frame} {meth : Method} {c : Code} {H : Heap} {locs : List Loc} {cells slots : Nat} {Q : State → Prop}
variable {mc ms : Nat} {free : Addr → Prop} {A0 A1 : Nat → Prop} {H0 : Heap} {a : Array Value} {ls : Array Slot} {st0 rest : List Value}
variable {Qc : Array Value → State → Outcome → State → Prop} {XC : String → State → State → Prop}
/-- what a body that may throw owes at its end -/
def vx_MQ (below : List Frame) (Qc : Array Value → State → Outcome → State → Prop) (XC : String → State → State → Prop) (a : Array Value) (s : State) (mc ms : Nat) (free : Addr → Prop) : State → Prop := fun t =>
  ∃ o, t.status = .running ∧ Ended t below o ∧ vx_Q Qc XC mc ms free a s o t
theorem vx_ret {g : JFrame} {mc ms : Nat} (k : W p l e R s m args below meth c H locs cells slots (MQ below Qc args s mc ms free) g) : W p l e R s m args below meth c H locs cells slots (vx_MQ below Qc XC args s mc ms free) g := by
  intro T hT X
  obtain ⟨t, a1, o, b1, b2, b3, b4⟩ := k T hT X
  exact ⟨t, a1, o, b1, b2, Or.inl ⟨b3, b4⟩⟩
/-- not caught here: it goes on to the caller -/
theorem vx_widen {g : JFrame} {q : Addr} {k n : Nat} (h1 : cells ≤ k) (h2 : slots ≤ n) (kk : vx_W p l e R s m args below meth c H locs k n Q g q) : vx_W p l e R s m args below meth c H locs cells slots Q g q := fun T hT X => kk T hT (stand_widen X h1 h2)
theorem vx_out {pc : Nat} {E : String} {ce : Cell} {q : Addr} {mc ms : Nat} (hout : ∀ x ∈ c.exceptionTable.toList, covers x pc = false) (hlocks : meth.locks = false) (hcell : H[q]? = some ce) (hv : ce.vm = .none) (hcl : s.vm.findClass E = some ce.cls)
    (hx : ∀ t : State, t.heap = H → s.vm.Alike t.vm → XC E s t) (hf : ∀ z ∈ locs, free z.base) (hc : cells ≤ mc) (hs : slots ≤ ms) :
    vx_W p l e R s m args below meth c H locs cells slots (vx_MQ below Qc XC args s mc ms free) (F0 m pc ls rest) q := by
  intro T hT X
  obtain ⟨st1, hrun, hend, hW, hsm⟩ := X.leaveThrown q (g := F0 m pc ls rest) rfl rfl rfl hout hlocks
  have hcell9 : (T.setFrames (.throwing q :: below)).heap[q]? = some ce := by
    show T.heap[q]? = some ce
    rw [hT]; exact hcell
  exact ⟨_, st1, .threw q, hrun, hend, Or.inr ⟨q, rfl, E, ce, locs, hx _ hT hW.alike, hcell9, hv, hcl, hW, hsm.mono hc hs, hf⟩⟩
theorem vx_frame {U : State} {k n : Nat} (h : s.sameButNew ({ U with vm := s.vm } : State) locs k n) : s.heap.size ≤ U.heap.size ∧ ∀ q : Nat, q < s.heap.size → (∀ z ∈ locs, z.base ≠ q) → U.heap[q]? = s.heap[q]? := by
  obtain ⟨-, h2, -, -, -, h6⟩ := h
  refine ⟨h2, fun q hq hz => ?_⟩
  obtain ⟨c9, e1, e2, e3, e4⟩ := h6 q _ (Array.getElem?_eq_getElem hq)
  have hs : c9.slots = (s.heap[q]).slots := Array.ext_getElem? fun i => e4 i fun hm => hz _ hm rfl
  have h9 : c9 = s.heap[q] := by
    rw [hs] at e2
    exact e2
  have e5 : U.heap[q]? = some c9 := e1
  rw [e5, h9, Array.getElem?_eq_getElem hq]
/-- the words of a throw but the four that speak of the heap -/
def vx_no (w : Cond) : Bool := decide (w ≠ .isRef (.static Bundle.tN "UNASSIGNED_STACK" Bundle.steD)) && decide (w ≠ .isRef (.static Bundle.tN "SUPPRESSED_SENTINEL" Bundle.listD)) && decide (w ≠ .laysStatic Bundle.tN "UNASSIGNED_STACK" Bundle.steD) && decide (w ≠ .laysStatic Bundle.tN "SUPPRESSED_SENTINEL" Bundle.listD)
def vx_at0 (own : String) (ic : Nat) (X : String) (names : List String) : List Cond := (Bundle.ownAtoms0 own ic X names).filter vx_no
def vx_atS (own : String) (ic : Nat) (X : String) (names : List String) : List Cond := (Bundle.ownAtoms own ic X names).filter vx_no
/-- a word that the tables alone decide, or a good one -/
def vx_ot (w : Cond) : Bool := w.onTables || goodWord w
theorem vx_ot_at {args a' : Array Value} {s U : State} {w : Cond} (hW : s.WarmedH U.vm) (hvm : s.vm = U.vm) (hg : vx_ot w = true) (h : w.before args s = true) : w.before a' U = true := by
  simp only [vx_ot, Bool.or_eq_true] at hg
  rcases hg with hg | hg
  · exact va_tabs hg hvm h
  · exact word_at hW (good_of_word hg) h
/-- a list's words: the good ones out of the method's own list, the others by premises of their own -/
theorem vx_hat {args : Array Value} {s : State} {L B : List Cond} (h1 : ∀ w ∈ L.filter goodWord, w.before args s = true) (h2 : ∀ w ∈ L.filter (fun w => !goodWord w), w ∈ B) (h3 : ∀ w ∈ B, w.before args s = true) : ∀ w ∈ L, w.before args s = true := by
  intro w hw
  by_cases g : goodWord w = true
  · exact h1 w (List.mem_filter.mpr ⟨hw, g⟩)
  · refine h3 w (h2 w (List.mem_filter.mpr ⟨hw, ?_⟩))
    show (!goodWord w) = true
    cases hgw : goodWord w
    · rfl
    · exact absurd hgw g
theorem vx_c {args : Array Value} {s : State} {w : Cond} {B : List Cond} (h : w.before args s = true) (t : ∀ w ∈ B, w.before args s = true) : ∀ w' ∈ w :: B, w'.before args s = true := fun w' h' => (List.mem_cons.mp h').elim (fun e => by rw [e]; exact h) (t w')
theorem vx_n {args : Array Value} {s : State} : ∀ w ∈ ([] : List Cond), w.before args s = true := fun _ h => nomatch h
theorem vx_own {args : Array Value} {s : State} {L : List Cond} (h1 : ∀ w ∈ L.filter vx_no, w.before args s = true)
    (hU : (Cond.isRef (.static Bundle.tN "UNASSIGNED_STACK" Bundle.steD)).before args s = true) (hN : (Cond.isRef (.static Bundle.tN "SUPPRESSED_SENTINEL" Bundle.listD)).before args s = true)
    (lU : (Cond.laysStatic Bundle.tN "UNASSIGNED_STACK" Bundle.steD).before args s = true) (lN : (Cond.laysStatic Bundle.tN "SUPPRESSED_SENTINEL" Bundle.listD).before args s = true) : ∀ w ∈ L, w.before args s = true := by
  intro w hw
  by_cases e1 : w = .isRef (.static Bundle.tN "UNASSIGNED_STACK" Bundle.steD)
  · rw [e1]; exact hU
  · by_cases e2 : w = .isRef (.static Bundle.tN "SUPPRESSED_SENTINEL" Bundle.listD)
    · rw [e2]; exact hN
    · by_cases e3 : w = .laysStatic Bundle.tN "UNASSIGNED_STACK" Bundle.steD
      · rw [e3]; exact lU
      · by_cases e4 : w = .laysStatic Bundle.tN "SUPPRESSED_SENTINEL" Bundle.listD
        · rw [e4]; exact lN
        · exact h1 w (List.mem_filter.mpr ⟨hw, by unfold vx_no; rw [decide_eq_true e1, decide_eq_true e2, decide_eq_true e3, decide_eq_true e4]; rfl⟩)
/-- where a static field lies, its class's statics cell in H -/
def vx_L (C n d : String) (A : Nat → Prop) (U : State) (H : Heap) : Prop := ∃ (c : ClassId) (k : Class) (i : Nat) (f : Field) (a : Nat) (cell : Cell), U.vm.findClass C = some c ∧ U.fieldFound? C n d = some (c, k, i, f) ∧ f.isStatic = true ∧ k.statics = some a ∧ H[a]? = some cell ∧ cell.vm.isStatics = true ∧ cell.cls = c ∧ f.slot < cell.slots.size ∧ k.staticTypes[f.slot]? = some f.type ∧ ¬ A a
theorem vx_L.moved {C n d : String} {A : Nat → Prop} {u U : State} {H : Heap} (hvm : u.vm.Alike U.vm) (h : vx_L C n d A u H) : vx_L C n d A U H := by
  obtain ⟨c, k, i, f, a, cell, h1, h2, h3, h4, h5, h6, h7, h8, h9, h10⟩ := h
  obtain ⟨k', hi', he⟩ := State.fieldFound?_setVm hvm h2
  exact ⟨c, k', i, f, a, cell, by rw [hvm.findClass]; exact h1, hi', h3, by rw [he]; exact h4, h5, h6, h7, h8, by rw [he]; exact h9, h10⟩
theorem vx_L.kept {C n d : String} {A : Nat → Prop} {U : State} {H H1 : Heap} (h : vx_L C n d A U H) (hq : ∀ a : Nat, a < H.size → ¬ A a → H1[a]? = H[a]?) : vx_L C n d A U H1 := by
  obtain ⟨c, k, i, f, a, cell, h1, h2, h3, h4, h5, h6, h7, h8, h9, h10⟩ := h
  exact ⟨c, k, i, f, a, cell, h1, h2, h3, h4, by rw [hq a (Array.getElem?_eq_some_iff.mp h5).1 h10]; exact h5, h6, h7, h8, h9, h10⟩
theorem vx_L.narrow {C n d : String} {A B : Nat → Prop} {U : State} {H : Heap} (h : vx_L C n d A U H) (hAB : ∀ q, B q → A q) : vx_L C n d B U H := by
  obtain ⟨c, k, i, f, a, cell, h1, h2, h3, h4, h5, h6, h7, h8, h9, h10⟩ := h
  exact ⟨c, k, i, f, a, cell, h1, h2, h3, h4, h5, h6, h7, h8, h9, fun z => h10 (hAB _ z)⟩
theorem vx_L.word {C n d : String} {A : Nat → Prop} {s : State} {args : Array Value} (h : vx_L C n d A s s.heap) : (Cond.laysStatic C n d).before args s = true := by
  obtain ⟨c, k, i, f, a, cell, h1, h2, h3, h4, h5, h6, h7, h8, h9, -⟩ := h
  show (Cond.laysStatic C n d).holds args s none s [] = true
  exact Cond.laysStatic_of h1 h2 h3 h4 h5 h6 h7 h8 h9
/-- .. and what it holds: null or some reference -/
def vx_Zq (C n d : String) (A : Nat → Prop) (U : State) (H : Heap) : Prop := va_Zq C n d A U H ∧ vx_L C n d A U H
theorem vx_Zq.moved {C n d : String} {A : Nat → Prop} {u U : State} {H : Heap} (hvm : u.vm.Alike U.vm) (h : vx_Zq C n d A u H) : vx_Zq C n d A U H := ⟨va_Zq.moved hvm h.1, vx_L.moved hvm h.2⟩
theorem vx_Zq.kept {C n d : String} {A : Nat → Prop} {U : State} {H H1 : Heap} (h : vx_Zq C n d A U H) (hq : ∀ a : Nat, a < H.size → ¬ A a → H1[a]? = H[a]?) : vx_Zq C n d A U H1 := ⟨va_Zq.kept h.1 hq, vx_L.kept h.2 hq⟩
theorem vx_Zq.narrow {C n d : String} {A B : Nat → Prop} {U : State} {H : Heap} (h : vx_Zq C n d A U H) (hAB : ∀ q, B q → A q) : vx_Zq C n d B U H := ⟨va_Zq.narrow h.1 hAB, vx_L.narrow h.2 hAB⟩
theorem vx_Zqof {args : Array Value} {s : State} {C n d : String} {A : Nat → Prop} (hl : (Cond.laysStatic C n d).before args s = true) (hini : (Cond.initialized C).before args s = true) (h : (Cond.isRef (.static C n d)).before args s = true) (hA : ∀ a : Nat, a < s.heap.size → ¬ A a) : vx_Zq C n d A s s.heap := by
  refine ⟨va_Zqof hl hini h hA, ?_⟩
  obtain ⟨c, k, i, f, a, cell, h1, h2, h3, h4, h5, h6, h7, h8, h9⟩ := Cond.laysStatic_spec hl
  exact ⟨c, k, i, f, a, cell, h1, h2, h3, h4, h5, h6, h7, h8, h9, hA a (Array.getElem?_eq_some_iff.mp h5).1⟩
theorem vx_isRef {C n d : String} {v : Value} {A : Nat → Prop} {s : State} {args : Array Value} (h : va_Z C n d v A s s.heap) (hv : v.isRef = true) : (Cond.isRef (.static C n d)).before args s = true := by
  obtain ⟨cf, kf, fi, f, a, cell, h1, h2, h3, h4, h5, h6, h7, -⟩ := h
  have he : (Term.static C n d).eval args s none [] s = some v := by
    simp [Term.eval, State.fieldNamed?, h1, h2, h4, h5, h6, h7]
  simp only [Cond.before, Cond.holds, Cond.value, he]
  cases v <;> simp_all [Value.isRef]
theorem vx_isRefq {C n d : String} {A : Nat → Prop} {s : State} {args : Array Value} (h : va_Zq C n d A s s.heap) : (Cond.isRef (.static C n d)).before args s = true := by
  rcases h with h | ⟨t, h⟩
  · exact vx_isRef h rfl
  · exact vx_isRef h rfl
/-- the same frame, seen from here: as if the method were called anew in this heap -/
theorem vx_rebase {T : State} (X : Stand p l e R s m args below meth c T locs cells slots) {R' : Room} (hf : R'.frames ≤ R.frames) (hl : R'.locals ≤ R.locals) (hc : cells + R'.cells ≤ R.cells) (hs : slots + R'.slots ≤ R.slots) :
    Stand p l e R' ((T.setVm s.vm).setFrames (.invoking m args :: below)) m args below meth c T [] 0 0 := by
  have htop : (T.setVm s.vm).topJava?.isSome := X.here.top
  have hF : ((T.setVm s.vm).setFrames (.invoking m args :: below)).frames = .invoking m args :: below := State.frames_setFrames _ (State.cur_lt_of_top htop)
  obtain ⟨g₀, hg0⟩ := Option.isSome_iff_exists.mp htop
  obtain ⟨r, hr⟩ := State.topJava?_eq_some.mp hg0
  have hl9 : e.platform.stackLimits (T.setVm s.vm).me = e.platform.stackLimits s.me := X.limits
  have hb9 : (T.setVm s.vm).me.stackBytes = s.me.stackBytes := X.bytes
  refine ⟨X.admits, X.cas, X.clock, hF, ?_, X.hears, X.method, X.code, X.here, X.tail, X.warmed, ?_, ?_, ?_⟩
  · have h := X.room
    have hU : ((T.setVm s.vm).setFrames (.invoking m args :: below)).localsInUse = s.localsInUse := by
      rw [State.localsInUse_invoking hF (meth := meth) (c := c) X.method X.code, State.localsInUse_invoking X.frames X.method X.code]
    simp only [State.hasRoom, Bool.and_eq_true, decide_eq_true_eq] at h ⊢
    obtain ⟨⟨⟨⟨h1, h2, h3, h4, h5, h6⟩, h7⟩, h8⟩, h9⟩ := h
    rw [X.frames, List.length_cons] at h2 h3
    have q1 := X.heapSize
    have q2 := X.used
    simp only [hF, hU, List.length_cons, State.stackLimits_setFrames, State.stackBytes_setFrames, hl9, hb9]
    refine ⟨⟨⟨⟨by omega, by omega, by omega, by omega, by omega, h6⟩, ?_⟩, ?_⟩, X.book⟩
    · show T.heap.size + R'.cells ≤ e.platform.maxCells
      omega
    · show T.slotsUsed + R'.slots ≤ e.platform.maxSlots
      omega
  · rw [State.stackLimits_setFrames]; rfl
  · rw [State.stackBytes_setFrames]; rfl
  · refine ⟨?_, Nat.le_refl _, Nat.le_refl _, ?_, ?_, fun a c9 h9 => ⟨c9, h9, rfl, rfl, fun _ _ => rfl⟩⟩
    · obtain ⟨t, ht, -⟩ := State.frames_cons hr
      show T.setVm s.vm = { ((T.setVm s.vm).setFrames (.invoking m args :: below)).setFrames (T.setVm s.vm).frames with heap := T.heap, slotsUsed := T.slotsUsed }
      rw [State.setFrames_setFrames, State.setFrames_self ht]
      rfl
    · show T.slotsUsed = T.slotsUsed + ((T.heap.toList.drop T.heap.size).map (·.slots.size)).sum
      rw [List.drop_eq_nil_of_le (Nat.le_of_eq Array.length_toList)]
      rfl
    · show ((T.heap.toList.drop T.heap.size).map (·.slots.size)).sum ≤ 0
      rw [List.drop_eq_nil_of_le (Nat.le_of_eq Array.length_toList)]
      exact Nat.le_refl _
/-- 'throw new E()': new; dup; invokespecial; athrow -/
theorem vx_throw0 {cc : ByteArray} {pc : Nat} (hexec : p.tables.exec = Jvm.exec) (hb : c.code = cc) (hl : l.stackTraces = false) {own cls : String} {names : List String} {ik ic mc ms : Nat} {A : Nat → Prop}
    (hown : s.vm.findClass own = some m.cls) (hcls : Bundle.fit cls = true) (hnames : ∀ n ∈ names, Bundle.fit n = true)
    (hk : (Cond.classLink own ik cls).before args s = true) (hini : (Cond.initialized cls).before args s = true) (hat : ∀ w ∈ vx_at0 own ic cls names, w.before args s = true)
    (hgood : ∀ w ∈ Cond.classLink own ik cls :: Cond.initialized cls :: vx_at0 own ic cls names, vx_ot w = true)
    (hU : vx_Zq Bundle.tN "UNASSIGNED_STACK" Bundle.steD A s s.heap) (hN : vx_Zq Bundle.tN "SUPPRESSED_SENTINEL" Bundle.listD A s s.heap) (hS : va_S A s.heap H locs) (hsize : ls.size = c.maxLocals)
    (d0 : decode cc pc = .ok (.new ik, 3)) (d3 : decode cc (pc + 3) = .ok (.dup, 1)) (d4 : decode cc (pc + 4) = .ok (.invokespecial ic, 3)) (d7 : decode cc (pc + 7) = .ok (.athrow, 1))
    (hout : ∀ x ∈ c.exceptionTable.toList, covers x (pc + 7) = false)
    (hRframes : names.length + 3 < R.frames) (hRlocals : (rest.map fun v => v.category).sum + (13 * (names.length + 1) + 42) ≤ R.locals) (hRcells : cells + 1 ≤ R.cells) (hRslots : slots + 6 ≤ R.slots) (hlocks : meth.locks = false)
    (hx : ∀ t : State, s.vm.Alike t.vm → H.size ≤ t.heap.size → (∀ q : Nat, q < H.size → t.heap[q]? = H[q]?) → XC cls s t)
    (hf : ∀ z ∈ locs, free z.base) (hc : cells + 1 ≤ mc) (hs : slots + 6 ≤ ms) :
    W p l e R s m args below meth c H locs cells slots (vx_MQ below Qc XC args s mc ms free) (F0 m pc ls rest) := by
  intro T hT X
  have htr : e.platform.stackTraces = false := (show e.platform.stackTraces = l.stackTraces by rw [X.admits.platform]).trans hl
  have Y := vx_rebase X (R' := { frames := R.frames, locals := R.locals, cells := 1, slots := 6 }) (Nat.le_refl _) (Nat.le_refl _) hRcells hRslots
  obtain ⟨s', hA⟩ : ∃ z, z = (T.setVm s.vm).setFrames (.invoking m args :: below) := ⟨_, rfl⟩
  rw [← hA] at Y
  have hvm : s'.vm = s.vm := by rw [hA]; rfl
  have hhp : s'.heap = H := by rw [hA]; exact hT
  have hW0 : s.WarmedH s'.vm := by rw [hvm]; exact State.WarmedH.refl s
  have hat' : ∀ w ∈ vx_at0 own ic cls names, w.before args s' = true := fun w hw => vx_ot_at hW0 hvm.symm (hgood w (List.mem_cons_of_mem _ (List.mem_cons_of_mem _ hw))) (hat w hw)
  have hk' : (Cond.classLink own ik cls).before args s' = true := vx_ot_at hW0 hvm.symm (hgood _ List.mem_cons_self) hk
  have hini' : (Cond.initialized cls).before args s' = true := vx_ot_at hW0 hvm.symm (hgood _ (List.mem_cons_of_mem _ List.mem_cons_self)) hini
  have hU' : vx_Zq Bundle.tN "UNASSIGNED_STACK" Bundle.steD A s' s'.heap := by rw [hhp]; exact vx_Zq.moved hW0.alike (hU.kept hS.2.1)
  have hN' : vx_Zq Bundle.tN "SUPPRESSED_SENTINEL" Bundle.listD A s' s'.heap := by rw [hhp]; exact vx_Zq.moved hW0.alike (hN.kept hS.2.1)
  have h : ∀ w ∈ Bundle.ownAtoms0 own ic cls names, w.before args s' = true := vx_own hat' (vx_isRefq hU'.1) (vx_isRefq hN'.1) hU'.2.word hN'.2.word
  have hown' : s'.vm.findClass own = some m.cls := by rw [hvm]; exact hown
  have hins : (Cond.instantiable cls 6).before args s' = true := h _ (by simp [Bundle.ownAtoms0])
  obtain ⟨vm₁, cX, kX, hfX, hkX, -, -, X₁, st1⟩ := Y.newCold hexec (own := own) (C := cls) (index := ik) (n := 6) hown' hk' hins hini'
    (g := F0 m pc ls rest) rfl (by rw [hb]; exact d0) (Nat.le_refl _) (Nat.le_refl _)
  generalize hT1 : (T.setVm vm₁).pushCell { cls := cX, slots := kX.instanceTypes.map defaultValue, vm := .none } = T1 at X₁ st1
  have hcat : (Value.ref T.heap.size).category = 1 := rfl
  have hcellA : T1.heap[T.heap.size]? = some (freshCell cX kX) := by rw [← hT1]; exact State.heap_pushCell_size _ _
  have d3' : decode c.code (pc + 3) = .ok (.dup, 1) := by rw [hb]; exact d3
  obtain ⟨U, hsteps, hrun, hend, hW, hsame, ce, hce, hO⟩ := X₁.ctorThrow0 hexec htr (own := own) (cls := cls) (names := names) (ic := ic) hown' hcls hnames h (fun x hx => nomatch hx) hfX hkX hcellA (by rw [hhp, hT]; exact Nat.le_refl _)
    (g := { method := m, pc := pc + 4, locals := ls, stack := .ref T.heap.size :: .ref T.heap.size :: rest, locked := none }) rfl hsize rfl rfl (rest := rest) rfl
    (by rw [hb]; exact d4) (by rw [hb]; exact d7) hout hRframes (by simp only [List.map_cons, List.sum_cons, hcat]; omega) hlocks
  obtain ⟨f1, f2⟩ := vx_frame hsame
  rw [hhp] at f1 f2
  have hWs : s.WarmedH U.vm := State.WarmedH.trans hW0 hW
  have hcl : s.vm.findClass cls = some ce.cls := by
    have h9 := hO.cls
    rw [hvm] at h9
    exact h9
  have hall : s.sameButNew ({ U with vm := s.vm } : State) locs mc ms := by
    subst hA
    obtain ⟨e1, e2⟩ := hsame
    rw [State.setFrames_setFrames] at e1
    have h2 : (T.setVm s.vm).sameButNew ({ U with vm := s.vm } : State) [] (0 + 1) (0 + 6) := ⟨e1, e2⟩
    have h3 := X.same.trans h2
    rw [List.append_nil] at h3
    exact h3.mono hc hs
  refine ⟨U, ?_, .threw T.heap.size, hrun, hend, Or.inr ⟨T.heap.size, rfl, cls, ce, locs, hx U hWs.alike f1 (fun q hq => f2 q hq (fun z hz => nomatch hz)), hce, hO.vm, hcl, hWs, hall, hf⟩⟩
  refine st1 _ ?_
  show Steps p.tables e below (T1.setTop { method := m, pc := pc + 3, locals := ls, stack := .ref T.heap.size :: rest, locked := none }) _
  jvm_step X₁.here [X₁.here.top, hexec, d3', Value.category]
  exact hsteps
/-- 'throw new E("text")': new; dup; ldc; invokespecial; athrow -/
theorem vx_throwS {cc : ByteArray} {pc : Nat} (hexec : p.tables.exec = Jvm.exec) (hb : c.code = cc) (hl : l.stackTraces = false) {own cls text : String} {names : List String} {ik is ic mc ms sa : Nat} {A : Nat → Prop}
    (hown : s.vm.findClass own = some m.cls) (hcls : Bundle.fit cls = true) (hnames : ∀ n ∈ names, Bundle.fit n = true)
    (hk : (Cond.classLink own ik cls).before args s = true) (hini : (Cond.initialized cls).before args s = true) (hstr : vk_R own is text sa s) (hat : ∀ w ∈ vx_atS own ic cls names, w.before args s = true)
    (hgood : ∀ w ∈ Cond.classLink own ik cls :: Cond.initialized cls :: vx_atS own ic cls names, vx_ot w = true)
    (hU : vx_Zq Bundle.tN "UNASSIGNED_STACK" Bundle.steD A s s.heap) (hN : vx_Zq Bundle.tN "SUPPRESSED_SENTINEL" Bundle.listD A s s.heap) (hS : va_S A s.heap H locs) (hsize : ls.size = c.maxLocals)
    (d0 : decode cc pc = .ok (.new ik, 3)) (d3 : decode cc (pc + 3) = .ok (.dup, 1)) (d4 : decode cc (pc + 4) = .ok (.ldc is, 2)) (d6 : decode cc (pc + 6) = .ok (.invokespecial ic, 3)) (d9 : decode cc (pc + 9) = .ok (.athrow, 1))
    (hout : ∀ x ∈ c.exceptionTable.toList, covers x (pc + 9) = false)
    (hRframes : names.length + 3 < R.frames) (hRlocals : (rest.map fun v => v.category).sum + (13 * (names.length + 1) + 43) ≤ R.locals) (hRcells : cells + 1 ≤ R.cells) (hRslots : slots + 6 ≤ R.slots) (hlocks : meth.locks = false)
    (hx : ∀ t : State, s.vm.Alike t.vm → H.size ≤ t.heap.size → (∀ q : Nat, q < H.size → t.heap[q]? = H[q]?) → XC cls s t)
    (hf : ∀ z ∈ locs, free z.base) (hc : cells + 1 ≤ mc) (hs : slots + 6 ≤ ms) :
    W p l e R s m args below meth c H locs cells slots (vx_MQ below Qc XC args s mc ms free) (F0 m pc ls rest) := by
  intro T hT X
  have htr : e.platform.stackTraces = false := (show e.platform.stackTraces = l.stackTraces by rw [X.admits.platform]).trans hl
  have Y := vx_rebase X (R' := { frames := R.frames, locals := R.locals, cells := 1, slots := 6 }) (Nat.le_refl _) (Nat.le_refl _) hRcells hRslots
  obtain ⟨s', hA⟩ : ∃ z, z = (T.setVm s.vm).setFrames (.invoking m args :: below) := ⟨_, rfl⟩
  rw [← hA] at Y
  have hvm : s'.vm = s.vm := by rw [hA]; rfl
  have hhp : s'.heap = H := by rw [hA]; exact hT
  have hW0 : s.WarmedH s'.vm := by rw [hvm]; exact State.WarmedH.refl s
  have hat' : ∀ w ∈ vx_atS own ic cls names, w.before args s' = true := fun w hw => vx_ot_at hW0 hvm.symm (hgood w (List.mem_cons_of_mem _ (List.mem_cons_of_mem _ hw))) (hat w hw)
  have hk' : (Cond.classLink own ik cls).before args s' = true := vx_ot_at hW0 hvm.symm (hgood _ List.mem_cons_self) hk
  have hini' : (Cond.initialized cls).before args s' = true := vx_ot_at hW0 hvm.symm (hgood _ (List.mem_cons_of_mem _ List.mem_cons_self)) hini
  have hU' : vx_Zq Bundle.tN "UNASSIGNED_STACK" Bundle.steD A s' s'.heap := by rw [hhp]; exact vx_Zq.moved hW0.alike (hU.kept hS.2.1)
  have hN' : vx_Zq Bundle.tN "SUPPRESSED_SENTINEL" Bundle.listD A s' s'.heap := by rw [hhp]; exact vx_Zq.moved hW0.alike (hN.kept hS.2.1)
  have h : ∀ w ∈ Bundle.ownAtoms own ic cls names, w.before args s' = true := vx_own hat' (vx_isRefq hU'.1) (vx_isRefq hN'.1) hU'.2.word hN'.2.word
  have hown' : s'.vm.findClass own = some m.cls := by rw [hvm]; exact hown
  have hins : (Cond.instantiable cls 6).before args s' = true := h _ (by simp [Bundle.ownAtoms])
  obtain ⟨vm₁, cX, kX, hfX, hkX, -, -, X₁, st1⟩ := Y.newCold hexec (own := own) (C := cls) (index := ik) (n := 6) hown' hk' hins hini'
    (g := F0 m pc ls rest) rfl (by rw [hb]; exact d0) (Nat.le_refl _) (Nat.le_refl _)
  generalize hT1 : (T.setVm vm₁).pushCell { cls := cX, slots := kX.instanceTypes.map defaultValue, vm := .none } = T1 at X₁ st1
  have hcat : (Value.ref T.heap.size).category = 1 := rfl
  have hcellA : T1.heap[T.heap.size]? = some (freshCell cX kX) := by rw [← hT1]; exact State.heap_pushCell_size _ _
  have d3' : decode c.code (pc + 3) = .ok (.dup, 1) := by rw [hb]; exact d3
  have d4' : decode c.code (pc + 4) = .ok (.ldc is, 2) := by rw [hb]; exact d4
  have hstr' : vk_R own is text sa s' := vk_R.warm hW0 hstr
  obtain ⟨U, hsteps, hrun, hend, hW, hsame, ce, hce, hO⟩ := X₁.ctorThrowS hexec htr (own := own) (cls := cls) (names := names) (ic := ic) hown' hcls hnames h (fun x hx => nomatch hx) hfX hkX hcellA (by rw [hhp, hT]; exact Nat.le_refl _) (msg := .ref sa) rfl
    (g := { method := m, pc := pc + 6, locals := ls, stack := .ref sa :: .ref T.heap.size :: .ref T.heap.size :: rest, locked := none }) rfl hsize rfl rfl (rest := rest) rfl
    (by rw [hb]; exact d6) (by rw [hb]; exact d9) hout hRframes (by simp only [List.map_cons, List.sum_cons, hcat]; omega) hlocks
  obtain ⟨f1, f2⟩ := vx_frame hsame
  rw [hhp] at f1 f2
  have hWs : s.WarmedH U.vm := State.WarmedH.trans hW0 hW
  have hcl : s.vm.findClass cls = some ce.cls := by
    have h9 := hO.cls
    rw [hvm] at h9
    exact h9
  have hall : s.sameButNew ({ U with vm := s.vm } : State) locs mc ms := by
    subst hA
    obtain ⟨e1, e2⟩ := hsame
    rw [State.setFrames_setFrames] at e1
    have h2 : (T.setVm s.vm).sameButNew ({ U with vm := s.vm } : State) [] (0 + 1) (0 + 6) := ⟨e1, e2⟩
    have h3 := X.same.trans h2
    rw [List.append_nil] at h3
    exact h3.mono hc hs
  refine ⟨U, ?_, .threw T.heap.size, hrun, hend, Or.inr ⟨T.heap.size, rfl, cls, ce, locs, hx U hWs.alike f1 (fun q hq => f2 q hq (fun z hz => nomatch hz)), hce, hO.vm, hcl, hWs, hall, hf⟩⟩
  refine st1 _ ?_
  show Steps p.tables e below (T1.setTop { method := m, pc := pc + 3, locals := ls, stack := .ref T.heap.size :: rest, locked := none }) _
  jvm_step X₁.here [X₁.here.top, hexec, d3', Value.category]
  exact X₁.ldcString hexec (own := own) (text := text) (index := is) (a := sa) hown' hstr'.1 hstr'.2
    (g := { method := m, pc := pc + 4, locals := ls, stack := .ref T.heap.size :: .ref T.heap.size :: rest, locked := none }) rfl d4' _ hsteps
/-- 'throw new E("text")', the text by a wide index -/
theorem vx_throwSW {cc : ByteArray} {pc : Nat} (hexec : p.tables.exec = Jvm.exec) (hb : c.code = cc) (hl : l.stackTraces = false) {own cls text : String} {names : List String} {ik is ic mc ms sa : Nat} {A : Nat → Prop}
    (hown : s.vm.findClass own = some m.cls) (hcls : Bundle.fit cls = true) (hnames : ∀ n ∈ names, Bundle.fit n = true)
    (hk : (Cond.classLink own ik cls).before args s = true) (hini : (Cond.initialized cls).before args s = true) (hstr : vk_R own is text sa s) (hat : ∀ w ∈ vx_atS own ic cls names, w.before args s = true)
    (hgood : ∀ w ∈ Cond.classLink own ik cls :: Cond.initialized cls :: vx_atS own ic cls names, vx_ot w = true)
    (hU : vx_Zq Bundle.tN "UNASSIGNED_STACK" Bundle.steD A s s.heap) (hN : vx_Zq Bundle.tN "SUPPRESSED_SENTINEL" Bundle.listD A s s.heap) (hS : va_S A s.heap H locs) (hsize : ls.size = c.maxLocals)
    (d0 : decode cc pc = .ok (.new ik, 3)) (d3 : decode cc (pc + 3) = .ok (.dup, 1)) (d4 : decode cc (pc + 4) = .ok (.ldc_w is, 3)) (d7 : decode cc (pc + 7) = .ok (.invokespecial ic, 3)) (d10 : decode cc (pc + 10) = .ok (.athrow, 1))
    (hout : ∀ x ∈ c.exceptionTable.toList, covers x (pc + 10) = false)
    (hRframes : names.length + 3 < R.frames) (hRlocals : (rest.map fun v => v.category).sum + (13 * (names.length + 1) + 43) ≤ R.locals) (hRcells : cells + 1 ≤ R.cells) (hRslots : slots + 6 ≤ R.slots) (hlocks : meth.locks = false)
    (hx : ∀ t : State, s.vm.Alike t.vm → H.size ≤ t.heap.size → (∀ q : Nat, q < H.size → t.heap[q]? = H[q]?) → XC cls s t)
    (hf : ∀ z ∈ locs, free z.base) (hc : cells + 1 ≤ mc) (hs : slots + 6 ≤ ms) :
    W p l e R s m args below meth c H locs cells slots (vx_MQ below Qc XC args s mc ms free) (F0 m pc ls rest) := by
  intro T hT X
  have htr : e.platform.stackTraces = false := (show e.platform.stackTraces = l.stackTraces by rw [X.admits.platform]).trans hl
  have Y := vx_rebase X (R' := { frames := R.frames, locals := R.locals, cells := 1, slots := 6 }) (Nat.le_refl _) (Nat.le_refl _) hRcells hRslots
  obtain ⟨s', hA⟩ : ∃ z, z = (T.setVm s.vm).setFrames (.invoking m args :: below) := ⟨_, rfl⟩
  rw [← hA] at Y
  have hvm : s'.vm = s.vm := by rw [hA]; rfl
  have hhp : s'.heap = H := by rw [hA]; exact hT
  have hW0 : s.WarmedH s'.vm := by rw [hvm]; exact State.WarmedH.refl s
  have hat' : ∀ w ∈ vx_atS own ic cls names, w.before args s' = true := fun w hw => vx_ot_at hW0 hvm.symm (hgood w (List.mem_cons_of_mem _ (List.mem_cons_of_mem _ hw))) (hat w hw)
  have hk' : (Cond.classLink own ik cls).before args s' = true := vx_ot_at hW0 hvm.symm (hgood _ List.mem_cons_self) hk
  have hini' : (Cond.initialized cls).before args s' = true := vx_ot_at hW0 hvm.symm (hgood _ (List.mem_cons_of_mem _ List.mem_cons_self)) hini
  have hU' : vx_Zq Bundle.tN "UNASSIGNED_STACK" Bundle.steD A s' s'.heap := by rw [hhp]; exact vx_Zq.moved hW0.alike (hU.kept hS.2.1)
  have hN' : vx_Zq Bundle.tN "SUPPRESSED_SENTINEL" Bundle.listD A s' s'.heap := by rw [hhp]; exact vx_Zq.moved hW0.alike (hN.kept hS.2.1)
  have h : ∀ w ∈ Bundle.ownAtoms own ic cls names, w.before args s' = true := vx_own hat' (vx_isRefq hU'.1) (vx_isRefq hN'.1) hU'.2.word hN'.2.word
  have hown' : s'.vm.findClass own = some m.cls := by rw [hvm]; exact hown
  have hins : (Cond.instantiable cls 6).before args s' = true := h _ (by simp [Bundle.ownAtoms])
  obtain ⟨vm₁, cX, kX, hfX, hkX, -, -, X₁, st1⟩ := Y.newCold hexec (own := own) (C := cls) (index := ik) (n := 6) hown' hk' hins hini'
    (g := F0 m pc ls rest) rfl (by rw [hb]; exact d0) (Nat.le_refl _) (Nat.le_refl _)
  generalize hT1 : (T.setVm vm₁).pushCell { cls := cX, slots := kX.instanceTypes.map defaultValue, vm := .none } = T1 at X₁ st1
  have hcat : (Value.ref T.heap.size).category = 1 := rfl
  have hcellA : T1.heap[T.heap.size]? = some (freshCell cX kX) := by rw [← hT1]; exact State.heap_pushCell_size _ _
  have d3' : decode c.code (pc + 3) = .ok (.dup, 1) := by rw [hb]; exact d3
  have d4' : decode c.code (pc + 4) = .ok (.ldc_w is, 3) := by rw [hb]; exact d4
  have hstr' : vk_R own is text sa s' := vk_R.warm hW0 hstr
  obtain ⟨U, hsteps, hrun, hend, hW, hsame, ce, hce, hO⟩ := X₁.ctorThrowS hexec htr (own := own) (cls := cls) (names := names) (ic := ic) hown' hcls hnames h (fun x hx => nomatch hx) hfX hkX hcellA (by rw [hhp, hT]; exact Nat.le_refl _) (msg := .ref sa) rfl
    (g := { method := m, pc := pc + 7, locals := ls, stack := .ref sa :: .ref T.heap.size :: .ref T.heap.size :: rest, locked := none }) rfl hsize rfl rfl (rest := rest) rfl
    (by rw [hb]; exact d7) (by rw [hb]; exact d10) hout hRframes (by simp only [List.map_cons, List.sum_cons, hcat]; omega) hlocks
  obtain ⟨f1, f2⟩ := vx_frame hsame
  rw [hhp] at f1 f2
  have hWs : s.WarmedH U.vm := State.WarmedH.trans hW0 hW
  have hcl : s.vm.findClass cls = some ce.cls := by
    have h9 := hO.cls
    rw [hvm] at h9
    exact h9
  have hall : s.sameButNew ({ U with vm := s.vm } : State) locs mc ms := by
    subst hA
    obtain ⟨e1, e2⟩ := hsame
    rw [State.setFrames_setFrames] at e1
    have h2 : (T.setVm s.vm).sameButNew ({ U with vm := s.vm } : State) [] (0 + 1) (0 + 6) := ⟨e1, e2⟩
    have h3 := X.same.trans h2
    rw [List.append_nil] at h3
    exact h3.mono hc hs
  refine ⟨U, ?_, .threw T.heap.size, hrun, hend, Or.inr ⟨T.heap.size, rfl, cls, ce, locs, hx U hWs.alike f1 (fun q hq => f2 q hq (fun z hz => nomatch hz)), hce, hO.vm, hcl, hWs, hall, hf⟩⟩
  refine st1 _ ?_
  show Steps p.tables e below (T1.setTop { method := m, pc := pc + 3, locals := ls, stack := .ref T.heap.size :: rest, locked := none }) _
  jvm_step X₁.here [X₁.here.top, hexec, d3', Value.category]
  exact X₁.ldcStringW hexec (own := own) (text := text) (index := is) (a := sa) hown' hstr'.1 hstr'.2
    (g := { method := m, pc := pc + 4, locals := ls, stack := .ref T.heap.size :: .ref T.heap.size :: rest, locked := none }) rfl d4' _ hsteps
end Ends
section Bodies
variable {l : Launch}
theorem vx_ofW {y : MethodName} {ws ws' : List Cond} {rm : Room} {Pc : Array Value → State → Prop} {Qc : Array Value → State → Outcome → State → Prop} {XC : String → State → State → Prop} {mc ms : Nat} {free : Addr → Prop} {cc : ByteArray} {maxL : Nat} {ret : Option FieldType}
    (hy : plainName y.cls = true) (hw : ws = Cond.code y cc maxL ret :: ws')
    (body : ∀ p e s m args below meth c s₁, BodyLoose p l y (headSpec ws rm) cc maxL ret e s m args below meth c s₁ → c.maxLocals = maxL → (∀ x ∈ c.exceptionTable.toList, False) → Pc args s →
      W p l e (headSpec ws rm).room s m args below meth c s.heap [] 0 0 (vx_MQ below Qc XC args s mc ms free) (entryFrame m args maxL)) : vx_Met l y ws rm Pc Qc XC mc ms free := by
  refine MetFree.of_bodyS (code := cc) (maxLocals := maxL) (ret := ret) hy ?_ ?_
  · intro args s m h hn
    obtain ⟨meth, c, h1, h2, h3, h4, h5, h6, -, -⟩ := Cond.code_spec hn (atoms_spec (ws := ws) h _ (by rw [hw]; exact List.mem_cons_self))
    exact ⟨meth, c, h1, h2, h3, h4, h5, h6⟩
  · intro p e s m args below meth c s₁ B hml hP _
    have hh0 : s₁.heap = s.heap := by rw [B.state]; rfl
    have ht : ∀ x ∈ c.exceptionTable.toList, False := by
      obtain ⟨meth9, c9, h1, h2, -, -, -, -, h7, -⟩ := Cond.code_spec B.named (atoms_spec (ws := ws) B.pre _ (by rw [hw]; exact List.mem_cons_self))
      cases Option.some.inj (h1.symm.trans B.method)
      cases Option.some.inj (h2.symm.trans (Stand.of_body B).code)
      intro x hx
      rw [Array.isEmpty_iff.mp h7] at hx
      cases hx
    obtain ⟨t, a1, o, b1, b2, b3⟩ := body p e s m args below meth c s₁ B hml ht hP s₁ hh0 (Stand.of_body B)
    exact ⟨t, o, a1, b1, b2, b3⟩
/-- the table of a body with handlers -/
theorem vx_table {p : Program} {x y : MethodName} {S : Spec} {cc bytes : ByteArray} {maxL maxL' : Nat} {ret ret' : Option FieldType} {e : Env} {s s₁ : State} {m : MethodId} {args : Array Value} {below : List Frame} {meth : Method} {c : Code} {hh : List (Nat × Nat × Nat × Nat)}
    (B : BodyLoose p l y S cc maxL ret e s m args below meth c s₁) (h : (Cond.codeWith y bytes maxL' ret' hh).before args s = true) : c.exceptionTable.toList = tableOf hh := by
  obtain ⟨m9, meth9, c9, hn9, h1, h2, -, -, h6, -⟩ := Cond.codeWith_spec h
  cases Option.some.inj (hn9.symm.trans B.named)
  cases Option.some.inj (h1.symm.trans B.method)
  cases Option.some.inj (h2.symm.trans (Stand.of_body B).code)
  rw [← h6, table_eq]
end Bodies
end VXA
/-! ===== END ===== -/
/-! ===== BEGIN a static call of a method with an exception table ===== -/
section VXS
variable {p : Program} {l : Launch} {e : Env} {R : Room} {s : State} {m : MethodId} {args : Array Value} {below : List Frame} {meth : Method} {c : Code} {T : State} {H : Heap} {locs : List Loc} {cells slots : Nat}
abbrev vx_CSW (R : Room) (s : State) (args : Array Value) (own : String) (index : Nat) (y : MethodName) (bytes : ByteArray) (maxL : Nat) (ret : Option FieldType) (hh : List (Nat × Nat × Nat × Nat)) (ws : List Cond) (rm : Room) (mc ms n : Nat) : Prop :=
  (rm.cells = mc ∧ rm.slots = ms ∧ rm.frames + 1 ≤ R.frames ∧ 8 + (maxL + 11) + rm.locals ≤ R.locals ∧ (∀ w ∈ ws, ∀ (a' : Array Value) (U : State), s.WarmedH U.vm → w.before a' U = true) ∧ Cond.codeWith y bytes maxL ret hh ∈ ws) ∧
  (Cond.codeWith y bytes maxL ret hh).before args s = true ∧ (Cond.initialized y.cls).before args s = true ∧ (y.cls ≠ "java/lang/invoke/MethodHandle" ∧ y.cls ≠ "java/lang/invoke/VarHandle") ∧
  (∀ sig, parseMethodDescriptor y.desc = some sig → n = sig.parameters.length) ∧ (Cond.methodLink own index y).before args s = true ∧ (Cond.static y).before args s = true
theorem vx_cwSW {own : String} {index maxL mc ms : Nat} {y : MethodName} {bytes : ByteArray} {ret : Option FieldType} {hh : List (Nat × Nat × Nat × Nat)} {Ts ws ws' : List Cond} {rm : Room} (n : Nat) (ht : ∀ w ∈ Ts, w.before args s = true) (hT : GoodIn Ts (va_wsS own index y ws)) (hw : ws = Cond.codeWith y bytes maxL ret hh :: ws') (hrc : rm.cells = mc) (hrs : rm.slots = ms)
    (hd : y.cls ≠ "java/lang/invoke/MethodHandle" ∧ y.cls ≠ "java/lang/invoke/VarHandle" ∧ (parseMethodDescriptor y.desc).map (fun d => d.parameters.length) = some n) (hR : rm.frames + 1 ≤ R.frames ∧ 8 + (maxL + 11) + rm.locals ≤ R.locals) :
    vx_CSW R s args own index y bytes maxL ret hh ws rm mc ms n := by
  have ok : ∀ w ∈ va_wsS own index y ws, w.before args s = true := fun w h => ht w (hT w h).1
  have hG : GoodIn Ts ws := fun w h => hT w (by unfold va_wsS; exact List.mem_append_right _ h)
  have hc : Cond.codeWith y bytes maxL ret hh ∈ ws := by rw [hw]; exact List.mem_cons_self
  refine ⟨⟨hrc, hrs, hR.1, hR.2, pay_in ht hG, hc⟩, ht _ (hG _ hc).1, ok _ (by simp [va_wsS]), ⟨hd.1, hd.2.1⟩, fun sig h => ?_, ok _ (by simp [va_wsS]), ok _ (by simp [va_wsS])⟩
  have h2 := hd.2.2
  rw [h] at h2
  exact (Option.some.inj h2).symm
theorem vx_callSW (X : Stand p l e R s m args below meth c T locs cells slots) (hexec : p.tables.exec = Jvm.exec) {own : String} {index : Nat} {y : MethodName} {bytes : ByteArray} {maxL : Nat} {ret : Option FieldType} {hh : List (Nat × Nat × Nat × Nat)}
    (hown : s.vm.findClass own = some m.cls) (hlink : (Cond.methodLink own index y).before args s = true) (hstat : (Cond.static y).before args s = true) (hinit : (Cond.initialized y.cls).before args s = true)
    (hcode : (Cond.codeWith y bytes maxL ret hh).before args s = true) (hy : y.cls ≠ "java/lang/invoke/MethodHandle" ∧ y.cls ≠ "java/lang/invoke/VarHandle")
    {W9 : Nat} {Pre : Pt → Array Value → Prop} {Post : Pt → Array Value → Option Value → Pt → Prop} (hK : Back l R p e below s args y 3 W9 Pre Post)
    {g : JFrame} (hg : g.method = m) (hsize : g.locals.size = c.maxLocals) {argsL rest : List Value} (hlen : ∀ sig, parseMethodDescriptor y.desc = some sig → argsL.length = sig.parameters.length)
    (hstack : g.stack = argsL.reverse ++ rest) (hW : 2 * g.monitorRoom + (rest.map fun v => v.category).sum ≤ W9) (hdg : decode c.code g.pc = .ok (.invokestatic index, 3))
    (hpre : ∀ vm₁, s.WarmedH vm₁ → Pre ⟨T.setVm vm₁, locs, cells, slots⟩ argsL.toArray) :
    ∃ (v : Option Value) (vm₁ : Vm) (B : Pt), s.WarmedH vm₁ ∧ Stand p l e R s m args below meth c B.U B.locs B.cells B.slots ∧ Post ⟨T.setVm vm₁, locs, cells, slots⟩ argsL.toArray v B ∧
      ∀ target, Steps p.tables e below (B.U.setTop { g with pc := g.pc + 3, stack := v.toList ++ rest }) target → Steps p.tables e below (T.setTop g) target := by
  obtain ⟨mk, methM, cM, hnamed, hmethM, -, -, -, -, -, -, hsigM⟩ := Cond.codeWith_spec hcode
  have hstatic : methM.isStatic = true := Cond.static_spec hnamed hmethM hstat
  obtain ⟨kP, hkP, -⟩ := className_of_methodNamed hnamed
  have hinitP : kP.init = .initialized := Cond.initialized_spec (findClass_of_methodNamed hnamed) hkP hinit
  obtain ⟨vm₁, X₁, hstep₁⟩ := X.invokestatic hexec hown hlink hnamed hmethM hstatic hkP hinitP hy (g := g) hg (argsL := argsL) (rest := rest) (hlen _ hsigM) hstack hdg
  obtain ⟨v, B, X', hpost, hsteps⟩ := hK m meth c ⟨T.setVm vm₁, locs, cells, slots⟩ { g with stack := rest } (.invokestatic index) mk argsL.toArray X₁ hg hsize hdg hW (X₁.named hnamed) (hpre vm₁ X₁.warmed)
  exact ⟨v, vm₁, B, X₁.warmed, X', hpost, fun target h => hstep₁ _ fun acts => by rw [doInvoke_state]; exact hsteps.trans h⟩
theorem vx_runSW {y : MethodName} {bytes cc : ByteArray} {maxL nL mc ms n index : Nat} {ret : Option FieldType} {hh : List (Nat × Nat × Nat × Nat)} {ws : List Cond} {rm : Room} {Pc : Array Value → State → Prop} {Qc : Array Value → State → Outcome → State → Prop} {free : Addr → Prop} {Ts : List Cond} {own : String} {As rest : List Value} {g : JFrame}
    (S : CallFix p m c cc nL s args Ts own) (hM : Met l y ws rm Pc Qc mc ms free) (cw : vx_CSW R s args own index y bytes maxL ret hh ws rm mc ms n) (hp : PreS s H Pc As)
    (hg : g.method = m) (hn : As.length = n) (hsize : g.locals.size = nL) (hstack : g.stack = As.reverse ++ rest) (hW : 2 * g.monitorRoom + (rest.map fun v => v.category).sum ≤ 8) (hdg : decode cc g.pc = .ok (.invokestatic index, 3)) (hf : cells + mc ≤ R.cells ∧ slots + ms ≤ R.slots) :
    va_Run p l e R s m args below meth c H locs cells slots mc ms g rest (Qc As.toArray) (free) := by
  obtain ⟨⟨hrc, hrs, hfr, hlo, hws, hcw⟩, hcode, hini, hy, hlen, hl, hstt⟩ := cw
  have hK : Back l R p e below s args y 3 8 (PreOf R mc ms Pc) (PostOf Qc mc ms free) := va_backW (hh := hh) (bytes := bytes) (maxL := maxL) (ret := ret) hM hp.1 hrc hrs hfr hlo hws hcw (fun a' U hW => word_at hW (Or.inl (by first | rfl | simp [Cond.onTables, Cond.keeps, Cond.steady])) hini)
  obtain ⟨hx, hb, hml, ho, -⟩ := S
  intro T hT X
  obtain ⟨v, vm₁, ⟨U', l2, c2, s2⟩, hW₁, X', ⟨g', mk, t, L, e1, e2, hq, h1, hL, h2, h3⟩, st⟩ := vx_callSW X hx (hh := hh) (bytes := bytes) (maxL := maxL) (ret := ret) ho hl hstt hini hcode hy hK hg (hsize.trans hml.symm) (argsL := As) (rest := rest) (fun sig h => hn.trans (hlen sig h)) hstack hW (by rw [hb]; exact hdg)
    (fun vm₁ hW₁ => ⟨hf.1, hf.2, hp.2 (T.setVm vm₁) hT hW₁⟩)
  dsimp only [Pt.U, Pt.locs, Pt.cells, Pt.slots] at X' e1 e2 h1 h2 h3 st
  subst h1; subst h2; subst h3
  exact ⟨v, (T.setVm vm₁).calling g' mk As.toArray, t, U', L, hT, X', hL, e1, e2, hq, st⟩
/-- not caught here, past rows that name other classes: it goes on to the caller -/
theorem vx_outP {p : Program} {l : Launch} {e : Env} {R : Room} {s : State} {m : MethodId} {args : Array Value} {below : List Frame} {meth : Method} {c : Code} {H : Heap} {locs : List Loc} {cells slots : Nat} {free : Addr → Prop} {ls : Array Slot} {rest : List Value} {Qc : Array Value → State → Outcome → State → Prop} {XC : String → State → State → Prop}
    {pc : Nat} {own E : String} {ce : Cell} {q : Addr} {mc ms : Nat} (hown : s.vm.findClass own = some m.cls) (hlocks : meth.locks = false)
    (hpass : ∀ z ∈ c.exceptionTable.toList, covers z pc = false ∨ (z.catchType ≠ 0 ∧ ∃ nm : String, (Cond.classLink own z.catchType nm).before args s = true ∧ va_Nc E nm s)) (hcell : H[q]? = some ce) (hv : ce.vm = .none) (hcl : s.vm.findClass E = some ce.cls)
    (hx : ∀ t : State, t.heap = H → s.vm.Alike t.vm → XC E s t) (hf : ∀ z ∈ locs, free z.base) (hc : cells ≤ mc) (hs : slots ≤ ms) :
    vx_W p l e R s m args below meth c H locs cells slots (vx_MQ below Qc XC args s mc ms free) (F0 m pc ls rest) q := by
  intro T hT X
  have hpl : e.platform.magicAccessors = ({} : Platform).magicAccessors := by rw [X.admits.platform]
  obtain ⟨vm', hW', X', st⟩ := X.outThrough hlocks q (g := F0 m pc ls rest) rfl rfl rfl (cell := ce) (by rw [hT]; exact hcell) (by rw [hv]; rfl)
    (by obtain ⟨k9, h9, -⟩ := Vm.findClass_spec hcl; exact ⟨k9, h9⟩) (fun z hz => by
      rcases hpass z hz with h | ⟨hz0, nm, hl1, hn1⟩
      · exact Or.inl h
      · obtain ⟨c6, hc6, hcl6⟩ := Cond.classLink_spec hown hl1 e.platform hpl
        obtain ⟨a8, b8, h1, h2, h3⟩ := hn1
        cases Option.some.inj (h1.symm.trans hcl)
        cases Option.some.inj (h2.symm.trans hc6)
        exact Or.inr ⟨hz0, _, hcl6, h3⟩)
  obtain ⟨g₀, hfr⟩ := X'.frames_eq
  have hcell9 : ((T.setVm vm').setFrames (.throwing q :: below)).heap[q]? = some ce := by
    show T.heap[q]? = some ce
    rw [hT]; exact hcell
  have hend : Ended ((T.setVm vm').setFrames (.throwing q :: below)) below (.threw q) := State.frames_setFrames _ (State.cur_lt_of_frames hfr)
  refine ⟨(T.setVm vm').setFrames (.throwing q :: below), ?_, .threw q, X'.here.running, hend, Or.inr ⟨q, rfl, E, ce, locs, hx _ hT (X'.ends _).1.alike, hcell9, hv, hcl, (X'.ends _).1, (X'.ends _).2.mono hc hs, hf⟩⟩
  rw [X.pushThrowing_eq]
  exact st
/-- a thing of a world lies in the heap -/
theorem vx_lt {D : va_G} {cl : List vw_C} {ws : va_W} {H1 : Heap} (h : va_P D cl ws H1) {k : Nat} {q : Nat × va_E} (hk : ws[k]? = some q) : q.1 < H1.size := (h k q hk).lt
end VXS
/-! ===== END ===== -/
/-! ===== BEGIN methods with a table of their own: called by a name, returning or throwing ===== -/
section VXH
/-! vx_backW, vx_callVX, vx_callSX, vx_callVW, vx_runVW, vx_runVX, vx_runSX, vx_ofWH follow the same proofs as their sisters above (Free/Laws.lean, Shelf42/LK1.lean); vx_outP calls Shelf42/NT130.lean (outThrough). -/
section
variable {l : Launch} {R : Room} {p : Program} {e : Env} {below : List Frame} {s : State} {sargs : Array Value} {y : MethodName} {len W9 : Nat}
theorem vx_backW {ws : List Cond} {rm : Room} {Pc : Array Value → State → Prop} {Qc : Array Value → State → Outcome → State → Prop} {XC : String → State → State → Prop} {mc ms : Nat} {free : Addr → Prop} {bytes : ByteArray} {maxL : Nat} {ret : Option FieldType} {hh : List (Nat × Nat × Nat × Nat)}
    (hM : vx_Met l y ws rm Pc Qc XC mc ms free) (hblind : FrameBlind Pc) (hrc : rm.cells = mc) (hrs : rm.slots = ms)
    (hframes : rm.frames + 1 ≤ R.frames) (hlocals : W9 + (maxL + 11) + rm.locals ≤ R.locals)
    (hws : ∀ w ∈ ws, ∀ a' U, s.WarmedH U.vm → w.before a' U = true) (hcode : Cond.codeWith y bytes maxL ret hh ∈ ws) (hinit : ∀ a' U, s.WarmedH U.vm → (Cond.initialized y.cls).before a' U = true) :
    vx_Back l R p e below s sargs y len W9 (PreOf R mc ms Pc) (PostOf Qc mc ms free) (vx_Post XC mc ms free) := by
  intro m meth c A g ig mk a X hg hsize hdg hW hn hp
  have h1 : (headSpec ws rm).pre.before a A.U = true := atoms_intro fun w hw => hws w hw _ _ X.warmed
  have h2 : (Cond.codeWith y bytes maxL ret hh).before a A.U = true := hws _ hcode _ _ X.warmed
  have h3 : (Cond.initialized y.cls).before a A.U = true := hinit _ _ X.warmed
  have h4 : A.cells + (headSpec ws rm).room.cells ≤ R.cells := by rw [show (headSpec ws rm).room.cells = mc from hrc]; exact hp.1
  have h5 : A.slots + (headSpec ws rm).room.slots ≤ R.slots := by rw [show (headSpec ws rm).room.slots = ms from hrs]; exact hp.2.1
  have hPc : Pc a (A.U.calling g mk a) := hblind _ _ _ _ hp.2.2
  obtain ⟨U, Ls, c0, s0⟩ := A
  dsimp only [Pt.U, Pt.locs, Pt.cells, Pt.slots] at h1 h2 h3 h4 h5 X hn hPc ⊢
  obtain ⟨m9, methY, cY, hn9, hmY, hcY, -, hlY, -⟩ := Cond.codeWith_spec h2
  cases Option.some.inj (hn9.symm.trans hn)
  obtain ⟨kY, hkY, -⟩ := className_of_methodNamed hn
  have hinitY : kY.init = .initialized := Cond.initialized_spec (findClass_of_methodNamed hn) hkY h3
  have h : At U g.method c below := by rw [hg]; exact X.here
  have hlocals9 : W9 + (maxL + 11) + (headSpec ws rm).room.locals ≤ R.locals := hlocals
  have happ : (headSpec ws rm).appliesLoose y e.platform (U.calling g mk a) = true :=
    Spec.appliesLoose_calling (g := g) h hdg hn hkY hinitY
      (X.room_calling (g := g) (R' := (headSpec ws rm).room) hsize hmY hcY hframes (by rw [hlY]; omega) h4 h5) h1
  obtain ⟨mid, hmid⟩ := h.above
  have hfr : (U.setTop g).frames = (.java g :: mid) ++ below := by rw [State.frames_setTop' g h.top, hmid]; rfl
  obtain ⟨o, s₂, hsteps, -, hend, hq⟩ := Steps.callFree hM p X.admits X.cas X.clock (acts := []) hfr happ hPc trivial
  have hq' : vx_Q Qc XC mc ms free a (U.calling g mk a) o s₂ := hq
  rw [State.frames_setTop' g h.top] at hend
  obtain ⟨g₀, hg0⟩ := Option.isSome_iff_exists.mp h.top
  obtain ⟨r, hr⟩ := State.topJava?_eq_some.mp hg0
  have hr' : (({ U with heap := s₂.heap, slotsUsed := s₂.slotsUsed } : State).setVm s₂.vm).frames = .java g₀ :: r := hr
  rcases hq' with ⟨hqc, L, hfe, hL⟩ | ⟨q, rfl, E, ce, L, hx, hce, hcv, hcl, hW₂, hsm, hL⟩
  · obtain ⟨⟨v, rfl⟩, hW₂, e2, q2, q3, q4, q5, q6⟩ := id hfe
    have e3 : s₂ = ({ (U.calling g mk a).setFrames s₂.frames with heap := s₂.heap, slotsUsed := s₂.slotsUsed } : State).setVm s₂.vm := by
      have : s₂ = ({ s₂ with vm := (U.calling g mk a).vm } : State).setVm s₂.vm := rfl
      rw [e2] at this
      exact this
    obtain ⟨c₂, i₂, len₂, hc₂, hd₂, hf₂⟩ := hend
    have hW' : U.WarmedH s₂.vm := hW₂
    have hcc : c₂ = c := by
      have h1 : s₂.code? g.method = U.code? g.method := by
        rw [State.code?_eq, State.code?_eq, hW'.alike.method?]
      exact Option.some.inj (hc₂.symm.trans (h1.trans h.code))
    subst hcc
    have hlen : len₂ = len := by rw [hdg] at hd₂; cases hd₂; rfl
    subst hlen
    have hs₂ : s₂ = (({ U with heap := s₂.heap, slotsUsed := s₂.slotsUsed } : State).setVm s₂.vm).setTop { g with pc := g.pc + len₂, stack := v.toList ++ g.stack } := by
      refine e3.trans ?_
      rw [hf₂, State.calling_eq h.top, State.setFrames_setFrames, State.setTop_of_frames _ hr', hr]
      rfl
    have hsame : U.sameButNew ({ U with heap := s₂.heap, slotsUsed := s₂.slotsUsed } : State) L mc ms := by
      refine ⟨?_, q2, q3, q4, q5, q6⟩
      obtain ⟨t, ht, -⟩ := State.frames_cons hr
      show ({ U with heap := s₂.heap, slotsUsed := s₂.slotsUsed } : State) = { U.setFrames U.frames with heap := s₂.heap, slotsUsed := s₂.slotsUsed }
      rw [State.setFrames_self ht]
    subst hg
    refine Or.inl ⟨v, ⟨(({ U with heap := s₂.heap, slotsUsed := s₂.slotsUsed } : State).setVm s₂.vm), Ls ++ L, c0 + mc, s0 + ms⟩,
      ⟨X.admits, X.cas, X.clock, X.frames, X.room, X.hears, X.method, X.code, (X.here.setHeapUsed s₂.heap s₂.slotsUsed).setVm hW'.alike, X.tail, State.WarmedH.trans X.warmed hW', X.limits, X.bytes, X.same.trans (hsame.setVm s.vm)⟩,
      ⟨g, mk, s₂, L, rfl, rfl, hqc, rfl, hL, rfl, rfl⟩, ?_⟩
    show Steps p.tables e below _ ((({ U with heap := s₂.heap, slotsUsed := s₂.slotsUsed } : State).setVm s₂.vm).setTop { g with pc := g.pc + len₂, stack := v.toList ++ g.stack })
    rw [← hs₂]
    exact hsteps
  · obtain ⟨e2, q2, q3, q4, q5, q6⟩ := id hsm
    have e3 : s₂ = ({ (U.calling g mk a).setFrames s₂.frames with heap := s₂.heap, slotsUsed := s₂.slotsUsed } : State).setVm s₂.vm := by
      have : s₂ = ({ s₂ with vm := (U.calling g mk a).vm } : State).setVm s₂.vm := rfl
      rw [e2] at this
      exact this
    have hf₂ : s₂.frames = .throwing q :: .java g :: U.frames.tail := hend
    have hW' : U.WarmedH s₂.vm := hW₂
    have hs₂ : s₂ = ((({ U with heap := s₂.heap, slotsUsed := s₂.slotsUsed } : State).setVm s₂.vm).setTop g).pushFrame (.throwing q) := by
      refine e3.trans ?_
      rw [hf₂, State.calling_eq h.top, State.setFrames_setFrames, State.pushFrame, State.frames_setTop _ hr', State.setTop_of_frames _ hr', State.setFrames_setFrames, hr]
      rfl
    have hsame : U.sameButNew ({ U with heap := s₂.heap, slotsUsed := s₂.slotsUsed } : State) L mc ms := by
      refine ⟨?_, q2, q3, q4, q5, q6⟩
      obtain ⟨t, ht, -⟩ := State.frames_cons hr
      show ({ U with heap := s₂.heap, slotsUsed := s₂.slotsUsed } : State) = { U.setFrames U.frames with heap := s₂.heap, slotsUsed := s₂.slotsUsed }
      rw [State.setFrames_self ht]
    subst hg
    refine Or.inr ⟨q, ⟨(({ U with heap := s₂.heap, slotsUsed := s₂.slotsUsed } : State).setVm s₂.vm), Ls ++ L, c0 + mc, s0 + ms⟩,
      ⟨X.admits, X.cas, X.clock, X.frames, X.room, X.hears, X.method, X.code, (X.here.setHeapUsed s₂.heap s₂.slotsUsed).setVm hW'.alike, X.tail, State.WarmedH.trans X.warmed hW', X.limits, X.bytes, X.same.trans (hsame.setVm s.vm)⟩,
      ⟨g, mk, s₂, L, E, ce, rfl, rfl, hx, hce, hcv, hcl, rfl, hL, rfl, rfl⟩, ?_⟩
    show Steps p.tables e below _ (((({ U with heap := s₂.heap, slotsUsed := s₂.slotsUsed } : State).setVm s₂.vm).setTop g).pushFrame (.throwing q))
    rw [← hs₂]
    exact hsteps
end
variable {p : Program} {l : Launch} {e : Env} {R : Room} {s : State} {m : MethodId} {args : Array Value} {below : List Frame} {meth : Method} {c : Code} {T : State} {H : Heap} {locs : List Loc} {cells slots : Nat}
theorem vx_callVX (X : Stand p l e R s m args below meth c T locs cells slots) (hexec : p.tables.exec = Jvm.exec) {own C : String} {index : Nat} {y : MethodName} {bytes : ByteArray} {maxL : Nat} {ret : Option FieldType} {hh : List (Nat × Nat × Nat × Nat)}
    (hown : s.vm.findClass own = some m.cls) (hlink : (Cond.methodLink own index y).before args s = true) (hinst : (Cond.instanceMethod y).before args s = true) (hsel : (Cond.selects C y y).before args s = true)
    (hcode : (Cond.codeWith y bytes maxL ret hh).before args s = true) (hy : y.cls ≠ "java/lang/invoke/MethodHandle" ∧ y.cls ≠ "java/lang/invoke/VarHandle")
    {W9 : Nat} {Pre : Pt → Array Value → Prop} {Post : Pt → Array Value → Option Value → Pt → Prop} {PostX : Pt → Array Value → Addr → Pt → Prop} (hK : vx_Back l R p e below s args y 3 W9 Pre Post PostX)
    {b : Addr} {cellB : Cell} (hcell : T.heap[b]? = some cellB) (hobj : cellB.vm.isStatics = false) (hcls : s.vm.findClass C = some cellB.cls)
    {g : JFrame} (hg : g.method = m) (hsize : g.locals.size = c.maxLocals) {argsL rest : List Value} (hlen : ∀ sig, parseMethodDescriptor y.desc = some sig → argsL.length = sig.parameters.length)
    (hstack : g.stack = argsL.reverse ++ .ref b :: rest) (hW : 2 * g.monitorRoom + (rest.map fun v => v.category).sum ≤ W9) (hdg : decode c.code g.pc = .ok (.invokevirtual index, 3))
    (hpre : ∀ vm₁, s.WarmedH vm₁ → Pre ⟨T.setVm vm₁, locs, cells, slots⟩ (Value.ref b :: argsL).toArray) :
    (∃ (v : Option Value) (vm₁ : Vm) (B : Pt), s.WarmedH vm₁ ∧ Stand p l e R s m args below meth c B.U B.locs B.cells B.slots ∧ Post ⟨T.setVm vm₁, locs, cells, slots⟩ (Value.ref b :: argsL).toArray v B ∧
      ∀ target, Steps p.tables e below (B.U.setTop { g with pc := g.pc + 3, stack := v.toList ++ rest }) target → Steps p.tables e below (T.setTop g) target) ∨
    (∃ (q : Addr) (vm₁ : Vm) (B : Pt), s.WarmedH vm₁ ∧ Stand p l e R s m args below meth c B.U B.locs B.cells B.slots ∧ PostX ⟨T.setVm vm₁, locs, cells, slots⟩ (Value.ref b :: argsL).toArray q B ∧
      Steps p.tables e below (T.setTop g) ((B.U.setTop { g with stack := rest }).pushFrame (.throwing q))) := by
  obtain ⟨mk, methM, hnamed, hmethM, hstM, habM⟩ := Cond.instanceMethod_spec hinst
  obtain ⟨m8, methM', cM, hn8, hmethM', -, -, -, -, -, -, hsigM⟩ := Cond.codeWith_spec hcode
  cases Option.some.inj (hn8.symm.trans hnamed)
  cases hmethM.symm.trans hmethM'
  obtain ⟨c2, r2, m2, q1, q2, q3, q4, kP, hkP, hkPi⟩ := Cond.selects_spec hsel
  cases hcls.symm.trans q1
  cases (State.methodFound?_of_named hnamed hy).symm.trans q2
  cases hnamed.symm.trans q3
  have hselP : selectMethod e.platform s.vm cellB.cls mk = .method mk := by rw [Launch.admits_selectMethod X.admits]; exact q4
  obtain ⟨vm₁, X₁, hstep₁⟩ := X.invokevirtual hexec hown hlink hnamed hmethM hstM hkP hkPi hy (a := b) (cell := cellB) hcell
    (fun z h => by rw [h] at hobj; cases hobj) hselP hmethM habM hkP hkPi (g := g) hg (argsL := argsL) (rest := rest) (hlen _ hsigM) hstack hdg
  rcases hK m meth c ⟨T.setVm vm₁, locs, cells, slots⟩ { g with stack := rest } (.invokevirtual index) mk (Value.ref b :: argsL).toArray X₁ hg hsize hdg hW (X₁.named hnamed) (hpre vm₁ X₁.warmed) with ⟨v, B, X', hpost, hsteps⟩ | ⟨q, B, X', hpost, hsteps⟩
  · exact Or.inl ⟨v, vm₁, B, X₁.warmed, X', hpost, fun target h => hstep₁ _ fun acts => by rw [doInvoke_state]; exact hsteps.trans h⟩
  · exact Or.inr ⟨q, vm₁, B, X₁.warmed, X', hpost, hstep₁ _ fun acts => by rw [doInvoke_state]; exact hsteps⟩
theorem vx_callSX (X : Stand p l e R s m args below meth c T locs cells slots) (hexec : p.tables.exec = Jvm.exec) {own : String} {index : Nat} {y : MethodName} {bytes : ByteArray} {maxL : Nat} {ret : Option FieldType} {hh : List (Nat × Nat × Nat × Nat)}
    (hown : s.vm.findClass own = some m.cls) (hlink : (Cond.methodLink own index y).before args s = true) (hstat : (Cond.static y).before args s = true) (hinit : (Cond.initialized y.cls).before args s = true)
    (hcode : (Cond.codeWith y bytes maxL ret hh).before args s = true) (hy : y.cls ≠ "java/lang/invoke/MethodHandle" ∧ y.cls ≠ "java/lang/invoke/VarHandle")
    {W9 : Nat} {Pre : Pt → Array Value → Prop} {Post : Pt → Array Value → Option Value → Pt → Prop} {PostX : Pt → Array Value → Addr → Pt → Prop} (hK : vx_Back l R p e below s args y 3 W9 Pre Post PostX)
    {g : JFrame} (hg : g.method = m) (hsize : g.locals.size = c.maxLocals) {argsL rest : List Value} (hlen : ∀ sig, parseMethodDescriptor y.desc = some sig → argsL.length = sig.parameters.length)
    (hstack : g.stack = argsL.reverse ++ rest) (hW : 2 * g.monitorRoom + (rest.map fun v => v.category).sum ≤ W9) (hdg : decode c.code g.pc = .ok (.invokestatic index, 3))
    (hpre : ∀ vm₁, s.WarmedH vm₁ → Pre ⟨T.setVm vm₁, locs, cells, slots⟩ argsL.toArray) :
    (∃ (v : Option Value) (vm₁ : Vm) (B : Pt), s.WarmedH vm₁ ∧ Stand p l e R s m args below meth c B.U B.locs B.cells B.slots ∧ Post ⟨T.setVm vm₁, locs, cells, slots⟩ argsL.toArray v B ∧
      ∀ target, Steps p.tables e below (B.U.setTop { g with pc := g.pc + 3, stack := v.toList ++ rest }) target → Steps p.tables e below (T.setTop g) target) ∨
    (∃ (q : Addr) (vm₁ : Vm) (B : Pt), s.WarmedH vm₁ ∧ Stand p l e R s m args below meth c B.U B.locs B.cells B.slots ∧ PostX ⟨T.setVm vm₁, locs, cells, slots⟩ argsL.toArray q B ∧
      Steps p.tables e below (T.setTop g) ((B.U.setTop { g with stack := rest }).pushFrame (.throwing q))) := by
  obtain ⟨mk, methM, cM, hnamed, hmethM, -, -, -, -, -, -, hsigM⟩ := Cond.codeWith_spec hcode
  have hstatic : methM.isStatic = true := Cond.static_spec hnamed hmethM hstat
  obtain ⟨kP, hkP, -⟩ := className_of_methodNamed hnamed
  have hinitP : kP.init = .initialized := Cond.initialized_spec (findClass_of_methodNamed hnamed) hkP hinit
  obtain ⟨vm₁, X₁, hstep₁⟩ := X.invokestatic hexec hown hlink hnamed hmethM hstatic hkP hinitP hy (g := g) hg (argsL := argsL) (rest := rest) (hlen _ hsigM) hstack hdg
  rcases hK m meth c ⟨T.setVm vm₁, locs, cells, slots⟩ { g with stack := rest } (.invokestatic index) mk argsL.toArray X₁ hg hsize hdg hW (X₁.named hnamed) (hpre vm₁ X₁.warmed) with ⟨v, B, X', hpost, hsteps⟩ | ⟨q, B, X', hpost, hsteps⟩
  · exact Or.inl ⟨v, vm₁, B, X₁.warmed, X', hpost, fun target h => hstep₁ _ fun acts => by rw [doInvoke_state]; exact hsteps.trans h⟩
  · exact Or.inr ⟨q, vm₁, B, X₁.warmed, X', hpost, hstep₁ _ fun acts => by rw [doInvoke_state]; exact hsteps⟩
theorem vx_callVW (X : Stand p l e R s m args below meth c T locs cells slots) (hexec : p.tables.exec = Jvm.exec) {own C : String} {index : Nat} {y : MethodName} {bytes : ByteArray} {maxL : Nat} {ret : Option FieldType} {hh : List (Nat × Nat × Nat × Nat)}
    (hown : s.vm.findClass own = some m.cls) (hlink : (Cond.methodLink own index y).before args s = true) (hinst : (Cond.instanceMethod y).before args s = true) (hsel : (Cond.selects C y y).before args s = true)
    (hcode : (Cond.codeWith y bytes maxL ret hh).before args s = true) (hy : y.cls ≠ "java/lang/invoke/MethodHandle" ∧ y.cls ≠ "java/lang/invoke/VarHandle")
    {W9 : Nat} {Pre : Pt → Array Value → Prop} {Post : Pt → Array Value → Option Value → Pt → Prop} (hK : Back l R p e below s args y 3 W9 Pre Post)
    {b : Addr} {cellB : Cell} (hcell : T.heap[b]? = some cellB) (hobj : cellB.vm.isStatics = false) (hcls : s.vm.findClass C = some cellB.cls)
    {g : JFrame} (hg : g.method = m) (hsize : g.locals.size = c.maxLocals) {argsL rest : List Value} (hlen : ∀ sig, parseMethodDescriptor y.desc = some sig → argsL.length = sig.parameters.length)
    (hstack : g.stack = argsL.reverse ++ .ref b :: rest) (hW : 2 * g.monitorRoom + (rest.map fun v => v.category).sum ≤ W9) (hdg : decode c.code g.pc = .ok (.invokevirtual index, 3))
    (hpre : ∀ vm₁, s.WarmedH vm₁ → Pre ⟨T.setVm vm₁, locs, cells, slots⟩ (Value.ref b :: argsL).toArray) :
    ∃ (v : Option Value) (vm₁ : Vm) (B : Pt), s.WarmedH vm₁ ∧ Stand p l e R s m args below meth c B.U B.locs B.cells B.slots ∧ Post ⟨T.setVm vm₁, locs, cells, slots⟩ (Value.ref b :: argsL).toArray v B ∧
      ∀ target, Steps p.tables e below (B.U.setTop { g with pc := g.pc + 3, stack := v.toList ++ rest }) target → Steps p.tables e below (T.setTop g) target := by
  obtain ⟨mk, methM, hnamed, hmethM, hstM, habM⟩ := Cond.instanceMethod_spec hinst
  obtain ⟨m8, methM', cM, hn8, hmethM', -, -, -, -, -, -, hsigM⟩ := Cond.codeWith_spec hcode
  cases Option.some.inj (hn8.symm.trans hnamed)
  cases hmethM.symm.trans hmethM'
  obtain ⟨c2, r2, m2, q1, q2, q3, q4, kP, hkP, hkPi⟩ := Cond.selects_spec hsel
  cases hcls.symm.trans q1
  cases (State.methodFound?_of_named hnamed hy).symm.trans q2
  cases hnamed.symm.trans q3
  have hselP : selectMethod e.platform s.vm cellB.cls mk = .method mk := by rw [Launch.admits_selectMethod X.admits]; exact q4
  obtain ⟨vm₁, X₁, hstep₁⟩ := X.invokevirtual hexec hown hlink hnamed hmethM hstM hkP hkPi hy (a := b) (cell := cellB) hcell
    (fun z h => by rw [h] at hobj; cases hobj) hselP hmethM habM hkP hkPi (g := g) hg (argsL := argsL) (rest := rest) (hlen _ hsigM) hstack hdg
  obtain ⟨v, B, X', hpost, hsteps⟩ := hK m meth c ⟨T.setVm vm₁, locs, cells, slots⟩ { g with stack := rest } (.invokevirtual index) mk (Value.ref b :: argsL).toArray X₁ hg hsize hdg hW (X₁.named hnamed) (hpre vm₁ X₁.warmed)
  exact ⟨v, vm₁, B, X₁.warmed, X', hpost, fun target h => hstep₁ _ fun acts => by rw [doInvoke_state]; exact hsteps.trans h⟩
abbrev vx_CVW (R : Room) (s : State) (args : Array Value) (own C : String) (index : Nat) (y : MethodName) (bytes : ByteArray) (maxL : Nat) (ret : Option FieldType) (hh : List (Nat × Nat × Nat × Nat)) (ws : List Cond) (rm : Room) (mc ms n : Nat) : Prop :=
  (rm.cells = mc ∧ rm.slots = ms ∧ rm.frames + 1 ≤ R.frames ∧ 8 + (maxL + 11) + rm.locals ≤ R.locals ∧ (∀ w ∈ ws, ∀ (a' : Array Value) (U : State), s.WarmedH U.vm → w.before a' U = true) ∧ Cond.codeWith y bytes maxL ret hh ∈ ws) ∧
  (Cond.codeWith y bytes maxL ret hh).before args s = true ∧ (Cond.initialized y.cls).before args s = true ∧ (y.cls ≠ "java/lang/invoke/MethodHandle" ∧ y.cls ≠ "java/lang/invoke/VarHandle") ∧
  (∀ sig, parseMethodDescriptor y.desc = some sig → n = sig.parameters.length) ∧ (Cond.methodLink own index y).before args s = true ∧ (Cond.instanceMethod y).before args s = true ∧ (Cond.selects C y y).before args s = true
theorem vx_cwVW {own C : String} {index maxL mc ms : Nat} {y : MethodName} {bytes : ByteArray} {ret : Option FieldType} {hh : List (Nat × Nat × Nat × Nat)} {Ts ws ws' : List Cond} {rm : Room} (n : Nat) (ht : ∀ w ∈ Ts, w.before args s = true) (hT : GoodIn Ts (wsV own index C y ws)) (hw : ws = Cond.codeWith y bytes maxL ret hh :: ws') (hrc : rm.cells = mc) (hrs : rm.slots = ms)
    (hd : y.cls = C ∧ y.cls ≠ "java/lang/invoke/MethodHandle" ∧ y.cls ≠ "java/lang/invoke/VarHandle" ∧ (parseMethodDescriptor y.desc).map (fun d => d.parameters.length) = some n) (hR : rm.frames + 1 ≤ R.frames ∧ 8 + (maxL + 11) + rm.locals ≤ R.locals) :
    vx_CVW R s args own C index y bytes maxL ret hh ws rm mc ms n := by
  obtain ⟨hC, hd⟩ := hd
  subst hC
  have ok : ∀ w ∈ wsV own index y.cls y ws, w.before args s = true := fun w h => ht w (hT w h).1
  have hG : GoodIn Ts ws := fun w h => hT w (by unfold wsV; exact List.mem_append_right _ h)
  have hc : Cond.codeWith y bytes maxL ret hh ∈ ws := by rw [hw]; exact List.mem_cons_self
  refine ⟨⟨hrc, hrs, hR.1, hR.2, pay_in ht hG, hc⟩, ht _ (hG _ hc).1, ok _ (by simp [wsV]), ⟨hd.1, hd.2.1⟩, fun sig h => ?_, ok _ (by simp [wsV]), ok _ (by simp [wsV]), ok _ (by simp [wsV])⟩
  have h2 := hd.2.2
  rw [h] at h2
  exact (Option.some.inj h2).symm
theorem vx_runVW {y : MethodName} {bytes cc : ByteArray} {maxL nL mc ms n index : Nat} {ret : Option FieldType} {hh : List (Nat × Nat × Nat × Nat)} {ws : List Cond} {rm : Room} {Pc : Array Value → State → Prop} {Qc : Array Value → State → Outcome → State → Prop} {free : Addr → Prop} {Ts : List Cond} {own C : String} {b : Addr} {As rest : List Value} {g : JFrame}
    (S : CallFix p m c cc nL s args Ts own) (hM : Met l y ws rm Pc Qc mc ms free) (cw : vx_CVW R s args own C index y bytes maxL ret hh ws rm mc ms n) (hp : PreV s H C b Pc As)
    (hg : g.method = m) (hn : As.length = n) (hsize : g.locals.size = nL) (hstack : g.stack = As.reverse ++ .ref b :: rest) (hW : 2 * g.monitorRoom + (rest.map fun v => v.category).sum ≤ 8) (hdg : decode cc g.pc = .ok (.invokevirtual index, 3)) (hf : cells + mc ≤ R.cells ∧ slots + ms ≤ R.slots) :
    va_Run p l e R s m args below meth c H locs cells slots mc ms g rest (Qc (Value.ref b :: As).toArray) free := by
  obtain ⟨⟨hrc, hrs, hfr, hlo, hws, hcw⟩, hcode, hini, hy, hlen, hl, hin, hse⟩ := cw
  have hK : Back l R p e below s args y 3 8 (PreOf R mc ms Pc) (PostOf Qc mc ms free) := va_backW (hh := hh) (bytes := bytes) (maxL := maxL) (ret := ret) hM hp.1 hrc hrs hfr hlo hws hcw (fun a' U hW => word_at hW (Or.inl (by first | rfl | simp [Cond.onTables, Cond.keeps, Cond.steady])) hini)
  obtain ⟨hx, hb, hml, ho, -⟩ := S
  obtain ⟨-, ⟨cellB, hcB, hoB, hclB⟩, hPc⟩ := hp
  intro T hT X
  obtain ⟨v, vm₁, ⟨U', l2, c2, s2⟩, hW₁, X', ⟨g', mk, t, L, e1, e2, hq, h1, hL, h2, h3⟩, st⟩ := vx_callVW X hx (C := C) (hh := hh) (bytes := bytes) (maxL := maxL) (ret := ret) ho hl hin hse hcode hy hK (by rw [hT]; exact hcB) hoB hclB hg (hsize.trans hml.symm) (argsL := As) (rest := rest) (fun sig h => hn.trans (hlen sig h)) hstack hW (by rw [hb]; exact hdg)
    (fun vm₁ hW₁ => ⟨hf.1, hf.2, hPc (T.setVm vm₁) hT hW₁⟩)
  dsimp only [Pt.U, Pt.locs, Pt.cells, Pt.slots] at X' e1 e2 h1 h2 h3 st
  subst h1; subst h2; subst h3
  exact ⟨v, (T.setVm vm₁).calling g' mk (Value.ref b :: As).toArray, t, U', L, hT, X', hL, e1, e2, hq, st⟩
section
variable {y : MethodName} {bytes cc : ByteArray} {maxL nL mc ms n index : Nat} {ret : Option FieldType} {ws : List Cond} {rm : Room} {Pc : Array Value → State → Prop} {Qc : Array Value → State → Outcome → State → Prop} {XC : String → State → State → Prop} {free : Addr → Prop} {Ts : List Cond} {own C : String} {b : Addr} {As rest : List Value} {g : JFrame}
theorem vx_runVX {hh : List (Nat × Nat × Nat × Nat)} (S : CallFix p m c cc nL s args Ts own) (hM : vx_Met l y ws rm Pc Qc XC mc ms free) (cw : vx_CVW R s args own C index y bytes maxL ret hh ws rm mc ms n) (hp : PreV s H C b Pc As)
    (hg : g.method = m) (hn : As.length = n) (hsize : g.locals.size = nL) (hstack : g.stack = As.reverse ++ .ref b :: rest) (hW : 2 * g.monitorRoom + (rest.map fun v => v.category).sum ≤ 8) (hdg : decode cc g.pc = .ok (.invokevirtual index, 3)) (hf : cells + mc ≤ R.cells ∧ slots + ms ≤ R.slots) :
    vx_Run p l e R s m args below meth c H locs cells slots mc ms g rest (Qc (Value.ref b :: As).toArray) XC free := by
  obtain ⟨⟨hrc, hrs, hfr, hlo, hws, hcw⟩, hcode, hini, hy, hlen, hl, hin, hse⟩ := cw
  have hK : vx_Back l R p e below s args y 3 8 (PreOf R mc ms Pc) (PostOf Qc mc ms free) (vx_Post XC mc ms free) := vx_backW (hh := hh) (bytes := bytes) (maxL := maxL) (ret := ret) hM hp.1 hrc hrs hfr hlo hws hcw (fun a' U hW => word_at hW (Or.inl (by first | rfl | simp [Cond.onTables, Cond.keeps, Cond.steady])) hini)
  obtain ⟨hx, hb, hml, ho, -⟩ := S
  obtain ⟨-, ⟨cellB, hcB, hoB, hclB⟩, hPc⟩ := hp
  intro T hT X
  rcases vx_callVX X hx (C := C) (hh := hh) (bytes := bytes) (maxL := maxL) (ret := ret) ho hl hin hse hcode hy hK (by rw [hT]; exact hcB) hoB hclB hg (hsize.trans hml.symm) (argsL := As) (rest := rest) (fun sig h => hn.trans (hlen sig h)) hstack hW (by rw [hb]; exact hdg)
    (fun vm₁ hW₁ => ⟨hf.1, hf.2, hPc (T.setVm vm₁) hT hW₁⟩) with ⟨v, vm₁, ⟨U', l2, c2, s2⟩, hW₁, X', ⟨g', mk, t, L, e1, e2, hq, h1, hL, h2, h3⟩, st⟩ | ⟨q, vm₁, ⟨U', l2, c2, s2⟩, hW₁, X', ⟨g', mk, t, L, E, ce, e1, e2, hq, hce, hcv, hcl, h1, hL, h2, h3⟩, st⟩
  · dsimp only [Pt.U, Pt.locs, Pt.cells, Pt.slots] at X' e1 e2 h1 h2 h3 st
    subst h1; subst h2; subst h3
    exact Or.inl ⟨v, (T.setVm vm₁).calling g' mk (Value.ref b :: As).toArray, t, U', L, hT, X', hL, e1, e2, hq, st⟩
  · dsimp only [Pt.U, Pt.locs, Pt.cells, Pt.slots] at X' e1 e2 h1 h2 h3 st hcl
    subst h1; subst h2; subst h3
    exact Or.inr ⟨q, (T.setVm vm₁).calling g' mk (Value.ref b :: As).toArray, t, U', L, E, ce, hT, X', hL, e1, e2, hq, hce, hcv, vx_cls hW₁ hcl, st⟩
theorem vx_runSX {hh : List (Nat × Nat × Nat × Nat)} (S : CallFix p m c cc nL s args Ts own) (hM : vx_Met l y ws rm Pc Qc XC mc ms free) (cw : vx_CSW R s args own index y bytes maxL ret hh ws rm mc ms n) (hp : PreS s H Pc As)
    (hg : g.method = m) (hn : As.length = n) (hsize : g.locals.size = nL) (hstack : g.stack = As.reverse ++ rest) (hW : 2 * g.monitorRoom + (rest.map fun v => v.category).sum ≤ 8) (hdg : decode cc g.pc = .ok (.invokestatic index, 3)) (hf : cells + mc ≤ R.cells ∧ slots + ms ≤ R.slots) :
    vx_Run p l e R s m args below meth c H locs cells slots mc ms g rest (Qc As.toArray) XC free := by
  obtain ⟨⟨hrc, hrs, hfr, hlo, hws, hcw⟩, hcode, hini, hy, hlen, hl, hstt⟩ := cw
  have hK : vx_Back l R p e below s args y 3 8 (PreOf R mc ms Pc) (PostOf Qc mc ms free) (vx_Post XC mc ms free) := vx_backW (hh := hh) (bytes := bytes) (maxL := maxL) (ret := ret) hM hp.1 hrc hrs hfr hlo hws hcw (fun a' U hW => word_at hW (Or.inl (by first | rfl | simp [Cond.onTables, Cond.keeps, Cond.steady])) hini)
  obtain ⟨hx, hb, hml, ho, -⟩ := S
  intro T hT X
  rcases vx_callSX X hx (hh := hh) (bytes := bytes) (maxL := maxL) (ret := ret) ho hl hstt hini hcode hy hK hg (hsize.trans hml.symm) (argsL := As) (rest := rest) (fun sig h => hn.trans (hlen sig h)) hstack hW (by rw [hb]; exact hdg)
    (fun vm₁ hW₁ => ⟨hf.1, hf.2, hp.2 (T.setVm vm₁) hT hW₁⟩) with ⟨v, vm₁, ⟨U', l2, c2, s2⟩, hW₁, X', ⟨g', mk, t, L, e1, e2, hq, h1, hL, h2, h3⟩, st⟩ | ⟨q, vm₁, ⟨U', l2, c2, s2⟩, hW₁, X', ⟨g', mk, t, L, E, ce, e1, e2, hq, hce, hcv, hcl, h1, hL, h2, h3⟩, st⟩
  · dsimp only [Pt.U, Pt.locs, Pt.cells, Pt.slots] at X' e1 e2 h1 h2 h3 st
    subst h1; subst h2; subst h3
    exact Or.inl ⟨v, (T.setVm vm₁).calling g' mk As.toArray, t, U', L, hT, X', hL, e1, e2, hq, st⟩
  · dsimp only [Pt.U, Pt.locs, Pt.cells, Pt.slots] at X' e1 e2 h1 h2 h3 st hcl
    subst h1; subst h2; subst h3
    exact Or.inr ⟨q, (T.setVm vm₁).calling g' mk As.toArray, t, U', L, E, ce, hT, X', hL, e1, e2, hq, hce, hcv, vx_cls hW₁ hcl, st⟩
end
end VXH
theorem vx_ofWH {l : Launch} {y : MethodName} {ws ws' : List Cond} {rm : Room} {Pc : Array Value → State → Prop} {Qc : Array Value → State → Outcome → State → Prop} {XC : String → State → State → Prop} {mc ms : Nat} {free : Addr → Prop} {cc : ByteArray} {maxL : Nat} {ret : Option FieldType} {hh : List (Nat × Nat × Nat × Nat)}
    (hy : plainName y.cls = true) (hw : ws = Cond.codeWith y cc maxL ret hh :: ws')
    (body : ∀ p e s m args below meth c s₁, BodyLoose p l y (headSpec ws rm) cc maxL ret e s m args below meth c s₁ → c.maxLocals = maxL → Pc args s →
      W p l e (headSpec ws rm).room s m args below meth c s.heap [] 0 0 (vx_MQ below Qc XC args s mc ms free) (entryFrame m args maxL)) : vx_Met l y ws rm Pc Qc XC mc ms free := by
  refine MetFree.of_bodyS (code := cc) (maxLocals := maxL) (ret := ret) hy ?_ ?_
  · intro args s m h hn
    obtain ⟨m9, meth, c, hn9, h1, h2, h3, h4, -, h5, h6, -⟩ := Cond.codeWith_spec (atoms_spec (ws := ws) h _ (by rw [hw]; exact List.mem_cons_self))
    cases hn.symm.trans hn9
    exact ⟨meth, c, h1, h2, h3, h4, h5, h6⟩
  · intro p e s m args below meth c s₁ B hml hP _
    have hh0 : s₁.heap = s.heap := by rw [B.state]; rfl
    obtain ⟨t, a1, o, b1, b2, b3⟩ := body p e s m args below meth c s₁ B hml hP s₁ hh0 (Stand.of_body B)
    exact ⟨t, o, a1, b1, b2, b3⟩
/-! ===== END ===== -/
end
section
-- ===== PART A: goes FIRST, ahead of the names: the tables' words, and 'selects' of the private methods out of them =====
/-- a private method of a class that the tables say can be made, by its rows of tables_1 -/
def lw_okq (q : MethodName × Nat) : Prop := (q.1.cls ≠ "java/lang/invoke/MethodHandle" ∧ q.1.cls ≠ "java/lang/invoke/VarHandle") ∧ Cond.instantiable q.1.cls q.2 ∈ tables_1 ∧ Cond.privateMethod q.1 ∈ tables_1 ∧ Cond.instanceMethod q.1 ∈ tables_1
theorem lw_p0 : lw_okq (⟨"ChoraleDesk", "hear", "()V"⟩, 12) := ⟨⟨by decide +kernel, by decide +kernel⟩, List.mem_of_getElem? (i := 24) (by decide +kernel), List.mem_of_getElem? (i := 283) (by decide +kernel), List.mem_of_getElem? (i := 284) (by decide +kernel)⟩
theorem lw_p1 : lw_okq (⟨"ChoraleDesk$Harmony", "nextBegin", "([LChoraleDesk$Part;)I"⟩, 4) := ⟨⟨by decide +kernel, by decide +kernel⟩, List.mem_of_getElem? (i := 154) (by decide +kernel), List.mem_of_getElem? (i := 294) (by decide +kernel), List.mem_of_getElem? (i := 295) (by decide +kernel)⟩
theorem lw_p2 : lw_okq (⟨"ChoraleDesk$Harmony", "eventGoingOn", "(LChoraleDesk$Part;II)I"⟩, 4) := ⟨⟨by decide +kernel, by decide +kernel⟩, List.mem_of_getElem? (i := 154) (by decide +kernel), List.mem_of_getElem? (i := 310) (by decide +kernel), List.mem_of_getElem? (i := 311) (by decide +kernel)⟩
theorem lw_p3 : lw_okq (⟨"ChoraleDesk", "searchFaults", "()V"⟩, 12) := ⟨⟨by decide +kernel, by decide +kernel⟩, List.mem_of_getElem? (i := 24) (by decide +kernel), List.mem_of_getElem? (i := 326) (by decide +kernel), List.mem_of_getElem? (i := 327) (by decide +kernel)⟩
theorem lw_p4 : lw_okq (⟨"ChoraleDesk$FaultList", "goOn", "([LChoraleDesk$Part;LChoraleDesk$Harmony;I)V"⟩, 8) := ⟨⟨by decide +kernel, by decide +kernel⟩, List.mem_of_getElem? (i := 189) (by decide +kernel), List.mem_of_getElem? (i := 344) (by decide +kernel), List.mem_of_getElem? (i := 345) (by decide +kernel)⟩
theorem lw_p5 : lw_okq (⟨"ChoraleDesk$FaultList", "searchParallels", "(I)V"⟩, 8) := ⟨⟨by decide +kernel, by decide +kernel⟩, List.mem_of_getElem? (i := 189) (by decide +kernel), List.mem_of_getElem? (i := 364) (by decide +kernel), List.mem_of_getElem? (i := 365) (by decide +kernel)⟩
theorem lw_p6 : lw_okq (⟨"ChoraleDesk$FaultList", "add", "(III)V"⟩, 8) := ⟨⟨by decide +kernel, by decide +kernel⟩, List.mem_of_getElem? (i := 189) (by decide +kernel), List.mem_of_getElem? (i := 371) (by decide +kernel), List.mem_of_getElem? (i := 372) (by decide +kernel)⟩
theorem lw_p7 : lw_okq (⟨"ChoraleDesk$FaultList", "searchCrossings", "(I)V"⟩, 8) := ⟨⟨by decide +kernel, by decide +kernel⟩, List.mem_of_getElem? (i := 189) (by decide +kernel), List.mem_of_getElem? (i := 375) (by decide +kernel), List.mem_of_getElem? (i := 376) (by decide +kernel)⟩
theorem lw_p8 : lw_okq (⟨"ChoraleDesk$FaultList", "searchNote", "(LChoraleDesk$Part;II)V"⟩, 8) := ⟨⟨by decide +kernel, by decide +kernel⟩, List.mem_of_getElem? (i := 189) (by decide +kernel), List.mem_of_getElem? (i := 379) (by decide +kernel), List.mem_of_getElem? (i := 380) (by decide +kernel)⟩
theorem lw_p9 : lw_okq (⟨"ChoraleDesk", "lastEnd", "()I"⟩, 12) := ⟨⟨by decide +kernel, by decide +kernel⟩, List.mem_of_getElem? (i := 24) (by decide +kernel), List.mem_of_getElem? (i := 398) (by decide +kernel), List.mem_of_getElem? (i := 399) (by decide +kernel)⟩
theorem lw_p10 : lw_okq (⟨"ChoraleDesk", "measureWidths", "()V"⟩, 12) := ⟨⟨by decide +kernel, by decide +kernel⟩, List.mem_of_getElem? (i := 24) (by decide +kernel), List.mem_of_getElem? (i := 435) (by decide +kernel), List.mem_of_getElem? (i := 436) (by decide +kernel)⟩
theorem lw_p11 : lw_okq (⟨"ChoraleDesk", "mixPart", "(JLChoraleDesk$Part;)J"⟩, 12) := ⟨⟨by decide +kernel, by decide +kernel⟩, List.mem_of_getElem? (i := 24) (by decide +kernel), List.mem_of_getElem? (i := 459) (by decide +kernel), List.mem_of_getElem? (i := 460) (by decide +kernel)⟩
theorem lw_p12 : lw_okq (⟨"ChoraleDesk", "mixBar", "(JI)J"⟩, 12) := ⟨⟨by decide +kernel, by decide +kernel⟩, List.mem_of_getElem? (i := 24) (by decide +kernel), List.mem_of_getElem? (i := 482) (by decide +kernel), List.mem_of_getElem? (i := 483) (by decide +kernel)⟩
theorem lw_p13 : lw_okq (⟨"ChoraleDesk", "measureAt", "(II)LChoraleDesk$Measure;"⟩, 12) := ⟨⟨by decide +kernel, by decide +kernel⟩, List.mem_of_getElem? (i := 24) (by decide +kernel), List.mem_of_getElem? (i := 492) (by decide +kernel), List.mem_of_getElem? (i := 493) (by decide +kernel)⟩
theorem lw_p14 : lw_okq (⟨"ChoraleDesk", "partAt", "(I)LChoraleDesk$Part;"⟩, 12) := ⟨⟨by decide +kernel, by decide +kernel⟩, List.mem_of_getElem? (i := 24) (by decide +kernel), List.mem_of_getElem? (i := 496) (by decide +kernel), List.mem_of_getElem? (i := 497) (by decide +kernel)⟩
theorem lw_p15 : lw_okq (⟨"java/lang/Throwable", "fillInStackTrace", "(I)Ljava/lang/Throwable;"⟩, 6) := ⟨⟨by decide +kernel, by decide +kernel⟩, List.mem_of_getElem? (i := 538) (by decide +kernel), List.mem_of_getElem? (i := 536) (by decide +kernel), List.mem_of_getElem? (i := 537) (by decide +kernel)⟩
def lw_privs_1 : List (MethodName × Nat) := [(⟨"ChoraleDesk", "hear", "()V"⟩, 12), (⟨"ChoraleDesk$Harmony", "nextBegin", "([LChoraleDesk$Part;)I"⟩, 4), (⟨"ChoraleDesk$Harmony", "eventGoingOn", "(LChoraleDesk$Part;II)I"⟩, 4), (⟨"ChoraleDesk", "searchFaults", "()V"⟩, 12), (⟨"ChoraleDesk$FaultList", "goOn", "([LChoraleDesk$Part;LChoraleDesk$Harmony;I)V"⟩, 8), (⟨"ChoraleDesk$FaultList", "searchParallels", "(I)V"⟩, 8), (⟨"ChoraleDesk$FaultList", "add", "(III)V"⟩, 8), (⟨"ChoraleDesk$FaultList", "searchCrossings", "(I)V"⟩, 8), (⟨"ChoraleDesk$FaultList", "searchNote", "(LChoraleDesk$Part;II)V"⟩, 8), (⟨"ChoraleDesk", "lastEnd", "()I"⟩, 12), (⟨"ChoraleDesk", "measureWidths", "()V"⟩, 12), (⟨"ChoraleDesk", "mixPart", "(JLChoraleDesk$Part;)J"⟩, 12), (⟨"ChoraleDesk", "mixBar", "(JI)J"⟩, 12), (⟨"ChoraleDesk", "measureAt", "(II)LChoraleDesk$Measure;"⟩, 12), (⟨"ChoraleDesk", "partAt", "(I)LChoraleDesk$Part;"⟩, 12), (⟨"java/lang/Throwable", "fillInStackTrace", "(I)Ljava/lang/Throwable;"⟩, 6)]
theorem lw_r1 : ∀ q ∈ lw_privs_1, lw_okq q := List.forall_mem_cons.mpr ⟨lw_p0, List.forall_mem_cons.mpr ⟨lw_p1, List.forall_mem_cons.mpr ⟨lw_p2, List.forall_mem_cons.mpr ⟨lw_p3, List.forall_mem_cons.mpr ⟨lw_p4, List.forall_mem_cons.mpr ⟨lw_p5, List.forall_mem_cons.mpr ⟨lw_p6, List.forall_mem_cons.mpr ⟨lw_p7, List.forall_mem_cons.mpr ⟨lw_p8, List.forall_mem_cons.mpr ⟨lw_p9, List.forall_mem_cons.mpr ⟨lw_p10, List.forall_mem_cons.mpr ⟨lw_p11, List.forall_mem_cons.mpr ⟨lw_p12, List.forall_mem_cons.mpr ⟨lw_p13, List.forall_mem_cons.mpr ⟨lw_p14, List.forall_mem_cons.mpr ⟨lw_p15, fun _ h => absurd h List.not_mem_nil⟩⟩⟩⟩⟩⟩⟩⟩⟩⟩⟩⟩⟩⟩⟩⟩
theorem lw_p16 : lw_okq (⟨"ChoraleDesk$Measure", "writeStretch", "(III)V"⟩, 11) := ⟨⟨by decide +kernel, by decide +kernel⟩, List.mem_of_getElem? (i := 113) (by decide +kernel), List.mem_of_getElem? (i := 588) (by decide +kernel), List.mem_of_getElem? (i := 589) (by decide +kernel)⟩
theorem lw_p17 : lw_okq (⟨"ChoraleDesk$Measure", "addSign", "(III)V"⟩, 11) := ⟨⟨by decide +kernel, by decide +kernel⟩, List.mem_of_getElem? (i := 113) (by decide +kernel), List.mem_of_getElem? (i := 597) (by decide +kernel), List.mem_of_getElem? (i := 598) (by decide +kernel)⟩
theorem lw_p18 : lw_okq (⟨"ChoraleDesk$Measure", "markSigns", "(LChoraleDesk$Part;I)V"⟩, 11) := ⟨⟨by decide +kernel, by decide +kernel⟩, List.mem_of_getElem? (i := 113) (by decide +kernel), List.mem_of_getElem? (i := 605) (by decide +kernel), List.mem_of_getElem? (i := 606) (by decide +kernel)⟩
theorem lw_p19 : lw_okq (⟨"ChoraleDesk$Measure", "beamSigns", "(LChoraleDesk$Part;II)V"⟩, 11) := ⟨⟨by decide +kernel, by decide +kernel⟩, List.mem_of_getElem? (i := 113) (by decide +kernel), List.mem_of_getElem? (i := 614) (by decide +kernel), List.mem_of_getElem? (i := 615) (by decide +kernel)⟩
theorem lw_p20 : lw_okq (⟨"ChoraleDesk$Measure", "joinToSignAhead", "(I)V"⟩, 11) := ⟨⟨by decide +kernel, by decide +kernel⟩, List.mem_of_getElem? (i := 113) (by decide +kernel), List.mem_of_getElem? (i := 618) (by decide +kernel), List.mem_of_getElem? (i := 619) (by decide +kernel)⟩
theorem lw_p21 : lw_okq (⟨"ChoraleDesk$Measure", "showAlters", "(LChoraleDesk$Part;I)V"⟩, 11) := ⟨⟨by decide +kernel, by decide +kernel⟩, List.mem_of_getElem? (i := 113) (by decide +kernel), List.mem_of_getElem? (i := 627) (by decide +kernel), List.mem_of_getElem? (i := 628) (by decide +kernel)⟩
theorem lw_p22 : lw_okq (⟨"ChoraleDesk$Measure", "alterToShow", "(III)I"⟩, 11) := ⟨⟨by decide +kernel, by decide +kernel⟩, List.mem_of_getElem? (i := 113) (by decide +kernel), List.mem_of_getElem? (i := 640) (by decide +kernel), List.mem_of_getElem? (i := 641) (by decide +kernel)⟩
theorem lw_p23 : lw_okq (⟨"ChoraleDesk$Measure", "showAltersAsWritten", "(LChoraleDesk$Part;I)V"⟩, 11) := ⟨⟨by decide +kernel, by decide +kernel⟩, List.mem_of_getElem? (i := 113) (by decide +kernel), List.mem_of_getElem? (i := 653) (by decide +kernel), List.mem_of_getElem? (i := 654) (by decide +kernel)⟩
theorem lw_p24 : lw_okq (⟨"ChoraleDesk", "mixSigns", "(JLChoraleDesk$Measure;)J"⟩, 12) := ⟨⟨by decide +kernel, by decide +kernel⟩, List.mem_of_getElem? (i := 24) (by decide +kernel), List.mem_of_getElem? (i := 676) (by decide +kernel), List.mem_of_getElem? (i := 677) (by decide +kernel)⟩
theorem lw_p25 : lw_okq (⟨"ChoraleDesk", "mixMoments", "(J)J"⟩, 12) := ⟨⟨by decide +kernel, by decide +kernel⟩, List.mem_of_getElem? (i := 24) (by decide +kernel), List.mem_of_getElem? (i := 704) (by decide +kernel), List.mem_of_getElem? (i := 705) (by decide +kernel)⟩
theorem lw_p26 : lw_okq (⟨"ChoraleDesk", "chordAt", "(I)LChoraleDesk$Chord;"⟩, 12) := ⟨⟨by decide +kernel, by decide +kernel⟩, List.mem_of_getElem? (i := 24) (by decide +kernel), List.mem_of_getElem? (i := 710) (by decide +kernel), List.mem_of_getElem? (i := 711) (by decide +kernel)⟩
theorem lw_p27 : lw_okq (⟨"ChoraleDesk$Chord", "forget", "()V"⟩, 3) := ⟨⟨by decide +kernel, by decide +kernel⟩, List.mem_of_getElem? (i := 173) (by decide +kernel), List.mem_of_getElem? (i := 721) (by decide +kernel), List.mem_of_getElem? (i := 722) (by decide +kernel)⟩
theorem lw_p28 : lw_okq (⟨"ChoraleDesk$Chord", "findRoot", "(II)V"⟩, 3) := ⟨⟨by decide +kernel, by decide +kernel⟩, List.mem_of_getElem? (i := 173) (by decide +kernel), List.mem_of_getElem? (i := 731) (by decide +kernel), List.mem_of_getElem? (i := 732) (by decide +kernel)⟩
theorem lw_p29 : lw_okq (⟨"ChoraleDesk$Chord", "findKind", "(III)V"⟩, 3) := ⟨⟨by decide +kernel, by decide +kernel⟩, List.mem_of_getElem? (i := 173) (by decide +kernel), List.mem_of_getElem? (i := 735) (by decide +kernel), List.mem_of_getElem? (i := 736) (by decide +kernel)⟩
theorem lw_p30 : lw_okq (⟨"ChoraleDesk", "mixFaults", "(J)J"⟩, 12) := ⟨⟨by decide +kernel, by decide +kernel⟩, List.mem_of_getElem? (i := 24) (by decide +kernel), List.mem_of_getElem? (i := 755) (by decide +kernel), List.mem_of_getElem? (i := 756) (by decide +kernel)⟩
theorem lw_p31 : lw_okq (⟨"ChoraleDesk", "mixLines", "(JI)J"⟩, 12) := ⟨⟨by decide +kernel, by decide +kernel⟩, List.mem_of_getElem? (i := 24) (by decide +kernel), List.mem_of_getElem? (i := 776) (by decide +kernel), List.mem_of_getElem? (i := 777) (by decide +kernel)⟩
def lw_privs_2 : List (MethodName × Nat) := [(⟨"ChoraleDesk$Measure", "writeStretch", "(III)V"⟩, 11), (⟨"ChoraleDesk$Measure", "addSign", "(III)V"⟩, 11), (⟨"ChoraleDesk$Measure", "markSigns", "(LChoraleDesk$Part;I)V"⟩, 11), (⟨"ChoraleDesk$Measure", "beamSigns", "(LChoraleDesk$Part;II)V"⟩, 11), (⟨"ChoraleDesk$Measure", "joinToSignAhead", "(I)V"⟩, 11), (⟨"ChoraleDesk$Measure", "showAlters", "(LChoraleDesk$Part;I)V"⟩, 11), (⟨"ChoraleDesk$Measure", "alterToShow", "(III)I"⟩, 11), (⟨"ChoraleDesk$Measure", "showAltersAsWritten", "(LChoraleDesk$Part;I)V"⟩, 11), (⟨"ChoraleDesk", "mixSigns", "(JLChoraleDesk$Measure;)J"⟩, 12), (⟨"ChoraleDesk", "mixMoments", "(J)J"⟩, 12), (⟨"ChoraleDesk", "chordAt", "(I)LChoraleDesk$Chord;"⟩, 12), (⟨"ChoraleDesk$Chord", "forget", "()V"⟩, 3), (⟨"ChoraleDesk$Chord", "findRoot", "(II)V"⟩, 3), (⟨"ChoraleDesk$Chord", "findKind", "(III)V"⟩, 3), (⟨"ChoraleDesk", "mixFaults", "(J)J"⟩, 12), (⟨"ChoraleDesk", "mixLines", "(JI)J"⟩, 12)]
theorem lw_r2 : ∀ q ∈ lw_privs_2, lw_okq q := List.forall_mem_cons.mpr ⟨lw_p16, List.forall_mem_cons.mpr ⟨lw_p17, List.forall_mem_cons.mpr ⟨lw_p18, List.forall_mem_cons.mpr ⟨lw_p19, List.forall_mem_cons.mpr ⟨lw_p20, List.forall_mem_cons.mpr ⟨lw_p21, List.forall_mem_cons.mpr ⟨lw_p22, List.forall_mem_cons.mpr ⟨lw_p23, List.forall_mem_cons.mpr ⟨lw_p24, List.forall_mem_cons.mpr ⟨lw_p25, List.forall_mem_cons.mpr ⟨lw_p26, List.forall_mem_cons.mpr ⟨lw_p27, List.forall_mem_cons.mpr ⟨lw_p28, List.forall_mem_cons.mpr ⟨lw_p29, List.forall_mem_cons.mpr ⟨lw_p30, List.forall_mem_cons.mpr ⟨lw_p31, fun _ h => absurd h List.not_mem_nil⟩⟩⟩⟩⟩⟩⟩⟩⟩⟩⟩⟩⟩⟩⟩⟩
theorem lw_p32 : lw_okq (⟨"ChoraleDesk", "breakLines", "(I)V"⟩, 12) := ⟨⟨by decide +kernel, by decide +kernel⟩, List.mem_of_getElem? (i := 24) (by decide +kernel), List.mem_of_getElem? (i := 780) (by decide +kernel), List.mem_of_getElem? (i := 781) (by decide +kernel)⟩
theorem lw_p33 : lw_okq (⟨"ChoraleDesk$LineBreaks", "chooseLine", "(III)V"⟩, 5) := ⟨⟨by decide +kernel, by decide +kernel⟩, List.mem_of_getElem? (i := 220) (by decide +kernel), List.mem_of_getElem? (i := 790) (by decide +kernel), List.mem_of_getElem? (i := 791) (by decide +kernel)⟩
theorem lw_p34 : lw_okq (⟨"ChoraleDesk$LineBreaks", "numberLines", "(I)V"⟩, 5) := ⟨⟨by decide +kernel, by decide +kernel⟩, List.mem_of_getElem? (i := 220) (by decide +kernel), List.mem_of_getElem? (i := 794) (by decide +kernel), List.mem_of_getElem? (i := 795) (by decide +kernel)⟩
theorem lw_p35 : lw_okq (⟨"ChoraleDesk", "checkRoom", "(LChoraleDesk$Part;I)V"⟩, 12) := ⟨⟨by decide +kernel, by decide +kernel⟩, List.mem_of_getElem? (i := 24) (by decide +kernel), List.mem_of_getElem? (i := 845) (by decide +kernel), List.mem_of_getElem? (i := 846) (by decide +kernel)⟩
theorem lw_p36 : lw_okq (⟨"ChoraleDesk", "allEvents", "()I"⟩, 12) := ⟨⟨by decide +kernel, by decide +kernel⟩, List.mem_of_getElem? (i := 24) (by decide +kernel), List.mem_of_getElem? (i := 849) (by decide +kernel), List.mem_of_getElem? (i := 850) (by decide +kernel)⟩
theorem lw_p37 : lw_okq (⟨"ChoraleDesk", "forgetWhatFollows", "()V"⟩, 12) := ⟨⟨by decide +kernel, by decide +kernel⟩, List.mem_of_getElem? (i := 24) (by decide +kernel), List.mem_of_getElem? (i := 870) (by decide +kernel), List.mem_of_getElem? (i := 871) (by decide +kernel)⟩
theorem lw_p38 : lw_okq (⟨"ChoraleDesk$Part", "writeForInstrument", "(I)V"⟩, 13) := ⟨⟨by decide +kernel, by decide +kernel⟩, List.mem_of_getElem? (i := 33) (by decide +kernel), List.mem_of_getElem? (i := 891) (by decide +kernel), List.mem_of_getElem? (i := 892) (by decide +kernel)⟩
theorem lw_p39 : lw_okq (⟨"ChoraleDesk", "partWith", "(II)LChoraleDesk$Part;"⟩, 12) := ⟨⟨by decide +kernel, by decide +kernel⟩, List.mem_of_getElem? (i := 24) (by decide +kernel), List.mem_of_getElem? (i := 922) (by decide +kernel), List.mem_of_getElem? (i := 923) (by decide +kernel)⟩
theorem lw_p40 : lw_okq (⟨"ChoraleDesk", "measureWith", "(III)LChoraleDesk$Measure;"⟩, 12) := ⟨⟨by decide +kernel, by decide +kernel⟩, List.mem_of_getElem? (i := 24) (by decide +kernel), List.mem_of_getElem? (i := 1077) (by decide +kernel), List.mem_of_getElem? (i := 1078) (by decide +kernel)⟩
theorem lw_p41 : lw_okq (⟨"ChoraleDesk", "checkMoment", "(I)V"⟩, 12) := ⟨⟨by decide +kernel, by decide +kernel⟩, List.mem_of_getElem? (i := 24) (by decide +kernel), List.mem_of_getElem? (i := 1139) (by decide +kernel), List.mem_of_getElem? (i := 1140) (by decide +kernel)⟩
theorem lw_p42 : lw_okq (⟨"ChoraleDesk", "checkFault", "(I)V"⟩, 12) := ⟨⟨by decide +kernel, by decide +kernel⟩, List.mem_of_getElem? (i := 24) (by decide +kernel), List.mem_of_getElem? (i := 1180) (by decide +kernel), List.mem_of_getElem? (i := 1181) (by decide +kernel)⟩
theorem lw_p43 : lw_okq (⟨"ChoraleDeskModel", "refuse", "(I)I"⟩, 31) := ⟨⟨by decide +kernel, by decide +kernel⟩, List.mem_of_getElem? (i := 1245) (by decide +kernel), List.mem_of_getElem? (i := 1404) (by decide +kernel), List.mem_of_getElem? (i := 1405) (by decide +kernel)⟩
theorem lw_p44 : lw_okq (⟨"ChoraleDeskModel", "add", "(IIII)I"⟩, 31) := ⟨⟨by decide +kernel, by decide +kernel⟩, List.mem_of_getElem? (i := 1245) (by decide +kernel), List.mem_of_getElem? (i := 1416) (by decide +kernel), List.mem_of_getElem? (i := 1417) (by decide +kernel)⟩
theorem lw_p45 : lw_okq (⟨"ChoraleDeskModel", "begin", "(I)I"⟩, 31) := ⟨⟨by decide +kernel, by decide +kernel⟩, List.mem_of_getElem? (i := 1245) (by decide +kernel), List.mem_of_getElem? (i := 1428) (by decide +kernel), List.mem_of_getElem? (i := 1429) (by decide +kernel)⟩
theorem lw_p46 : lw_okq (⟨"ChoraleDeskModel", "length", "(I)I"⟩, 31) := ⟨⟨by decide +kernel, by decide +kernel⟩, List.mem_of_getElem? (i := 1245) (by decide +kernel), List.mem_of_getElem? (i := 1432) (by decide +kernel), List.mem_of_getElem? (i := 1433) (by decide +kernel)⟩
theorem lw_p47 : lw_okq (⟨"ChoraleDeskModel", "isEvent", "(II)Z"⟩, 31) := ⟨⟨by decide +kernel, by decide +kernel⟩, List.mem_of_getElem? (i := 1245) (by decide +kernel), List.mem_of_getElem? (i := 1467) (by decide +kernel), List.mem_of_getElem? (i := 1468) (by decide +kernel)⟩
def lw_privs_3 : List (MethodName × Nat) := [(⟨"ChoraleDesk", "breakLines", "(I)V"⟩, 12), (⟨"ChoraleDesk$LineBreaks", "chooseLine", "(III)V"⟩, 5), (⟨"ChoraleDesk$LineBreaks", "numberLines", "(I)V"⟩, 5), (⟨"ChoraleDesk", "checkRoom", "(LChoraleDesk$Part;I)V"⟩, 12), (⟨"ChoraleDesk", "allEvents", "()I"⟩, 12), (⟨"ChoraleDesk", "forgetWhatFollows", "()V"⟩, 12), (⟨"ChoraleDesk$Part", "writeForInstrument", "(I)V"⟩, 13), (⟨"ChoraleDesk", "partWith", "(II)LChoraleDesk$Part;"⟩, 12), (⟨"ChoraleDesk", "measureWith", "(III)LChoraleDesk$Measure;"⟩, 12), (⟨"ChoraleDesk", "checkMoment", "(I)V"⟩, 12), (⟨"ChoraleDesk", "checkFault", "(I)V"⟩, 12), (⟨"ChoraleDeskModel", "refuse", "(I)I"⟩, 31), (⟨"ChoraleDeskModel", "add", "(IIII)I"⟩, 31), (⟨"ChoraleDeskModel", "begin", "(I)I"⟩, 31), (⟨"ChoraleDeskModel", "length", "(I)I"⟩, 31), (⟨"ChoraleDeskModel", "isEvent", "(II)Z"⟩, 31)]
theorem lw_r3 : ∀ q ∈ lw_privs_3, lw_okq q := List.forall_mem_cons.mpr ⟨lw_p32, List.forall_mem_cons.mpr ⟨lw_p33, List.forall_mem_cons.mpr ⟨lw_p34, List.forall_mem_cons.mpr ⟨lw_p35, List.forall_mem_cons.mpr ⟨lw_p36, List.forall_mem_cons.mpr ⟨lw_p37, List.forall_mem_cons.mpr ⟨lw_p38, List.forall_mem_cons.mpr ⟨lw_p39, List.forall_mem_cons.mpr ⟨lw_p40, List.forall_mem_cons.mpr ⟨lw_p41, List.forall_mem_cons.mpr ⟨lw_p42, List.forall_mem_cons.mpr ⟨lw_p43, List.forall_mem_cons.mpr ⟨lw_p44, List.forall_mem_cons.mpr ⟨lw_p45, List.forall_mem_cons.mpr ⟨lw_p46, List.forall_mem_cons.mpr ⟨lw_p47, fun _ h => absurd h List.not_mem_nil⟩⟩⟩⟩⟩⟩⟩⟩⟩⟩⟩⟩⟩⟩⟩⟩
theorem lw_p48 : lw_okq (⟨"ChoraleDeskModel", "heightNow", "(II)I"⟩, 31) := ⟨⟨by decide +kernel, by decide +kernel⟩, List.mem_of_getElem? (i := 1245) (by decide +kernel), List.mem_of_getElem? (i := 1536) (by decide +kernel), List.mem_of_getElem? (i := 1537) (by decide +kernel)⟩
theorem lw_p49 : lw_okq (⟨"ChoraleDeskModel", "barAt", "(I)I"⟩, 31) := ⟨⟨by decide +kernel, by decide +kernel⟩, List.mem_of_getElem? (i := 1245) (by decide +kernel), List.mem_of_getElem? (i := 1544) (by decide +kernel), List.mem_of_getElem? (i := 1545) (by decide +kernel)⟩
theorem lw_p50 : lw_okq (⟨"ChoraleDeskModel", "writtenPlaceNow", "(II)I"⟩, 31) := ⟨⟨by decide +kernel, by decide +kernel⟩, List.mem_of_getElem? (i := 1245) (by decide +kernel), List.mem_of_getElem? (i := 1552) (by decide +kernel), List.mem_of_getElem? (i := 1553) (by decide +kernel)⟩
theorem lw_p51 : lw_okq (⟨"ChoraleDeskModel", "writtenAlterNow", "(II)I"⟩, 31) := ⟨⟨by decide +kernel, by decide +kernel⟩, List.mem_of_getElem? (i := 1245) (by decide +kernel), List.mem_of_getElem? (i := 1561) (by decide +kernel), List.mem_of_getElem? (i := 1562) (by decide +kernel)⟩
theorem lw_p52 : lw_okq (⟨"ChoraleDeskModel", "keyWritten", "(II)I"⟩, 31) := ⟨⟨by decide +kernel, by decide +kernel⟩, List.mem_of_getElem? (i := 1245) (by decide +kernel), List.mem_of_getElem? (i := 1580) (by decide +kernel), List.mem_of_getElem? (i := 1581) (by decide +kernel)⟩
theorem lw_p53 : lw_okq (⟨"ChoraleDeskModel", "has", "(II)Z"⟩, 31) := ⟨⟨by decide +kernel, by decide +kernel⟩, List.mem_of_getElem? (i := 1245) (by decide +kernel), List.mem_of_getElem? (i := 1596) (by decide +kernel), List.mem_of_getElem? (i := 1597) (by decide +kernel)⟩
theorem lw_p54 : lw_okq (⟨"ChoraleDeskModel", "lay", "(II)V"⟩, 31) := ⟨⟨by decide +kernel, by decide +kernel⟩, List.mem_of_getElem? (i := 1245) (by decide +kernel), List.mem_of_getElem? (i := 1600) (by decide +kernel), List.mem_of_getElem? (i := 1601) (by decide +kernel)⟩
theorem lw_p55 : lw_okq (⟨"ChoraleDeskModel", "show", "(IIZ[I)V"⟩, 31) := ⟨⟨by decide +kernel, by decide +kernel⟩, List.mem_of_getElem? (i := 1245) (by decide +kernel), List.mem_of_getElem? (i := 1607) (by decide +kernel), List.mem_of_getElem? (i := 1608) (by decide +kernel)⟩
theorem lw_p56 : lw_okq (⟨"ChoraleDeskModel", "beam", "(III)V"⟩, 31) := ⟨⟨by decide +kernel, by decide +kernel⟩, List.mem_of_getElem? (i := 1245) (by decide +kernel), List.mem_of_getElem? (i := 1611) (by decide +kernel), List.mem_of_getElem? (i := 1612) (by decide +kernel)⟩
theorem lw_p57 : lw_okq (⟨"ChoraleDeskModel", "isShort", "(II)Z"⟩, 31) := ⟨⟨by decide +kernel, by decide +kernel⟩, List.mem_of_getElem? (i := 1245) (by decide +kernel), List.mem_of_getElem? (i := 1615) (by decide +kernel), List.mem_of_getElem? (i := 1616) (by decide +kernel)⟩
theorem lw_p58 : lw_okq (⟨"ChoraleDeskModel", "has", "(III)Z"⟩, 31) := ⟨⟨by decide +kernel, by decide +kernel⟩, List.mem_of_getElem? (i := 1245) (by decide +kernel), List.mem_of_getElem? (i := 1623) (by decide +kernel), List.mem_of_getElem? (i := 1624) (by decide +kernel)⟩
theorem lw_p59 : lw_okq (⟨"ChoraleDeskModel", "missingNow", "(II)I"⟩, 31) := ⟨⟨by decide +kernel, by decide +kernel⟩, List.mem_of_getElem? (i := 1245) (by decide +kernel), List.mem_of_getElem? (i := 1655) (by decide +kernel), List.mem_of_getElem? (i := 1656) (by decide +kernel)⟩
theorem lw_p60 : lw_okq (⟨"ChoraleDeskModel", "momentsNow", "()I"⟩, 31) := ⟨⟨by decide +kernel, by decide +kernel⟩, List.mem_of_getElem? (i := 1245) (by decide +kernel), List.mem_of_getElem? (i := 1663) (by decide +kernel), List.mem_of_getElem? (i := 1664) (by decide +kernel)⟩
theorem lw_p61 : lw_okq (⟨"ChoraleDeskModel", "beginWalk", "()V"⟩, 31) := ⟨⟨by decide +kernel, by decide +kernel⟩, List.mem_of_getElem? (i := 1245) (by decide +kernel), List.mem_of_getElem? (i := 1667) (by decide +kernel), List.mem_of_getElem? (i := 1668) (by decide +kernel)⟩
theorem lw_p62 : lw_okq (⟨"ChoraleDeskModel", "walk", "()Z"⟩, 31) := ⟨⟨by decide +kernel, by decide +kernel⟩, List.mem_of_getElem? (i := 1245) (by decide +kernel), List.mem_of_getElem? (i := 1671) (by decide +kernel), List.mem_of_getElem? (i := 1672) (by decide +kernel)⟩
theorem lw_p63 : lw_okq (⟨"ChoraleDeskModel", "walkTo", "(I)Z"⟩, 31) := ⟨⟨by decide +kernel, by decide +kernel⟩, List.mem_of_getElem? (i := 1245) (by decide +kernel), List.mem_of_getElem? (i := 1680) (by decide +kernel), List.mem_of_getElem? (i := 1681) (by decide +kernel)⟩
def lw_privs_4 : List (MethodName × Nat) := [(⟨"ChoraleDeskModel", "heightNow", "(II)I"⟩, 31), (⟨"ChoraleDeskModel", "barAt", "(I)I"⟩, 31), (⟨"ChoraleDeskModel", "writtenPlaceNow", "(II)I"⟩, 31), (⟨"ChoraleDeskModel", "writtenAlterNow", "(II)I"⟩, 31), (⟨"ChoraleDeskModel", "keyWritten", "(II)I"⟩, 31), (⟨"ChoraleDeskModel", "has", "(II)Z"⟩, 31), (⟨"ChoraleDeskModel", "lay", "(II)V"⟩, 31), (⟨"ChoraleDeskModel", "show", "(IIZ[I)V"⟩, 31), (⟨"ChoraleDeskModel", "beam", "(III)V"⟩, 31), (⟨"ChoraleDeskModel", "isShort", "(II)Z"⟩, 31), (⟨"ChoraleDeskModel", "has", "(III)Z"⟩, 31), (⟨"ChoraleDeskModel", "missingNow", "(II)I"⟩, 31), (⟨"ChoraleDeskModel", "momentsNow", "()I"⟩, 31), (⟨"ChoraleDeskModel", "beginWalk", "()V"⟩, 31), (⟨"ChoraleDeskModel", "walk", "()Z"⟩, 31), (⟨"ChoraleDeskModel", "walkTo", "(I)Z"⟩, 31)]
theorem lw_r4 : ∀ q ∈ lw_privs_4, lw_okq q := List.forall_mem_cons.mpr ⟨lw_p48, List.forall_mem_cons.mpr ⟨lw_p49, List.forall_mem_cons.mpr ⟨lw_p50, List.forall_mem_cons.mpr ⟨lw_p51, List.forall_mem_cons.mpr ⟨lw_p52, List.forall_mem_cons.mpr ⟨lw_p53, List.forall_mem_cons.mpr ⟨lw_p54, List.forall_mem_cons.mpr ⟨lw_p55, List.forall_mem_cons.mpr ⟨lw_p56, List.forall_mem_cons.mpr ⟨lw_p57, List.forall_mem_cons.mpr ⟨lw_p58, List.forall_mem_cons.mpr ⟨lw_p59, List.forall_mem_cons.mpr ⟨lw_p60, List.forall_mem_cons.mpr ⟨lw_p61, List.forall_mem_cons.mpr ⟨lw_p62, List.forall_mem_cons.mpr ⟨lw_p63, fun _ h => absurd h List.not_mem_nil⟩⟩⟩⟩⟩⟩⟩⟩⟩⟩⟩⟩⟩⟩⟩⟩
theorem lw_p64 : lw_okq (⟨"ChoraleDeskModel", "soundsNow", "(I)I"⟩, 31) := ⟨⟨by decide +kernel, by decide +kernel⟩, List.mem_of_getElem? (i := 1245) (by decide +kernel), List.mem_of_getElem? (i := 1688) (by decide +kernel), List.mem_of_getElem? (i := 1689) (by decide +kernel)⟩
theorem lw_p65 : lw_okq (⟨"ChoraleDeskModel", "findChord", "()V"⟩, 31) := ⟨⟨by decide +kernel, by decide +kernel⟩, List.mem_of_getElem? (i := 1245) (by decide +kernel), List.mem_of_getElem? (i := 1696) (by decide +kernel), List.mem_of_getElem? (i := 1697) (by decide +kernel)⟩
theorem lw_p66 : lw_okq (⟨"ChoraleDeskModel", "countFaults", "(I)I"⟩, 31) := ⟨⟨by decide +kernel, by decide +kernel⟩, List.mem_of_getElem? (i := 1245) (by decide +kernel), List.mem_of_getElem? (i := 1712) (by decide +kernel), List.mem_of_getElem? (i := 1713) (by decide +kernel)⟩
theorem lw_p67 : lw_okq (⟨"ChoraleDeskModel", "blameParallels", "(II)V"⟩, 31) := ⟨⟨by decide +kernel, by decide +kernel⟩, List.mem_of_getElem? (i := 1245) (by decide +kernel), List.mem_of_getElem? (i := 1716) (by decide +kernel), List.mem_of_getElem? (i := 1717) (by decide +kernel)⟩
theorem lw_p68 : lw_okq (⟨"ChoraleDeskModel", "begins", "(I)Z"⟩, 31) := ⟨⟨by decide +kernel, by decide +kernel⟩, List.mem_of_getElem? (i := 1245) (by decide +kernel), List.mem_of_getElem? (i := 1720) (by decide +kernel), List.mem_of_getElem? (i := 1721) (by decide +kernel)⟩
theorem lw_p69 : lw_okq (⟨"ChoraleDeskModel", "blame", "(II)V"⟩, 31) := ⟨⟨by decide +kernel, by decide +kernel⟩, List.mem_of_getElem? (i := 1245) (by decide +kernel), List.mem_of_getElem? (i := 1724) (by decide +kernel), List.mem_of_getElem? (i := 1725) (by decide +kernel)⟩
theorem lw_p70 : lw_okq (⟨"ChoraleDeskModel", "blamePart", "(I)V"⟩, 31) := ⟨⟨by decide +kernel, by decide +kernel⟩, List.mem_of_getElem? (i := 1245) (by decide +kernel), List.mem_of_getElem? (i := 1728) (by decide +kernel), List.mem_of_getElem? (i := 1729) (by decide +kernel)⟩
theorem lw_p71 : lw_okq (⟨"ChoraleDeskModel", "hasFault", "(I)Z"⟩, 31) := ⟨⟨by decide +kernel, by decide +kernel⟩, List.mem_of_getElem? (i := 1245) (by decide +kernel), List.mem_of_getElem? (i := 1736) (by decide +kernel), List.mem_of_getElem? (i := 1737) (by decide +kernel)⟩
theorem lw_p72 : lw_okq (⟨"ChoraleDeskModel", "barsNow", "()I"⟩, 31) := ⟨⟨by decide +kernel, by decide +kernel⟩, List.mem_of_getElem? (i := 1245) (by decide +kernel), List.mem_of_getElem? (i := 1756) (by decide +kernel), List.mem_of_getElem? (i := 1757) (by decide +kernel)⟩
theorem lw_p73 : lw_okq (⟨"ChoraleDeskModel", "width", "(I)I"⟩, 31) := ⟨⟨by decide +kernel, by decide +kernel⟩, List.mem_of_getElem? (i := 1245) (by decide +kernel), List.mem_of_getElem? (i := 1764) (by decide +kernel), List.mem_of_getElem? (i := 1765) (by decide +kernel)⟩
theorem lw_p74 : lw_okq (⟨"ChoraleDeskModel", "linesNow", "(I)I"⟩, 31) := ⟨⟨by decide +kernel, by decide +kernel⟩, List.mem_of_getElem? (i := 1245) (by decide +kernel), List.mem_of_getElem? (i := 1772) (by decide +kernel), List.mem_of_getElem? (i := 1773) (by decide +kernel)⟩
theorem lw_p75 : lw_okq (⟨"ChoraleDeskModel", "breakLines", "(I)I"⟩, 31) := ⟨⟨by decide +kernel, by decide +kernel⟩, List.mem_of_getElem? (i := 1245) (by decide +kernel), List.mem_of_getElem? (i := 1776) (by decide +kernel), List.mem_of_getElem? (i := 1777) (by decide +kernel)⟩
theorem lw_p76 : lw_okq (⟨"ChoraleDeskModel", "costNow", "(I)I"⟩, 31) := ⟨⟨by decide +kernel, by decide +kernel⟩, List.mem_of_getElem? (i := 1245) (by decide +kernel), List.mem_of_getElem? (i := 1788) (by decide +kernel), List.mem_of_getElem? (i := 1789) (by decide +kernel)⟩
theorem lw_p77 : lw_okq (⟨"ChoraleDeskModel", "add", "(I)V"⟩, 31) := ⟨⟨by decide +kernel, by decide +kernel⟩, List.mem_of_getElem? (i := 1245) (by decide +kernel), List.mem_of_getElem? (i := 1801) (by decide +kernel), List.mem_of_getElem? (i := 1802) (by decide +kernel)⟩
theorem lw_p78 : lw_okq (⟨"ChoraleDeskModel", "addSigns", "(II)V"⟩, 31) := ⟨⟨by decide +kernel, by decide +kernel⟩, List.mem_of_getElem? (i := 1245) (by decide +kernel), List.mem_of_getElem? (i := 1806) (by decide +kernel), List.mem_of_getElem? (i := 1807) (by decide +kernel)⟩
def lw_privs_5 : List (MethodName × Nat) := [(⟨"ChoraleDeskModel", "soundsNow", "(I)I"⟩, 31), (⟨"ChoraleDeskModel", "findChord", "()V"⟩, 31), (⟨"ChoraleDeskModel", "countFaults", "(I)I"⟩, 31), (⟨"ChoraleDeskModel", "blameParallels", "(II)V"⟩, 31), (⟨"ChoraleDeskModel", "begins", "(I)Z"⟩, 31), (⟨"ChoraleDeskModel", "blame", "(II)V"⟩, 31), (⟨"ChoraleDeskModel", "blamePart", "(I)V"⟩, 31), (⟨"ChoraleDeskModel", "hasFault", "(I)Z"⟩, 31), (⟨"ChoraleDeskModel", "barsNow", "()I"⟩, 31), (⟨"ChoraleDeskModel", "width", "(I)I"⟩, 31), (⟨"ChoraleDeskModel", "linesNow", "(I)I"⟩, 31), (⟨"ChoraleDeskModel", "breakLines", "(I)I"⟩, 31), (⟨"ChoraleDeskModel", "costNow", "(I)I"⟩, 31), (⟨"ChoraleDeskModel", "add", "(I)V"⟩, 31), (⟨"ChoraleDeskModel", "addSigns", "(II)V"⟩, 31)]
theorem lw_r5 : ∀ q ∈ lw_privs_5, lw_okq q := List.forall_mem_cons.mpr ⟨lw_p64, List.forall_mem_cons.mpr ⟨lw_p65, List.forall_mem_cons.mpr ⟨lw_p66, List.forall_mem_cons.mpr ⟨lw_p67, List.forall_mem_cons.mpr ⟨lw_p68, List.forall_mem_cons.mpr ⟨lw_p69, List.forall_mem_cons.mpr ⟨lw_p70, List.forall_mem_cons.mpr ⟨lw_p71, List.forall_mem_cons.mpr ⟨lw_p72, List.forall_mem_cons.mpr ⟨lw_p73, List.forall_mem_cons.mpr ⟨lw_p74, List.forall_mem_cons.mpr ⟨lw_p75, List.forall_mem_cons.mpr ⟨lw_p76, List.forall_mem_cons.mpr ⟨lw_p77, List.forall_mem_cons.mpr ⟨lw_p78, fun _ h => absurd h List.not_mem_nil⟩⟩⟩⟩⟩⟩⟩⟩⟩⟩⟩⟩⟩⟩⟩
def lw_privs : List (MethodName × Nat) := lw_privs_1 ++ (lw_privs_2 ++ (lw_privs_3 ++ (lw_privs_4 ++ (lw_privs_5))))
def lw_tbl : List Cond := k2_sels lw_privs ++ tables_1
theorem lw_privs_ok : ∀ q ∈ lw_privs, lw_okq q := by
  show ∀ q ∈ lw_privs_1 ++ (lw_privs_2 ++ (lw_privs_3 ++ (lw_privs_4 ++ (lw_privs_5)))), lw_okq q
  exact List.forall_mem_append.mpr ⟨lw_r1, List.forall_mem_append.mpr ⟨lw_r2, List.forall_mem_append.mpr ⟨lw_r3, List.forall_mem_append.mpr ⟨lw_r4, lw_r5⟩⟩⟩⟩
/-- the streams that the claim lets the run draw from -/
abbrev lw_cs : List Choice := [Jvm.Choice.named "NaN.bits"]
theorem lw_bits : nanBits ∈ lw_cs := by first | decide | exact List.mem_cons_self | simp [lw_cs, nanBits]
end
section
def RX0 : String := "ChoraleDesk$Calendar"
def TX0 : u_T := fun k => match k with
  | 0 => ("ChoraleDesk$Calendar", "beats", "[I", true)
  | 1 => ("ChoraleDesk$Calendar", "units", "[I", true)
  | 2 => ("ChoraleDesk$Calendar", "lengths", "[I", true)
  | 3 => ("ChoraleDesk$Calendar", "keys", "[I", true)
  | _ => ("ChoraleDesk$Calendar", "end", "I", false)
def tyX0 : Nat → FieldType := fun k => match k with
  | 0 => .array .int
  | 1 => .array .int
  | 2 => .array .int
  | 3 => .array .int
  | _ => .int
abbrev wsX00 : List Cond := u_ws RX0 TX0 5
theorem nmX0 : ∀ a, a < 5 → ∀ b, b < 5 → a ≠ b → (TX0 a).2.1 ≠ (TX0 b).2.1 := by decide +kernel
theorem tyX0_ok : ∀ k, k < 5 → parseFieldDescriptor (TX0 k).2.2.1 = some (tyX0 k) := by decide +kernel
abbrev cX0_init : ByteArray := prog_2_method_1_code
def yX0_init : MethodName := ⟨RX0, "<init>", "()V"⟩
abbrev cX0_isBar : ByteArray := prog_2_method_2_code
def yX0_isBar : MethodName := ⟨RX0, "isBar", "(I)Z"⟩
abbrev cX0_changeMetre : ByteArray := prog_2_method_3_code
def yX0_changeMetre : MethodName := ⟨RX0, "changeMetre", "(III)V"⟩
abbrev cX0_changeKey : ByteArray := prog_2_method_4_code
def yX0_changeKey : MethodName := ⟨RX0, "changeKey", "(II)V"⟩
abbrev cX0_keyAt : ByteArray := prog_2_method_5_code
def yX0_keyAt : MethodName := ⟨RX0, "keyAt", "(I)I"⟩
abbrev cX0_lengthAt : ByteArray := prog_2_method_6_code
def yX0_lengthAt : MethodName := ⟨RX0, "lengthAt", "(I)I"⟩
abbrev cX0_beginAt : ByteArray := prog_2_method_7_code
def yX0_beginAt : MethodName := ⟨RX0, "beginAt", "(I)I"⟩
abbrev cX0_end : ByteArray := prog_2_method_8_code
def yX0_end : MethodName := ⟨RX0, "end", "()I"⟩
abbrev cX0_barAt : ByteArray := prog_2_method_9_code
def yX0_barAt : MethodName := ⟨RX0, "barAt", "(I)I"⟩
abbrev cX0_barsUpTo : ByteArray := prog_2_method_10_code
def yX0_barsUpTo : MethodName := ⟨RX0, "barsUpTo", "(I)I"⟩
abbrev cX0_ticksBehind : ByteArray := prog_2_method_11_code
def yX0_ticksBehind : MethodName := ⟨RX0, "ticksBehind", "(II)I"⟩
abbrev cX0_groupLengthAt : ByteArray := prog_2_method_12_code
def yX0_groupLengthAt : MethodName := ⟨RX0, "groupLengthAt", "(I)I"⟩
def RX1 : String := "ChoraleDesk$Chord"
def TX1 : u_T := fun k => match k with
  | 0 => ("ChoraleDesk$Chord", "root", "I", false)
  | 1 => ("ChoraleDesk$Chord", "kind", "I", false)
  | _ => ("ChoraleDesk$Chord", "lowest", "I", false)
def tyX1 : Nat → FieldType := fun k => match k with
  | 0 => .int
  | 1 => .int
  | _ => .int
abbrev wsX10 : List Cond := u_ws RX1 TX1 3
theorem nmX1 : ∀ a, a < 3 → ∀ b, b < 3 → a ≠ b → (TX1 a).2.1 ≠ (TX1 b).2.1 := by decide +kernel
theorem tyX1_ok : ∀ k, k < 3 → parseFieldDescriptor (TX1 k).2.2.1 = some (tyX1 k) := by decide +kernel
abbrev cX1_init : ByteArray := prog_3_method_1_code
def yX1_init : MethodName := ⟨RX1, "<init>", "()V"⟩
abbrev cX1_rootClass : ByteArray := prog_3_method_2_code
def yX1_rootClass : MethodName := ⟨RX1, "rootClass", "()I"⟩
abbrev cX1_kindNumber : ByteArray := prog_3_method_3_code
def yX1_kindNumber : MethodName := ⟨RX1, "kindNumber", "()I"⟩
abbrev cX1_lowestTone : ByteArray := prog_3_method_4_code
def yX1_lowestTone : MethodName := ⟨RX1, "lowestTone", "()I"⟩
abbrev cX1_tell : ByteArray := prog_3_method_5_code
def yX1_tell : MethodName := ⟨RX1, "tell", "([LChoraleDesk$Part;LChoraleDesk$Harmony;I)V"⟩
abbrev cX1_forget : ByteArray := prog_3_method_6_code
def yX1_forget : MethodName := ⟨RX1, "forget", "()V"⟩
abbrev cX1_findRoot : ByteArray := prog_3_method_7_code
def yX1_findRoot : MethodName := ⟨RX1, "findRoot", "(II)V"⟩
abbrev cX1_findKind : ByteArray := prog_3_method_8_code
def yX1_findKind : MethodName := ⟨RX1, "findKind", "(III)V"⟩
def RX2 : String := "ChoraleDesk$FaultList"
def TX2 : u_T := fun k => match k with
  | 0 => ("ChoraleDesk$FaultList", "kinds", "[I", true)
  | 1 => ("ChoraleDesk$FaultList", "ticks", "[I", true)
  | 2 => ("ChoraleDesk$FaultList", "partCodes", "[I", true)
  | 3 => ("ChoraleDesk$FaultList", "heightsAhead", "[I", true)
  | 4 => ("ChoraleDesk$FaultList", "heightsNow", "[I", true)
  | 5 => ("ChoraleDesk$FaultList", "begins", "[Z", true)
  | 6 => ("ChoraleDesk$FaultList", "ways", "[I", true)
  | _ => ("ChoraleDesk$FaultList", "count", "I", false)
def tyX2 : Nat → FieldType := fun k => match k with
  | 0 => .array .int
  | 1 => .array .int
  | 2 => .array .int
  | 3 => .array .int
  | 4 => .array .int
  | 5 => .array .boolean
  | 6 => .array .int
  | _ => .int
abbrev wsX20 : List Cond := u_ws RX2 TX2 8
theorem nmX2 : ∀ a, a < 8 → ∀ b, b < 8 → a ≠ b → (TX2 a).2.1 ≠ (TX2 b).2.1 := by decide +kernel
theorem tyX2_ok : ∀ k, k < 8 → parseFieldDescriptor (TX2 k).2.2.1 = some (tyX2 k) := by decide +kernel
abbrev cX2_init : ByteArray := prog_4_method_1_code
def yX2_init : MethodName := ⟨RX2, "<init>", "()V"⟩
abbrev cX2_size : ByteArray := prog_4_method_2_code
def yX2_size : MethodName := ⟨RX2, "size", "()I"⟩
abbrev cX2_has : ByteArray := prog_4_method_3_code
def yX2_has : MethodName := ⟨RX2, "has", "(I)Z"⟩
abbrev cX2_kindAt : ByteArray := prog_4_method_4_code
def yX2_kindAt : MethodName := ⟨RX2, "kindAt", "(I)I"⟩
abbrev cX2_tickAt : ByteArray := prog_4_method_5_code
def yX2_tickAt : MethodName := ⟨RX2, "tickAt", "(I)I"⟩
abbrev cX2_partsAt : ByteArray := prog_4_method_6_code
def yX2_partsAt : MethodName := ⟨RX2, "partsAt", "(I)I"⟩
abbrev cX2_search : ByteArray := prog_4_method_7_code
def yX2_search : MethodName := ⟨RX2, "search", "([LChoraleDesk$Part;LChoraleDesk$Harmony;)V"⟩
abbrev cX2_add : ByteArray := prog_4_method_8_code
def yX2_add : MethodName := ⟨RX2, "add", "(III)V"⟩
abbrev cX2_goOn : ByteArray := prog_4_method_9_code
def yX2_goOn : MethodName := ⟨RX2, "goOn", "([LChoraleDesk$Part;LChoraleDesk$Harmony;I)V"⟩
abbrev cX2_searchParallels : ByteArray := prog_4_method_10_code
def yX2_searchParallels : MethodName := ⟨RX2, "searchParallels", "(I)V"⟩
abbrev cX2_searchCrossings : ByteArray := prog_4_method_11_code
def yX2_searchCrossings : MethodName := ⟨RX2, "searchCrossings", "(I)V"⟩
abbrev cX2_searchNote : ByteArray := prog_4_method_12_code
def yX2_searchNote : MethodName := ⟨RX2, "searchNote", "(LChoraleDesk$Part;II)V"⟩
def RX3 : String := "ChoraleDesk$Harmony"
def TX3 : u_T := fun k => match k with
  | 0 => ("ChoraleDesk$Harmony", "ticks", "[I", true)
  | 1 => ("ChoraleDesk$Harmony", "eventsThen", "[I", true)
  | 2 => ("ChoraleDesk$Harmony", "begun", "[I", true)
  | _ => ("ChoraleDesk$Harmony", "count", "I", false)
def tyX3 : Nat → FieldType := fun k => match k with
  | 0 => .array .int
  | 1 => .array .int
  | 2 => .array .int
  | _ => .int
abbrev wsX30 : List Cond := u_ws RX3 TX3 4
theorem nmX3 : ∀ a, a < 4 → ∀ b, b < 4 → a ≠ b → (TX3 a).2.1 ≠ (TX3 b).2.1 := by decide +kernel
theorem tyX3_ok : ∀ k, k < 4 → parseFieldDescriptor (TX3 k).2.2.1 = some (tyX3 k) := by decide +kernel
abbrev cX3_init : ByteArray := prog_5_method_1_code
def yX3_init : MethodName := ⟨RX3, "<init>", "()V"⟩
abbrev cX3_size : ByteArray := prog_5_method_2_code
def yX3_size : MethodName := ⟨RX3, "size", "()I"⟩
abbrev cX3_has : ByteArray := prog_5_method_3_code
def yX3_has : MethodName := ⟨RX3, "has", "(I)Z"⟩
abbrev cX3_tickAt : ByteArray := prog_5_method_4_code
def yX3_tickAt : MethodName := ⟨RX3, "tickAt", "(I)I"⟩
abbrev cX3_eventAt : ByteArray := prog_5_method_5_code
def yX3_eventAt : MethodName := ⟨RX3, "eventAt", "(II)I"⟩
abbrev cX3_listen : ByteArray := prog_5_method_6_code
def yX3_listen : MethodName := ⟨RX3, "listen", "([LChoraleDesk$Part;)V"⟩
abbrev cX3_nextBegin : ByteArray := prog_5_method_7_code
def yX3_nextBegin : MethodName := ⟨RX3, "nextBegin", "([LChoraleDesk$Part;)I"⟩
abbrev cX3_eventGoingOn : ByteArray := prog_5_method_8_code
def yX3_eventGoingOn : MethodName := ⟨RX3, "eventGoingOn", "(LChoraleDesk$Part;II)I"⟩
def RX4 : String := "ChoraleDesk$LineBreaks"
def TX4 : u_T := fun k => match k with
  | 0 => ("ChoraleDesk$LineBreaks", "widths", "[I", true)
  | 1 => ("ChoraleDesk$LineBreaks", "costs", "[I", true)
  | 2 => ("ChoraleDesk$LineBreaks", "nextLines", "[I", true)
  | 3 => ("ChoraleDesk$LineBreaks", "lineNumbers", "[I", true)
  | _ => ("ChoraleDesk$LineBreaks", "lineCount", "I", false)
def tyX4 : Nat → FieldType := fun k => match k with
  | 0 => .array .int
  | 1 => .array .int
  | 2 => .array .int
  | 3 => .array .int
  | _ => .int
abbrev wsX40 : List Cond := u_ws RX4 TX4 5
theorem nmX4 : ∀ a, a < 5 → ∀ b, b < 5 → a ≠ b → (TX4 a).2.1 ≠ (TX4 b).2.1 := by decide +kernel
theorem tyX4_ok : ∀ k, k < 5 → parseFieldDescriptor (TX4 k).2.2.1 = some (tyX4 k) := by decide +kernel
abbrev cX4_init : ByteArray := prog_6_method_1_code
def yX4_init : MethodName := ⟨RX4, "<init>", "()V"⟩
abbrev cX4_size : ByteArray := prog_6_method_2_code
def yX4_size : MethodName := ⟨RX4, "size", "()I"⟩
abbrev cX4_leastCost : ByteArray := prog_6_method_3_code
def yX4_leastCost : MethodName := ⟨RX4, "leastCost", "()I"⟩
abbrev cX4_widthAt : ByteArray := prog_6_method_4_code
def yX4_widthAt : MethodName := ⟨RX4, "widthAt", "(I)I"⟩
abbrev cX4_lineAt : ByteArray := prog_6_method_5_code
def yX4_lineAt : MethodName := ⟨RX4, "lineAt", "(I)I"⟩
abbrev cX4_measureWidths : ByteArray := prog_6_method_6_code
def yX4_measureWidths : MethodName := ⟨RX4, "measureWidths", "(LChoraleDesk$Calendar;LChoraleDesk$Harmony;)V"⟩
abbrev cX4_widthOfGap : ByteArray := prog_6_method_7_code
def yX4_widthOfGap : MethodName := ⟨RX4, "widthOfGap", "(I)I"⟩
abbrev cX4_breakUp : ByteArray := prog_6_method_8_code
def yX4_breakUp : MethodName := ⟨RX4, "breakUp", "(II)V"⟩
abbrev cX4_chooseLine : ByteArray := prog_6_method_9_code
def yX4_chooseLine : MethodName := ⟨RX4, "chooseLine", "(III)V"⟩
abbrev cX4_numberLines : ByteArray := prog_6_method_10_code
def yX4_numberLines : MethodName := ⟨RX4, "numberLines", "(I)V"⟩
def RX5 : String := "ChoraleDesk$Measure"
def TX5 : u_T := fun k => match k with
  | 0 => ("ChoraleDesk$Measure", "signEvents", "[I", true)
  | 1 => ("ChoraleDesk$Measure", "ticks", "[I", true)
  | 2 => ("ChoraleDesk$Measure", "lengths", "[I", true)
  | 3 => ("ChoraleDesk$Measure", "firstOfNote", "[Z", true)
  | 4 => ("ChoraleDesk$Measure", "tied", "[Z", true)
  | 5 => ("ChoraleDesk$Measure", "shownAlters", "[I", true)
  | 6 => ("ChoraleDesk$Measure", "shownAltersAsWritten", "[I", true)
  | 7 => ("ChoraleDesk$Measure", "beamNumbers", "[I", true)
  | 8 => ("ChoraleDesk$Measure", "altersInForce", "[I", true)
  | 9 => ("ChoraleDesk$Measure", "count", "I", false)
  | _ => ("ChoraleDesk$Measure", "beamCount", "I", false)
def tyX5 : Nat → FieldType := fun k => match k with
  | 0 => .array .int
  | 1 => .array .int
  | 2 => .array .int
  | 3 => .array .boolean
  | 4 => .array .boolean
  | 5 => .array .int
  | 6 => .array .int
  | 7 => .array .int
  | 8 => .array .int
  | 9 => .int
  | _ => .int
abbrev wsX50 : List Cond := u_ws RX5 TX5 11
theorem nmX5 : ∀ a, a < 11 → ∀ b, b < 11 → a ≠ b → (TX5 a).2.1 ≠ (TX5 b).2.1 := by decide +kernel
theorem tyX5_ok : ∀ k, k < 11 → parseFieldDescriptor (TX5 k).2.2.1 = some (tyX5 k) := by decide +kernel
abbrev cX5_init : ByteArray := prog_7_method_1_code
def yX5_init : MethodName := ⟨RX5, "<init>", "()V"⟩
abbrev cX5_size : ByteArray := prog_7_method_2_code
def yX5_size : MethodName := ⟨RX5, "size", "()I"⟩
abbrev cX5_beamTotal : ByteArray := prog_7_method_3_code
def yX5_beamTotal : MethodName := ⟨RX5, "beamTotal", "()I"⟩
abbrev cX5_has : ByteArray := prog_7_method_4_code
def yX5_has : MethodName := ⟨RX5, "has", "(I)Z"⟩
abbrev cX5_eventAt : ByteArray := prog_7_method_5_code
def yX5_eventAt : MethodName := ⟨RX5, "eventAt", "(I)I"⟩
abbrev cX5_lengthAt : ByteArray := prog_7_method_6_code
def yX5_lengthAt : MethodName := ⟨RX5, "lengthAt", "(I)I"⟩
abbrev cX5_tiedAt : ByteArray := prog_7_method_7_code
def yX5_tiedAt : MethodName := ⟨RX5, "tiedAt", "(I)Z"⟩
abbrev cX5_shownAt : ByteArray := prog_7_method_8_code
def yX5_shownAt : MethodName := ⟨RX5, "shownAt", "(I)I"⟩
abbrev cX5_shownAsWrittenAt : ByteArray := prog_7_method_9_code
def yX5_shownAsWrittenAt : MethodName := ⟨RX5, "shownAsWrittenAt", "(I)I"⟩
abbrev cX5_beamAt : ByteArray := prog_7_method_10_code
def yX5_beamAt : MethodName := ⟨RX5, "beamAt", "(I)I"⟩
abbrev cX5_write : ByteArray := prog_7_method_11_code
def yX5_write : MethodName := ⟨RX5, "write", "(LChoraleDesk$Part;LChoraleDesk$Calendar;I)V"⟩
abbrev cX5_writeStretch : ByteArray := prog_7_method_12_code
def yX5_writeStretch : MethodName := ⟨RX5, "writeStretch", "(III)V"⟩
abbrev cX5_addSign : ByteArray := prog_7_method_13_code
def yX5_addSign : MethodName := ⟨RX5, "addSign", "(III)V"⟩
abbrev cX5_markSigns : ByteArray := prog_7_method_14_code
def yX5_markSigns : MethodName := ⟨RX5, "markSigns", "(LChoraleDesk$Part;I)V"⟩
abbrev cX5_beamSigns : ByteArray := prog_7_method_15_code
def yX5_beamSigns : MethodName := ⟨RX5, "beamSigns", "(LChoraleDesk$Part;II)V"⟩
abbrev cX5_joinToSignAhead : ByteArray := prog_7_method_16_code
def yX5_joinToSignAhead : MethodName := ⟨RX5, "joinToSignAhead", "(I)V"⟩
abbrev cX5_showAlters : ByteArray := prog_7_method_17_code
def yX5_showAlters : MethodName := ⟨RX5, "showAlters", "(LChoraleDesk$Part;I)V"⟩
abbrev cX5_showAltersAsWritten : ByteArray := prog_7_method_18_code
def yX5_showAltersAsWritten : MethodName := ⟨RX5, "showAltersAsWritten", "(LChoraleDesk$Part;I)V"⟩
abbrev cX5_alterToShow : ByteArray := prog_7_method_19_code
def yX5_alterToShow : MethodName := ⟨RX5, "alterToShow", "(III)I"⟩
def RX6 : String := "ChoraleDesk$Part"
def TX6 : u_T := fun k => match k with
  | 0 => ("ChoraleDesk$Part", "places", "[I", true)
  | 1 => ("ChoraleDesk$Part", "alters", "[I", true)
  | 2 => ("ChoraleDesk$Part", "heights", "[I", true)
  | 3 => ("ChoraleDesk$Part", "begins", "[I", true)
  | 4 => ("ChoraleDesk$Part", "lengths", "[I", true)
  | 5 => ("ChoraleDesk$Part", "writtenPlaces", "[I", true)
  | 6 => ("ChoraleDesk$Part", "writtenAlters", "[I", true)
  | 7 => ("ChoraleDesk$Part", "count", "I", false)
  | 8 => ("ChoraleDesk$Part", "end", "I", false)
  | 9 => ("ChoraleDesk$Part", "lowest", "I", false)
  | 10 => ("ChoraleDesk$Part", "highest", "I", false)
  | 11 => ("ChoraleDesk$Part", "fifths", "I", false)
  | _ => ("ChoraleDesk$Part", "octaves", "I", false)
def tyX6 : Nat → FieldType := fun k => match k with
  | 0 => .array .int
  | 1 => .array .int
  | 2 => .array .int
  | 3 => .array .int
  | 4 => .array .int
  | 5 => .array .int
  | 6 => .array .int
  | 7 => .int
  | 8 => .int
  | 9 => .int
  | 10 => .int
  | 11 => .int
  | _ => .int
abbrev wsX60 : List Cond := u_ws RX6 TX6 13
theorem nmX6 : ∀ a, a < 13 → ∀ b, b < 13 → a ≠ b → (TX6 a).2.1 ≠ (TX6 b).2.1 := by decide +kernel
theorem tyX6_ok : ∀ k, k < 13 → parseFieldDescriptor (TX6 k).2.2.1 = some (tyX6 k) := by decide +kernel
abbrev cX6_init : ByteArray := prog_8_method_1_code
def yX6_init : MethodName := ⟨RX6, "<init>", "()V"⟩
abbrev cX6_size : ByteArray := prog_8_method_2_code
def yX6_size : MethodName := ⟨RX6, "size", "()I"⟩
abbrev cX6_end : ByteArray := prog_8_method_3_code
def yX6_end : MethodName := ⟨RX6, "end", "()I"⟩
abbrev cX6_has : ByteArray := prog_8_method_4_code
def yX6_has : MethodName := ⟨RX6, "has", "(I)Z"⟩
abbrev cX6_append : ByteArray := prog_8_method_5_code
def yX6_append : MethodName := ⟨RX6, "append", "(III)I"⟩
abbrev cX6_removeLast : ByteArray := prog_8_method_6_code
def yX6_removeLast : MethodName := ⟨RX6, "removeLast", "()I"⟩
abbrev cX6_givePitch : ByteArray := prog_8_method_7_code
def yX6_givePitch : MethodName := ⟨RX6, "givePitch", "(III)V"⟩
abbrev cX6_writeForInstrument : ByteArray := prog_8_method_8_code
def yX6_writeForInstrument : MethodName := ⟨RX6, "writeForInstrument", "(I)V"⟩
abbrev cX6_changeRange : ByteArray := prog_8_method_9_code
def yX6_changeRange : MethodName := ⟨RX6, "changeRange", "(II)V"⟩
abbrev cX6_changeShift : ByteArray := prog_8_method_10_code
def yX6_changeShift : MethodName := ⟨RX6, "changeShift", "(II)V"⟩
abbrev cX6_isNote : ByteArray := prog_8_method_11_code
def yX6_isNote : MethodName := ⟨RX6, "isNote", "(I)Z"⟩
abbrev cX6_placeAt : ByteArray := prog_8_method_12_code
def yX6_placeAt : MethodName := ⟨RX6, "placeAt", "(I)I"⟩
abbrev cX6_alterAt : ByteArray := prog_8_method_13_code
def yX6_alterAt : MethodName := ⟨RX6, "alterAt", "(I)I"⟩
abbrev cX6_heightAt : ByteArray := prog_8_method_14_code
def yX6_heightAt : MethodName := ⟨RX6, "heightAt", "(I)I"⟩
abbrev cX6_beginAt : ByteArray := prog_8_method_15_code
def yX6_beginAt : MethodName := ⟨RX6, "beginAt", "(I)I"⟩
abbrev cX6_endAt : ByteArray := prog_8_method_16_code
def yX6_endAt : MethodName := ⟨RX6, "endAt", "(I)I"⟩
abbrev cX6_firstEndingBehind : ByteArray := prog_8_method_17_code
def yX6_firstEndingBehind : MethodName := ⟨RX6, "firstEndingBehind", "(I)I"⟩
abbrev cX6_isOutOfRange : ByteArray := prog_8_method_18_code
def yX6_isOutOfRange : MethodName := ⟨RX6, "isOutOfRange", "(I)Z"⟩
abbrev cX6_writtenPlaceAt : ByteArray := prog_8_method_19_code
def yX6_writtenPlaceAt : MethodName := ⟨RX6, "writtenPlaceAt", "(I)I"⟩
abbrev cX6_writtenAlterAt : ByteArray := prog_8_method_20_code
def yX6_writtenAlterAt : MethodName := ⟨RX6, "writtenAlterAt", "(I)I"⟩
abbrev cX6_keyAsWritten : ByteArray := prog_8_method_21_code
def yX6_keyAsWritten : MethodName := ⟨RX6, "keyAsWritten", "(I)I"⟩
abbrev cX6_notes : ByteArray := prog_8_method_22_code
def yX6_notes : MethodName := ⟨RX6, "notes", "()I"⟩
abbrev cX6_notesOutOfRange : ByteArray := prog_8_method_23_code
def yX6_notesOutOfRange : MethodName := ⟨RX6, "notesOutOfRange", "()I"⟩
abbrev cX6_notesWithoutWrittenPitch : ByteArray := prog_8_method_24_code
def yX6_notesWithoutWrittenPitch : MethodName := ⟨RX6, "notesWithoutWrittenPitch", "()I"⟩
abbrev cX6_sumOfHeights : ByteArray := prog_8_method_25_code
def yX6_sumOfHeights : MethodName := ⟨RX6, "sumOfHeights", "()I"⟩
def RX7 : String := "ChoraleDesk$Scale"
def TX7 : u_T := fun k => match k with
  | _ => ("", "", "", false)
def tyX7 : Nat → FieldType := fun k => match k with
  | _ => .int
abbrev wsX70 : List Cond := u_ws RX7 TX7 0
theorem nmX7 : ∀ a, a < 0 → ∀ b, b < 0 → a ≠ b → (TX7 a).2.1 ≠ (TX7 b).2.1 := by decide +kernel
theorem tyX7_ok : ∀ k, k < 0 → parseFieldDescriptor (TX7 k).2.2.1 = some (tyX7 k) := by decide +kernel
abbrev cX7_isPitch : ByteArray := prog_9_method_2_code
def yX7_isPitch : MethodName := ⟨RX7, "isPitch", "(II)Z"⟩
abbrev cX7_plainHeight : ByteArray := prog_9_method_3_code
def yX7_plainHeight : MethodName := ⟨RX7, "plainHeight", "(I)I"⟩
abbrev cX7_alterByKey : ByteArray := prog_9_method_4_code
def yX7_alterByKey : MethodName := ⟨RX7, "alterByKey", "(II)I"⟩
def RX8 : String := "ChoraleDesk$Values"
def TX8 : u_T := fun k => match k with
  | _ => ("", "", "", false)
def tyX8 : Nat → FieldType := fun k => match k with
  | _ => .int
abbrev wsX80 : List Cond := u_ws RX8 TX8 0
theorem nmX8 : ∀ a, a < 0 → ∀ b, b < 0 → a ≠ b → (TX8 a).2.1 ≠ (TX8 b).2.1 := by decide +kernel
theorem tyX8_ok : ∀ k, k < 0 → parseFieldDescriptor (TX8 k).2.2.1 = some (tyX8 k) := by decide +kernel
abbrev cX8_isValue : ByteArray := prog_10_method_2_code
def yX8_isValue : MethodName := ⟨RX8, "isValue", "(I)Z"⟩
abbrev cX8_greatestIn : ByteArray := prog_10_method_3_code
def yX8_greatestIn : MethodName := ⟨RX8, "greatestIn", "(I)I"⟩
def RX9 : String := "ChoraleDesk"
def TX9 : u_T := fun k => match k with
  | 0 => ("ChoraleDesk", "parts", "[LChoraleDesk$Part;", true)
  | 1 => ("ChoraleDesk", "calendar", "LChoraleDesk$Calendar;", true)
  | 2 => ("ChoraleDesk", "measure", "LChoraleDesk$Measure;", true)
  | 3 => ("ChoraleDesk", "harmony", "LChoraleDesk$Harmony;", true)
  | 4 => ("ChoraleDesk", "chord", "LChoraleDesk$Chord;", true)
  | 5 => ("ChoraleDesk", "faultList", "LChoraleDesk$FaultList;", true)
  | 6 => ("ChoraleDesk", "breaks", "LChoraleDesk$LineBreaks;", true)
  | 7 => ("ChoraleDesk", "heard", "Z", false)
  | 8 => ("ChoraleDesk", "searched", "Z", false)
  | 9 => ("ChoraleDesk", "widthsKnown", "Z", false)
  | 10 => ("ChoraleDesk", "laidPart", "I", false)
  | _ => ("ChoraleDesk", "laidBar", "I", false)
def tyX9 : Nat → FieldType := fun k => match k with
  | 0 => .array (.object "ChoraleDesk$Part")
  | 1 => .object "ChoraleDesk$Calendar"
  | 2 => .object "ChoraleDesk$Measure"
  | 3 => .object "ChoraleDesk$Harmony"
  | 4 => .object "ChoraleDesk$Chord"
  | 5 => .object "ChoraleDesk$FaultList"
  | 6 => .object "ChoraleDesk$LineBreaks"
  | 7 => .boolean
  | 8 => .boolean
  | 9 => .boolean
  | 10 => .int
  | _ => .int
abbrev wsX90 : List Cond := u_ws RX9 TX9 12
theorem nmX9 : ∀ a, a < 12 → ∀ b, b < 12 → a ≠ b → (TX9 a).2.1 ≠ (TX9 b).2.1 := by decide +kernel
theorem tyX9_ok : ∀ k, k < 12 → parseFieldDescriptor (TX9 k).2.2.1 = some (tyX9 k) := by decide +kernel
abbrev cX9_init : ByteArray := prog_1_method_1_code
def yX9_init : MethodName := ⟨RX9, "<init>", "()V"⟩
abbrev cX9_addNote : ByteArray := prog_1_method_2_code
def yX9_addNote : MethodName := ⟨RX9, "addNote", "(IIII)I"⟩
abbrev cX9_addRest : ByteArray := prog_1_method_3_code
def yX9_addRest : MethodName := ⟨RX9, "addRest", "(II)I"⟩
abbrev cX9_takeLast : ByteArray := prog_1_method_4_code
def yX9_takeLast : MethodName := ⟨RX9, "takeLast", "(I)I"⟩
abbrev cX9_setPitch : ByteArray := prog_1_method_5_code
def yX9_setPitch : MethodName := ⟨RX9, "setPitch", "(IIII)I"⟩
abbrev cX9_setMetre : ByteArray := prog_1_method_6_code
def yX9_setMetre : MethodName := ⟨RX9, "setMetre", "(III)I"⟩
abbrev cX9_setKey : ByteArray := prog_1_method_7_code
def yX9_setKey : MethodName := ⟨RX9, "setKey", "(II)I"⟩
abbrev cX9_setRange : ByteArray := prog_1_method_8_code
def yX9_setRange : MethodName := ⟨RX9, "setRange", "(III)I"⟩
abbrev cX9_setShift : ByteArray := prog_1_method_9_code
def yX9_setShift : MethodName := ⟨RX9, "setShift", "(III)I"⟩
abbrev cX9_events : ByteArray := prog_1_method_10_code
def yX9_events : MethodName := ⟨RX9, "events", "(I)I"⟩
abbrev cX9_beginOf : ByteArray := prog_1_method_11_code
def yX9_beginOf : MethodName := ⟨RX9, "beginOf", "(II)I"⟩
abbrev cX9_heightOf : ByteArray := prog_1_method_12_code
def yX9_heightOf : MethodName := ⟨RX9, "heightOf", "(II)I"⟩
abbrev cX9_barOf : ByteArray := prog_1_method_13_code
def yX9_barOf : MethodName := ⟨RX9, "barOf", "(II)I"⟩
abbrev cX9_writtenPlace : ByteArray := prog_1_method_14_code
def yX9_writtenPlace : MethodName := ⟨RX9, "writtenPlace", "(II)I"⟩
abbrev cX9_writtenAlter : ByteArray := prog_1_method_15_code
def yX9_writtenAlter : MethodName := ⟨RX9, "writtenAlter", "(II)I"⟩
abbrev cX9_alterIn : ByteArray := prog_1_method_16_code
def yX9_alterIn : MethodName := ⟨RX9, "alterIn", "(II)I"⟩
abbrev cX9_writtenKey : ByteArray := prog_1_method_17_code
def yX9_writtenKey : MethodName := ⟨RX9, "writtenKey", "(II)I"⟩
abbrev cX9_beginOfBar : ByteArray := prog_1_method_18_code
def yX9_beginOfBar : MethodName := ⟨RX9, "beginOfBar", "(I)I"⟩
abbrev cX9_lengthOfBar : ByteArray := prog_1_method_19_code
def yX9_lengthOfBar : MethodName := ⟨RX9, "lengthOfBar", "(I)I"⟩
abbrev cX9_signs : ByteArray := prog_1_method_20_code
def yX9_signs : MethodName := ⟨RX9, "signs", "(II)I"⟩
abbrev cX9_eventOf : ByteArray := prog_1_method_21_code
def yX9_eventOf : MethodName := ⟨RX9, "eventOf", "(III)I"⟩
abbrev cX9_lengthOf : ByteArray := prog_1_method_22_code
def yX9_lengthOf : MethodName := ⟨RX9, "lengthOf", "(III)I"⟩
abbrev cX9_isTied : ByteArray := prog_1_method_23_code
def yX9_isTied : MethodName := ⟨RX9, "isTied", "(III)Z"⟩
abbrev cX9_shown : ByteArray := prog_1_method_24_code
def yX9_shown : MethodName := ⟨RX9, "shown", "(III)I"⟩
abbrev cX9_shownWritten : ByteArray := prog_1_method_25_code
def yX9_shownWritten : MethodName := ⟨RX9, "shownWritten", "(III)I"⟩
abbrev cX9_beams : ByteArray := prog_1_method_26_code
def yX9_beams : MethodName := ⟨RX9, "beams", "(II)I"⟩
abbrev cX9_beamOf : ByteArray := prog_1_method_27_code
def yX9_beamOf : MethodName := ⟨RX9, "beamOf", "(III)I"⟩
abbrev cX9_missing : ByteArray := prog_1_method_28_code
def yX9_missing : MethodName := ⟨RX9, "missing", "(II)I"⟩
abbrev cX9_moments : ByteArray := prog_1_method_29_code
def yX9_moments : MethodName := ⟨RX9, "moments", "()I"⟩
abbrev cX9_tickOf : ByteArray := prog_1_method_30_code
def yX9_tickOf : MethodName := ⟨RX9, "tickOf", "(I)I"⟩
abbrev cX9_sounds : ByteArray := prog_1_method_31_code
def yX9_sounds : MethodName := ⟨RX9, "sounds", "(II)I"⟩
abbrev cX9_root : ByteArray := prog_1_method_32_code
def yX9_root : MethodName := ⟨RX9, "root", "(I)I"⟩
abbrev cX9_kind : ByteArray := prog_1_method_33_code
def yX9_kind : MethodName := ⟨RX9, "kind", "(I)I"⟩
abbrev cX9_inversion : ByteArray := prog_1_method_34_code
def yX9_inversion : MethodName := ⟨RX9, "inversion", "(I)I"⟩
abbrev cX9_faults : ByteArray := prog_1_method_35_code
def yX9_faults : MethodName := ⟨RX9, "faults", "()I"⟩
abbrev cX9_kindOfFault : ByteArray := prog_1_method_36_code
def yX9_kindOfFault : MethodName := ⟨RX9, "kindOfFault", "(I)I"⟩
abbrev cX9_tickOfFault : ByteArray := prog_1_method_37_code
def yX9_tickOfFault : MethodName := ⟨RX9, "tickOfFault", "(I)I"⟩
abbrev cX9_partsOfFault : ByteArray := prog_1_method_38_code
def yX9_partsOfFault : MethodName := ⟨RX9, "partsOfFault", "(I)I"⟩
abbrev cX9_faultsIfUp : ByteArray := prog_1_method_39_code
def yX9_faultsIfUp : MethodName := ⟨RX9, "faultsIfUp", "(II)I"⟩
abbrev cX9_bars : ByteArray := prog_1_method_40_code
def yX9_bars : MethodName := ⟨RX9, "bars", "()I"⟩
abbrev cX9_widthOf : ByteArray := prog_1_method_41_code
def yX9_widthOf : MethodName := ⟨RX9, "widthOf", "(I)I"⟩
abbrev cX9_lines : ByteArray := prog_1_method_42_code
def yX9_lines : MethodName := ⟨RX9, "lines", "(I)I"⟩
abbrev cX9_lineOf : ByteArray := prog_1_method_43_code
def yX9_lineOf : MethodName := ⟨RX9, "lineOf", "(II)I"⟩
abbrev cX9_costOf : ByteArray := prog_1_method_44_code
def yX9_costOf : MethodName := ⟨RX9, "costOf", "(I)I"⟩
abbrev cX9_meanHeight : ByteArray := prog_1_method_45_code
def yX9_meanHeight : MethodName := ⟨RX9, "meanHeight", "()D"⟩
abbrev cX9_digest : ByteArray := prog_1_method_46_code
def yX9_digest : MethodName := ⟨RX9, "digest", "()J"⟩
abbrev cX9_mix : ByteArray := prog_1_method_47_code
def yX9_mix : MethodName := ⟨RX9, "mix", "(JJ)J"⟩
abbrev cX9_mixPart : ByteArray := prog_1_method_48_code
def yX9_mixPart : MethodName := ⟨RX9, "mixPart", "(JLChoraleDesk$Part;)J"⟩
abbrev cX9_mixBar : ByteArray := prog_1_method_49_code
def yX9_mixBar : MethodName := ⟨RX9, "mixBar", "(JI)J"⟩
abbrev cX9_mixSigns : ByteArray := prog_1_method_50_code
def yX9_mixSigns : MethodName := ⟨RX9, "mixSigns", "(JLChoraleDesk$Measure;)J"⟩
abbrev cX9_mixMoments : ByteArray := prog_1_method_51_code
def yX9_mixMoments : MethodName := ⟨RX9, "mixMoments", "(J)J"⟩
abbrev cX9_mixFaults : ByteArray := prog_1_method_52_code
def yX9_mixFaults : MethodName := ⟨RX9, "mixFaults", "(J)J"⟩
abbrev cX9_mixLines : ByteArray := prog_1_method_53_code
def yX9_mixLines : MethodName := ⟨RX9, "mixLines", "(JI)J"⟩
abbrev cX9_forgetWhatFollows : ByteArray := prog_1_method_54_code
def yX9_forgetWhatFollows : MethodName := ⟨RX9, "forgetWhatFollows", "()V"⟩
abbrev cX9_hear : ByteArray := prog_1_method_55_code
def yX9_hear : MethodName := ⟨RX9, "hear", "()V"⟩
abbrev cX9_searchFaults : ByteArray := prog_1_method_56_code
def yX9_searchFaults : MethodName := ⟨RX9, "searchFaults", "()V"⟩
abbrev cX9_measureWidths : ByteArray := prog_1_method_57_code
def yX9_measureWidths : MethodName := ⟨RX9, "measureWidths", "()V"⟩
abbrev cX9_breakLines : ByteArray := prog_1_method_58_code
def yX9_breakLines : MethodName := ⟨RX9, "breakLines", "(I)V"⟩
abbrev cX9_lastEnd : ByteArray := prog_1_method_59_code
def yX9_lastEnd : MethodName := ⟨RX9, "lastEnd", "()I"⟩
abbrev cX9_allEvents : ByteArray := prog_1_method_60_code
def yX9_allEvents : MethodName := ⟨RX9, "allEvents", "()I"⟩
abbrev cX9_partAt : ByteArray := prog_1_method_61_code
def yX9_partAt : MethodName := ⟨RX9, "partAt", "(I)LChoraleDesk$Part;"⟩
abbrev cX9_partWith : ByteArray := prog_1_method_62_code
def yX9_partWith : MethodName := ⟨RX9, "partWith", "(II)LChoraleDesk$Part;"⟩
abbrev cX9_measureAt : ByteArray := prog_1_method_63_code
def yX9_measureAt : MethodName := ⟨RX9, "measureAt", "(II)LChoraleDesk$Measure;"⟩
abbrev cX9_measureWith : ByteArray := prog_1_method_64_code
def yX9_measureWith : MethodName := ⟨RX9, "measureWith", "(III)LChoraleDesk$Measure;"⟩
abbrev cX9_chordAt : ByteArray := prog_1_method_65_code
def yX9_chordAt : MethodName := ⟨RX9, "chordAt", "(I)LChoraleDesk$Chord;"⟩
abbrev cX9_checkMoment : ByteArray := prog_1_method_66_code
def yX9_checkMoment : MethodName := ⟨RX9, "checkMoment", "(I)V"⟩
abbrev cX9_checkFault : ByteArray := prog_1_method_67_code
def yX9_checkFault : MethodName := ⟨RX9, "checkFault", "(I)V"⟩
abbrev cX9_checkRoom : ByteArray := prog_1_method_68_code
def yX9_checkRoom : MethodName := ⟨RX9, "checkRoom", "(LChoraleDesk$Part;I)V"⟩
abbrev cX9_checkNote : ByteArray := prog_1_method_69_code
def yX9_checkNote : MethodName := ⟨RX9, "checkNote", "(LChoraleDesk$Part;I)V"⟩
abbrev cX9_checkBar : ByteArray := prog_1_method_70_code
def yX9_checkBar : MethodName := ⟨RX9, "checkBar", "(I)V"⟩
abbrev cX9_checkPitch : ByteArray := prog_1_method_71_code
def yX9_checkPitch : MethodName := ⟨RX9, "checkPitch", "(II)V"⟩
abbrev cX9_checkValue : ByteArray := prog_1_method_72_code
def yX9_checkValue : MethodName := ⟨RX9, "checkValue", "(I)V"⟩
abbrev cX9_checkKey : ByteArray := prog_1_method_73_code
def yX9_checkKey : MethodName := ⟨RX9, "checkKey", "(I)V"⟩
abbrev cX9_checkWidth : ByteArray := prog_1_method_74_code
def yX9_checkWidth : MethodName := ⟨RX9, "checkWidth", "(I)V"⟩
def RX10 : String := "ChoraleDeskModel$Part"
def TX10 : u_T := fun k => match k with
  | 0 => ("ChoraleDeskModel$Part", "many", "I", false)
  | 1 => ("ChoraleDeskModel$Part", "begin", "[I", false)
  | 2 => ("ChoraleDeskModel$Part", "length", "[I", false)
  | 3 => ("ChoraleDeskModel$Part", "place", "[I", false)
  | 4 => ("ChoraleDeskModel$Part", "alter", "[I", false)
  | 5 => ("ChoraleDeskModel$Part", "lowest", "I", false)
  | 6 => ("ChoraleDeskModel$Part", "highest", "I", false)
  | 7 => ("ChoraleDeskModel$Part", "fifths", "I", false)
  | _ => ("ChoraleDeskModel$Part", "octaves", "I", false)
def tyX10 : Nat → FieldType := fun k => match k with
  | 0 => .int
  | 1 => .array .int
  | 2 => .array .int
  | 3 => .array .int
  | 4 => .array .int
  | 5 => .int
  | 6 => .int
  | 7 => .int
  | _ => .int
abbrev wsX100 : List Cond := u_ws RX10 TX10 9
theorem nmX10 : ∀ a, a < 9 → ∀ b, b < 9 → a ≠ b → (TX10 a).2.1 ≠ (TX10 b).2.1 := by decide +kernel
theorem tyX10_ok : ∀ k, k < 9 → parseFieldDescriptor (TX10 k).2.2.1 = some (tyX10 k) := by decide +kernel
abbrev cX10_init : ByteArray := prog_13_method_1_code
def yX10_init : MethodName := ⟨RX10, "<init>", "()V"⟩
abbrev cX10_end : ByteArray := prog_13_method_2_code
def yX10_end : MethodName := ⟨RX10, "end", "()I"⟩
abbrev cX10_endOf : ByteArray := prog_13_method_3_code
def yX10_endOf : MethodName := ⟨RX10, "endOf", "(I)I"⟩
abbrev cX10_add : ByteArray := prog_13_method_4_code
def yX10_add : MethodName := ⟨RX10, "add", "(III)V"⟩
abbrev cX10_isNote : ByteArray := prog_13_method_5_code
def yX10_isNote : MethodName := ⟨RX10, "isNote", "(I)Z"⟩
abbrev cX10_height : ByteArray := prog_13_method_6_code
def yX10_height : MethodName := ⟨RX10, "height", "(I)I"⟩
abbrev cX10_isOut : ByteArray := prog_13_method_7_code
def yX10_isOut : MethodName := ⟨RX10, "isOut", "(I)Z"⟩
abbrev cX10_writtenPlace : ByteArray := prog_13_method_8_code
def yX10_writtenPlace : MethodName := ⟨RX10, "writtenPlace", "(I)I"⟩
abbrev cX10_writtenAlter : ByteArray := prog_13_method_9_code
def yX10_writtenAlter : MethodName := ⟨RX10, "writtenAlter", "(I)I"⟩
abbrev cX10_isWritten : ByteArray := prog_13_method_10_code
def yX10_isWritten : MethodName := ⟨RX10, "isWritten", "(I)Z"⟩
def RX11 : String := "ChoraleDeskModel"
def TX11 : u_T := fun k => match k with
  | 0 => ("ChoraleDeskModel", "thrown", "I", false)
  | 1 => ("ChoraleDeskModel", "parts", "[LChoraleDeskModel$Part;", true)
  | 2 => ("ChoraleDeskModel", "beats", "[I", true)
  | 3 => ("ChoraleDeskModel", "unit", "[I", true)
  | 4 => ("ChoraleDeskModel", "key", "[I", true)
  | 5 => ("ChoraleDeskModel", "laid", "I", false)
  | 6 => ("ChoraleDeskModel", "laidBeams", "I", false)
  | 7 => ("ChoraleDeskModel", "signEvent", "[I", true)
  | 8 => ("ChoraleDeskModel", "signLength", "[I", true)
  | 9 => ("ChoraleDeskModel", "signTick", "[I", true)
  | 10 => ("ChoraleDeskModel", "signTied", "[Z", true)
  | 11 => ("ChoraleDeskModel", "signShown", "[I", true)
  | 12 => ("ChoraleDeskModel", "signWritten", "[I", true)
  | 13 => ("ChoraleDeskModel", "signBeam", "[I", true)
  | 14 => ("ChoraleDeskModel", "force", "[I", true)
  | 15 => ("ChoraleDeskModel", "tick", "I", false)
  | 16 => ("ChoraleDeskModel", "here", "[I", true)
  | 17 => ("ChoraleDeskModel", "next", "[I", true)
  | 18 => ("ChoraleDeskModel", "ahead", "[I", true)
  | 19 => ("ChoraleDeskModel", "chordRoot", "I", false)
  | 20 => ("ChoraleDeskModel", "chordKind", "I", false)
  | 21 => ("ChoraleDeskModel", "chordInversion", "I", false)
  | 22 => ("ChoraleDeskModel", "wanted", "I", false)
  | 23 => ("ChoraleDeskModel", "counted", "I", false)
  | 24 => ("ChoraleDeskModel", "foundKind", "I", false)
  | 25 => ("ChoraleDeskModel", "foundTick", "I", false)
  | 26 => ("ChoraleDeskModel", "foundParts", "I", false)
  | 27 => ("ChoraleDeskModel", "widths", "[I", true)
  | 28 => ("ChoraleDeskModel", "best", "[I", true)
  | 29 => ("ChoraleDeskModel", "end", "[I", true)
  | _ => ("ChoraleDeskModel", "sum", "J", false)
def tyX11 : Nat → FieldType := fun k => match k with
  | 0 => .int
  | 1 => .array (.object "ChoraleDeskModel$Part")
  | 2 => .array .int
  | 3 => .array .int
  | 4 => .array .int
  | 5 => .int
  | 6 => .int
  | 7 => .array .int
  | 8 => .array .int
  | 9 => .array .int
  | 10 => .array .boolean
  | 11 => .array .int
  | 12 => .array .int
  | 13 => .array .int
  | 14 => .array .int
  | 15 => .int
  | 16 => .array .int
  | 17 => .array .int
  | 18 => .array .int
  | 19 => .int
  | 20 => .int
  | 21 => .int
  | 22 => .int
  | 23 => .int
  | 24 => .int
  | 25 => .int
  | 26 => .int
  | 27 => .array .int
  | 28 => .array .int
  | 29 => .array .int
  | _ => .long
abbrev wsX110 : List Cond := u_ws RX11 TX11 31
theorem nmX11 : ∀ a, a < 31 → ∀ b, b < 31 → a ≠ b → (TX11 a).2.1 ≠ (TX11 b).2.1 := by decide +kernel
theorem tyX11_ok : ∀ k, k < 31 → parseFieldDescriptor (TX11 k).2.2.1 = some (tyX11 k) := by decide +kernel
abbrev cX11_base : ByteArray := prog_12_method_1_code
def yX11_base : MethodName := ⟨RX11, "base", "(I)I"⟩
abbrev cX11_is : ByteArray := prog_12_method_2_code
def yX11_is : MethodName := ⟨RX11, "is", "(III)Z"⟩
abbrev cX11_init : ByteArray := prog_12_method_3_code
def yX11_init : MethodName := ⟨RX11, "<init>", "()V"⟩
abbrev cX11_thrown : ByteArray := prog_12_method_4_code
def yX11_thrown : MethodName := ⟨RX11, "thrown", "()I"⟩
abbrev cX11_refuse : ByteArray := prog_12_method_5_code
def yX11_refuse : MethodName := ⟨RX11, "refuse", "(I)I"⟩
abbrev cX11_isPart : ByteArray := prog_12_method_6_code
def yX11_isPart : MethodName := ⟨RX11, "isPart", "(I)Z"⟩
abbrev cX11_isBar : ByteArray := prog_12_method_7_code
def yX11_isBar : MethodName := ⟨RX11, "isBar", "(I)Z"⟩
abbrev cX11_isEvent : ByteArray := prog_12_method_8_code
def yX11_isEvent : MethodName := ⟨RX11, "isEvent", "(II)Z"⟩
abbrev cX11_isPitch : ByteArray := prog_12_method_9_code
def yX11_isPitch : MethodName := ⟨RX11, "isPitch", "(II)Z"⟩
abbrev cX11_isValue : ByteArray := prog_12_method_10_code
def yX11_isValue : MethodName := ⟨RX11, "isValue", "(I)Z"⟩
abbrev cX11_length : ByteArray := prog_12_method_11_code
def yX11_length : MethodName := ⟨RX11, "length", "(I)I"⟩
abbrev cX11_begin : ByteArray := prog_12_method_12_code
def yX11_begin : MethodName := ⟨RX11, "begin", "(I)I"⟩
abbrev cX11_add : ByteArray := prog_12_method_13_code
def yX11_add : MethodName := ⟨RX11, "add", "(IIII)I"⟩
abbrev cX11_addNote : ByteArray := prog_12_method_14_code
def yX11_addNote : MethodName := ⟨RX11, "addNote", "(IIII)I"⟩
abbrev cX11_addRest : ByteArray := prog_12_method_15_code
def yX11_addRest : MethodName := ⟨RX11, "addRest", "(II)I"⟩
abbrev cX11_takeLast : ByteArray := prog_12_method_16_code
def yX11_takeLast : MethodName := ⟨RX11, "takeLast", "(I)I"⟩
abbrev cX11_setPitch : ByteArray := prog_12_method_17_code
def yX11_setPitch : MethodName := ⟨RX11, "setPitch", "(IIII)I"⟩
abbrev cX11_setMetre : ByteArray := prog_12_method_18_code
def yX11_setMetre : MethodName := ⟨RX11, "setMetre", "(III)I"⟩
abbrev cX11_setKey : ByteArray := prog_12_method_19_code
def yX11_setKey : MethodName := ⟨RX11, "setKey", "(II)I"⟩
abbrev cX11_setRange : ByteArray := prog_12_method_20_code
def yX11_setRange : MethodName := ⟨RX11, "setRange", "(III)I"⟩
abbrev cX11_setShift : ByteArray := prog_12_method_21_code
def yX11_setShift : MethodName := ⟨RX11, "setShift", "(III)I"⟩
abbrev cX11_events : ByteArray := prog_12_method_22_code
def yX11_events : MethodName := ⟨RX11, "events", "(I)I"⟩
abbrev cX11_beginOf : ByteArray := prog_12_method_23_code
def yX11_beginOf : MethodName := ⟨RX11, "beginOf", "(II)I"⟩
abbrev cX11_heightNow : ByteArray := prog_12_method_24_code
def yX11_heightNow : MethodName := ⟨RX11, "heightNow", "(II)I"⟩
abbrev cX11_heightOf : ByteArray := prog_12_method_25_code
def yX11_heightOf : MethodName := ⟨RX11, "heightOf", "(II)I"⟩
abbrev cX11_barAt : ByteArray := prog_12_method_26_code
def yX11_barAt : MethodName := ⟨RX11, "barAt", "(I)I"⟩
abbrev cX11_barOf : ByteArray := prog_12_method_27_code
def yX11_barOf : MethodName := ⟨RX11, "barOf", "(II)I"⟩
abbrev cX11_writtenPlaceNow : ByteArray := prog_12_method_28_code
def yX11_writtenPlaceNow : MethodName := ⟨RX11, "writtenPlaceNow", "(II)I"⟩
abbrev cX11_writtenAlterNow : ByteArray := prog_12_method_29_code
def yX11_writtenAlterNow : MethodName := ⟨RX11, "writtenAlterNow", "(II)I"⟩
abbrev cX11_writtenPlace : ByteArray := prog_12_method_30_code
def yX11_writtenPlace : MethodName := ⟨RX11, "writtenPlace", "(II)I"⟩
abbrev cX11_writtenAlter : ByteArray := prog_12_method_31_code
def yX11_writtenAlter : MethodName := ⟨RX11, "writtenAlter", "(II)I"⟩
abbrev cX11_altered : ByteArray := prog_12_method_32_code
def yX11_altered : MethodName := ⟨RX11, "altered", "(II)I"⟩
abbrev cX11_alterIn : ByteArray := prog_12_method_33_code
def yX11_alterIn : MethodName := ⟨RX11, "alterIn", "(II)I"⟩
abbrev cX11_keyWritten : ByteArray := prog_12_method_34_code
def yX11_keyWritten : MethodName := ⟨RX11, "keyWritten", "(II)I"⟩
abbrev cX11_writtenKey : ByteArray := prog_12_method_35_code
def yX11_writtenKey : MethodName := ⟨RX11, "writtenKey", "(II)I"⟩
abbrev cX11_beginOfBar : ByteArray := prog_12_method_36_code
def yX11_beginOfBar : MethodName := ⟨RX11, "beginOfBar", "(I)I"⟩
abbrev cX11_lengthOfBar : ByteArray := prog_12_method_37_code
def yX11_lengthOfBar : MethodName := ⟨RX11, "lengthOfBar", "(I)I"⟩
abbrev cX11_lay : ByteArray := prog_12_method_38_code
def yX11_lay : MethodName := ⟨RX11, "lay", "(II)V"⟩
abbrev cX11_show : ByteArray := prog_12_method_39_code
def yX11_show : MethodName := ⟨RX11, "show", "(IIZ[I)V"⟩
abbrev cX11_beam : ByteArray := prog_12_method_40_code
def yX11_beam : MethodName := ⟨RX11, "beam", "(III)V"⟩
abbrev cX11_isShort : ByteArray := prog_12_method_41_code
def yX11_isShort : MethodName := ⟨RX11, "isShort", "(II)Z"⟩
abbrev cX11_has : ByteArray := prog_12_method_42_code
def yX11_has : MethodName := ⟨RX11, "has", "(II)Z"⟩
abbrev cX11_has_ : ByteArray := prog_12_method_43_code
def yX11_has_ : MethodName := ⟨RX11, "has", "(III)Z"⟩
abbrev cX11_signs : ByteArray := prog_12_method_44_code
def yX11_signs : MethodName := ⟨RX11, "signs", "(II)I"⟩
abbrev cX11_eventOf : ByteArray := prog_12_method_45_code
def yX11_eventOf : MethodName := ⟨RX11, "eventOf", "(III)I"⟩
abbrev cX11_lengthOf : ByteArray := prog_12_method_46_code
def yX11_lengthOf : MethodName := ⟨RX11, "lengthOf", "(III)I"⟩
abbrev cX11_isTied : ByteArray := prog_12_method_47_code
def yX11_isTied : MethodName := ⟨RX11, "isTied", "(III)Z"⟩
abbrev cX11_shown : ByteArray := prog_12_method_48_code
def yX11_shown : MethodName := ⟨RX11, "shown", "(III)I"⟩
abbrev cX11_shownWritten : ByteArray := prog_12_method_49_code
def yX11_shownWritten : MethodName := ⟨RX11, "shownWritten", "(III)I"⟩
abbrev cX11_beams : ByteArray := prog_12_method_50_code
def yX11_beams : MethodName := ⟨RX11, "beams", "(II)I"⟩
abbrev cX11_beamOf : ByteArray := prog_12_method_51_code
def yX11_beamOf : MethodName := ⟨RX11, "beamOf", "(III)I"⟩
abbrev cX11_missingNow : ByteArray := prog_12_method_52_code
def yX11_missingNow : MethodName := ⟨RX11, "missingNow", "(II)I"⟩
abbrev cX11_missing : ByteArray := prog_12_method_53_code
def yX11_missing : MethodName := ⟨RX11, "missing", "(II)I"⟩
abbrev cX11_beginWalk : ByteArray := prog_12_method_54_code
def yX11_beginWalk : MethodName := ⟨RX11, "beginWalk", "()V"⟩
abbrev cX11_walk : ByteArray := prog_12_method_55_code
def yX11_walk : MethodName := ⟨RX11, "walk", "()Z"⟩
abbrev cX11_soundsNow : ByteArray := prog_12_method_56_code
def yX11_soundsNow : MethodName := ⟨RX11, "soundsNow", "(I)I"⟩
abbrev cX11_begins : ByteArray := prog_12_method_57_code
def yX11_begins : MethodName := ⟨RX11, "begins", "(I)Z"⟩
abbrev cX11_momentsNow : ByteArray := prog_12_method_58_code
def yX11_momentsNow : MethodName := ⟨RX11, "momentsNow", "()I"⟩
abbrev cX11_moments : ByteArray := prog_12_method_59_code
def yX11_moments : MethodName := ⟨RX11, "moments", "()I"⟩
abbrev cX11_walkTo : ByteArray := prog_12_method_60_code
def yX11_walkTo : MethodName := ⟨RX11, "walkTo", "(I)Z"⟩
abbrev cX11_tickOf : ByteArray := prog_12_method_61_code
def yX11_tickOf : MethodName := ⟨RX11, "tickOf", "(I)I"⟩
abbrev cX11_sounds : ByteArray := prog_12_method_62_code
def yX11_sounds : MethodName := ⟨RX11, "sounds", "(II)I"⟩
abbrev cX11_findChord : ByteArray := prog_12_method_63_code
def yX11_findChord : MethodName := ⟨RX11, "findChord", "()V"⟩
abbrev cX11_root : ByteArray := prog_12_method_64_code
def yX11_root : MethodName := ⟨RX11, "root", "(I)I"⟩
abbrev cX11_kind : ByteArray := prog_12_method_65_code
def yX11_kind : MethodName := ⟨RX11, "kind", "(I)I"⟩
abbrev cX11_inversion : ByteArray := prog_12_method_66_code
def yX11_inversion : MethodName := ⟨RX11, "inversion", "(I)I"⟩
abbrev cX11_blame : ByteArray := prog_12_method_67_code
def yX11_blame : MethodName := ⟨RX11, "blame", "(II)V"⟩
abbrev cX11_countFaults : ByteArray := prog_12_method_68_code
def yX11_countFaults : MethodName := ⟨RX11, "countFaults", "(I)I"⟩
abbrev cX11_blameParallels : ByteArray := prog_12_method_69_code
def yX11_blameParallels : MethodName := ⟨RX11, "blameParallels", "(II)V"⟩
abbrev cX11_blamePart : ByteArray := prog_12_method_70_code
def yX11_blamePart : MethodName := ⟨RX11, "blamePart", "(I)V"⟩
abbrev cX11_faults : ByteArray := prog_12_method_71_code
def yX11_faults : MethodName := ⟨RX11, "faults", "()I"⟩
abbrev cX11_hasFault : ByteArray := prog_12_method_72_code
def yX11_hasFault : MethodName := ⟨RX11, "hasFault", "(I)Z"⟩
abbrev cX11_kindOfFault : ByteArray := prog_12_method_73_code
def yX11_kindOfFault : MethodName := ⟨RX11, "kindOfFault", "(I)I"⟩
abbrev cX11_tickOfFault : ByteArray := prog_12_method_74_code
def yX11_tickOfFault : MethodName := ⟨RX11, "tickOfFault", "(I)I"⟩
abbrev cX11_partsOfFault : ByteArray := prog_12_method_75_code
def yX11_partsOfFault : MethodName := ⟨RX11, "partsOfFault", "(I)I"⟩
abbrev cX11_faultsIfUp : ByteArray := prog_12_method_76_code
def yX11_faultsIfUp : MethodName := ⟨RX11, "faultsIfUp", "(II)I"⟩
abbrev cX11_barsNow : ByteArray := prog_12_method_77_code
def yX11_barsNow : MethodName := ⟨RX11, "barsNow", "()I"⟩
abbrev cX11_bars : ByteArray := prog_12_method_78_code
def yX11_bars : MethodName := ⟨RX11, "bars", "()I"⟩
abbrev cX11_width : ByteArray := prog_12_method_79_code
def yX11_width : MethodName := ⟨RX11, "width", "(I)I"⟩
abbrev cX11_widthOf : ByteArray := prog_12_method_80_code
def yX11_widthOf : MethodName := ⟨RX11, "widthOf", "(I)I"⟩
abbrev cX11_breakLines : ByteArray := prog_12_method_81_code
def yX11_breakLines : MethodName := ⟨RX11, "breakLines", "(I)I"⟩
abbrev cX11_linesNow : ByteArray := prog_12_method_82_code
def yX11_linesNow : MethodName := ⟨RX11, "linesNow", "(I)I"⟩
abbrev cX11_lines : ByteArray := prog_12_method_83_code
def yX11_lines : MethodName := ⟨RX11, "lines", "(I)I"⟩
abbrev cX11_lineOf : ByteArray := prog_12_method_84_code
def yX11_lineOf : MethodName := ⟨RX11, "lineOf", "(II)I"⟩
abbrev cX11_costNow : ByteArray := prog_12_method_85_code
def yX11_costNow : MethodName := ⟨RX11, "costNow", "(I)I"⟩
abbrev cX11_costOf : ByteArray := prog_12_method_86_code
def yX11_costOf : MethodName := ⟨RX11, "costOf", "(I)I"⟩
abbrev cX11_meanHeight : ByteArray := prog_12_method_87_code
def yX11_meanHeight : MethodName := ⟨RX11, "meanHeight", "()D"⟩
abbrev cX11_add_ : ByteArray := prog_12_method_88_code
def yX11_add_ : MethodName := ⟨RX11, "add", "(I)V"⟩
abbrev cX11_addSigns : ByteArray := prog_12_method_89_code
def yX11_addSigns : MethodName := ⟨RX11, "addSigns", "(II)V"⟩
abbrev cX11_digest : ByteArray := prog_12_method_90_code
def yX11_digest : MethodName := ⟨RX11, "digest", "()J"⟩
def RJx145de : String := "java/io/Serializable"
def RJx8e188 : String := "java/lang/Cloneable"
def RJ6 : String := "java/lang/Integer"
abbrev cJ6_compare_7cf53 : ByteArray := prog_19_method_40_code
def yJ6_compare_7cf53 : MethodName := ⟨RJ6, "compare", "(II)I"⟩
abbrev cJ6_bitCount_0f7a4 : ByteArray := prog_19_method_49_code
def yJ6_bitCount_0f7a4 : MethodName := ⟨RJ6, "bitCount", "(I)I"⟩
def RJ9 : String := "java/lang/Math"
abbrev cJ9_floorDiv_7cf53 : ByteArray := prog_20_method_47_code
def yJ9_floorDiv_7cf53 : MethodName := ⟨RJ9, "floorDiv", "(II)I"⟩
abbrev cJ9_floorMod_7cf53 : ByteArray := prog_20_method_50_code
def yJ9_floorMod_7cf53 : MethodName := ⟨RJ9, "floorMod", "(II)I"⟩
abbrev cJ9_abs_0f7a4 : ByteArray := prog_20_method_59_code
def yJ9_abs_0f7a4 : MethodName := ⟨RJ9, "abs", "(I)I"⟩
abbrev cJ9_max_7cf53 : ByteArray := prog_20_method_65_code
def yJ9_max_7cf53 : MethodName := ⟨RJ9, "max", "(II)I"⟩
abbrev cJ9_min_7cf53 : ByteArray := prog_20_method_69_code
def yJ9_min_7cf53 : MethodName := ⟨RJ9, "min", "(II)I"⟩
def RJ0 : String := "java/lang/String"
def RJ10 : String := "java/lang/System"
def RJ7 : String := "java/util/Arrays"
abbrev cJ7_fill_53178 : ByteArray := prog_25_method_103_code
def yJ7_fill_53178 : MethodName := ⟨RJ7, "fill", "([II)V"⟩
abbrev cJ7_copyOf_59c91 : ByteArray := prog_25_method_123_code
def yJ7_copyOf_59c91 : MethodName := ⟨RJ7, "copyOf", "([II)[I"⟩
def RL : String := "ChoraleDeskLaw"
abbrev cL_addNote : ByteArray := method_3_code
def yL_addNote : MethodName := ⟨RL, "addNote", "(LChoraleDesk;IIII[J)I"⟩
abbrev cL_addRest : ByteArray := method_4_code
def yL_addRest : MethodName := ⟨RL, "addRest", "(LChoraleDesk;II[J)I"⟩
abbrev cL_takeLast : ByteArray := method_5_code
def yL_takeLast : MethodName := ⟨RL, "takeLast", "(LChoraleDesk;I[J)I"⟩
abbrev cL_setPitch : ByteArray := method_6_code
def yL_setPitch : MethodName := ⟨RL, "setPitch", "(LChoraleDesk;IIII[J)I"⟩
abbrev cL_setMetre : ByteArray := method_7_code
def yL_setMetre : MethodName := ⟨RL, "setMetre", "(LChoraleDesk;III[J)I"⟩
abbrev cL_setKey : ByteArray := method_8_code
def yL_setKey : MethodName := ⟨RL, "setKey", "(LChoraleDesk;II[J)I"⟩
abbrev cL_setRange : ByteArray := method_9_code
def yL_setRange : MethodName := ⟨RL, "setRange", "(LChoraleDesk;III[J)I"⟩
abbrev cL_setShift : ByteArray := method_10_code
def yL_setShift : MethodName := ⟨RL, "setShift", "(LChoraleDesk;III[J)I"⟩
abbrev cL_events : ByteArray := method_11_code
def yL_events : MethodName := ⟨RL, "events", "(LChoraleDesk;I[J)I"⟩
abbrev cL_beginOf : ByteArray := method_12_code
def yL_beginOf : MethodName := ⟨RL, "beginOf", "(LChoraleDesk;II[J)I"⟩
abbrev cL_heightOf : ByteArray := method_13_code
def yL_heightOf : MethodName := ⟨RL, "heightOf", "(LChoraleDesk;II[J)I"⟩
abbrev cL_barOf : ByteArray := method_14_code
def yL_barOf : MethodName := ⟨RL, "barOf", "(LChoraleDesk;II[J)I"⟩
abbrev cL_writtenPlace : ByteArray := method_15_code
def yL_writtenPlace : MethodName := ⟨RL, "writtenPlace", "(LChoraleDesk;II[J)I"⟩
abbrev cL_writtenAlter : ByteArray := method_16_code
def yL_writtenAlter : MethodName := ⟨RL, "writtenAlter", "(LChoraleDesk;II[J)I"⟩
abbrev cL_alterIn : ByteArray := method_17_code
def yL_alterIn : MethodName := ⟨RL, "alterIn", "(LChoraleDesk;II[J)I"⟩
abbrev cL_writtenKey : ByteArray := method_18_code
def yL_writtenKey : MethodName := ⟨RL, "writtenKey", "(LChoraleDesk;II[J)I"⟩
abbrev cL_beginOfBar : ByteArray := method_19_code
def yL_beginOfBar : MethodName := ⟨RL, "beginOfBar", "(LChoraleDesk;I[J)I"⟩
abbrev cL_lengthOfBar : ByteArray := method_20_code
def yL_lengthOfBar : MethodName := ⟨RL, "lengthOfBar", "(LChoraleDesk;I[J)I"⟩
abbrev cL_signs : ByteArray := method_21_code
def yL_signs : MethodName := ⟨RL, "signs", "(LChoraleDesk;II[J)I"⟩
abbrev cL_eventOf : ByteArray := method_22_code
def yL_eventOf : MethodName := ⟨RL, "eventOf", "(LChoraleDesk;III[J)I"⟩
abbrev cL_lengthOf : ByteArray := method_23_code
def yL_lengthOf : MethodName := ⟨RL, "lengthOf", "(LChoraleDesk;III[J)I"⟩
abbrev cL_isTied : ByteArray := method_24_code
def yL_isTied : MethodName := ⟨RL, "isTied", "(LChoraleDesk;III[J)I"⟩
abbrev cL_shown : ByteArray := method_25_code
def yL_shown : MethodName := ⟨RL, "shown", "(LChoraleDesk;III[J)I"⟩
abbrev cL_shownWritten : ByteArray := method_26_code
def yL_shownWritten : MethodName := ⟨RL, "shownWritten", "(LChoraleDesk;III[J)I"⟩
abbrev cL_beams : ByteArray := method_27_code
def yL_beams : MethodName := ⟨RL, "beams", "(LChoraleDesk;II[J)I"⟩
abbrev cL_beamOf : ByteArray := method_28_code
def yL_beamOf : MethodName := ⟨RL, "beamOf", "(LChoraleDesk;III[J)I"⟩
abbrev cL_missing : ByteArray := method_29_code
def yL_missing : MethodName := ⟨RL, "missing", "(LChoraleDesk;II[J)I"⟩
abbrev cL_tickOf : ByteArray := method_30_code
def yL_tickOf : MethodName := ⟨RL, "tickOf", "(LChoraleDesk;I[J)I"⟩
abbrev cL_sounds : ByteArray := method_31_code
def yL_sounds : MethodName := ⟨RL, "sounds", "(LChoraleDesk;II[J)I"⟩
abbrev cL_root : ByteArray := method_32_code
def yL_root : MethodName := ⟨RL, "root", "(LChoraleDesk;I[J)I"⟩
abbrev cL_kind : ByteArray := method_33_code
def yL_kind : MethodName := ⟨RL, "kind", "(LChoraleDesk;I[J)I"⟩
abbrev cL_inversion : ByteArray := method_34_code
def yL_inversion : MethodName := ⟨RL, "inversion", "(LChoraleDesk;I[J)I"⟩
abbrev cL_kindOfFault : ByteArray := method_35_code
def yL_kindOfFault : MethodName := ⟨RL, "kindOfFault", "(LChoraleDesk;I[J)I"⟩
abbrev cL_tickOfFault : ByteArray := method_36_code
def yL_tickOfFault : MethodName := ⟨RL, "tickOfFault", "(LChoraleDesk;I[J)I"⟩
abbrev cL_partsOfFault : ByteArray := method_37_code
def yL_partsOfFault : MethodName := ⟨RL, "partsOfFault", "(LChoraleDesk;I[J)I"⟩
abbrev cL_faultsIfUp : ByteArray := method_38_code
def yL_faultsIfUp : MethodName := ⟨RL, "faultsIfUp", "(LChoraleDesk;II[J)I"⟩
abbrev cL_widthOf : ByteArray := method_39_code
def yL_widthOf : MethodName := ⟨RL, "widthOf", "(LChoraleDesk;I[J)I"⟩
abbrev cL_lines : ByteArray := method_40_code
def yL_lines : MethodName := ⟨RL, "lines", "(LChoraleDesk;I[J)I"⟩
abbrev cL_lineOf : ByteArray := method_41_code
def yL_lineOf : MethodName := ⟨RL, "lineOf", "(LChoraleDesk;II[J)I"⟩
abbrev cL_costOf : ByteArray := method_42_code
def yL_costOf : MethodName := ⟨RL, "costOf", "(LChoraleDesk;I[J)I"⟩
abbrev cL_law : ByteArray := code
def yL_law : MethodName := ⟨RL, "law", "([I)Z"⟩
abbrev vwCl : List vw_C := [(RX0, TX0, 5), (RX1, TX1, 3), (RX2, TX2, 8), (RX3, TX3, 4), (RX4, TX4, 5), (RX5, TX5, 11), (RX6, TX6, 13), (RX9, TX9, 12), (RX10, TX10, 9), (RX11, TX11, 31)]
end
section
/-! ===== my own judgement J: a frame of a method over a picture of the heap ===== -/
abbrev jH : Type := Nat → Option va_E
def hset (h : jH) (a : Nat) (e : va_E) : jH := fun q => if q = a then some e else h q
theorem hset_s (h : jH) (a : Nat) (e : va_E) : hset h a e a = some e := by simp [hset]
theorem hset_n {h : jH} {a b : Nat} {e : va_E} (hne : b ≠ a) : hset h a e b = h b := by simp [hset, hne]
/-- the surroundings: classes' ids and slots; array classes (int, boolean, long, part, part of the model); the first own cell; the static arrays' cells; the texts' cells -/
abbrev jG : Type := va_G × (Nat → ClassId) × Nat × (Nat → Nat) × (Nat → Nat)
def jT (G : jG) : List (ClassId × FieldType) := [(G.2.1 0, .int), (G.2.1 1, .boolean), (G.2.1 2, .long), (G.2.1 3, .object RX6), (G.2.1 4, .object RX10)]
def jB (G : jG) : Nat → Prop := fun q => G.2.2.1 ≤ q
def jR (G : jG) (h : jH) (H : Heap) : Prop := ∀ (a : Nat) (e : va_E), h a = some e → jB G a ∧ va_at G.1 vwCl (a, e) H
theorem jR.set {G : jG} {h : jH} {H H1 : Heap} {a : Nat} {e0 e : va_E} (hR : jR G h H) (h0 : h a = some e0) (he : va_at G.1 vwCl (a, e) H1) (oq : ∀ q : Nat, q ≠ a → H1[q]? = H[q]?) : jR G (hset h a e) H1 := by
  intro b e' hb
  by_cases hab : b = a
  · subst hab
    rw [hset_s] at hb
    cases hb
    exact ⟨(hR b e0 h0).1, he⟩
  · rw [hset_n hab] at hb
    exact ⟨(hR b e' hb).1, (hR b e' hb).2.kept (oq b hab)⟩
theorem jR.new {G : jG} {h : jH} {H H1 : Heap} {e : va_E} (hR : jR G h H) (hB : jB G H.size) (he : va_at G.1 vwCl (H.size, e) H1) (oq : ∀ q : Nat, q < H.size → H1[q]? = H[q]?) : jR G (hset h H.size e) H1 := by
  intro b e' hb
  by_cases hab : b = H.size
  · subst hab
    rw [hset_s] at hb
    cases hb
    exact ⟨hB, he⟩
  · rw [hset_n hab] at hb
    exact ⟨(hR b e' hb).1, (hR b e' hb).2.kept (oq b (hR b e' hb).2.lt)⟩
theorem jR.none {G : jG} {h : jH} {H : Heap} (hR : jR G h H) : h H.size = none := by
  cases he : h H.size with
  | none => rfl
  | some e => exact absurd (hR _ _ he).2.lt (Nat.lt_irrefl _)
/-- the static arrays: class, name, length, contents -/
def jIs (l : List Int32) : Nat → Int32 := fun k => l.getD k 0
def jSt : List (String × String × Nat × List Int32) := [
  (RX7, "HEIGHTS", 7, [0, 2, 4, 5, 7, 9, 11]), (RX7, "TURNS_AS_SHARP", 7, [1, 3, 5, 0, 2, 4, 6]), (RX8, "FALLING", 10, [96, 64, 48, 32, 24, 16, 12, 8, 6, 4]),
  (RX1, "SECOND_TONES", 4, [4, 3, 3, 4]), (RX1, "THIRD_TONES", 4, [7, 7, 6, 8]),
  (RX11, "VALUES", 10, [96, 64, 48, 32, 24, 16, 12, 8, 6, 4]), (RX11, "SHARPS", 7, [3, 0, 4, 1, 5, 2, 6]), (RX11, "STEPS", 7, [0, 2, 4, 5, 7, 9, 11])]
def jSa (G : jG) (k : Nat) : Nat := G.2.2.2.1 k
/-- the words that every method has at hand -/
def WT : List Cond := lw_tbl.filter goodWord
theorem WT_pay {args : Array Value} {s : State} (h : ∀ w ∈ WT, w.before args s = true) : ∀ w ∈ WT, ∀ (a' : Array Value) (U : State), s.WarmedH U.vm → w.before a' U = true :=
  fun w hw a' _ hW => word_at hW (good_of_word (List.mem_filter.mp hw).2) (h w hw)
/-- the texts that are thrown: the entry of ChoraleDesk's file, the text -/
def jTx : List (Nat × String) := [(355, "no such part"), (391, "no such bar"), (397, "no such pitch"), (404, "no such value"), (384, "it would end behind the end of the last bar"), (104, "the part has no event"), (361, "no such event"), (389, "the event is a rest"), (132, "no such metre"), (406, "no such key"), (150, "no such range"), (158, "no such shift"), (178, "no such step"), (368, "no such sign"), (375, "no such moment"), (378, "no such fault"), (408, "no such width")]
/-- words that are handed on by laws of their own -/
def jNg : List Cond := [
  (Cond.arrayOver (FieldType.object "ChoraleDesk$Part")),
  (Cond.castable "java/lang/IndexOutOfBoundsException" "java/lang/IndexOutOfBoundsException"),
  (Cond.declares ({ cls := "java/lang/RuntimeException", name := "<init>", desc := "()V" } : MethodName)),
  (Cond.declares ({ cls := "java/lang/RuntimeException", name := "<init>", desc := "(Ljava/lang/String;)V" } : MethodName)),
  (Cond.declares ({ cls := "java/lang/Exception", name := "<init>", desc := "()V" } : MethodName)),
  (Cond.declares ({ cls := "java/lang/Exception", name := "<init>", desc := "(Ljava/lang/String;)V" } : MethodName)),
  (Cond.declares ({ cls := "java/lang/Throwable", name := "<init>", desc := "()V" } : MethodName)),
  (Cond.declares ({ cls := "java/lang/Throwable", name := "<init>", desc := "(Ljava/lang/String;)V" } : MethodName)),
  (Cond.castable "java/lang/IllegalArgumentException" "java/lang/IllegalArgumentException"),
  (Cond.castable "java/lang/IllegalStateException" "java/lang/IllegalStateException"),
  (Cond.arrayOver (FieldType.object "ChoraleDeskModel$Part")),
  (Cond.methodLinkNest "ChoraleDeskModel" (80 : Nat) ({ cls := "ChoraleDeskModel$Part", name := "<init>", desc := "()V" } : MethodName) "ChoraleDeskModel"),
  (Cond.fieldLinkNest "ChoraleDeskModel" (99 : Nat) "ChoraleDeskModel$Part" "many" "I" "ChoraleDeskModel"),
  (Cond.fieldLinkNest "ChoraleDeskModel" (170 : Nat) "ChoraleDeskModel$Part" "begin" "[I" "ChoraleDeskModel"),
  (Cond.fieldLinkNest "ChoraleDeskModel" (132 : Nat) "ChoraleDeskModel$Part" "length" "[I" "ChoraleDeskModel"),
  (Cond.fieldLinkNest "ChoraleDeskModel" (143 : Nat) "ChoraleDeskModel$Part" "place" "[I" "ChoraleDeskModel"),
  (Cond.fieldLinkNest "ChoraleDeskModel" (146 : Nat) "ChoraleDeskModel$Part" "alter" "[I" "ChoraleDeskModel"),
  (Cond.fieldLinkNest "ChoraleDeskModel" (152 : Nat) "ChoraleDeskModel$Part" "lowest" "I" "ChoraleDeskModel"),
  (Cond.fieldLinkNest "ChoraleDeskModel" (155 : Nat) "ChoraleDeskModel$Part" "highest" "I" "ChoraleDeskModel"),
  (Cond.fieldLinkNest "ChoraleDeskModel" (161 : Nat) "ChoraleDeskModel$Part" "fifths" "I" "ChoraleDeskModel"),
  (Cond.fieldLinkNest "ChoraleDeskModel" (164 : Nat) "ChoraleDeskModel$Part" "octaves" "I" "ChoraleDeskModel"),
  (Cond.methodLinkNest "ChoraleDeskModel$Part" (48 : Nat) ({ cls := "ChoraleDeskModel", name := "base", desc := "(I)I" } : MethodName) "ChoraleDeskModel"),
  (Cond.methodLinkNest "ChoraleDeskModel$Part" (67 : Nat) ({ cls := "ChoraleDeskModel", name := "is", desc := "(III)Z" } : MethodName) "ChoraleDeskModel")]
theorem jNg_warm {s U : State} (hW : s.WarmedH U.vm) : ∀ w ∈ jNg, va_Nw w s → va_Nw w U := by
  refine List.forall_mem_cons.mpr ⟨fun h => va_AO.moved hW.alike h, List.forall_mem_cons.mpr ⟨fun h => va_Nw.warmC hW h, List.forall_mem_cons.mpr ⟨fun h => va_Nw.warmD hW h, List.forall_mem_cons.mpr ⟨fun h => va_Nw.warmD hW h, List.forall_mem_cons.mpr ⟨fun h => va_Nw.warmD hW h, List.forall_mem_cons.mpr ⟨fun h => va_Nw.warmD hW h, List.forall_mem_cons.mpr ⟨fun h => va_Nw.warmD hW h, List.forall_mem_cons.mpr ⟨fun h => va_Nw.warmD hW h, List.forall_mem_cons.mpr ⟨fun h => va_Nw.warmC hW h, List.forall_mem_cons.mpr ⟨fun h => va_Nw.warmC hW h, List.forall_mem_cons.mpr ⟨fun h => va_AO.moved hW.alike h, List.forall_mem_cons.mpr ⟨fun h => va_Nw.warmM hW h, List.forall_mem_cons.mpr ⟨fun h => va_Nw.warmF hW h, List.forall_mem_cons.mpr ⟨fun h => va_Nw.warmF hW h, List.forall_mem_cons.mpr ⟨fun h => va_Nw.warmF hW h, List.forall_mem_cons.mpr ⟨fun h => va_Nw.warmF hW h, List.forall_mem_cons.mpr ⟨fun h => va_Nw.warmF hW h, List.forall_mem_cons.mpr ⟨fun h => va_Nw.warmF hW h, List.forall_mem_cons.mpr ⟨fun h => va_Nw.warmF hW h, List.forall_mem_cons.mpr ⟨fun h => va_Nw.warmF hW h, List.forall_mem_cons.mpr ⟨fun h => va_Nw.warmF hW h, List.forall_mem_cons.mpr ⟨fun h => va_Nw.warmM hW h, List.forall_mem_cons.mpr ⟨fun h => va_Nw.warmM hW h, fun _ h => absurd h List.not_mem_nil⟩⟩⟩⟩⟩⟩⟩⟩⟩⟩⟩⟩⟩⟩⟩⟩⟩⟩⟩⟩⟩⟩⟩
def jNc : List (String × String) := [("java/lang/IndexOutOfBoundsException", "java/lang/IllegalArgumentException"), ("java/lang/IndexOutOfBoundsException", "java/lang/IllegalStateException"), ("java/lang/IllegalArgumentException", "java/lang/IndexOutOfBoundsException"), ("java/lang/IllegalArgumentException", "java/lang/IllegalStateException"), ("java/lang/IllegalStateException", "java/lang/IndexOutOfBoundsException"), ("java/lang/IllegalStateException", "java/lang/IllegalArgumentException")]
/-- what is known of the surroundings at a state -/
def jK (G : jG) (U : State) (H : Heap) : Prop :=
  va_K G.1 vwCl (jT G) U ∧
  (∀ (k : Nat) (q : String × String × Nat × List Int32), jSt[k]? = some q → va_Z q.1 q.2.1 "[I" (.ref (jSa G k)) (jB G) U H ∧ va_T .int (jSa G k) q.2.2.1 (fun j => .int (jIs q.2.2.2 j)) (jB G) U H) ∧
  (∀ (k : Nat) (q : Nat × String), jTx[k]? = some q → vk_R RX9 q.1 q.2 (G.2.2.2.2 k) U) ∧
  (vx_Zq Bundle.tN "UNASSIGNED_STACK" Bundle.steD (jB G) U H ∧ vx_Zq Bundle.tN "SUPPRESSED_SENTINEL" Bundle.listD (jB G) U H) ∧
  G.2.2.1 ≤ H.size ∧ (∀ w ∈ jNg, va_Nw w U) ∧ (∀ q ∈ jNc, va_Nc q.1 q.2 U)
theorem jK.moved {G : jG} {s U : State} {H H1 : Heap} (h : jK G s H) (hW : s.WarmedH U.vm) (hz : H.size ≤ H1.size) (hq : ∀ a : Nat, a < H.size → ¬ jB G a → H1[a]? = H[a]?) : jK G U H1 := by
  obtain ⟨h1, h2, h3, ⟨h4, h5⟩, h6, h7, h8⟩ := h
  exact ⟨va_K.moved hW.alike h1, fun k q hk => ⟨va_Z.moved hW.alike ((h2 k q hk).1.kept hq), va_T.moved hW.alike ((h2 k q hk).2.kept hq)⟩, fun k q hk => vk_R.warm hW (h3 k q hk),
    ⟨vx_Zq.moved hW.alike (h4.kept hq), vx_Zq.moved hW.alike (h5.kept hq)⟩, Nat.le_trans h6 hz, fun w hw => jNg_warm hW w hw (h7 w hw), fun q hq => va_Nc.moved hW.alike (h8 q hq)⟩
/-- a method: its class, code, locals, return type, table, name, room -/
abbrev jM : Type := String × ByteArray × Nat × Option FieldType × List (Nat × Nat × Nat × Nat) × String × Room
abbrev jM.own (M : jM) : String := M.1
abbrev jM.cc (M : jM) : ByteArray := M.2.1
abbrev jM.nL (M : jM) : Nat := M.2.2.1
abbrev jM.ret (M : jM) : Option FieldType := M.2.2.2.1
abbrev jM.hh (M : jM) : List (Nat × Nat × Nat × Nat) := M.2.2.2.2.1
abbrev jM.nm (M : jM) : String := M.2.2.2.2.2.1
abbrev jM.room (M : jM) : Room := M.2.2.2.2.2.2
def jStd (G : jG) (M : jM) (p : Program) (s : State) (m : MethodId) (args : Array Value) (meth : Method) (c : Code) : Prop :=
  p.tables.exec = Jvm.exec ∧ c.code = M.cc ∧ c.maxLocals = M.nL ∧ meth.sig.returnType = M.ret ∧ c.exceptionTable.toList = tableOf M.hh ∧ meth.name = M.nm ∧ meth.locks = false ∧
  s.vm.findClass M.own = some m.cls ∧ (∀ w ∈ WT, w.before args s = true) ∧ jK G s s.heap
abbrev jF : Type := List Frame → Array Value → State → State → Prop
/-- from here on (pc, locals L, stack st, heap's picture h; at most ck cells of sk slots may still come) the frame comes to its end QF -/
def J (l : Launch) (G : jG) (M : jM) (QF : jF) (ck sk pc : Nat) (L : List (Nat × Value)) (st : List Value) (h : jH) : Prop :=
  ∀ (p : Program) (e : Env) (s : State) (m : MethodId) (args : Array Value) (below : List Frame) (meth : Method) (c : Code) (H : Heap) (locs : List Loc) (cells slots : Nat) (ls : Array Slot),
    jStd G M p s m args meth c → jR G h H → va_S (jB G) s.heap H locs → lv_has ls M.nL L → cells + ck ≤ M.room.cells → slots + sk ≤ M.room.slots →
    W p l e M.room s m args below meth c H locs cells slots (QF below args s) (F0 m pc ls st)
/-- how a call ended: the value, or the class of what was thrown -/
abbrev jO : Type := Option Value ⊕ String
def jQc (G : jG) (Post : jO → jH → Prop) : Array Value → State → Outcome → State → Prop := fun _ st o t => ∃ (v : Option Value) (h' : jH), o = .returned v ∧ Post (.inl v) h' ∧ jR G h' t.heap ∧ va_F (jB G) st t
def jXC (G : jG) (Post : jO → jH → Prop) : String → State → State → Prop := fun E st t => ∃ h' : jH, Post (.inr E) h' ∧ jR G h' t.heap ∧ va_F (jB G) st t
def jPc (G : jG) (av : List Value) (h : jH) : Array Value → State → Prop := fun v U => v = av.toArray ∧ jR G h U.heap ∧ jK G U U.heap
def jQ (G : jG) (M : jM) (Post : jO → jH → Prop) : jF := fun below args s => vx_MQ below (jQc G Post) (jXC G Post) args s M.room.cells M.room.slots (jB G)
def jws (y : MethodName) (M : jM) : List Cond := (match M.hh with
  | [] => Cond.code y M.cc M.nL M.ret
  | hh => Cond.codeWith y M.cc M.nL M.ret hh) :: WT
/-- **THE CONTRACT**: method y (M), called with av over h, ends so that Post holds -/
def jC (l : Launch) (G : jG) (y : MethodName) (M : jM) (av : List Value) (h : jH) (Post : jO → jH → Prop) : Prop :=
  vx_Met l y (jws y M) M.room (jPc G av h) (jQc G Post) (jXC G Post) M.room.cells M.room.slots (jB G)
theorem jPc.blind {G : jG} {av : List Value} {h : jH} : FrameBlind (jPc G av h) := fun _ U _ _ q =>
  ⟨q.1, q.2.1, jK.moved q.2.2 (State.WarmedH.refl U) (Nat.le_refl _) (fun _ _ _ => rfl)⟩
theorem table_nil : tableOf [] = [] := rfl
theorem jstd_of {l : Launch} {G : jG} {y : MethodName} {M : jM} {p : Program} {e : Env} {s s₁ : State} {m : MethodId} {args : Array Value} {below : List Frame} {meth : Method} {c : Code} (B : BodyLoose p l y (headSpec (jws y M) M.room) M.cc M.nL M.ret e s m args below meth c s₁) (hml : c.maxLocals = M.nL) (ht : c.exceptionTable.toList = tableOf M.hh) (hy : y.cls = M.own) (hn : y.name = M.nm) (hk : jK G s s.heap) : jStd G M p s m args meth c := by
  have hts := atoms_spec (ws := jws y M) B.pre
  refine ⟨B.exec, B.bytes, hml, B.returns, ht, ?_, B.notSynchronized, ?_, fun w hw => hts w (List.mem_cons_of_mem _ hw), hk⟩
  · rw [← hn]; exact (name_of_methodNamed B.named B.method).1
  · rw [← hy]; exact findClass_of_methodNamed B.named
/-- a body gives its contract -/
theorem j_body {l : Launch} {G : jG} {y : MethodName} {M : jM} {av : List Value} {h : jH} {Post : jO → jH → Prop} (hy : plainName y.cls = true) (ho : y.cls = M.own ∧ y.name = M.nm) (hl : Nat.ble (lg_sl av).length M.nL = true)
    (k : J l G M (jQ G M Post) M.room.cells M.room.slots 0 (lv_args 0 av) [] h) : jC l G y M av h Post := by
  obtain ⟨own, cc, nL, ret, hh, nm, room⟩ := M
  cases hh with
  | nil =>
    refine vx_ofW (cc := cc) (maxL := nL) (ret := ret) hy rfl ?_
    intro p e s m args below meth c s₁ B hml ht hv
    obtain ⟨rfl, hR, hK⟩ := hv
    have ht2 : c.exceptionTable.toList = tableOf [] := by
      rw [table_nil]
      exact List.eq_nil_iff_forall_not_mem.mpr (fun x hx => ht x hx)
    rw [lg_entry_eq]
    exact k p e s m _ below meth c s.heap [] 0 0 _ (jstd_of (M := (own, cc, nL, ret, [], nm, room)) B hml ht2 ho.1 ho.2 hK) hR va_S.rf (lv_entry av (Nat.le_of_ble_eq_true hl)) (by simp) (by simp)
  | cons a hh =>
    refine vx_ofWH (cc := cc) (maxL := nL) (ret := ret) (hh := a :: hh) hy rfl ?_
    intro p e s m args below meth c s₁ B hml hv
    obtain ⟨rfl, hR, hK⟩ := hv
    have hts := atoms_spec (ws := jws y (own, cc, nL, ret, a :: hh, nm, room)) B.pre
    have ht2 : c.exceptionTable.toList = tableOf (a :: hh) := vx_table (x := y) B (hts _ List.mem_cons_self)
    rw [lg_entry_eq]
    exact k p e s m _ below meth c s.heap [] 0 0 _ (jstd_of (M := (own, cc, nL, ret, a :: hh, nm, room)) B hml ht2 ho.1 ho.2 hK) hR va_S.rf (lv_entry av (Nat.le_of_ble_eq_true hl)) (by simp) (by simp)
theorem jC.imp {l : Launch} {G : jG} {y : MethodName} {M : jM} {av : List Value} {h : jH} {Post Post' : jO → jH → Prop} (k : jC l G y M av h Post) (hp : ∀ r h', Post r h' → Post' r h') : jC l G y M av h Post' := by
  refine MetFree.mono k (fun _ _ h => h) (fun _ _ _ _ _ h => h) ?_
  intro a s o t _ hq
  rcases hq with ⟨⟨v, h', e1, e2, e3⟩, e4⟩ | ⟨q, e1, E, ce, L, ⟨h', e2, e3⟩, e4⟩
  · exact Or.inl ⟨⟨v, h', e1, hp _ _ e2, e3⟩, e4⟩
  · exact Or.inr ⟨q, e1, E, ce, L, ⟨h', hp _ _ e2, e3⟩, e4⟩
/-- what returns only is a contract of the kit's plain kind -/
theorem jC.met {l : Launch} {G : jG} {y : MethodName} {M : jM} {av : List Value} {h : jH} {Post : jO → jH → Prop} (k : jC l G y M av h Post) (hp : ∀ E h', ¬ Post (.inr E) h') : Met l y (jws y M) M.room (jPc G av h) (jQc G Post) M.room.cells M.room.slots (jB G) := by
  refine MetFree.mono k (fun _ _ h => h) (fun _ _ _ _ _ h => h) ?_
  intro a s o t _ hq
  rcases hq with ⟨e3, e4⟩ | ⟨q, e1, E, ce, L, ⟨h', e2, e3⟩, e4⟩
  · exact ⟨e3, e4⟩
  · exact absurd e2 (hp _ _)
end
section
section JR
variable {l : Launch} {G : jG} {M : jM} {QF : jF} {ck sk pc : Nat} {L L' : List (Nat × Value)} {st : List Value} {h : jH}
theorem j_iadd {x y : Int32} (hd : decode M.cc pc = .ok (.iadd, 1)) (k : J l G M QF ck sk (pc + 1) L (.int (x + y) :: st) h) : J l G M QF ck sk pc L (.int y :: .int x :: st) h := by
  intro p e s m args below meth c H locs cells slots ls S hR hS hl hc hs
  exact lv_iadd S.1 S.2.1 hd (k p e s m args below meth c H locs cells slots ls S hR hS hl hc hs)
theorem j_isub {x y : Int32} (hd : decode M.cc pc = .ok (.isub, 1)) (k : J l G M QF ck sk (pc + 1) L (.int (x - y) :: st) h) : J l G M QF ck sk pc L (.int y :: .int x :: st) h := by
  intro p e s m args below meth c H locs cells slots ls S hR hS hl hc hs
  exact lv_isub S.1 S.2.1 hd (k p e s m args below meth c H locs cells slots ls S hR hS hl hc hs)
theorem j_imul {x y : Int32} (hd : decode M.cc pc = .ok (.imul, 1)) (k : J l G M QF ck sk (pc + 1) L (.int (x * y) :: st) h) : J l G M QF ck sk pc L (.int y :: .int x :: st) h := by
  intro p e s m args below meth c H locs cells slots ls S hR hS hl hc hs
  exact lv_imul S.1 S.2.1 hd (k p e s m args below meth c H locs cells slots ls S hR hS hl hc hs)
theorem j_iand {x y : Int32} (hd : decode M.cc pc = .ok (.iand, 1)) (k : J l G M QF ck sk (pc + 1) L (.int (x &&& y) :: st) h) : J l G M QF ck sk pc L (.int y :: .int x :: st) h := by
  intro p e s m args below meth c H locs cells slots ls S hR hS hl hc hs
  exact lv_iand S.1 S.2.1 hd (k p e s m args below meth c H locs cells slots ls S hR hS hl hc hs)
theorem j_ior {x y : Int32} (hd : decode M.cc pc = .ok (.ior, 1)) (k : J l G M QF ck sk (pc + 1) L (.int (x ||| y) :: st) h) : J l G M QF ck sk pc L (.int y :: .int x :: st) h := by
  intro p e s m args below meth c H locs cells slots ls S hR hS hl hc hs
  exact lv_ior S.1 S.2.1 hd (k p e s m args below meth c H locs cells slots ls S hR hS hl hc hs)
theorem j_ishl {x y : Int32} (hd : decode M.cc pc = .ok (.ishl, 1)) (k : J l G M QF ck sk (pc + 1) L (.int (x <<< (y &&& 31)) :: st) h) : J l G M QF ck sk pc L (.int y :: .int x :: st) h := by
  intro p e s m args below meth c H locs cells slots ls S hR hS hl hc hs
  exact lv_ishl S.1 S.2.1 hd (k p e s m args below meth c H locs cells slots ls S hR hS hl hc hs)
theorem j_ishr {x y : Int32} (hd : decode M.cc pc = .ok (.ishr, 1)) (k : J l G M QF ck sk (pc + 1) L (.int (x >>> (y &&& 31)) :: st) h) : J l G M QF ck sk pc L (.int y :: .int x :: st) h := by
  intro p e s m args below meth c H locs cells slots ls S hR hS hl hc hs
  exact lv_ishr S.1 S.2.1 hd (k p e s m args below meth c H locs cells slots ls S hR hS hl hc hs)
theorem j_iushr {x y : Int32} (hd : decode M.cc pc = .ok (.iushr, 1)) (k : J l G M QF ck sk (pc + 1) L (.int (x.toUInt32 >>> (y.toUInt32 &&& Int32.toUInt32 31)).toInt32 :: st) h) : J l G M QF ck sk pc L (.int y :: .int x :: st) h := by
  intro p e s m args below meth c H locs cells slots ls S hR hS hl hc hs
  exact lv_iushr S.1 S.2.1 hd rfl (k p e s m args below meth c H locs cells slots ls S hR hS hl hc hs)
theorem j_idiv {x y : Int32} (hd : decode M.cc pc = .ok (.idiv, 1)) (hne : ¬ y = 0) (k : J l G M QF ck sk (pc + 1) L (.int (x / y) :: st) h) : J l G M QF ck sk pc L (.int y :: .int x :: st) h := by
  intro p e s m args below meth c H locs cells slots ls S hR hS hl hc hs
  exact lv_idiv S.1 S.2.1 hd hne (k p e s m args below meth c H locs cells slots ls S hR hS hl hc hs)
theorem j_irem {x y : Int32} (hd : decode M.cc pc = .ok (.irem, 1)) (hne : ¬ y = 0) (k : J l G M QF ck sk (pc + 1) L (.int (x - x / y * y) :: st) h) : J l G M QF ck sk pc L (.int y :: .int x :: st) h := by
  intro p e s m args below meth c H locs cells slots ls S hR hS hl hc hs
  exact lv_irem S.1 S.2.1 hd hne (k p e s m args below meth c H locs cells slots ls S hR hS hl hc hs)
theorem j_ineg {x : Int32} (hd : decode M.cc pc = .ok (.ineg, 1)) (k : J l G M QF ck sk (pc + 1) L (.int (-x) :: st) h) : J l G M QF ck sk pc L (.int x :: st) h := by
  intro p e s m args below meth c H locs cells slots ls S hR hS hl hc hs
  exact lv_ineg S.1 S.2.1 hd (k p e s m args below meth c H locs cells slots ls S hR hS hl hc hs)
theorem j_ladd {x y : Int64} (hd : decode M.cc pc = .ok (.ladd, 1)) (k : J l G M QF ck sk (pc + 1) L (.long (x + y) :: st) h) : J l G M QF ck sk pc L (.long y :: .long x :: st) h := by
  intro p e s m args below meth c H locs cells slots ls S hR hS hl hc hs
  exact lv_ladd S.1 S.2.1 hd (k p e s m args below meth c H locs cells slots ls S hR hS hl hc hs)
theorem j_lmul {x y : Int64} (hd : decode M.cc pc = .ok (.lmul, 1)) (k : J l G M QF ck sk (pc + 1) L (.long (x * y) :: st) h) : J l G M QF ck sk pc L (.long y :: .long x :: st) h := by
  intro p e s m args below meth c H locs cells slots ls S hR hS hl hc hs
  exact lv_lmul S.1 S.2.1 hd (k p e s m args below meth c H locs cells slots ls S hR hS hl hc hs)
theorem j_i2l {x : Int32} (hd : decode M.cc pc = .ok (.i2l, 1)) (k : J l G M QF ck sk (pc + 1) L (.long x.toInt64 :: st) h) : J l G M QF ck sk pc L (.int x :: st) h := by
  intro p e s m args below meth c H locs cells slots ls S hR hS hl hc hs
  exact lv_i2l S.1 S.2.1 hd rfl (k p e s m args below meth c H locs cells slots ls S hR hS hl hc hs)
theorem j_i2d {x : Int32} (hd : decode M.cc pc = .ok (.i2d, 1)) (k : J l G M QF ck sk (pc + 1) L (.double (FP.i2d x) :: st) h) : J l G M QF ck sk pc L (.int x :: st) h := by
  intro p e s m args below meth c H locs cells slots ls S hR hS hl hc hs
  exact lv_i2d S.1 S.2.1 hd (k p e s m args below meth c H locs cells slots ls S hR hS hl hc hs)
theorem j_lcmp {x y : Int64} (hd : decode M.cc pc = .ok (.lcmp, 1)) (k : J l G M QF ck sk (pc + 1) L (.int (lg_cmp x y) :: st) h) : J l G M QF ck sk pc L (.long y :: .long x :: st) h := by
  intro p e s m args below meth c H locs cells slots ls S hR hS hl hc hs
  exact W.lcmp S.1 S.2.1 hd (k p e s m args below meth c H locs cells slots ls S hR hS hl hc hs)
theorem j_dcmp {x y : UInt64} {op : CmpOp} (hd : decode M.cc pc = .ok (.dcmp op, 1)) (k : J l G M QF ck sk (pc + 1) L (.int (Op.cmpValue (FP.dcmp x y) op) :: st) h) : J l G M QF ck sk pc L (.double y :: .double x :: st) h := by
  intro p e s m args below meth c H locs cells slots ls S hR hS hl hc hs
  exact lv_dcmp S.1 S.2.1 hd (k p e s m args below meth c H locs cells slots ls S hR hS hl hc hs)
theorem j_ddiv {x y : UInt64} (hd : decode M.cc pc = .ok (.ddiv, 1)) (hne : vf_n64 (FP.ddiv x y)) (k : J l G M QF ck sk (pc + 1) L (.double (FP.ddiv x y) :: st) h) : J l G M QF ck sk pc L (.double y :: .double x :: st) h := by
  intro p e s m args below meth c H locs cells slots ls S hR hS hl hc hs
  exact lv_ddiv S.1 S.2.1 hd hne (k p e s m args below meth c H locs cells slots ls S hR hS hl hc hs)
theorem j_iconst {n : Int} (v : Int32) (hd : decode M.cc pc = .ok (.iconst n, 1)) (hv : Int32.ofInt n = v) (k : J l G M QF ck sk (pc + 1) L (.int v :: st) h) : J l G M QF ck sk pc L (st) h := by
  intro p e s m args below meth c H locs cells slots ls S hR hS hl hc hs
  exact lv_iconst S.1 S.2.1 hd hv (k p e s m args below meth c H locs cells slots ls S hR hS hl hc hs)
theorem j_bipush {n : Int} (v : Int32) (hd : decode M.cc pc = .ok (.bipush n, 2)) (hv : (Int8.ofInt n).toInt32 = v) (k : J l G M QF ck sk (pc + 2) L (.int v :: st) h) : J l G M QF ck sk pc L (st) h := by
  intro p e s m args below meth c H locs cells slots ls S hR hS hl hc hs
  exact lv_bipush S.1 S.2.1 hd hv (k p e s m args below meth c H locs cells slots ls S hR hS hl hc hs)
theorem j_sipush {n : Int} (v : Int32) (hd : decode M.cc pc = .ok (.sipush n, 3)) (hv : (Int16.ofInt n).toInt32 = v) (k : J l G M QF ck sk (pc + 3) L (.int v :: st) h) : J l G M QF ck sk pc L (st) h := by
  intro p e s m args below meth c H locs cells slots ls S hR hS hl hc hs
  exact lv_sipush S.1 S.2.1 hd hv (k p e s m args below meth c H locs cells slots ls S hR hS hl hc hs)
theorem j_lconst {n : Fin 2} (v : Int64) (hd : decode M.cc pc = .ok (.lconst n, 1)) (hv : Int64.ofNat (n : Nat) = v) (k : J l G M QF ck sk (pc + 1) L (.long v :: st) h) : J l G M QF ck sk pc L (st) h := by
  intro p e s m args below meth c H locs cells slots ls S hR hS hl hc hs
  exact lv_lconst S.1 S.2.1 hd hv (k p e s m args below meth c H locs cells slots ls S hR hS hl hc hs)
theorem j_dconst0  (hd : decode M.cc pc = .ok (.dconst 0, 1)) (k : J l G M QF ck sk (pc + 1) L (.double FP.dconst0 :: st) h) : J l G M QF ck sk pc L (st) h := by
  intro p e s m args below meth c H locs cells slots ls S hR hS hl hc hs
  exact lv_dconst0 S.1 S.2.1 hd (k p e s m args below meth c H locs cells slots ls S hR hS hl hc hs)
theorem j_dup {v : Value} (hd : decode M.cc pc = .ok (.dup, 1)) (hv : v.category = 1) (k : J l G M QF ck sk (pc + 1) L (v :: v :: st) h) : J l G M QF ck sk pc L (v :: st) h := by
  intro p e s m args below meth c H locs cells slots ls S hR hS hl hc hs
  exact lv_dup S.1 S.2.1 hd hv (k p e s m args below meth c H locs cells slots ls S hR hS hl hc hs)
theorem j_pop {v : Value} (hd : decode M.cc pc = .ok (.pop, 1)) (hv : v.category = 1) (k : J l G M QF ck sk (pc + 1) L (st) h) : J l G M QF ck sk pc L (v :: st) h := by
  intro p e s m args below meth c H locs cells slots ls S hR hS hl hc hs
  exact lv_pop S.1 S.2.1 hd hv (k p e s m args below meth c H locs cells slots ls S hR hS hl hc hs)
theorem j_dup_x1 {v w : Value} (hd : decode M.cc pc = .ok (.dup_x1, 1)) (hv : v.category = 1) (hw : w.category = 1) (k : J l G M QF ck sk (pc + 1) L (v :: w :: v :: st) h) : J l G M QF ck sk pc L (v :: w :: st) h := by
  intro p e s m args below meth c H locs cells slots ls S hR hS hl hc hs
  exact lv_dup_x1 S.1 S.2.1 hd hv hw (k p e s m args below meth c H locs cells slots ls S hR hS hl hc hs)
theorem j_dup2 {v w : Value} (hd : decode M.cc pc = .ok (.dup2, 1)) (hv : v.category = 1) (hw : w.category = 1) (k : J l G M QF ck sk (pc + 1) L (v :: w :: v :: w :: st) h) : J l G M QF ck sk pc L (v :: w :: st) h := by
  intro p e s m args below meth c H locs cells slots ls S hR hS hl hc hs
  exact lv_dup2_11 S.1 S.2.1 hd hv hw (k p e s m args below meth c H locs cells slots ls S hR hS hl hc hs)
theorem j_ldc {n : Nat} (v : Int32) (hd : decode M.cc pc = .ok (.ldc n, 2)) (hw : Cond.constant M.own n v ∈ WT) (k : J l G M QF ck sk (pc + 2) L (.int v :: st) h) : J l G M QF ck sk pc L (st) h := by
  intro p e s m args below meth c H locs cells slots ls S hR hS hl hc hs
  exact lv_ldc S.1 S.2.1 S.2.2.2.2.2.2.2.1 (S.2.2.2.2.2.2.2.2.1 _ hw) hd (k p e s m args below meth c H locs cells slots ls S hR hS hl hc hs)
theorem j_ldcw {n : Nat} (v : Int32) (hd : decode M.cc pc = .ok (.ldc_w n, 3)) (hw : Cond.constant M.own n v ∈ WT) (k : J l G M QF ck sk (pc + 3) L (.int v :: st) h) : J l G M QF ck sk pc L (st) h := by
  intro p e s m args below meth c H locs cells slots ls S hR hS hl hc hs
  exact lv_ldcw S.1 S.2.1 S.2.2.2.2.2.2.2.1 (S.2.2.2.2.2.2.2.2.1 _ hw) hd (k p e s m args below meth c H locs cells slots ls S hR hS hl hc hs)
theorem j_ldc2 {n : Nat} (v : Int64) (hd : decode M.cc pc = .ok (.ldc2_w n, 3)) (hw : Cond.constantLong M.own n v ∈ WT) (k : J l G M QF ck sk (pc + 3) L (.long v :: st) h) : J l G M QF ck sk pc L (st) h := by
  intro p e s m args below meth c H locs cells slots ls S hR hS hl hc hs
  exact lv_ldc2 S.1 S.2.1 S.2.2.2.2.2.2.2.1 (S.2.2.2.2.2.2.2.2.1 _ hw) hd (k p e s m args below meth c H locs cells slots ls S hR hS hl hc hs)
theorem j_if_eq {x : Int32} {off : Int} (tgt : Nat) (hd : decode M.cc pc = .ok (.ifCond .eq off, 3)) (ht : (pc : Int) + off = (tgt : Int)) (kt : x = 0 → J l G M QF ck sk tgt L st h) (kf : ¬ x = 0 → J l G M QF ck sk (pc + 3) L st h) : J l G M QF ck sk pc L (.int x :: st) h := by
  intro p e s m args below meth c H locs cells slots ls S hR hS hl hc hs
  exact lv_if_eq S.1 S.2.1 hd ht (fun q => kt q p e s m args below meth c H locs cells slots ls S hR hS hl hc hs) (fun q => kf q p e s m args below meth c H locs cells slots ls S hR hS hl hc hs)
theorem j_icmp_eq {x y : Int32} {off : Int} (tgt : Nat) (hd : decode M.cc pc = .ok (.if_icmp .eq off, 3)) (ht : (pc : Int) + off = (tgt : Int)) (kt : x = y → J l G M QF ck sk tgt L st h) (kf : ¬ x = y → J l G M QF ck sk (pc + 3) L st h) : J l G M QF ck sk pc L (.int y :: .int x :: st) h := by
  intro p e s m args below meth c H locs cells slots ls S hR hS hl hc hs
  exact lv_icmp_eq S.1 S.2.1 hd ht (fun q => kt q p e s m args below meth c H locs cells slots ls S hR hS hl hc hs) (fun q => kf q p e s m args below meth c H locs cells slots ls S hR hS hl hc hs)
theorem j_if_ne {x : Int32} {off : Int} (tgt : Nat) (hd : decode M.cc pc = .ok (.ifCond .ne off, 3)) (ht : (pc : Int) + off = (tgt : Int)) (kt : ¬ x = 0 → J l G M QF ck sk tgt L st h) (kf : x = 0 → J l G M QF ck sk (pc + 3) L st h) : J l G M QF ck sk pc L (.int x :: st) h := by
  intro p e s m args below meth c H locs cells slots ls S hR hS hl hc hs
  exact lv_if_ne S.1 S.2.1 hd ht (fun q => kt q p e s m args below meth c H locs cells slots ls S hR hS hl hc hs) (fun q => kf q p e s m args below meth c H locs cells slots ls S hR hS hl hc hs)
theorem j_icmp_ne {x y : Int32} {off : Int} (tgt : Nat) (hd : decode M.cc pc = .ok (.if_icmp .ne off, 3)) (ht : (pc : Int) + off = (tgt : Int)) (kt : ¬ x = y → J l G M QF ck sk tgt L st h) (kf : x = y → J l G M QF ck sk (pc + 3) L st h) : J l G M QF ck sk pc L (.int y :: .int x :: st) h := by
  intro p e s m args below meth c H locs cells slots ls S hR hS hl hc hs
  exact lv_icmp_ne S.1 S.2.1 hd ht (fun q => kt q p e s m args below meth c H locs cells slots ls S hR hS hl hc hs) (fun q => kf q p e s m args below meth c H locs cells slots ls S hR hS hl hc hs)
theorem j_if_lt {x : Int32} {off : Int} (tgt : Nat) (hd : decode M.cc pc = .ok (.ifCond .lt off, 3)) (ht : (pc : Int) + off = (tgt : Int)) (kt : x < 0 → J l G M QF ck sk tgt L st h) (kf : ¬ x < 0 → J l G M QF ck sk (pc + 3) L st h) : J l G M QF ck sk pc L (.int x :: st) h := by
  intro p e s m args below meth c H locs cells slots ls S hR hS hl hc hs
  exact lv_if_lt S.1 S.2.1 hd ht (fun q => kt q p e s m args below meth c H locs cells slots ls S hR hS hl hc hs) (fun q => kf q p e s m args below meth c H locs cells slots ls S hR hS hl hc hs)
theorem j_icmp_lt {x y : Int32} {off : Int} (tgt : Nat) (hd : decode M.cc pc = .ok (.if_icmp .lt off, 3)) (ht : (pc : Int) + off = (tgt : Int)) (kt : x < y → J l G M QF ck sk tgt L st h) (kf : ¬ x < y → J l G M QF ck sk (pc + 3) L st h) : J l G M QF ck sk pc L (.int y :: .int x :: st) h := by
  intro p e s m args below meth c H locs cells slots ls S hR hS hl hc hs
  exact lv_icmp_lt S.1 S.2.1 hd ht (fun q => kt q p e s m args below meth c H locs cells slots ls S hR hS hl hc hs) (fun q => kf q p e s m args below meth c H locs cells slots ls S hR hS hl hc hs)
theorem j_if_ge {x : Int32} {off : Int} (tgt : Nat) (hd : decode M.cc pc = .ok (.ifCond .ge off, 3)) (ht : (pc : Int) + off = (tgt : Int)) (kt : 0 ≤ x → J l G M QF ck sk tgt L st h) (kf : ¬ 0 ≤ x → J l G M QF ck sk (pc + 3) L st h) : J l G M QF ck sk pc L (.int x :: st) h := by
  intro p e s m args below meth c H locs cells slots ls S hR hS hl hc hs
  exact lv_if_ge S.1 S.2.1 hd ht (fun q => kt q p e s m args below meth c H locs cells slots ls S hR hS hl hc hs) (fun q => kf q p e s m args below meth c H locs cells slots ls S hR hS hl hc hs)
theorem j_icmp_ge {x y : Int32} {off : Int} (tgt : Nat) (hd : decode M.cc pc = .ok (.if_icmp .ge off, 3)) (ht : (pc : Int) + off = (tgt : Int)) (kt : y ≤ x → J l G M QF ck sk tgt L st h) (kf : ¬ y ≤ x → J l G M QF ck sk (pc + 3) L st h) : J l G M QF ck sk pc L (.int y :: .int x :: st) h := by
  intro p e s m args below meth c H locs cells slots ls S hR hS hl hc hs
  exact lv_icmp_ge S.1 S.2.1 hd ht (fun q => kt q p e s m args below meth c H locs cells slots ls S hR hS hl hc hs) (fun q => kf q p e s m args below meth c H locs cells slots ls S hR hS hl hc hs)
theorem j_if_gt {x : Int32} {off : Int} (tgt : Nat) (hd : decode M.cc pc = .ok (.ifCond .gt off, 3)) (ht : (pc : Int) + off = (tgt : Int)) (kt : 0 < x → J l G M QF ck sk tgt L st h) (kf : ¬ 0 < x → J l G M QF ck sk (pc + 3) L st h) : J l G M QF ck sk pc L (.int x :: st) h := by
  intro p e s m args below meth c H locs cells slots ls S hR hS hl hc hs
  exact lv_if_gt S.1 S.2.1 hd ht (fun q => kt q p e s m args below meth c H locs cells slots ls S hR hS hl hc hs) (fun q => kf q p e s m args below meth c H locs cells slots ls S hR hS hl hc hs)
theorem j_icmp_gt {x y : Int32} {off : Int} (tgt : Nat) (hd : decode M.cc pc = .ok (.if_icmp .gt off, 3)) (ht : (pc : Int) + off = (tgt : Int)) (kt : y < x → J l G M QF ck sk tgt L st h) (kf : ¬ y < x → J l G M QF ck sk (pc + 3) L st h) : J l G M QF ck sk pc L (.int y :: .int x :: st) h := by
  intro p e s m args below meth c H locs cells slots ls S hR hS hl hc hs
  exact lv_icmp_gt S.1 S.2.1 hd ht (fun q => kt q p e s m args below meth c H locs cells slots ls S hR hS hl hc hs) (fun q => kf q p e s m args below meth c H locs cells slots ls S hR hS hl hc hs)
theorem j_if_le {x : Int32} {off : Int} (tgt : Nat) (hd : decode M.cc pc = .ok (.ifCond .le off, 3)) (ht : (pc : Int) + off = (tgt : Int)) (kt : x ≤ 0 → J l G M QF ck sk tgt L st h) (kf : ¬ x ≤ 0 → J l G M QF ck sk (pc + 3) L st h) : J l G M QF ck sk pc L (.int x :: st) h := by
  intro p e s m args below meth c H locs cells slots ls S hR hS hl hc hs
  exact lv_if_le S.1 S.2.1 hd ht (fun q => kt q p e s m args below meth c H locs cells slots ls S hR hS hl hc hs) (fun q => kf q p e s m args below meth c H locs cells slots ls S hR hS hl hc hs)
theorem j_icmp_le {x y : Int32} {off : Int} (tgt : Nat) (hd : decode M.cc pc = .ok (.if_icmp .le off, 3)) (ht : (pc : Int) + off = (tgt : Int)) (kt : x ≤ y → J l G M QF ck sk tgt L st h) (kf : ¬ x ≤ y → J l G M QF ck sk (pc + 3) L st h) : J l G M QF ck sk pc L (.int y :: .int x :: st) h := by
  intro p e s m args below meth c H locs cells slots ls S hR hS hl hc hs
  exact lv_icmp_le S.1 S.2.1 hd ht (fun q => kt q p e s m args below meth c H locs cells slots ls S hR hS hl hc hs) (fun q => kf q p e s m args below meth c H locs cells slots ls S hR hS hl hc hs)
theorem j_goto {off : Int} (tgt : Nat) (hd : decode M.cc pc = .ok (.goto off, 3)) (ht : (pc : Int) + off = (tgt : Int)) (k : J l G M QF ck sk tgt L st h) : J l G M QF ck sk pc L st h := by
  intro p e s m args below meth c H locs cells slots ls S hR hS hl hc hs
  exact lv_goto S.1 S.2.1 hd ht (k p e s m args below meth c H locs cells slots ls S hR hS hl hc hs)
theorem j_tableOut {dflt lo hi : Int} {offs : Array Int} {len : Nat} {x : Int32} (tgt : Nat) (hd : decode M.cc pc = .ok (.tableswitch dflt lo hi offs, len)) (hx : x.toInt < lo ∨ hi < x.toInt) (ht : (pc : Int) + dflt = (tgt : Int)) (k : J l G M QF ck sk tgt L st h) : J l G M QF ck sk pc L (.int x :: st) h := by
  intro p e s m args below meth c H locs cells slots ls S hR hS hl hc hs
  exact lv_tableOut S.1 S.2.1 hd hx ht (k p e s m args below meth c H locs cells slots ls S hR hS hl hc hs)
theorem j_tableIn {dflt lo hi : Int} {offs : Array Int} {len : Nat} {x : Int32} {off : Int} (tgt : Nat) (hd : decode M.cc pc = .ok (.tableswitch dflt lo hi offs, len)) (h1 : ¬ x.toInt < lo) (h2 : ¬ hi < x.toInt) (ho : offs[(x.toInt - lo).toNat]? = some off) (ht : (pc : Int) + off = (tgt : Int)) (k : J l G M QF ck sk tgt L st h) : J l G M QF ck sk pc L (.int x :: st) h := by
  intro p e s m args below meth c H locs cells slots ls S hR hS hl hc hs
  exact lv_tableIn S.1 S.2.1 hd h1 h2 ho ht (k p e s m args below meth c H locs cells slots ls S hR hS hl hc hs)
def jget : List (Nat × Value) → Nat → Option Value
  | [], _ => none
  | q :: L, i => if q.1 == i then some q.2 else jget L i
theorem jget_mem : ∀ (L : List (Nat × Value)) (i : Nat) (v : Value), jget L i = some v → (i, v) ∈ L
  | [], i, v, h => by cases h
  | q :: L, i, v, h => by
    unfold jget at h
    by_cases hq : (q.1 == i) = true
    · rw [if_pos hq] at h
      cases h
      have e : q.1 = i := by simpa using hq
      subst e
      exact List.mem_cons_self
    · rw [if_neg hq] at h
      exact List.mem_cons_of_mem _ (jget_mem L i v h)
theorem jget_at {ls : Array Slot} {nL : Nat} {L : List (Nat × Value)} (hl : lv_has ls nL L) {i : Nat} {v : Value} (hg : jget L i = some v) : ls[i]? = some (.val v) := hl.2.2 _ (jget_mem L i v hg)
def jput (L : List (Nat × Value)) (i : Nat) (v : Value) : List (Nat × Value) := (i, v) :: L.filter (fun q => !(q.1 == i) && !(q.1 + 1 == i && q.2.category == 2))
def jput2 (L : List (Nat × Value)) (i : Nat) (v : Value) : List (Nat × Value) := (i, v) :: L.filter (fun q => !(q.1 == i) && (!(q.1 == i + 1) && !(q.1 + 1 == i && q.2.category == 2)))
theorem j_iload_n {k : Fin 4} {x : Int32} (i : Nat) (hd : decode M.cc pc = .ok (.iload_n k, 1)) (hi : (k : Nat) = i) (hg : jget L i = some (.int x)) (k : J l G M QF ck sk (pc + 1) L (.int x :: st) h) : J l G M QF ck sk pc L st h := by
  intro p e s m args below meth c H locs cells slots ls S hR hS hl hc hs
  exact lv_iload_n S.1 S.2.1 hd hi (jget_at hl hg) (k p e s m args below meth c H locs cells slots ls S hR hS hl hc hs)
theorem j_iload {i : Nat} {x : Int32} (hd : decode M.cc pc = .ok (.iload i, 2)) (hg : jget L i = some (.int x)) (k : J l G M QF ck sk (pc + 2) L (.int x :: st) h) : J l G M QF ck sk pc L st h := by
  intro p e s m args below meth c H locs cells slots ls S hR hS hl hc hs
  exact lv_iload S.1 S.2.1 hd (jget_at hl hg) (k p e s m args below meth c H locs cells slots ls S hR hS hl hc hs)
theorem j_istore_n {k : Fin 4} {x : Int32} (i : Nat) (hd : decode M.cc pc = .ok (.istore_n k, 1)) (hi : (k : Nat) = i) (hn : Nat.blt (i) M.nL = true) (hp : jput L i (.int x) = L') (k : J l G M QF ck sk (pc + 1) L' st h) : J l G M QF ck sk pc L (.int x :: st) h := by
  intro p e s m args below meth c H locs cells slots ls S hR hS hl hc hs
  exact lv_istore_n S.1 S.2.1 hd hi hl (Nat.le_of_ble_eq_true hn) hp (fun ls hl => k p e s m args below meth c H locs cells slots ls S hR hS hl hc hs)
theorem j_istore {i : Nat} {x : Int32} (hd : decode M.cc pc = .ok (.istore i, 2)) (hn : Nat.blt (i) M.nL = true) (hp : jput L i (.int x) = L') (k : J l G M QF ck sk (pc + 2) L' st h) : J l G M QF ck sk pc L (.int x :: st) h := by
  intro p e s m args below meth c H locs cells slots ls S hR hS hl hc hs
  exact lv_istore S.1 S.2.1 hd hl (Nat.le_of_ble_eq_true hn) hp (fun ls hl => k p e s m args below meth c H locs cells slots ls S hR hS hl hc hs)
theorem j_aload_n {k : Fin 4} {x : Nat} (i : Nat) (hd : decode M.cc pc = .ok (.aload_n k, 1)) (hi : (k : Nat) = i) (hg : jget L i = some (.ref x)) (k : J l G M QF ck sk (pc + 1) L (.ref x :: st) h) : J l G M QF ck sk pc L st h := by
  intro p e s m args below meth c H locs cells slots ls S hR hS hl hc hs
  exact lv_aload_n S.1 S.2.1 hd hi (jget_at hl hg) (k p e s m args below meth c H locs cells slots ls S hR hS hl hc hs)
theorem j_aload {i : Nat} {x : Nat} (hd : decode M.cc pc = .ok (.aload i, 2)) (hg : jget L i = some (.ref x)) (k : J l G M QF ck sk (pc + 2) L (.ref x :: st) h) : J l G M QF ck sk pc L st h := by
  intro p e s m args below meth c H locs cells slots ls S hR hS hl hc hs
  exact lv_aload S.1 S.2.1 hd (jget_at hl hg) (k p e s m args below meth c H locs cells slots ls S hR hS hl hc hs)
theorem j_astore_n {k : Fin 4} {x : Nat} (i : Nat) (hd : decode M.cc pc = .ok (.astore_n k, 1)) (hi : (k : Nat) = i) (hn : Nat.blt (i) M.nL = true) (hp : jput L i (.ref x) = L') (k : J l G M QF ck sk (pc + 1) L' st h) : J l G M QF ck sk pc L (.ref x :: st) h := by
  intro p e s m args below meth c H locs cells slots ls S hR hS hl hc hs
  exact lv_astore_n S.1 S.2.1 hd hi hl (Nat.le_of_ble_eq_true hn) hp (fun ls hl => k p e s m args below meth c H locs cells slots ls S hR hS hl hc hs)
theorem j_astore {i : Nat} {x : Nat} (hd : decode M.cc pc = .ok (.astore i, 2)) (hn : Nat.blt (i) M.nL = true) (hp : jput L i (.ref x) = L') (k : J l G M QF ck sk (pc + 2) L' st h) : J l G M QF ck sk pc L (.ref x :: st) h := by
  intro p e s m args below meth c H locs cells slots ls S hR hS hl hc hs
  exact lv_astore S.1 S.2.1 hd hl (Nat.le_of_ble_eq_true hn) hp (fun ls hl => k p e s m args below meth c H locs cells slots ls S hR hS hl hc hs)
theorem j_lload_n {k : Fin 4} {x : Int64} (i : Nat) (hd : decode M.cc pc = .ok (.lload_n k, 1)) (hi : (k : Nat) = i) (hg : jget L i = some (.long x)) (k : J l G M QF ck sk (pc + 1) L (.long x :: st) h) : J l G M QF ck sk pc L st h := by
  intro p e s m args below meth c H locs cells slots ls S hR hS hl hc hs
  exact lv_lload_n S.1 S.2.1 hd hi (jget_at hl hg) (k p e s m args below meth c H locs cells slots ls S hR hS hl hc hs)
theorem j_lload {i : Nat} {x : Int64} (hd : decode M.cc pc = .ok (.lload i, 2)) (hg : jget L i = some (.long x)) (k : J l G M QF ck sk (pc + 2) L (.long x :: st) h) : J l G M QF ck sk pc L st h := by
  intro p e s m args below meth c H locs cells slots ls S hR hS hl hc hs
  exact lv_lload S.1 S.2.1 hd (jget_at hl hg) (k p e s m args below meth c H locs cells slots ls S hR hS hl hc hs)
theorem j_lstore_n {k : Fin 4} {x : Int64} (i : Nat) (hd : decode M.cc pc = .ok (.lstore_n k, 1)) (hi : (k : Nat) = i) (hn : Nat.blt (i + 1) M.nL = true) (hp : jput2 L i (.long x) = L') (k : J l G M QF ck sk (pc + 1) L' st h) : J l G M QF ck sk pc L (.long x :: st) h := by
  intro p e s m args below meth c H locs cells slots ls S hR hS hl hc hs
  exact lv_lstore_n S.1 S.2.1 hd hi hl (Nat.le_of_ble_eq_true hn) hp (fun ls hl => k p e s m args below meth c H locs cells slots ls S hR hS hl hc hs)
theorem j_lstore {i : Nat} {x : Int64} (hd : decode M.cc pc = .ok (.lstore i, 2)) (hn : Nat.blt (i + 1) M.nL = true) (hp : jput2 L i (.long x) = L') (k : J l G M QF ck sk (pc + 2) L' st h) : J l G M QF ck sk pc L (.long x :: st) h := by
  intro p e s m args below meth c H locs cells slots ls S hR hS hl hc hs
  exact lv_lstore S.1 S.2.1 hd hl (Nat.le_of_ble_eq_true hn) hp (fun ls hl => k p e s m args below meth c H locs cells slots ls S hR hS hl hc hs)
theorem j_dload_n {k : Fin 4} {x : UInt64} (i : Nat) (hd : decode M.cc pc = .ok (.dload_n k, 1)) (hi : (k : Nat) = i) (hg : jget L i = some (.double x)) (k : J l G M QF ck sk (pc + 1) L (.double x :: st) h) : J l G M QF ck sk pc L st h := by
  intro p e s m args below meth c H locs cells slots ls S hR hS hl hc hs
  exact lv_dload_n S.1 S.2.1 hd hi (jget_at hl hg) (k p e s m args below meth c H locs cells slots ls S hR hS hl hc hs)
theorem j_dload {i : Nat} {x : UInt64} (hd : decode M.cc pc = .ok (.dload i, 2)) (hg : jget L i = some (.double x)) (k : J l G M QF ck sk (pc + 2) L (.double x :: st) h) : J l G M QF ck sk pc L st h := by
  intro p e s m args below meth c H locs cells slots ls S hR hS hl hc hs
  exact lv_dload S.1 S.2.1 hd (jget_at hl hg) (k p e s m args below meth c H locs cells slots ls S hR hS hl hc hs)
theorem j_dstore_n {k : Fin 4} {x : UInt64} (i : Nat) (hd : decode M.cc pc = .ok (.dstore_n k, 1)) (hi : (k : Nat) = i) (hn : Nat.blt (i + 1) M.nL = true) (hp : jput2 L i (.double x) = L') (k : J l G M QF ck sk (pc + 1) L' st h) : J l G M QF ck sk pc L (.double x :: st) h := by
  intro p e s m args below meth c H locs cells slots ls S hR hS hl hc hs
  exact lv_dstore_n S.1 S.2.1 hd hi hl (Nat.le_of_ble_eq_true hn) hp (fun ls hl => k p e s m args below meth c H locs cells slots ls S hR hS hl hc hs)
theorem j_dstore {i : Nat} {x : UInt64} (hd : decode M.cc pc = .ok (.dstore i, 2)) (hn : Nat.blt (i + 1) M.nL = true) (hp : jput2 L i (.double x) = L') (k : J l G M QF ck sk (pc + 2) L' st h) : J l G M QF ck sk pc L (.double x :: st) h := by
  intro p e s m args below meth c H locs cells slots ls S hR hS hl hc hs
  exact lv_dstore S.1 S.2.1 hd hl (Nat.le_of_ble_eq_true hn) hp (fun ls hl => k p e s m args below meth c H locs cells slots ls S hR hS hl hc hs)
theorem jget_place : ∀ (L : List (Nat × Value)) (i : Nat) (v : Value), jget L i = some v → ∃ k : Nat, L[k]? = some (i, v) := fun L i v h => List.getElem?_of_mem (jget_mem L i v h)
theorem j_iinc {i : Nat} {n : Int} {x : Int32} (v : Int32) (hd : decode M.cc pc = .ok (.iinc i n, 3)) (hg : jget L i = some (.int x)) (hv : x + Int32.ofInt n = v) (hn : Nat.blt i M.nL = true) (hp : jput L i (.int v) = L') (k : J l G M QF ck sk (pc + 3) L' st h) : J l G M QF ck sk pc L st h := by
  intro p e s m args below meth c H locs cells slots ls S hR hS hl hc hs
  obtain ⟨j, hj⟩ := jget_place L i _ hg
  exact lv_iinc S.1 S.2.1 hd hl hj hv (Nat.le_of_ble_eq_true hn) hp (fun ls hl => k p e s m args below meth c H locs cells slots ls S hR hS hl hc hs)
/-- fewer locals, less room -/
theorem j_sub (hsub : ∀ q ∈ L', q ∈ L) (k : J l G M QF ck sk pc L' st h) : J l G M QF ck sk pc L st h := by
  intro p e s m args below meth c H locs cells slots ls S hR hS hl hc hs
  exact k p e s m args below meth c H locs cells slots ls S hR hS ⟨hl.1, hl.2.1, fun q hq => hl.2.2 q (hsub q hq)⟩ hc hs
def jle : List (Nat × Value) → List (Nat × Value) → Prop
  | [], _ => True
  | q :: L', L => jget L q.1 = some q.2 ∧ jle L' L
theorem jle_sub : ∀ (L' L : List (Nat × Value)), jle L' L → ∀ q ∈ L', q ∈ L
  | [], _, _, q, hq => by cases hq
  | a :: L', L, hh, q, hq => by
    rcases List.mem_cons.mp hq with e | e
    · rw [e]; exact jget_mem L a.1 a.2 hh.1
    · exact jle_sub L' L hh.2 q e
theorem j_loc (hsub : jle L' L) (k : J l G M QF ck sk pc L' st h) : J l G M QF ck sk pc L st h := j_sub (jle_sub L' L hsub) k
theorem j_room {ck' sk' : Nat} (h1 : ck' ≤ ck) (h2 : sk' ≤ sk) (k : J l G M QF ck' sk' pc L st h) : J l G M QF ck sk pc L st h := by
  intro p e s m args below meth c H locs cells slots ls S hR hS hl hc hs
  exact k p e s m args below meth c H locs cells slots ls S hR hS hl (Nat.le_trans (Nat.add_le_add_left h1 _) hc) (Nat.le_trans (Nat.add_le_add_left h2 _) hs)
/-- a number on the stack gets a name -/
theorem j_top {v : Value} (k : ∀ w, w = v → J l G M QF ck sk pc L (w :: st) h) : J l G M QF ck sk pc L (v :: st) h := k v rfl
theorem j_topi {x y : Int32} (e : x = y) (k : J l G M QF ck sk pc L (.int y :: st) h) : J l G M QF ck sk pc L (.int x :: st) h := by rw [e]; exact k
theorem j_eq {st' : List Value} (e : st = st') (k : J l G M QF ck sk pc L st' h) : J l G M QF ck sk pc L st h := by rw [e]; exact k
end JR
end
section
section JH
variable {l : Launch} {G : jG} {M : jM} {QF : jF} {ck sk pc : Nat} {L L' : List (Nat × Value)} {st : List Value} {h : jH}
/-- the entry idx of class own's file is field k of class ci -/
def jFl (own : String) (idx ci k : Nat) : Prop := ∃ (C : String) (T : u_T) (N : Nat), vwCl[ci]? = some (C, T, N) ∧ k < N ∧ Cond.fieldLink own idx (T k).1 (T k).2.1 (T k).2.2.1 ∈ WT ∧ ∀ w ∈ u_ws C T N, w ∈ WT
/-- what a write wants: the types, and whether the field is final -/
def jTy (ci k : Nat) (ty : FieldType) (fin : Bool) : Prop := ∃ (C : String) (T : u_T) (N : Nat) (ty0 : Nat → FieldType), vwCl[ci]? = some (C, T, N) ∧ (∀ k, k < N → parseFieldDescriptor (T k).2.2.1 = some (ty0 k)) ∧ (∀ a, a < N → ∀ b, b < N → a ≠ b → (T a).2.1 ≠ (T b).2.1) ∧ parseFieldDescriptor (T k).2.2.1 = some ty ∧ (T k).2.2.2 = fin ∧ (T k).1 = C
theorem j_get {idx a ci k : Nat} {fs : List Value} {v : Value} (F : jFl M.own idx ci k) (hd : decode M.cc pc = .ok (.getfield idx, 3)) (ha : h a = some (.inr (ci, fs))) (hv : fs[k]? = some v) (kk : J l G M QF ck sk (pc + 3) L (v :: st) h) : J l G M QF ck sk pc L (.ref a :: st) h := by
  intro p e s m args below meth c H locs cells slots ls S hR hS hl hc hs
  obtain ⟨C, T, N, hcl, hk, hw, hin⟩ := F
  exact va_get (D := G.1) (cl := vwCl) (tys := jT G) (ws := [(a, .inr (ci, fs))]) (ref := (T k).1) S.1 S.2.1 S.2.2.2.2.2.2.2.2.1 hin S.2.2.2.2.2.2.2.1 S.2.2.2.2.2.2.2.2.2.1
    (fun j q hq => by cases j with
      | zero => cases hq; exact (hR _ _ ha).2
      | succ j => cases hq) 0 rfl hcl k hk (S.2.2.2.2.2.2.2.2.1 _ hw) (fun _ z => z) hv hd (kk p e s m args below meth c H locs cells slots ls S hR hS hl hc hs)
theorem va_D1 {A : Nat → Prop} {a : Nat} {e : va_E} (ha : A a) : va_D A [(a, e)] := by
  refine ⟨fun i j p q hi hj _ => ?_, fun k q hk => ?_⟩
  · have h1 : i < 1 := (List.getElem?_eq_some_iff.mp hi).1
    have h2 : j < 1 := (List.getElem?_eq_some_iff.mp hj).1
    omega
  · cases k with
    | zero => cases hk; exact ha
    | succ k => cases hk
theorem va_P1 {D : va_G} {cl : List vw_C} {a : Nat} {e : va_E} {H : Heap} (ha : va_at D cl (a, e) H) : va_P D cl [(a, e)] H := fun k q hk => by
  cases k with
  | zero => cases hk; exact ha
  | succ k => cases hk
theorem va_P1' {D : va_G} {cl : List vw_C} {a : Nat} {e : va_E} {H : Heap} (h : va_P D cl [(a, e)] H) : va_at D cl (a, e) H := h 0 _ rfl
theorem j_put {idx a ci k : Nat} {fs fs' : List Value} {v : Value} {ty : FieldType} (F : jFl M.own idx ci k) (Y : jTy ci k ty false) (hd : decode M.cc pc = .ok (.putfield idx, 3)) (ha : h a = some (.inr (ci, fs))) (hn : narrow ty v = v) (hfit : fits ty v = true) (hl0 : Nat.blt k fs.length = true) (hf : fs.set k v = fs') (kk : J l G M QF ck sk (pc + 3) L st (hset h a (.inr (ci, fs')))) : J l G M QF ck sk pc L (v :: .ref a :: st) h := by
  intro p e s m args below meth c H locs cells slots ls S hR hS hl hc hs
  obtain ⟨C, T, N, hcl, hk, hw, hin⟩ := F
  obtain ⟨C', T', N', ty0, hcl', hty, hnm, hpd, hfin, hC⟩ := Y
  rw [hcl] at hcl'
  cases hcl'
  subst hf
  have hts := S.2.2.2.2.2.2.2.2.1
  have hK := S.2.2.2.2.2.2.2.2.2.1
  have hap := va_apart (own := M.own) hts hin ty0 hty hnm hK hcl
  obtain ⟨r, h1, cell, q1, q2, q3, q4⟩ := (hR a _ ha).2
  have hr : r = (C, T, N) := Option.some.inj (h1.symm.trans hcl)
  subst hr
  obtain ⟨hS0, hfc, kC, hkC, hkind⟩ := hK.1 ci _ hcl
  obtain ⟨cf, kf, fi, f, hi, hsl⟩ := hS0 k hk
  have hlay := hts _ (hin _ (u_in_lay hk))
  unfold u_lay at hlay
  rw [if_neg (by rw [hfin]; decide)] at hlay
  have hst := (u_facts hfc hkC (u_lays hts hin hk) hi).1
  have h6 := u_store hfc hkC hkind hlay hi hpd hn hfit
  refine W.putK S.1 S.2.1 (f := f) ⟨S.2.2.2.2.2.2.2.1, hts _ hw, ⟨_, _, _, hi⟩, hst⟩ (by rw [q2]; exact h6) q1 q3 (by rw [hsl]; exact k2_hasslot (q4 k hk)) rfl rfl hd fun H' e1 e2 e3 => ?_
  rw [hsl] at e1 ⊢
  exact kk p e s m args below meth c H' _ cells slots ls S (hR.set ha ⟨_, hcl, t_OB.to (V := updV (vp_V fs) k v) ⟨_, e1, q2, q3, t_set q4 hap hk v⟩ (fun j _ => vp_updV_set (Nat.le_of_ble_eq_true hl0) v j)⟩ e3) (hS.put e2 e3 (hR a _ ha).1) hl hc hs
theorem j_putF {idx a ci k : Nat} {fs fs' : List Value} {v : Value} {ty : FieldType} (F : jFl M.own idx ci k) (Y : jTy ci k ty true) (hin2 : M.nm = "<init>") (hown2 : ∃ T N, vwCl[ci]? = some (M.own, T, N)) (hd : decode M.cc pc = .ok (.putfield idx, 3)) (ha : h a = some (.inr (ci, fs))) (hn : narrow ty v = v) (hfit : fits ty v = true) (hl0 : Nat.blt k fs.length = true) (hf : fs.set k v = fs') (kk : J l G M QF ck sk (pc + 3) L st (hset h a (.inr (ci, fs')))) : J l G M QF ck sk pc L (v :: .ref a :: st) h := by
  intro p e s m args below meth c H locs cells slots ls S hR hS hl hc hs
  obtain ⟨C, T, N, hcl, hk, hw, hin⟩ := F
  obtain ⟨C', T', N', ty0, hcl', hty, hnm, hpd, hfin, hC⟩ := Y
  rw [hcl] at hcl'
  cases hcl'
  obtain ⟨T9, N9, h9⟩ := hown2
  rw [hcl] at h9
  have hdecl : (T k).1 = M.own := by rw [hC]; exact congrArg (fun q : vw_C => q.1) (Option.some.inj h9)
  subst hf
  have hts := S.2.2.2.2.2.2.2.2.1
  have hK := S.2.2.2.2.2.2.2.2.2.1
  have hown := S.2.2.2.2.2.2.2.1
  have hap := va_apart (own := M.own) hts hin ty0 hty hnm hK hcl
  obtain ⟨r, h1, cell, q1, q2, q3, q4⟩ := (hR a _ ha).2
  have hr : r = (C, T, N) := Option.some.inj (h1.symm.trans hcl)
  subst hr
  obtain ⟨hS0, hfc, kC, hkC, hkind⟩ := hK.1 ci _ hcl
  obtain ⟨cf, kf, fi, f, hi, hsl⟩ := hS0 k hk
  have hlay := hts _ (hin _ (u_in_lay hk))
  unfold u_lay at hlay
  rw [if_pos hfin] at hlay
  have hst := (u_facts hfc hkC (u_lays hts hin hk) hi).1
  have hcf : m.cls = cf := by
    obtain ⟨_, _, c', _, _, _, -, -, hf', -, -, -, hown2, -⟩ := Cond.laysFinal_spec hlay
    have e1 : c' = cf := by have := hi.symm.trans hf'; simp at this; exact this.1.symm
    rw [hdecl] at hown2
    rw [← e1]; exact Option.some.inj (hown.symm.trans hown2)
  have h6 := u_fits hfc hkC hkind (Or.inr hlay) hi hpd hn hfit
  refine W.putFinK S.1 S.2.1 hown (hts _ hw) hi hst hcf (S.2.2.2.2.2.1.trans hin2) (by rw [q2]; exact h6) q1 q3 (by rw [hsl]; exact k2_hasslot (q4 k hk)) rfl rfl hd fun H' e1 e2 e3 => ?_
  rw [hsl] at e1 ⊢
  exact kk p e s m args below meth c H' _ cells slots ls S (hR.set ha ⟨_, hcl, t_OB.to (V := updV (vp_V fs) k v) ⟨_, e1, q2, q3, t_set q4 hap hk v⟩ (fun j _ => vp_updV_set (Nat.le_of_ble_eq_true hl0) v j)⟩ e3) (hS.put e2 e3 (hR a _ ha).1) hl hc hs
/-! arrays -/
abbrev aI (G : jG) (n : Nat) (f : Nat → Int32) : va_E := .inl (G.2.1 0, n, .inl f)
abbrev aZ (G : jG) (n : Nat) (f : Nat → Int32) : va_E := .inl (G.2.1 1, n, .inl f)
abbrev aJ (G : jG) (n : Nat) (f : Nat → Int64) : va_E := .inl (G.2.1 2, n, .inr (.inl f))
abbrev aR (G : jG) (t n : Nat) (f : Nat → Option Nat) : va_E := .inl (G.2.1 t, n, .inr (.inr (.inr (.inr f))))
theorem j_iald {a n : Nat} {f : Nat → Int32} {i : Int32} (hd : decode M.cc pc = .ok (.iaload, 1)) (ha : h a = some (aI G n f)) (hin : vp_in i n) (kk : J l G M QF ck sk (pc + 1) L (.int (f i.toNatClampNeg) :: st) h) : J l G M QF ck sk pc L (.int i :: .ref a :: st) h := by
  intro p e s m args below meth c H locs cells slots ls S hR hS hl hc hs
  exact va_iald (tys := jT G) S.1 S.2.1 S.2.2.2.2.2.2.2.2.2.1 (va_P1 (hR a _ ha).2) 0 0 rfl rfl hin hd (kk p e s m args below meth c H locs cells slots ls S hR hS hl hc hs)
theorem j_zald {a n : Nat} {f : Nat → Int32} {i : Int32} (hd : decode M.cc pc = .ok (.baload, 1)) (ha : h a = some (aZ G n f)) (hin : vp_in i n) (kk : J l G M QF ck sk (pc + 1) L (.int (f i.toNatClampNeg) :: st) h) : J l G M QF ck sk pc L (.int i :: .ref a :: st) h := by
  intro p e s m args below meth c H locs cells slots ls S hR hS hl hc hs
  exact va_zald (tys := jT G) S.1 S.2.1 S.2.2.2.2.2.2.2.2.2.1 (va_P1 (hR a _ ha).2) 0 1 rfl rfl hin hd (kk p e s m args below meth c H locs cells slots ls S hR hS hl hc hs)
theorem j_lald {a n : Nat} {f : Nat → Int64} {i : Int32} (hd : decode M.cc pc = .ok (.laload, 1)) (ha : h a = some (aJ G n f)) (hin : vp_in i n) (kk : J l G M QF ck sk (pc + 1) L (.long (f i.toNatClampNeg) :: st) h) : J l G M QF ck sk pc L (.int i :: .ref a :: st) h := by
  intro p e s m args below meth c H locs cells slots ls S hR hS hl hc hs
  exact va_lald (tys := jT G) S.1 S.2.1 S.2.2.2.2.2.2.2.2.2.1 (va_P1 (hR a _ ha).2) 0 2 rfl rfl hin hd (kk p e s m args below meth c H locs cells slots ls S hR hS hl hc hs)
theorem j_qaldP {a n : Nat} {f : Nat → Option Nat} {i : Int32} (hd : decode M.cc pc = .ok (.aaload, 1)) (ha : h a = some (aR G 3 n f)) (hin : vp_in i n) (kk : J l G M QF ck sk (pc + 1) L (va_rf (f i.toNatClampNeg) :: st) h) : J l G M QF ck sk pc L (.int i :: .ref a :: st) h := by
  intro p e s m args below meth c H locs cells slots ls S hR hS hl hc hs
  exact va_aldq (tys := jT G) S.1 S.2.1 S.2.2.2.2.2.2.2.2.2.1 (va_P1 (hR a _ ha).2) 0 3 rfl rfl hin hd (kk p e s m args below meth c H locs cells slots ls S hR hS hl hc hs)
theorem j_qaldM {a n : Nat} {f : Nat → Option Nat} {i : Int32} (hd : decode M.cc pc = .ok (.aaload, 1)) (ha : h a = some (aR G 4 n f)) (hin : vp_in i n) (kk : J l G M QF ck sk (pc + 1) L (va_rf (f i.toNatClampNeg) :: st) h) : J l G M QF ck sk pc L (.int i :: .ref a :: st) h := by
  intro p e s m args below meth c H locs cells slots ls S hR hS hl hc hs
  exact va_aldq (tys := jT G) S.1 S.2.1 S.2.2.2.2.2.2.2.2.2.1 (va_P1 (hR a _ ha).2) 0 4 rfl rfl hin hd (kk p e s m args below meth c H locs cells slots ls S hR hS hl hc hs)
theorem j_iast {a n : Nat} {f : Nat → Int32} {i x : Int32} (hd : decode M.cc pc = .ok (.iastore, 1)) (ha : h a = some (aI G n f)) (hin : vp_in i n) (kk : J l G M QF ck sk (pc + 1) L st (hset h a (aI G n (upd f i.toNatClampNeg x)))) : J l G M QF ck sk pc L (.int x :: .int i :: .ref a :: st) h := by
  intro p e s m args below meth c H locs cells slots ls S hR hS hl hc hs
  have hK := S.2.2.2.2.2.2.2.2.2.1
  refine W.iast S.1 S.2.1 (hR a _ ha).2 ((hK.2 0 _ rfl).1 n (fun j => .int (f j))) (fun q => by cases q) (by show ¬ (i < 0 ∨ (arrV _ _ _).slots.size ≤ _); rw [arrV_size]; exact hin) rfl rfl hd fun H1 e1 z oq => ?_
  refine kk p e s m args below meth c H1 _ cells slots ls S (hR.set ha ?_ oq) (hS.put z oq (hR a _ ha).1) hl hc hs
  show H1[a]? = some (vp_cell _ _)
  rw [e1]
  rw [vp_cell_i, vp_cell_i, arrV_store]
  congr 2
  funext q
  by_cases hq : q = i.toNatClampNeg
  · subst hq
    simp [updV, upd]
  · simp [updV, upd, hq]
theorem j_zast {a n : Nat} {f : Nat → Int32} {i x : Int32} (hd : decode M.cc pc = .ok (.bastore, 1)) (ha : h a = some (aZ G n f)) (hin : vp_in i n) (kk : J l G M QF ck sk (pc + 1) L st (hset h a (aZ G n (upd f i.toNatClampNeg (vp_nar .boolean x))))) : J l G M QF ck sk pc L (.int x :: .int i :: .ref a :: st) h := by
  intro p e s m args below meth c H locs cells slots ls S hR hS hl hc hs
  have hK := S.2.2.2.2.2.2.2.2.2.1
  refine W.zast S.1 S.2.1 (hR a _ ha).2 ((hK.2 1 _ rfl).1 n (fun j => .int (f j))) (fun q => by cases q) (by show ¬ (i < 0 ∨ (arrV _ _ _).slots.size ≤ _); rw [arrV_size]; exact hin) rfl rfl hd fun H1 e1 z oq => ?_
  refine kk p e s m args below meth c H1 _ cells slots ls S (hR.set ha ?_ oq) (hS.put z oq (hR a _ ha).1) hl hc hs
  show H1[a]? = some (vp_cell _ _)
  rw [e1]
  rw [vp_cell_i, vp_cell_i, arrV_store]
  congr 2
  funext q
  by_cases hq : q = i.toNatClampNeg
  · subst hq
    simp [updV, upd, vp_nar]
    try rfl
  · simp [updV, upd, hq]
theorem j_last {a n : Nat} {f : Nat → Int64} {i : Int32} {x : Int64} (hd : decode M.cc pc = .ok (.lastore, 1)) (ha : h a = some (aJ G n f)) (hin : vp_in i n) (kk : J l G M QF ck sk (pc + 1) L st (hset h a (aJ G n (vp_updL f i.toNatClampNeg x)))) : J l G M QF ck sk pc L (.long x :: .int i :: .ref a :: st) h := by
  intro p e s m args below meth c H locs cells slots ls S hR hS hl hc hs
  have hK := S.2.2.2.2.2.2.2.2.2.1
  refine W.last S.1 S.2.1 (hR a _ ha).2 ((hK.2 2 _ rfl).1 n (fun j => .long (f j))) (fun q => by cases q) (by show ¬ (i < 0 ∨ (arrV _ _ _).slots.size ≤ _); rw [arrV_size]; exact hin) rfl rfl hd fun H1 e1 z oq => ?_
  refine kk p e s m args below meth c H1 _ cells slots ls S (hR.set ha ?_ oq) (hS.put z oq (hR a _ ha).1) hl hc hs
  show H1[a]? = some (vp_cell _ _)
  rw [e1]
  rw [vp_cell_l, vp_cell_l, arrV_store]
  congr 2
  funext q
  by_cases hq : q = i.toNatClampNeg
  · subst hq
    simp [updV, vp_updL]
  · simp [updV, vp_updL, hq]
/-- which entry of jT an array is of -/
theorem j_alen {a : Nat} {x : vp_A} (t : Nat) {ty : FieldType} (v : Int32) (hd : decode M.cc pc = .ok (.arraylength, 1)) (ha : h a = some (.inl (G.2.1 t, x))) (ht : (jT G)[t]? = some (G.2.1 t, ty)) (hv : Int32.ofNat x.1 = v) (kk : J l G M QF ck sk (pc + 1) L (.int v :: st) h) : J l G M QF ck sk pc L (.ref a :: st) h := by
  intro p e s m args below meth c H locs cells slots ls S hR hS hl hc hs
  exact va_alen (tys := jT G) S.1 S.2.1 S.2.2.2.2.2.2.2.2.2.1 (va_P1 (hR a _ ha).2) 0 t rfl ht hv hd (kk p e s m args below meth c H locs cells slots ls S hR hS hl hc hs)
/-- static arrays -/
theorem j_gets {idx : Nat} (k : Nat) {C n : String} {N : Nat} {f : List Int32} (hst : jSt[k]? = some (C, n, N, f)) (hw : Cond.fieldLink M.own idx C n "[I" ∈ WT) (hd : decode M.cc pc = .ok (.getstatic idx, 3)) (kk : J l G M QF ck sk (pc + 3) L (.ref (jSa G k) :: st) h) : J l G M QF ck sk pc L st h := by
  intro p e s m args below meth c H locs cells slots ls S hR hS hl hc hs
  exact va_gets S.1 S.2.1 (S.2.2.2.2.2.2.2.2.2.2.1 k _ hst).1 hS S.2.2.2.2.2.2.2.1 (S.2.2.2.2.2.2.2.2.1 _ hw) (fun _ z => z) hd (kk p e s m args below meth c H locs cells slots ls S hR hS hl hc hs)
theorem j_siald (k : Nat) {C n : String} {N : Nat} {f : List Int32} {i : Int32} (hst : jSt[k]? = some (C, n, N, f)) (hin : vp_in i N) (hd : decode M.cc pc = .ok (.iaload, 1)) (kk : J l G M QF ck sk (pc + 1) L (.int (jIs f i.toNatClampNeg) :: st) h) : J l G M QF ck sk pc L (.int i :: .ref (jSa G k) :: st) h := by
  intro p e s m args below meth c H locs cells slots ls S hR hS hl hc hs
  exact va_ti S.1 S.2.1 (S.2.2.2.2.2.2.2.2.2.2.1 k _ hst).2 hS hin rfl hd (kk p e s m args below meth c H locs cells slots ls S hR hS hl hc hs)
end JH
end
section
section JC
variable {l : Launch} {G : jG} {M M' : jM} {QF : jF} {ck sk ck' sk' pc : Nat} {L L' : List (Nat × Value)} {st rest : List Value} {h : jH} {Post Post' : jO → jH → Prop}
/-- an exception of class E stands over the frame -/
def jX (l : Launch) (G : jG) (M : jM) (QF : jF) (ck sk pc : Nat) (L : List (Nat × Value)) (rest : List Value) (h : jH) (E : String) : Prop :=
  ∀ (p : Program) (e : Env) (s : State) (m : MethodId) (args : Array Value) (below : List Frame) (meth : Method) (c : Code) (H : Heap) (locs : List Loc) (cells slots : Nat) (ls : Array Slot) (q : Addr) (ce : Cell),
    jStd G M p s m args meth c → jR G h H → va_S (jB G) s.heap H locs → lv_has ls M.nL L → cells + ck ≤ M.room.cells → slots + sk ≤ M.room.slots →
    H[q]? = some ce → ce.vm = .none → s.vm.findClass E = some ce.cls → vx_W p l e M.room s m args below meth c H locs cells slots (QF below args s) (F0 m pc ls rest) q
theorem jX_out {E : String} (hh : M.hh = []) (hp : Post (.inr E) h) : jX l G M (jQ G M Post) ck sk pc L rest h E := by
  intro p e s m args below meth c H locs cells slots ls q ce S hR hS hl hc hs h1 h2 h3
  refine vx_out ?_ S.2.2.2.2.2.2.1 h1 h2 h3 (fun t ht hA => ⟨h, hp, by rw [ht]; exact hR, hS.F ht⟩) hS.2.2 (by omega) (by omega)
  intro x hx
  rw [S.2.2.2.2.1, hh] at hx
  cases hx
theorem jX_room (h1 : ck' ≤ ck) (h2 : sk' ≤ sk) {E : String} (k : jX l G M QF ck' sk' pc L rest h E) : jX l G M QF ck sk pc L rest h E := by
  intro p e s m args below meth c H locs cells slots ls q ce S hR hS hl hc hs
  exact k p e s m args below meth c H locs cells slots ls q ce S hR hS hl (Nat.le_trans (Nat.add_le_add_left h1 _) hc) (Nat.le_trans (Nat.add_le_add_left h2 _) hs)
/-- what a run of a call gives -/
theorem j_run {p : Program} {e : Env} {s : State} {m : MethodId} {args a : Array Value} {below : List Frame} {meth : Method} {c : Code} {H : Heap} {locs : List Loc} {cells slots mc ms : Nat} {ls : Array Slot} {R : Room} {Q : State → Prop}
    (hr : vx_Run p l e R s m args below meth c H locs cells slots mc ms (F0 m pc ls st) rest (jQc G Post' a) (jXC G Post') (jB G)) (hS : va_S (jB G) s.heap H locs)
    (kk : ∀ (v : Option Value) (h' : jH) (H1 : Heap) (locs1 : List Loc), Post' (.inl v) h' → jR G h' H1 → va_S (jB G) s.heap H1 locs1 → W p l e R s m args below meth c H1 locs1 (cells + mc) (slots + ms) Q (F0 m (pc + 3) ls (v.toList ++ rest)))
    (kx : ∀ (E : String) (h' : jH) (H1 : Heap) (locs1 : List Loc) (q : Addr) (ce : Cell), Post' (.inr E) h' → jR G h' H1 → va_S (jB G) s.heap H1 locs1 → H1[q]? = some ce → ce.vm = .none → s.vm.findClass E = some ce.cls → vx_W p l e R s m args below meth c H1 locs1 (cells + mc) (slots + ms) Q (F0 m pc ls rest) q) :
    W p l e R s m args below meth c H locs cells slots Q (F0 m pc ls st) := by
  intro T hT X
  rcases hr T hT X with ⟨v, st₀, t, T', L, h0, X', hL, e1, e2, ⟨v', h', hv, hp, hR, hF⟩, st⟩ | ⟨q, st₀, t, T', L, E, ce, h0, X', hL, e1, e2, ⟨h', hp, hR, hF⟩, hce, hcv, hcl, st⟩
  · cases hv
    obtain ⟨-, -, k3⟩ := vx_keep h0 e1 hS (fun q _ h => h) (fun q h => h) hL hF
    obtain ⟨t2, a1, b1⟩ := kk v h' T'.heap (locs ++ L) hp (by rw [e1]; exact hR) k3 T' rfl X'
    exact ⟨t2, st t2 a1, b1⟩
  · obtain ⟨-, -, k3⟩ := vx_keep h0 e1 hS (fun q _ h => h) (fun q h => h) hL hF
    obtain ⟨t2, a1, b1⟩ := kx E h' T'.heap (locs ++ L) q ce hp (by rw [e1]; exact hR) k3 (by rw [e1]; exact hce) hcv hcl T' rfl X'
    exact ⟨t2, st.trans a1, b1⟩
def jRm (M M' : jM) : Bool := Nat.ble (M'.room.frames + 1) M.room.frames && Nat.ble (8 + (M'.nL + 11) + M'.room.locals) M.room.locals
theorem jRm_fr (hr : jRm M M' = true) : M'.room.frames + 1 ≤ M.room.frames ∧ 8 + (M'.nL + 11) + M'.room.locals ≤ M.room.locals := by
  have h2 := Bool.and_eq_true_iff.mp hr
  exact ⟨Nat.le_of_ble_eq_true h2.1, Nat.le_of_ble_eq_true h2.2⟩
/-- a call of y by the entry idx of own's file: its words -/
def jLk (own : String) (idx : Nat) (y : MethodName) (M' : jM) (n : Nat) : Prop :=
  Cond.methodLink own idx y ∈ WT ∧ Cond.initialized y.cls ∈ WT ∧ Cond.code y M'.cc M'.nL M'.ret ∈ WT ∧ (y.cls ≠ "java/lang/invoke/MethodHandle" ∧ y.cls ≠ "java/lang/invoke/VarHandle") ∧ (parseMethodDescriptor y.desc).map (fun d => d.parameters.length) = some n
theorem jLk.callB {own : String} {idx n : Nat} {y : MethodName} (V : jLk own idx y M' n) (hh : M'.hh = []) (hr : jRm M M' = true) {s : State} {args : Array Value} (hts : ∀ w ∈ WT, w.before args s = true) : CallB M.room s args own idx y M'.cc M'.nL M'.ret (jws y M') M'.room M'.room.cells M'.room.slots n := by
  obtain ⟨v1, v2, v3, v4, v5⟩ := V
  have hw : jws y M' = Cond.code y M'.cc M'.nL M'.ret :: WT := by unfold jws; rw [hh]
  refine ⟨rfl, rfl, (jRm_fr hr).1, (jRm_fr hr).2, ?_, ?_, hts _ v3, hts _ v2, v4, fun sig h => ?_, hts _ v1⟩
  · intro w hwm
    rw [hw] at hwm
    rcases List.mem_cons.mp hwm with e | e
    · rw [e]; exact WT_pay hts _ v3
    · exact WT_pay hts _ e
  · rw [hw]; exact List.mem_cons_self
  · rw [h] at v5
    exact (Option.some.inj v5).symm
theorem jPc_pre {G : jG} {av : List Value} {h : jH} {s : State} {H : Heap} {locs : List Loc} (hK : jK G s s.heap) (hS : va_S (jB G) s.heap H locs) (hR : jR G h H) : ∀ U : State, U.heap = H → s.WarmedH U.vm → jPc G av h av.toArray U :=
  fun U hU hW => ⟨rfl, by rw [hU]; exact hR, by rw [hU]; exact jK.moved hK hW hS.1 hS.2.1⟩
theorem j_callV {y : MethodName} {As : List Value} {a ci n idx : Nat} {fs : List Value} {T : u_T} {N : Nat} (V : jLk M.own idx y M' n) (V2 : Cond.instanceMethod y ∈ WT ∧ Cond.selects y.cls y y ∈ WT ∧ vwCl[ci]? = some (y.cls, T, N)) (ha : h a = some (.inr (ci, fs)))
    (C : jC l G y M' (.ref a :: As) h Post') (hh : M'.hh = []) (hst : st = As.reverse ++ .ref a :: rest) (hn : As.length = n) (hrm : jRm M M' = true) (hrest : Nat.ble (rest.map fun v => v.category).sum 8 = true) (hd : decode M.cc pc = .ok (.invokevirtual idx, 3))
    (hck : M'.room.cells + ck' ≤ ck) (hsk : M'.room.slots + sk' ≤ sk) (kk : ∀ (v : Option Value) (h' : jH), Post' (.inl v) h' → J l G M QF ck' sk' (pc + 3) L (v.toList ++ rest) h')
    (kx : ∀ (E : String) (h' : jH), Post' (.inr E) h' → jX l G M QF ck' sk' pc L rest h' E) : J l G M QF ck sk pc L st h := by
  intro p e s m args below meth c H locs cells slots ls S hR hS hl hc hs
  have hts := S.2.2.2.2.2.2.2.2.1
  have hK := S.2.2.2.2.2.2.2.2.2
  obtain ⟨r, hr1, cell, g1, g2, g3, -⟩ := (hR a _ ha).2
  have hr : r = (y.cls, T, N) := Option.some.inj (hr1.symm.trans V2.2.2)
  subst hr
  have hrun := vx_runV (g := F0 m pc ls st) (rest := rest) (l := l) (R := M.room) (locs := locs) (cells := cells) (slots := slots) (below := below) (meth := meth) (e := e) (H := H) ⟨S.1, S.2.1, S.2.2.1, S.2.2.2.2.2.2.2.1, hts⟩ C ⟨V.callB hh hrm hts, hts _ V2.1, hts _ V2.2.1⟩
    ⟨jPc.blind, ⟨cell, g1, by rw [g3]; rfl, by rw [g2]; exact (hK.1.1 ci _ V2.2.2).2.1⟩, jPc_pre hK hS hR⟩ rfl hn hl.1 hst (lv_room (Nat.le_of_ble_eq_true hrest)) hd ⟨by omega, by omega⟩
  refine j_run hrun hS (fun v h' H1 locs1 hp hR1 hS1 => ?_) (fun E h' H1 locs1 q ce hp hR1 hS1 h1 h2 h3 => ?_)
  · exact kk v h' hp p e s m args below meth c H1 locs1 _ _ ls S hR1 hS1 hl (by omega) (by omega)
  · exact kx E h' hp p e s m args below meth c H1 locs1 _ _ ls q ce S hR1 hS1 hl (by omega) (by omega) h1 h2 h3
theorem j_callS {y : MethodName} {As : List Value} {n idx : Nat} (V : jLk M.own idx y M' n) (V2 : Cond.static y ∈ WT)
    (C : jC l G y M' As h Post') (hh : M'.hh = []) (hst : st = As.reverse ++ rest) (hn : As.length = n) (hrm : jRm M M' = true) (hrest : Nat.ble (rest.map fun v => v.category).sum 8 = true) (hd : decode M.cc pc = .ok (.invokestatic idx, 3))
    (hck : M'.room.cells + ck' ≤ ck) (hsk : M'.room.slots + sk' ≤ sk) (kk : ∀ (v : Option Value) (h' : jH), Post' (.inl v) h' → J l G M QF ck' sk' (pc + 3) L (v.toList ++ rest) h')
    (kx : ∀ (E : String) (h' : jH), Post' (.inr E) h' → jX l G M QF ck' sk' pc L rest h' E) : J l G M QF ck sk pc L st h := by
  intro p e s m args below meth c H locs cells slots ls S hR hS hl hc hs
  have hts := S.2.2.2.2.2.2.2.2.1
  have hK := S.2.2.2.2.2.2.2.2.2
  have hrun := vx_runS (g := F0 m pc ls st) (rest := rest) (l := l) (R := M.room) (locs := locs) (cells := cells) (slots := slots) (below := below) (meth := meth) (e := e) (H := H) ⟨S.1, S.2.1, S.2.2.1, S.2.2.2.2.2.2.2.1, hts⟩ C ⟨V.callB hh hrm hts, hts _ V2⟩
    ⟨jPc.blind, jPc_pre hK hS hR⟩ rfl hn hl.1 hst (lv_room (Nat.le_of_ble_eq_true hrest)) hd ⟨by omega, by omega⟩
  refine j_run hrun hS (fun v h' H1 locs1 hp hR1 hS1 => ?_) (fun E h' H1 locs1 q ce hp hR1 hS1 h1 h2 h3 => ?_)
  · exact kk v h' hp p e s m args below meth c H1 locs1 _ _ ls S hR1 hS1 hl (by omega) (by omega)
  · exact kx E h' hp p e s m args below meth c H1 locs1 _ _ ls q ce S hR1 hS1 hl (by omega) (by omega) h1 h2 h3
/-- the end of a method -/
theorem j_iret {v : Int32} (hr : M.ret = some .int) (hd : decode M.cc pc = .ok (.ireturn, 1)) (hp : Post (.inl (some (.int v))) h) : J l G M (jQ G M Post) ck sk pc L [.int v] h := by
  intro p e s m args below meth c H locs cells slots ls S hR hS hl hc hs
  refine W.widen (k := M.room.cells) (n := M.room.slots) (by omega) (by omega) (vx_ret ?_)
  exact W.iret S.1 S.2.1 (S.2.2.2.1.trans hr) (fun t ht _ => ⟨_, h, rfl, hp, by rw [ht]; exact hR, hS.F ht⟩) hS.2.2 hd S.2.2.2.2.2.2.1
theorem j_zret {v : Int32} (hr : M.ret = some .boolean) (hn : narrow .boolean (.int v) = .int v) (hd : decode M.cc pc = .ok (.ireturn, 1)) (hp : Post (.inl (some (.int v))) h) : J l G M (jQ G M Post) ck sk pc L [.int v] h := by
  intro p e s m args below meth c H locs cells slots ls S hR hS hl hc hs
  refine W.widen (k := M.room.cells) (n := M.room.slots) (by omega) (by omega) (vx_ret ?_)
  exact W.zret S.1 S.2.1 (S.2.2.2.1.trans hr) hn (fun t ht _ => ⟨_, h, rfl, hp, by rw [ht]; exact hR, hS.F ht⟩) hS.2.2 hd S.2.2.2.2.2.2.1
theorem j_vret (hr : M.ret = none) (hd : decode M.cc pc = .ok (.return_, 1)) (hp : Post (.inl none) h) : J l G M (jQ G M Post) ck sk pc L [] h := by
  intro p e s m args below meth c H locs cells slots ls S hR hS hl hc hs
  refine W.widen (k := M.room.cells) (n := M.room.slots) (by omega) (by omega) (vx_ret ?_)
  exact W.vret S.1 S.2.1 (S.2.2.2.1.trans hr) (fun t ht _ => ⟨_, h, rfl, hp, by rw [ht]; exact hR, hS.F ht⟩) hS.2.2 hd S.2.2.2.2.2.2.1
theorem j_aret {a : Nat} {n : String} (hr : M.ret = some (.object n)) (hd : decode M.cc pc = .ok (.areturn, 1)) (hp : Post (.inl (some (.ref a))) h) : J l G M (jQ G M Post) ck sk pc L [.ref a] h := by
  intro p e s m args below meth c H locs cells slots ls S hR hS hl hc hs
  refine W.widen (k := M.room.cells) (n := M.room.slots) (by omega) (by omega) (vx_ret ?_)
  exact W.aret S.1 S.2.1 (S.2.2.2.1.trans hr) (Or.inl ⟨_, rfl⟩) (Or.inr ⟨_, rfl⟩) (fun t ht _ => ⟨_, h, rfl, hp, by rw [ht]; exact hR, hS.F ht⟩) hS.2.2 hd S.2.2.2.2.2.2.1
end JC
end
section
section JM
variable {l : Launch} {G : jG} {M M' : jM} {QF : jF} {ck sk ck' sk' pc : Nat} {L L' : List (Nat × Value)} {st rest : List Value} {h : jH} {Post Post' : jO → jH → Prop}
theorem j_objInit {idx a : Nat} (hw : Cond.methodLink M.own idx objectInit ∈ WT ∧ Cond.instanceMethod objectInit ∈ WT ∧ Cond.code objectInit ⟨#[0xb1]⟩ 1 none ∈ WT) (hd : decode M.cc pc = .ok (.invokespecial idx, 3)) (hfr : Nat.ble 1 M.room.frames = true) (hlo : Nat.ble ((st.map fun v => v.category).sum + 12) M.room.locals = true)
    (kk : J l G M QF ck sk (pc + 3) L st h) : J l G M QF ck sk pc L (.ref a :: st) h := by
  intro p e s m args below meth c H locs cells slots ls S hR hS hl hc hs
  have hts := S.2.2.2.2.2.2.2.2.1
  refine W.objInit S.1 S.2.1 S.2.2.2.2.2.2.2.1 (hts _ hw.1) (hts _ hw.2.1) (hts _ hw.2.2) rfl (hl.1.trans S.2.2.1.symm) rfl hd (Nat.le_of_ble_eq_true hfr) ?_ ?_
  · have := Nat.le_of_ble_eq_true hlo
    have e0 : (F0 m pc ls (.ref a :: st)).monitorRoom = 0 := by
      have := lv_room (m := m) (pc := pc) (rest := .ref a :: st) (ls := ls) (st := []) (by simp)
      first | rfl | simp [JFrame.monitorRoom]
    rw [e0]
    omega
  · exact kk p e s m args below meth c H locs cells slots ls S hR hS hl hc hs
/-- what a 'new' wants -/
def jNe (own : String) (idx ci N : Nat) (fs : List Value) : Prop := ∃ (C : String) (T : u_T) (ty : Nat → FieldType), vwCl[ci]? = some (C, T, N) ∧ (∀ w ∈ u_ws C T N, w ∈ WT) ∧ (∀ k, k < N → parseFieldDescriptor (T k).2.2.1 = some (ty k)) ∧ Cond.classLink own idx C ∈ WT ∧ Cond.instantiable C N ∈ WT ∧ Cond.initialized C ∈ WT ∧ ∀ j, j < N → defaultValue (ty j) = vp_V fs j
theorem j_new {idx ci N : Nat} {fs : List Value} (V : jNe M.own idx ci N fs) (hd : decode M.cc pc = .ok (.new idx, 3)) (hck : ck' + 1 ≤ ck) (hsk : sk' + N ≤ sk) (kk : ∀ q : Nat, h q = none → jB G q → J l G M QF ck' sk' (pc + 3) L (.ref q :: st) (hset h q (.inr (ci, fs)))) : J l G M QF ck sk pc L st h := by
  intro p e s m args below meth c H locs cells slots ls S hR hS hl hc hs
  have hts := S.2.2.2.2.2.2.2.2.1
  have hK := S.2.2.2.2.2.2.2.2.2
  obtain ⟨C, T, ty, hcl, hin, hty, w1, w2, w3, hfs⟩ := V
  have hKn := hK.1.1 ci _ hcl
  refine W.newcK S.1 S.2.1 S.2.2.2.2.2.2.2.1 (hts _ w1) (hts _ w2) (hts _ w3) rfl hd (by omega) (by omega) hKn.2.1 rfl fun H1 kC hkC e1 z1 o1 => ?_
  have hB : jB G H.size := Nat.le_trans hK.2.2.2.2.1 hS.1
  exact kk H.size hR.none hB p e s m args below meth c H1 locs _ _ ls S (hR.new hB ⟨_, hcl, (u_born ty hts hin hKn hkC e1 hty).to hfs⟩ o1) ⟨Nat.le_trans hS.1 (by omega), fun x h1 h2 => (o1 x (Nat.lt_of_lt_of_le h1 hS.1)).trans (hS.2.1 x h1 h2), hS.2.2⟩ hl (by omega) (by omega)
/-- arrays: by their entry in jT -/
theorem j_newa {n : Int32} {N t : Nat} {atype : ArrayType} {ty : FieldType} {a0 : vp_A} (hw : Cond.arrayClass (newarray.typeOf atype) ∈ WT) (hty : newarray.typeOf atype = ty) (ht : (jT G)[t]? = some (G.2.1 t, ty)) (hra : ∀ (U : State) (cA : ClassId), va_RA U cA ty ↔ U.vm.findClass ("[" ++ ty.toString) = some cA)
    (ha : ∀ cA : ClassId, vp_cell cA a0 = arrV cA N (fun _ => defaultValue ty)) (hd : decode M.cc pc = .ok (.newarray atype, 2)) (hn : ¬ n < 0) (hN : n.toNatClampNeg = N) (hb : N * componentBytes ty ≤ 536870912) (hck : ck' + 1 ≤ ck) (hsk : sk' + N ≤ sk)
    (kk : ∀ q : Nat, h q = none → jB G q → J l G M QF ck' sk' (pc + 2) L (.ref q :: st) (hset h q (.inl (G.2.1 t, a0)))) : J l G M QF ck sk pc L (.int n :: st) h := by
  intro p e s m args below meth c H locs cells slots ls S hR hS hl hc hs
  have hts := S.2.2.2.2.2.2.2.2.1
  have hK := S.2.2.2.2.2.2.2.2.2
  subst hty
  refine va_newaK S.1 S.2.1 (hts _ hw) rfl hd rfl hn hN hb (by omega) (by omega) rfl fun H1 cA e1 z1 o1 hAr hNm => ?_
  have hcA : cA = G.2.1 t := by
    have h2 := (hra s (G.2.1 t)).mp (hK.1.2 t _ ht).2
    exact Option.some.inj (hNm.symm.trans h2)
  subst hcA
  have hB : jB G H.size := Nat.le_trans hK.2.2.2.2.1 hS.1
  refine kk H.size hR.none hB p e s m args below meth c H1 locs _ _ ls S (hR.new hB ?_ o1) ⟨Nat.le_trans hS.1 (by omega), fun x h1 h2 => (o1 x (Nat.lt_of_lt_of_le h1 hS.1)).trans (hS.2.1 x h1 h2), hS.2.2⟩ hl (by omega) (by omega)
  show H1[H.size]? = some (vp_cell _ _)
  rw [ha]
  exact e1
theorem j_newI {n : Int32} (N : Nat) (hw : Cond.arrayClass .int ∈ WT) (hd : decode M.cc pc = .ok (.newarray .int, 2)) (hn : ¬ n < 0) (hN : n.toNatClampNeg = N) (hb : N * 4 ≤ 536870912) (hck : ck' + 1 ≤ ck) (hsk : sk' + N ≤ sk)
    (kk : ∀ q : Nat, h q = none → jB G q → J l G M QF ck' sk' (pc + 2) L (.ref q :: st) (hset h q (aI G N (fun _ => 0)))) : J l G M QF ck sk pc L (.int n :: st) h :=
  j_newa (t := 0) (a0 := (N, .inl (fun _ => 0))) (atype := .int) hw rfl rfl (fun _ _ => Iff.rfl) (fun _ => by rw [vp_cell_i]; rfl) hd hn hN hb hck hsk kk
theorem j_newZ {n : Int32} (N : Nat) (hw : Cond.arrayClass .boolean ∈ WT) (hd : decode M.cc pc = .ok (.newarray .boolean, 2)) (hn : ¬ n < 0) (hN : n.toNatClampNeg = N) (hb : N * 1 ≤ 536870912) (hck : ck' + 1 ≤ ck) (hsk : sk' + N ≤ sk)
    (kk : ∀ q : Nat, h q = none → jB G q → J l G M QF ck' sk' (pc + 2) L (.ref q :: st) (hset h q (aZ G N (fun _ => 0)))) : J l G M QF ck sk pc L (.int n :: st) h :=
  j_newa (t := 1) (a0 := (N, .inl (fun _ => 0))) (atype := .boolean) hw rfl rfl (fun _ _ => Iff.rfl) (fun _ => by rw [vp_cell_i]; rfl) hd hn hN hb hck hsk kk
theorem j_newL {n : Int32} (N : Nat) (hw : Cond.arrayClass .long ∈ WT) (hd : decode M.cc pc = .ok (.newarray .long, 2)) (hn : ¬ n < 0) (hN : n.toNatClampNeg = N) (hb : N * 8 ≤ 536870912) (hck : ck' + 1 ≤ ck) (hsk : sk' + N ≤ sk)
    (kk : ∀ q : Nat, h q = none → jB G q → J l G M QF ck' sk' (pc + 2) L (.ref q :: st) (hset h q (aJ G N (fun _ => 0)))) : J l G M QF ck sk pc L (.int n :: st) h :=
  j_newa (t := 2) (a0 := (N, .inr (.inl (fun _ => 0)))) (atype := .long) hw rfl rfl (fun _ _ => Iff.rfl) (fun _ => by rw [vp_cell_l]; rfl) hd hn hN hb hck hsk kk
theorem j_newq {n : Int32} {idx t : Nat} {C : String} (N : Nat) (hw : Cond.classLink M.own idx C ∈ WT) (hg : Cond.arrayOver (.object C) ∈ jNg) (ht : (jT G)[t]? = some (G.2.1 t, .object C)) (hd : decode M.cc pc = .ok (.anewarray idx, 3)) (hn : ¬ n < 0) (hN : n.toNatClampNeg = N) (hb : N * 4 ≤ 536870912) (hck : ck' + 1 ≤ ck) (hsk : sk' + N ≤ sk)
    (kk : ∀ q : Nat, h q = none → jB G q → J l G M QF ck' sk' (pc + 3) L (.ref q :: st) (hset h q (aR G t N (fun _ => none)))) : J l G M QF ck sk pc L (.int n :: st) h := by
  intro p e s m args below meth c H locs cells slots ls S hR hS hl hc hs
  have hts := S.2.2.2.2.2.2.2.2.1
  have hK := S.2.2.2.2.2.2.2.2.2
  subst hN
  have hAO : va_AO C s := hK.2.2.2.2.2.1 _ hg
  refine W.anew S.1 S.2.1 S.2.2.2.2.2.2.2.1 (hts _ hw) (va_AO.use hAO) rfl hd rfl hn hb (by omega) (by omega) fun cA kA comp f1 f2 f3 f4 => ?_
  generalize hH1 : H.push ({ cls := cA, slots := Array.replicate n.toNatClampNeg .null, vm := .none } : Cell) = H1
  have z1 : H1.size = H.size + 1 := by rw [← hH1, Array.size_push]
  have e1 : H1[H.size]? = some (arrV cA n.toNatClampNeg (fun _ => .null)) := by rw [← hH1, Array.getElem?_push_size, ← arrV_new]
  have o1 : ∀ q : Nat, q < H.size → H1[q]? = H[q]? := fun q hq => by rw [← hH1, Array.getElem?_push, if_neg (Nat.ne_of_lt hq)]
  have hcA : cA = G.2.1 t := by
    obtain ⟨kA', comp', g1, g2, g3, g4⟩ := (hK.1.2 t _ ht).2
    exact Option.some.inj (f1.symm.trans g4)
  subst hcA
  have hB : jB G H.size := Nat.le_trans hK.2.2.2.2.1 hS.1
  refine kk H.size hR.none hB p e s m args below meth c H1 locs _ _ ls S (hR.new hB ?_ o1) ⟨Nat.le_trans hS.1 (by omega), fun x h1 h2 => (o1 x (Nat.lt_of_lt_of_le h1 hS.1)).trans (hS.2.1 x h1 h2), hS.2.2⟩ hl (by omega) (by omega)
  show H1[H.size]? = some (vp_cell _ _)
  rw [vp_cell_q]
  exact e1
/-- an object into an array of its class -/
theorem j_qast {a n v t ci : Nat} {C : String} {T : u_T} {N : Nat} {vs : List Value} {f : Nat → Option Nat} {i : Int32} (ht : (jT G)[t]? = some (G.2.1 t, .object C)) (hcl : vwCl[ci]? = some (C, T, N)) (hd : decode M.cc pc = .ok (.aastore, 1)) (ha : h a = some (aR G t n f)) (hv : h v = some (.inr (ci, vs))) (hin : vp_in i n) (kk : J l G M QF ck sk (pc + 1) L st (hset h a (aR G t n (va_up f i.toNatClampNeg (some v))))) : J l G M QF ck sk pc L (.ref v :: .int i :: .ref a :: st) h := by
  intro p e s m args below meth c H locs cells slots ls S hR hS hl hc hs
  have hK := S.2.2.2.2.2.2.2.2.2.1
  have hlt : i.toNatClampNeg < n := Nat.not_le.mp fun q => hin (Or.inr q)
  have h0 : ¬ i < 0 := fun q => hin (Or.inl q)
  obtain ⟨r', hr', cellV, g1, g2, g3, -⟩ := (hR v _ hv).2
  have hcls := (hK.1 ci _ hcl).2
  obtain ⟨kA, comp, k1, k2, k3, -⟩ := (hK.2 t _ ht).2
  have hcomp : comp = G.1.1 ci := Option.some.inj (k3.symm.trans hcls.1)
  subst hcomp
  obtain ⟨kC, hkC, -⟩ := hcls.2
  refine W.aast S.1 S.2.1 (hR a _ ha).2 (fun q h => by cases h) (fun h => by cases h) k1 k2 rfl hkC ⟨h0, by show _ < (arrV _ _ _).slots.size; rw [arrV_size]; exact hlt⟩ g1 (fun q h => by rw [g3] at h; cases h) (by rw [g2]; exact hkC) (by rw [g2]; exact va_assign hcls) rfl rfl hd fun H1 e1 z oq => ?_
  refine kk p e s m args below meth c H1 _ cells slots ls S (hR.set ha ?_ oq) (hS.put z oq (hR a _ ha).1) hl hc hs
  show H1[a]? = some (vp_cell _ _)
  rw [e1]
  rw [vp_cell_q, vp_cell_q, arrV_store]
  congr 2
  funext q
  by_cases hq : q = i.toNatClampNeg
  · subst hq
    simp [updV, va_up, va_rf]
  · simp [updV, va_up, hq]
end JM
end
section
section JO
variable {l : Launch} {G : jG} {M M' : jM} {QF : jF} {ck sk ck' sk' pc : Nat} {L L' : List (Nat × Value)} {st rest : List Value} {h : jH} {Post Post' : jO → jH → Prop}
/-- what a run of a returning call gives -/
theorem j_runR {p : Program} {e : Env} {s : State} {m : MethodId} {args a : Array Value} {below : List Frame} {meth : Method} {c : Code} {H : Heap} {locs : List Loc} {cells slots mc ms : Nat} {ls : Array Slot} {R : Room} {Q : State → Prop}
    (hr : va_Run p l e R s m args below meth c H locs cells slots mc ms (F0 m pc ls st) rest (jQc G Post' a) (jB G)) (hS : va_S (jB G) s.heap H locs)
    (kk : ∀ (v : Option Value) (h' : jH) (H1 : Heap) (locs1 : List Loc), Post' (.inl v) h' → jR G h' H1 → va_S (jB G) s.heap H1 locs1 → W p l e R s m args below meth c H1 locs1 (cells + mc) (slots + ms) Q (F0 m (pc + 3) ls (v.toList ++ rest))) :
    W p l e R s m args below meth c H locs cells slots Q (F0 m pc ls st) := by
  intro T hT X
  obtain ⟨v, st₀, t, T', L, h0, X', hL, e1, e2, ⟨v', h', hv, hp, hR, hF⟩, st⟩ := hr T hT X
  cases hv
  obtain ⟨-, -, k3⟩ := vx_keep h0 e1 hS (fun q _ h => h) (fun q h => h) hL hF
  obtain ⟨t2, a1, b1⟩ := kk v h' T'.heap (locs ++ L) hp (by rw [e1]; exact hR) k3 T' rfl X'
  exact ⟨t2, st t2 a1, b1⟩
/-- constructors -/
theorem j_callI {y : MethodName} {As : List Value} {a n idx : Nat} (V : jLk M.own idx y M' n) (V2 : Cond.instanceMethod y ∈ WT ∧ y.name = "<init>")
    (C : jC l G y M' (.ref a :: As) h Post') (hX : ∀ E h', ¬ Post' (.inr E) h') (hh : M'.hh = []) (hret : M'.ret = none) (hst : st = As.reverse ++ .ref a :: rest) (hn : As.length = n) (hrm : jRm M M' = true) (hrest : Nat.ble (rest.map fun v => v.category).sum 8 = true) (hd : decode M.cc pc = .ok (.invokespecial idx, 3))
    (hck : M'.room.cells + ck' ≤ ck) (hsk : M'.room.slots + sk' ≤ sk) (kk : ∀ (v : Option Value) (h' : jH), Post' (.inl v) h' → J l G M QF ck' sk' (pc + 3) L (v.toList ++ rest) h') : J l G M QF ck sk pc L st h := by
  intro p e s m args below meth c H locs cells slots ls S hR hS hl hc hs
  have hts := S.2.2.2.2.2.2.2.2.1
  have hK := S.2.2.2.2.2.2.2.2.2
  have hB := V.callB hh hrm hts
  rw [hret] at hB
  have hrun := va_runI (g := F0 m pc ls st) (b := a) (As := As) (rest := rest) (l := l) (R := M.room) (locs := locs) (cells := cells) (slots := slots) (below := below) (meth := meth) (e := e) (H := H) ⟨S.1, S.2.1, S.2.2.1, S.2.2.2.2.2.2.2.1, hts⟩ (C.met hX) ⟨hB, V2.2, hts _ V2.1⟩
    ⟨jPc.blind, jPc_pre hK hS hR⟩ rfl hn hl.1 hst (lv_room (Nat.le_of_ble_eq_true hrest)) hd ⟨by omega, by omega⟩
  refine j_runR hrun hS (fun v h' H1 locs1 hp hR1 hS1 => ?_)
  exact kk v h' hp p e s m args below meth c H1 locs1 _ _ ls S hR1 hS1 hl (by omega) (by omega)
/-- nest mates: a call's words -/
def jLkN (own : String) (idx : Nat) (y : MethodName) (host : String) (M' : jM) (n : Nat) : Prop :=
  Cond.methodLinkNest own idx y host ∈ jNg ∧ Cond.initialized y.cls ∈ WT ∧ Cond.code y M'.cc M'.nL M'.ret ∈ WT ∧ (y.cls ≠ "java/lang/invoke/MethodHandle" ∧ y.cls ≠ "java/lang/invoke/VarHandle") ∧ (parseMethodDescriptor y.desc).map (fun d => d.parameters.length) = some n
theorem jLkN.cn {own host : String} {idx n : Nat} {y : MethodName} (V : jLkN own idx y host M' n) (hh : M'.hh = []) (hr : jRm M M' = true) {s : State} {args : Array Value} (hts : ∀ w ∈ WT, w.before args s = true) (hN : ∀ w ∈ jNg, va_Nw w s) : va_CN M.room s args own idx y host M'.cc M'.nL M'.ret (jws y M') M'.room M'.room.cells M'.room.slots n := by
  obtain ⟨v1, v2, v3, v4, v5⟩ := V
  have hw : jws y M' = Cond.code y M'.cc M'.nL M'.ret :: WT := by unfold jws; rw [hh]
  refine ⟨⟨rfl, rfl, (jRm_fr hr).1, (jRm_fr hr).2, ?_, ?_⟩, hts _ v3, hts _ v2, v4, fun sig h => ?_, va_Nw.use rfl (hN _ v1)⟩
  · intro w hwm
    rw [hw] at hwm
    rcases List.mem_cons.mp hwm with e | e
    · rw [e]; exact WT_pay hts _ v3
    · exact WT_pay hts _ e
  · rw [hw]; exact List.mem_cons_self
  · rw [h] at v5
    exact (Option.some.inj v5).symm
theorem j_callIN {y : MethodName} {host : String} {As : List Value} {a n idx : Nat} (V : jLkN M.own idx y host M' n) (V2 : Cond.instanceMethod y ∈ WT ∧ y.name = "<init>")
    (C : jC l G y M' (.ref a :: As) h Post') (hX : ∀ E h', ¬ Post' (.inr E) h') (hh : M'.hh = []) (hret : M'.ret = none) (hst : st = As.reverse ++ .ref a :: rest) (hn : As.length = n) (hrm : jRm M M' = true) (hrest : Nat.ble (rest.map fun v => v.category).sum 8 = true) (hd : decode M.cc pc = .ok (.invokespecial idx, 3))
    (hck : M'.room.cells + ck' ≤ ck) (hsk : M'.room.slots + sk' ≤ sk) (kk : ∀ (v : Option Value) (h' : jH), Post' (.inl v) h' → J l G M QF ck' sk' (pc + 3) L (v.toList ++ rest) h') : J l G M QF ck sk pc L st h := by
  intro p e s m args below meth c H locs cells slots ls S hR hS hl hc hs
  have hts := S.2.2.2.2.2.2.2.2.1
  have hK := S.2.2.2.2.2.2.2.2.2
  have hB := V.cn hh hrm hts hK.2.2.2.2.2.1
  rw [hret] at hB
  have hrun := va_runIN (g := F0 m pc ls st) (b := a) (As := As) (rest := rest) (l := l) (R := M.room) (locs := locs) (cells := cells) (slots := slots) (below := below) (meth := meth) (e := e) (H := H) ⟨S.1, S.2.1, S.2.2.1, S.2.2.2.2.2.2.2.1, hts⟩ (C.met hX) ⟨hB, V2.2, hts _ V2.1⟩
    ⟨jPc.blind, jPc_pre hK hS hR⟩ rfl hn hl.1 hst (lv_room (Nat.le_of_ble_eq_true hrest)) hd ⟨by omega, by omega⟩
  refine j_runR hrun hS (fun v h' H1 locs1 hp hR1 hS1 => ?_)
  exact kk v h' hp p e s m args below meth c H1 locs1 _ _ ls S hR1 hS1 hl (by omega) (by omega)
theorem j_callSN {y : MethodName} {host : String} {As : List Value} {n idx : Nat} (V : jLkN M.own idx y host M' n) (V2 : Cond.static y ∈ WT)
    (C : jC l G y M' As h Post') (hX : ∀ E h', ¬ Post' (.inr E) h') (hh : M'.hh = []) (hst : st = As.reverse ++ rest) (hn : As.length = n) (hrm : jRm M M' = true) (hrest : Nat.ble (rest.map fun v => v.category).sum 8 = true) (hd : decode M.cc pc = .ok (.invokestatic idx, 3))
    (hck : M'.room.cells + ck' ≤ ck) (hsk : M'.room.slots + sk' ≤ sk) (kk : ∀ (v : Option Value) (h' : jH), Post' (.inl v) h' → J l G M QF ck' sk' (pc + 3) L (v.toList ++ rest) h') : J l G M QF ck sk pc L st h := by
  intro p e s m args below meth c H locs cells slots ls S hR hS hl hc hs
  have hts := S.2.2.2.2.2.2.2.2.1
  have hK := S.2.2.2.2.2.2.2.2.2
  have hB := V.cn hh hrm hts hK.2.2.2.2.2.1
  have hrun := va_runSN (g := F0 m pc ls st) (As := As) (rest := rest) (l := l) (R := M.room) (locs := locs) (cells := cells) (slots := slots) (below := below) (meth := meth) (e := e) (H := H) ⟨S.1, S.2.1, S.2.2.1, S.2.2.2.2.2.2.2.1, hts⟩ (C.met hX) ⟨hB, hts _ V2, trivial⟩
    ⟨jPc.blind, jPc_pre hK hS hR⟩ rfl hn hl.1 hst (lv_room (Nat.le_of_ble_eq_true hrest)) hd ⟨by omega, by omega⟩
  refine j_runR hrun hS (fun v h' H1 locs1 hp hR1 hS1 => ?_)
  exact kk v h' hp p e s m args below meth c H1 locs1 _ _ ls S hR1 hS1 hl (by omega) (by omega)
/-- fields of a nest mate -/
def jFlN (own host : String) (idx ci k : Nat) : Prop := ∃ (C : String) (T : u_T) (N : Nat), vwCl[ci]? = some (C, T, N) ∧ k < N ∧ Cond.fieldLinkNest own idx (T k).1 (T k).2.1 (T k).2.2.1 host ∈ jNg ∧ ∀ w ∈ u_ws C T N, w ∈ WT
theorem j_getN {host : String} {idx a ci k : Nat} {fs : List Value} {v : Value} (F : jFlN M.own host idx ci k) (hd : decode M.cc pc = .ok (.getfield idx, 3)) (ha : h a = some (.inr (ci, fs))) (hv : fs[k]? = some v) (kk : J l G M QF ck sk (pc + 3) L (v :: st) h) : J l G M QF ck sk pc L (.ref a :: st) h := by
  intro p e s m args below meth c H locs cells slots ls S hR hS hl hc hs
  obtain ⟨C, T, N, hcl, hk, hw, hin⟩ := F
  exact va_getN (D := G.1) (cl := vwCl) (tys := jT G) (ws := [(a, .inr (ci, fs))]) (ref := (T k).1) S.1 S.2.1 S.2.2.2.2.2.2.2.2.1 hin S.2.2.2.2.2.2.2.1 S.2.2.2.2.2.2.2.2.2.1
    (va_P1 (hR _ _ ha).2) 0 rfl hcl k hk (va_Nw.use rfl (S.2.2.2.2.2.2.2.2.2.2.2.2.2.2.1 _ hw)) (fun _ z => z) hv hd (kk p e s m args below meth c H locs cells slots ls S hR hS hl hc hs)
theorem j_putN {host : String} {idx a ci k : Nat} {fs fs' : List Value} {v : Value} {ty : FieldType} (F : jFlN M.own host idx ci k) (Y : jTy ci k ty false) (hd : decode M.cc pc = .ok (.putfield idx, 3)) (ha : h a = some (.inr (ci, fs))) (hn : narrow ty v = v) (hfit : fits ty v = true) (hl0 : Nat.blt k fs.length = true) (hf : fs.set k v = fs') (kk : J l G M QF ck sk (pc + 3) L st (hset h a (.inr (ci, fs')))) : J l G M QF ck sk pc L (v :: .ref a :: st) h := by
  intro p e s m args below meth c H locs cells slots ls S hR hS hl hc hs
  obtain ⟨C, T, N, hcl, hk, hw, hin⟩ := F
  obtain ⟨C', T', N', ty0, hcl', hty, hnm, hpd, hfin, hC⟩ := Y
  rw [hcl] at hcl'
  cases hcl'
  subst hf
  have hts := S.2.2.2.2.2.2.2.2.1
  have hK := S.2.2.2.2.2.2.2.2.2.1
  have hap := va_apart (own := M.own) hts hin ty0 hty hnm hK hcl
  obtain ⟨r, h1, cell, q1, q2, q3, q4⟩ := (hR a _ ha).2
  have hr : r = (C, T, N) := Option.some.inj (h1.symm.trans hcl)
  subst hr
  obtain ⟨hS0, hfc, kC, hkC, hkind⟩ := hK.1 ci _ hcl
  obtain ⟨cf, kf, fi, f, hi, hsl⟩ := hS0 k hk
  have hlay := hts _ (hin _ (u_in_lay hk))
  unfold u_lay at hlay
  rw [if_neg (by rw [hfin]; decide)] at hlay
  have hst := (u_facts hfc hkC (u_lays hts hin hk) hi).1
  have h6 := u_store hfc hkC hkind hlay hi hpd hn hfit
  refine va_WputK S.1 S.2.1 (f := f) S.2.2.2.2.2.2.2.1 (va_Nw.use rfl (S.2.2.2.2.2.2.2.2.2.2.2.2.2.2.1 _ hw)) hi hst (by rw [q2]; exact h6) q1 q3 (by rw [hsl]; exact k2_hasslot (q4 k hk)) rfl rfl hd fun H' e1 e2 e3 => ?_
  rw [hsl] at e1 ⊢
  exact kk p e s m args below meth c H' _ cells slots ls S (hR.set ha ⟨_, hcl, t_OB.to (V := updV (vp_V fs) k v) ⟨_, e1, q2, q3, t_set q4 hap hk v⟩ (fun j _ => vp_updV_set (Nat.le_of_ble_eq_true hl0) v j)⟩ e3) (hS.put e2 e3 (hR a _ ha).1) hl hc hs
/-! Math -/
theorem j_mmax {idx : Nat} {x y : Int32} (hw : Cond.methodLink M.own idx Lib.Math.max.name ∈ WT ∧ Cond.static Lib.Math.max.name ∈ WT ∧ Cond.initialized "java/lang/Math" ∈ WT ∧ Cond.code Lib.Math.max.name Lib.Math.max.code 2 (some .int) ∈ WT) (hfr : Nat.ble 1 M.room.frames = true) (hlo : Nat.ble ((st.map fun v => v.category).sum + 13) M.room.locals = true)
    (hd : decode M.cc pc = .ok (.invokestatic idx, 3)) (kk : J l G M QF ck sk (pc + 3) L (.int (if x < y then y else x) :: st) h) : J l G M QF ck sk pc L (.int y :: .int x :: st) h := by
  intro p e s m args below meth c H locs cells slots ls S hR hS hl hc hs
  have hts := S.2.2.2.2.2.2.2.2.1
  exact va_mmax S.1 S.2.1 (S.2.2.1.trans hl.1.symm) S.2.2.2.2.2.2.2.1 (hts _ hw.1) (hts _ hw.2.1) (hts _ hw.2.2.1) (hts _ hw.2.2.2) (Nat.le_of_ble_eq_true hfr) (Nat.le_of_ble_eq_true hlo) (by omega) (by omega) hd (kk p e s m args below meth c H locs cells slots ls S hR hS hl hc hs)
theorem j_mmin {idx : Nat} {x y : Int32} (hw : Cond.methodLink M.own idx Lib.Math.min.name ∈ WT ∧ Cond.static Lib.Math.min.name ∈ WT ∧ Cond.initialized "java/lang/Math" ∈ WT ∧ Cond.code Lib.Math.min.name Lib.Math.min.code 2 (some .int) ∈ WT) (hfr : Nat.ble 1 M.room.frames = true) (hlo : Nat.ble ((st.map fun v => v.category).sum + 13) M.room.locals = true)
    (hd : decode M.cc pc = .ok (.invokestatic idx, 3)) (kk : J l G M QF ck sk (pc + 3) L (.int (if y < x then y else x) :: st) h) : J l G M QF ck sk pc L (.int y :: .int x :: st) h := by
  intro p e s m args below meth c H locs cells slots ls S hR hS hl hc hs
  have hts := S.2.2.2.2.2.2.2.2.1
  exact va_mmin S.1 S.2.1 (S.2.2.1.trans hl.1.symm) S.2.2.2.2.2.2.2.1 (hts _ hw.1) (hts _ hw.2.1) (hts _ hw.2.2.1) (hts _ hw.2.2.2) (Nat.le_of_ble_eq_true hfr) (Nat.le_of_ble_eq_true hlo) (by omega) (by omega) hd (kk p e s m args below meth c H locs cells slots ls S hR hS hl hc hs)
theorem j_mabs {idx : Nat} {x : Int32} (hw : Cond.methodLink M.own idx Lib.Math.abs.name ∈ WT ∧ Cond.static Lib.Math.abs.name ∈ WT ∧ Cond.initialized "java/lang/Math" ∈ WT ∧ Cond.code Lib.Math.abs.name Lib.Math.abs.code 1 (some .int) ∈ WT) (hfr : Nat.ble 1 M.room.frames = true) (hlo : Nat.ble ((st.map fun v => v.category).sum + 13) M.room.locals = true)
    (hd : decode M.cc pc = .ok (.invokestatic idx, 3)) (kk : J l G M QF ck sk (pc + 3) L (.int (if 0 ≤ x then x else 0 - x) :: st) h) : J l G M QF ck sk pc L (.int x :: st) h := by
  intro p e s m args below meth c H locs cells slots ls S hR hS hl hc hs
  have hts := S.2.2.2.2.2.2.2.2.1
  exact va_mabs S.1 S.2.1 (S.2.2.1.trans hl.1.symm) S.2.2.2.2.2.2.2.1 (hts _ hw.1) (hts _ hw.2.1) (hts _ hw.2.2.1) (hts _ hw.2.2.2) (Nat.le_of_ble_eq_true hfr) (Nat.le_of_ble_eq_true hlo) (by omega) (by omega) hd (kk p e s m args below meth c H locs cells slots ls S hR hS hl hc hs)
/-! throw new E("text") -/
def jEx : List (String × Nat) := [("java/lang/IndexOutOfBoundsException", 357), ("java/lang/IllegalArgumentException", 134), ("java/lang/IllegalStateException", 106)]
abbrev jCh : List String := ["java/lang/RuntimeException", "java/lang/Exception"]
def jThr (E : String) (ic ik : Nat) : Prop := Cond.classLink RX9 ik E ∈ WT ∧ Cond.initialized E ∈ WT ∧ Bundle.fit E = true ∧ (∀ w ∈ vx_atS RX9 ic E jCh, w ∈ WT ∨ (w ∈ jNg ∧ w.onTables = true)) ∧ ∀ w ∈ Cond.classLink RX9 ik E :: Cond.initialized E :: vx_atS RX9 ic E jCh, vx_ot w = true
theorem jCh_fit : ∀ n ∈ jCh, Bundle.fit n = true := by decide +kernel
theorem j_throwS {E text : String} {ic ik is k : Nat} (hl0 : l.stackTraces = false) (hown : M.own = RX9) (V : jThr E ic ik) (hx : jTx[k]? = some (is, text)) (hh : M.hh = [])
    (d0 : decode M.cc pc = .ok (.new ik, 3)) (d3 : decode M.cc (pc + 3) = .ok (.dup, 1)) (d4 : decode M.cc (pc + 4) = .ok (.ldc is, 2)) (d6 : decode M.cc (pc + 6) = .ok (.invokespecial ic, 3)) (d9 : decode M.cc (pc + 9) = .ok (.athrow, 1))
    (hfr : Nat.ble 6 M.room.frames = true) (hlo : Nat.ble ((st.map fun v => v.category).sum + 82) M.room.locals = true) (hck : 1 ≤ ck) (hsk : 6 ≤ sk) (hp : Post (.inr E) h) : J l G M (jQ G M Post) ck sk pc L st h := by
  intro p e s m args below meth c H locs cells slots ls S hR hS hl hc hs
  have hts := S.2.2.2.2.2.2.2.2.1
  have hK := S.2.2.2.2.2.2.2.2.2
  obtain ⟨v1, v2, v3, v4, v5⟩ := V
  have ho := S.2.2.2.2.2.2.2.1
  rw [hown] at ho
  refine vx_throwS (names := jCh) (A := jB G) S.1 S.2.1 hl0 ho v3 jCh_fit (hts _ v1) (hts _ v2) (hK.2.2.1 k _ hx) (fun w hw => ?_) v5 hK.2.2.2.1.1 hK.2.2.2.1.2 hS (hl.1.trans S.2.2.1.symm) d0 d3 d4 d6 d9 ?_ (Nat.le_of_ble_eq_true hfr) (Nat.le_of_ble_eq_true hlo) (by omega) (by omega) S.2.2.2.2.2.2.1 ?_ hS.2.2 (by omega) (by omega)
  · rcases v4 w hw with q | q
    · exact hts _ q
    · exact va_Nw.use q.2 (hK.2.2.2.2.2.1 w q.1)
  · intro x hx
    rw [S.2.2.2.2.1, hh] at hx
    cases hx
  · intro t hA hz hq
    exact ⟨h, hp, fun a e9 he => ⟨(hR a e9 he).1, (hR a e9 he).2.kept (hq a (hR a e9 he).2.lt)⟩, Nat.le_trans hS.1 hz, fun q h1 h2 => (hq q (Nat.lt_of_lt_of_le h1 hS.1)).trans (hS.2.1 q h1 h2)⟩
theorem j_throwSW {E text : String} {ic ik is k : Nat} (hl0 : l.stackTraces = false) (hown : M.own = RX9) (V : jThr E ic ik) (hx : jTx[k]? = some (is, text)) (hh : M.hh = [])
    (d0 : decode M.cc pc = .ok (.new ik, 3)) (d3 : decode M.cc (pc + 3) = .ok (.dup, 1)) (d4 : decode M.cc (pc + 4) = .ok (.ldc_w is, 3)) (d6 : decode M.cc (pc + 7) = .ok (.invokespecial ic, 3)) (d9 : decode M.cc (pc + 10) = .ok (.athrow, 1))
    (hfr : Nat.ble 6 M.room.frames = true) (hlo : Nat.ble ((st.map fun v => v.category).sum + 82) M.room.locals = true) (hck : 1 ≤ ck) (hsk : 6 ≤ sk) (hp : Post (.inr E) h) : J l G M (jQ G M Post) ck sk pc L st h := by
  intro p e s m args below meth c H locs cells slots ls S hR hS hl hc hs
  have hts := S.2.2.2.2.2.2.2.2.1
  have hK := S.2.2.2.2.2.2.2.2.2
  obtain ⟨v1, v2, v3, v4, v5⟩ := V
  have ho := S.2.2.2.2.2.2.2.1
  rw [hown] at ho
  refine vx_throwSW (names := jCh) (A := jB G) S.1 S.2.1 hl0 ho v3 jCh_fit (hts _ v1) (hts _ v2) (hK.2.2.1 k _ hx) (fun w hw => ?_) v5 hK.2.2.2.1.1 hK.2.2.2.1.2 hS (hl.1.trans S.2.2.1.symm) d0 d3 d4 d6 d9 ?_ (Nat.le_of_ble_eq_true hfr) (Nat.le_of_ble_eq_true hlo) (by omega) (by omega) S.2.2.2.2.2.2.1 ?_ hS.2.2 (by omega) (by omega)
  · rcases v4 w hw with q | q
    · exact hts _ q
    · exact va_Nw.use q.2 (hK.2.2.2.2.2.1 w q.1)
  · intro x hx
    rw [S.2.2.2.2.1, hh] at hx
    cases hx
  · intro t hA hz hq
    exact ⟨h, hp, fun a e9 he => ⟨(hR a e9 he).1, (hR a e9 he).2.kept (hq a (hR a e9 he).2.lt)⟩, Nat.le_trans hS.1 hz, fun q h1 h2 => (hq q (Nat.lt_of_lt_of_le h1 hS.1)).trans (hS.2.1 q h1 h2)⟩
/-! the other ends -/
theorem j_lret {v : Int64} (hr : M.ret = some .long) (hd : decode M.cc pc = .ok (.lreturn, 1)) (hp : Post (.inl (some (.long v))) h) : J l G M (jQ G M Post) ck sk pc L [.long v] h := by
  intro p e s m args below meth c H locs cells slots ls S hR hS hl hc hs
  refine W.widen (k := M.room.cells) (n := M.room.slots) (by omega) (by omega) (vx_ret ?_)
  exact W.lret S.1 S.2.1 (S.2.2.2.1.trans hr) (fun t ht _ => ⟨_, h, rfl, hp, by rw [ht]; exact hR, hS.F ht⟩) hS.2.2 hd S.2.2.2.2.2.2.1
theorem j_dret {v : UInt64} (hr : M.ret = some .double) (hd : decode M.cc pc = .ok (.dreturn, 1)) (hp : Post (.inl (some (.double v))) h) : J l G M (jQ G M Post) ck sk pc L [.double v] h := by
  intro p e s m args below meth c H locs cells slots ls S hR hS hl hc hs
  refine W.widen (k := M.room.cells) (n := M.room.slots) (by omega) (by omega) (vx_ret ?_)
  exact W.dret S.1 S.2.1 (S.2.2.2.1.trans hr) (fun t ht _ => ⟨_, h, rfl, hp, by rw [ht]; exact hR, hS.F ht⟩) hS.2.2 hd S.2.2.2.2.2.2.1
theorem j_aretA {a : Nat} {n : FieldType} (hr : M.ret = some (.array n)) (hd : decode M.cc pc = .ok (.areturn, 1)) (hp : Post (.inl (some (.ref a))) h) : J l G M (jQ G M Post) ck sk pc L [.ref a] h := by
  intro p e s m args below meth c H locs cells slots ls S hR hS hl hc hs
  refine W.widen (k := M.room.cells) (n := M.room.slots) (by omega) (by omega) (vx_ret ?_)
  exact W.aret S.1 S.2.1 (S.2.2.2.1.trans hr) (Or.inr ⟨_, rfl⟩) (Or.inr ⟨_, rfl⟩) (fun t ht _ => ⟨_, h, rfl, hp, by rw [ht]; exact hR, hS.F ht⟩) hS.2.2 hd S.2.2.2.2.2.2.1
end JO
end
section
theorem wt {w : Cond} (i : Nat) (h : tables_1[i]? = some w) (g : goodWord w = true) : w ∈ WT := List.mem_filter.mpr ⟨List.mem_append_right _ (List.mem_of_getElem? h), g⟩
theorem wt_p {y : MethodName} {n : Nat} (i : Nat) (h : lw_privs[i]? = some (y, n)) : Cond.selects y.cls y y ∈ WT := List.mem_filter.mpr ⟨List.mem_append_left _ (List.mem_map.mpr ⟨(y, n), List.mem_of_getElem? h, rfl⟩), rfl⟩
theorem wt_l {ws : List Cond} (ps : List Nat) (h : ws = ps.filterMap (fun i => tables_1[i]?)) (g : ws.all goodWord = true) : ∀ w ∈ ws, w ∈ WT := by
  intro w hw
  have h1 := List.all_eq_true.mp g w hw
  rw [h] at hw
  obtain ⟨i, -, hi⟩ := List.mem_filterMap.mp hw
  exact wt i hi h1
theorem wt_init {C : String} (i : Nat) (h : tables_1[i]? = some (Cond.initialized C)) : Cond.initialized C ∈ WT := wt i h rfl
/-- what a call wants of the callee -/
def jCe (y : MethodName) (M' : jM) (n : Nat) : Prop := Cond.initialized y.cls ∈ WT ∧ Cond.code y M'.cc M'.nL M'.ret ∈ WT ∧ (y.cls ≠ "java/lang/invoke/MethodHandle" ∧ y.cls ≠ "java/lang/invoke/VarHandle") ∧ (parseMethodDescriptor y.desc).map (fun d => d.parameters.length) = some n
theorem jLk.mk {own : String} {idx n : Nat} {y : MethodName} {M' : jM} (h1 : Cond.methodLink own idx y ∈ WT) (h : jCe y M' n) : jLk own idx y M' n := ⟨h1, h⟩
theorem inX0 : ∀ w ∈ u_ws RX0 TX0 5, w ∈ WT := wt_l [101, 103, 105, 107, 109] (by decide +kernel) (by decide +kernel)
theorem inX1 : ∀ w ∈ u_ws RX1 TX1 3, w ∈ WT := wt_l [181, 183, 185] (by decide +kernel) (by decide +kernel)
theorem inX2 : ∀ w ∈ u_ws RX2 TX2 8, w ∈ WT := wt_l [202, 204, 206, 208, 210, 212, 214, 216] (by decide +kernel) (by decide +kernel)
theorem inX3 : ∀ w ∈ u_ws RX3 TX3 4, w ∈ WT := wt_l [163, 165, 167, 169] (by decide +kernel) (by decide +kernel)
theorem inX4 : ∀ w ∈ u_ws RX4 TX4 5, w ∈ WT := wt_l [230, 232, 234, 236, 238] (by decide +kernel) (by decide +kernel)
theorem inX5 : ∀ w ∈ u_ws RX5 TX5 11, w ∈ WT := wt_l [129, 131, 133, 135, 137, 139, 141, 143, 145, 147, 149] (by decide +kernel) (by decide +kernel)
theorem inX6 : ∀ w ∈ u_ws RX6 TX6 13, w ∈ WT := wt_l [51, 53, 55, 57, 59, 61, 63, 65, 67, 69, 71, 73, 75] (by decide +kernel) (by decide +kernel)
theorem inX9 : ∀ w ∈ u_ws RX9 TX9 12, w ∈ WT := wt_l [253, 255, 257, 259, 261, 263, 265, 267, 269, 271, 273, 275] (by decide +kernel) (by decide +kernel)
theorem inX10 : ∀ w ∈ u_ws RX10 TX10 9, w ∈ WT := wt_l [1275, 1277, 1279, 1281, 1283, 1285, 1287, 1289, 1291] (by decide +kernel) (by decide +kernel)
theorem inX11 : ∀ w ∈ u_ws RX11 TX11 31, w ∈ WT := wt_l [1326, 1328, 1330, 1332, 1334, 1336, 1338, 1340, 1342, 1344, 1346, 1348, 1350, 1352, 1354, 1356, 1358, 1360, 1362, 1364, 1366, 1368, 1370, 1372, 1374, 1376, 1378, 1380, 1382, 1384, 1386] (by decide +kernel) (by decide +kernel)
theorem tyX0_beats : jTy 0 0 (.array .int) true := ⟨RX0, TX0, 5, tyX0, rfl, tyX0_ok, nmX0, by decide +kernel, rfl, rfl⟩
theorem tyX0_units : jTy 0 1 (.array .int) true := ⟨RX0, TX0, 5, tyX0, rfl, tyX0_ok, nmX0, by decide +kernel, rfl, rfl⟩
theorem tyX0_lengths : jTy 0 2 (.array .int) true := ⟨RX0, TX0, 5, tyX0, rfl, tyX0_ok, nmX0, by decide +kernel, rfl, rfl⟩
theorem tyX0_keys : jTy 0 3 (.array .int) true := ⟨RX0, TX0, 5, tyX0, rfl, tyX0_ok, nmX0, by decide +kernel, rfl, rfl⟩
theorem tyX0_end : jTy 0 4 .int false := ⟨RX0, TX0, 5, tyX0, rfl, tyX0_ok, nmX0, by decide +kernel, rfl, rfl⟩
theorem tyX1_root : jTy 1 0 .int false := ⟨RX1, TX1, 3, tyX1, rfl, tyX1_ok, nmX1, by decide +kernel, rfl, rfl⟩
theorem tyX1_kind : jTy 1 1 .int false := ⟨RX1, TX1, 3, tyX1, rfl, tyX1_ok, nmX1, by decide +kernel, rfl, rfl⟩
theorem tyX1_lowest : jTy 1 2 .int false := ⟨RX1, TX1, 3, tyX1, rfl, tyX1_ok, nmX1, by decide +kernel, rfl, rfl⟩
theorem tyX2_kinds : jTy 2 0 (.array .int) true := ⟨RX2, TX2, 8, tyX2, rfl, tyX2_ok, nmX2, by decide +kernel, rfl, rfl⟩
theorem tyX2_ticks : jTy 2 1 (.array .int) true := ⟨RX2, TX2, 8, tyX2, rfl, tyX2_ok, nmX2, by decide +kernel, rfl, rfl⟩
theorem tyX2_partCodes : jTy 2 2 (.array .int) true := ⟨RX2, TX2, 8, tyX2, rfl, tyX2_ok, nmX2, by decide +kernel, rfl, rfl⟩
theorem tyX2_heightsAhead : jTy 2 3 (.array .int) true := ⟨RX2, TX2, 8, tyX2, rfl, tyX2_ok, nmX2, by decide +kernel, rfl, rfl⟩
theorem tyX2_heightsNow : jTy 2 4 (.array .int) true := ⟨RX2, TX2, 8, tyX2, rfl, tyX2_ok, nmX2, by decide +kernel, rfl, rfl⟩
theorem tyX2_begins : jTy 2 5 (.array .boolean) true := ⟨RX2, TX2, 8, tyX2, rfl, tyX2_ok, nmX2, by decide +kernel, rfl, rfl⟩
theorem tyX2_ways : jTy 2 6 (.array .int) true := ⟨RX2, TX2, 8, tyX2, rfl, tyX2_ok, nmX2, by decide +kernel, rfl, rfl⟩
theorem tyX2_count : jTy 2 7 .int false := ⟨RX2, TX2, 8, tyX2, rfl, tyX2_ok, nmX2, by decide +kernel, rfl, rfl⟩
theorem tyX3_ticks : jTy 3 0 (.array .int) true := ⟨RX3, TX3, 4, tyX3, rfl, tyX3_ok, nmX3, by decide +kernel, rfl, rfl⟩
theorem tyX3_eventsThen : jTy 3 1 (.array .int) true := ⟨RX3, TX3, 4, tyX3, rfl, tyX3_ok, nmX3, by decide +kernel, rfl, rfl⟩
theorem tyX3_begun : jTy 3 2 (.array .int) true := ⟨RX3, TX3, 4, tyX3, rfl, tyX3_ok, nmX3, by decide +kernel, rfl, rfl⟩
theorem tyX3_count : jTy 3 3 .int false := ⟨RX3, TX3, 4, tyX3, rfl, tyX3_ok, nmX3, by decide +kernel, rfl, rfl⟩
theorem tyX4_widths : jTy 4 0 (.array .int) true := ⟨RX4, TX4, 5, tyX4, rfl, tyX4_ok, nmX4, by decide +kernel, rfl, rfl⟩
theorem tyX4_costs : jTy 4 1 (.array .int) true := ⟨RX4, TX4, 5, tyX4, rfl, tyX4_ok, nmX4, by decide +kernel, rfl, rfl⟩
theorem tyX4_nextLines : jTy 4 2 (.array .int) true := ⟨RX4, TX4, 5, tyX4, rfl, tyX4_ok, nmX4, by decide +kernel, rfl, rfl⟩
theorem tyX4_lineNumbers : jTy 4 3 (.array .int) true := ⟨RX4, TX4, 5, tyX4, rfl, tyX4_ok, nmX4, by decide +kernel, rfl, rfl⟩
theorem tyX4_lineCount : jTy 4 4 .int false := ⟨RX4, TX4, 5, tyX4, rfl, tyX4_ok, nmX4, by decide +kernel, rfl, rfl⟩
theorem tyX5_signEvents : jTy 5 0 (.array .int) true := ⟨RX5, TX5, 11, tyX5, rfl, tyX5_ok, nmX5, by decide +kernel, rfl, rfl⟩
theorem tyX5_ticks : jTy 5 1 (.array .int) true := ⟨RX5, TX5, 11, tyX5, rfl, tyX5_ok, nmX5, by decide +kernel, rfl, rfl⟩
theorem tyX5_lengths : jTy 5 2 (.array .int) true := ⟨RX5, TX5, 11, tyX5, rfl, tyX5_ok, nmX5, by decide +kernel, rfl, rfl⟩
theorem tyX5_firstOfNote : jTy 5 3 (.array .boolean) true := ⟨RX5, TX5, 11, tyX5, rfl, tyX5_ok, nmX5, by decide +kernel, rfl, rfl⟩
theorem tyX5_tied : jTy 5 4 (.array .boolean) true := ⟨RX5, TX5, 11, tyX5, rfl, tyX5_ok, nmX5, by decide +kernel, rfl, rfl⟩
theorem tyX5_shownAlters : jTy 5 5 (.array .int) true := ⟨RX5, TX5, 11, tyX5, rfl, tyX5_ok, nmX5, by decide +kernel, rfl, rfl⟩
theorem tyX5_shownAltersAsWritten : jTy 5 6 (.array .int) true := ⟨RX5, TX5, 11, tyX5, rfl, tyX5_ok, nmX5, by decide +kernel, rfl, rfl⟩
theorem tyX5_beamNumbers : jTy 5 7 (.array .int) true := ⟨RX5, TX5, 11, tyX5, rfl, tyX5_ok, nmX5, by decide +kernel, rfl, rfl⟩
theorem tyX5_altersInForce : jTy 5 8 (.array .int) true := ⟨RX5, TX5, 11, tyX5, rfl, tyX5_ok, nmX5, by decide +kernel, rfl, rfl⟩
theorem tyX5_count : jTy 5 9 .int false := ⟨RX5, TX5, 11, tyX5, rfl, tyX5_ok, nmX5, by decide +kernel, rfl, rfl⟩
theorem tyX5_beamCount : jTy 5 10 .int false := ⟨RX5, TX5, 11, tyX5, rfl, tyX5_ok, nmX5, by decide +kernel, rfl, rfl⟩
theorem tyX6_places : jTy 6 0 (.array .int) true := ⟨RX6, TX6, 13, tyX6, rfl, tyX6_ok, nmX6, by decide +kernel, rfl, rfl⟩
theorem tyX6_alters : jTy 6 1 (.array .int) true := ⟨RX6, TX6, 13, tyX6, rfl, tyX6_ok, nmX6, by decide +kernel, rfl, rfl⟩
theorem tyX6_heights : jTy 6 2 (.array .int) true := ⟨RX6, TX6, 13, tyX6, rfl, tyX6_ok, nmX6, by decide +kernel, rfl, rfl⟩
theorem tyX6_begins : jTy 6 3 (.array .int) true := ⟨RX6, TX6, 13, tyX6, rfl, tyX6_ok, nmX6, by decide +kernel, rfl, rfl⟩
theorem tyX6_lengths : jTy 6 4 (.array .int) true := ⟨RX6, TX6, 13, tyX6, rfl, tyX6_ok, nmX6, by decide +kernel, rfl, rfl⟩
theorem tyX6_writtenPlaces : jTy 6 5 (.array .int) true := ⟨RX6, TX6, 13, tyX6, rfl, tyX6_ok, nmX6, by decide +kernel, rfl, rfl⟩
theorem tyX6_writtenAlters : jTy 6 6 (.array .int) true := ⟨RX6, TX6, 13, tyX6, rfl, tyX6_ok, nmX6, by decide +kernel, rfl, rfl⟩
theorem tyX6_count : jTy 6 7 .int false := ⟨RX6, TX6, 13, tyX6, rfl, tyX6_ok, nmX6, by decide +kernel, rfl, rfl⟩
theorem tyX6_end : jTy 6 8 .int false := ⟨RX6, TX6, 13, tyX6, rfl, tyX6_ok, nmX6, by decide +kernel, rfl, rfl⟩
theorem tyX6_lowest : jTy 6 9 .int false := ⟨RX6, TX6, 13, tyX6, rfl, tyX6_ok, nmX6, by decide +kernel, rfl, rfl⟩
theorem tyX6_highest : jTy 6 10 .int false := ⟨RX6, TX6, 13, tyX6, rfl, tyX6_ok, nmX6, by decide +kernel, rfl, rfl⟩
theorem tyX6_fifths : jTy 6 11 .int false := ⟨RX6, TX6, 13, tyX6, rfl, tyX6_ok, nmX6, by decide +kernel, rfl, rfl⟩
theorem tyX6_octaves : jTy 6 12 .int false := ⟨RX6, TX6, 13, tyX6, rfl, tyX6_ok, nmX6, by decide +kernel, rfl, rfl⟩
theorem tyX9_parts : jTy 7 0 (.array (.object "ChoraleDesk$Part")) true := ⟨RX9, TX9, 12, tyX9, rfl, tyX9_ok, nmX9, by decide +kernel, rfl, rfl⟩
theorem tyX9_calendar : jTy 7 1 (.object "ChoraleDesk$Calendar") true := ⟨RX9, TX9, 12, tyX9, rfl, tyX9_ok, nmX9, by decide +kernel, rfl, rfl⟩
theorem tyX9_measure : jTy 7 2 (.object "ChoraleDesk$Measure") true := ⟨RX9, TX9, 12, tyX9, rfl, tyX9_ok, nmX9, by decide +kernel, rfl, rfl⟩
theorem tyX9_harmony : jTy 7 3 (.object "ChoraleDesk$Harmony") true := ⟨RX9, TX9, 12, tyX9, rfl, tyX9_ok, nmX9, by decide +kernel, rfl, rfl⟩
theorem tyX9_chord : jTy 7 4 (.object "ChoraleDesk$Chord") true := ⟨RX9, TX9, 12, tyX9, rfl, tyX9_ok, nmX9, by decide +kernel, rfl, rfl⟩
theorem tyX9_faultList : jTy 7 5 (.object "ChoraleDesk$FaultList") true := ⟨RX9, TX9, 12, tyX9, rfl, tyX9_ok, nmX9, by decide +kernel, rfl, rfl⟩
theorem tyX9_breaks : jTy 7 6 (.object "ChoraleDesk$LineBreaks") true := ⟨RX9, TX9, 12, tyX9, rfl, tyX9_ok, nmX9, by decide +kernel, rfl, rfl⟩
theorem tyX9_heard : jTy 7 7 .boolean false := ⟨RX9, TX9, 12, tyX9, rfl, tyX9_ok, nmX9, by decide +kernel, rfl, rfl⟩
theorem tyX9_searched : jTy 7 8 .boolean false := ⟨RX9, TX9, 12, tyX9, rfl, tyX9_ok, nmX9, by decide +kernel, rfl, rfl⟩
theorem tyX9_widthsKnown : jTy 7 9 .boolean false := ⟨RX9, TX9, 12, tyX9, rfl, tyX9_ok, nmX9, by decide +kernel, rfl, rfl⟩
theorem tyX9_laidPart : jTy 7 10 .int false := ⟨RX9, TX9, 12, tyX9, rfl, tyX9_ok, nmX9, by decide +kernel, rfl, rfl⟩
theorem tyX9_laidBar : jTy 7 11 .int false := ⟨RX9, TX9, 12, tyX9, rfl, tyX9_ok, nmX9, by decide +kernel, rfl, rfl⟩
theorem tyX10_many : jTy 8 0 .int false := ⟨RX10, TX10, 9, tyX10, rfl, tyX10_ok, nmX10, by decide +kernel, rfl, rfl⟩
theorem tyX10_begin : jTy 8 1 (.array .int) false := ⟨RX10, TX10, 9, tyX10, rfl, tyX10_ok, nmX10, by decide +kernel, rfl, rfl⟩
theorem tyX10_length : jTy 8 2 (.array .int) false := ⟨RX10, TX10, 9, tyX10, rfl, tyX10_ok, nmX10, by decide +kernel, rfl, rfl⟩
theorem tyX10_place : jTy 8 3 (.array .int) false := ⟨RX10, TX10, 9, tyX10, rfl, tyX10_ok, nmX10, by decide +kernel, rfl, rfl⟩
theorem tyX10_alter : jTy 8 4 (.array .int) false := ⟨RX10, TX10, 9, tyX10, rfl, tyX10_ok, nmX10, by decide +kernel, rfl, rfl⟩
theorem tyX10_lowest : jTy 8 5 .int false := ⟨RX10, TX10, 9, tyX10, rfl, tyX10_ok, nmX10, by decide +kernel, rfl, rfl⟩
theorem tyX10_highest : jTy 8 6 .int false := ⟨RX10, TX10, 9, tyX10, rfl, tyX10_ok, nmX10, by decide +kernel, rfl, rfl⟩
theorem tyX10_fifths : jTy 8 7 .int false := ⟨RX10, TX10, 9, tyX10, rfl, tyX10_ok, nmX10, by decide +kernel, rfl, rfl⟩
theorem tyX10_octaves : jTy 8 8 .int false := ⟨RX10, TX10, 9, tyX10, rfl, tyX10_ok, nmX10, by decide +kernel, rfl, rfl⟩
theorem tyX11_thrown : jTy 9 0 .int false := ⟨RX11, TX11, 31, tyX11, rfl, tyX11_ok, nmX11, by decide +kernel, rfl, rfl⟩
theorem tyX11_parts : jTy 9 1 (.array (.object "ChoraleDeskModel$Part")) true := ⟨RX11, TX11, 31, tyX11, rfl, tyX11_ok, nmX11, by decide +kernel, rfl, rfl⟩
theorem tyX11_beats : jTy 9 2 (.array .int) true := ⟨RX11, TX11, 31, tyX11, rfl, tyX11_ok, nmX11, by decide +kernel, rfl, rfl⟩
theorem tyX11_unit : jTy 9 3 (.array .int) true := ⟨RX11, TX11, 31, tyX11, rfl, tyX11_ok, nmX11, by decide +kernel, rfl, rfl⟩
theorem tyX11_key : jTy 9 4 (.array .int) true := ⟨RX11, TX11, 31, tyX11, rfl, tyX11_ok, nmX11, by decide +kernel, rfl, rfl⟩
theorem tyX11_laid : jTy 9 5 .int false := ⟨RX11, TX11, 31, tyX11, rfl, tyX11_ok, nmX11, by decide +kernel, rfl, rfl⟩
theorem tyX11_laidBeams : jTy 9 6 .int false := ⟨RX11, TX11, 31, tyX11, rfl, tyX11_ok, nmX11, by decide +kernel, rfl, rfl⟩
theorem tyX11_signEvent : jTy 9 7 (.array .int) true := ⟨RX11, TX11, 31, tyX11, rfl, tyX11_ok, nmX11, by decide +kernel, rfl, rfl⟩
theorem tyX11_signLength : jTy 9 8 (.array .int) true := ⟨RX11, TX11, 31, tyX11, rfl, tyX11_ok, nmX11, by decide +kernel, rfl, rfl⟩
theorem tyX11_signTick : jTy 9 9 (.array .int) true := ⟨RX11, TX11, 31, tyX11, rfl, tyX11_ok, nmX11, by decide +kernel, rfl, rfl⟩
theorem tyX11_signTied : jTy 9 10 (.array .boolean) true := ⟨RX11, TX11, 31, tyX11, rfl, tyX11_ok, nmX11, by decide +kernel, rfl, rfl⟩
theorem tyX11_signShown : jTy 9 11 (.array .int) true := ⟨RX11, TX11, 31, tyX11, rfl, tyX11_ok, nmX11, by decide +kernel, rfl, rfl⟩
theorem tyX11_signWritten : jTy 9 12 (.array .int) true := ⟨RX11, TX11, 31, tyX11, rfl, tyX11_ok, nmX11, by decide +kernel, rfl, rfl⟩
theorem tyX11_signBeam : jTy 9 13 (.array .int) true := ⟨RX11, TX11, 31, tyX11, rfl, tyX11_ok, nmX11, by decide +kernel, rfl, rfl⟩
theorem tyX11_force : jTy 9 14 (.array .int) true := ⟨RX11, TX11, 31, tyX11, rfl, tyX11_ok, nmX11, by decide +kernel, rfl, rfl⟩
theorem tyX11_tick : jTy 9 15 .int false := ⟨RX11, TX11, 31, tyX11, rfl, tyX11_ok, nmX11, by decide +kernel, rfl, rfl⟩
theorem tyX11_here : jTy 9 16 (.array .int) true := ⟨RX11, TX11, 31, tyX11, rfl, tyX11_ok, nmX11, by decide +kernel, rfl, rfl⟩
theorem tyX11_next : jTy 9 17 (.array .int) true := ⟨RX11, TX11, 31, tyX11, rfl, tyX11_ok, nmX11, by decide +kernel, rfl, rfl⟩
theorem tyX11_ahead : jTy 9 18 (.array .int) true := ⟨RX11, TX11, 31, tyX11, rfl, tyX11_ok, nmX11, by decide +kernel, rfl, rfl⟩
theorem tyX11_chordRoot : jTy 9 19 .int false := ⟨RX11, TX11, 31, tyX11, rfl, tyX11_ok, nmX11, by decide +kernel, rfl, rfl⟩
theorem tyX11_chordKind : jTy 9 20 .int false := ⟨RX11, TX11, 31, tyX11, rfl, tyX11_ok, nmX11, by decide +kernel, rfl, rfl⟩
theorem tyX11_chordInversion : jTy 9 21 .int false := ⟨RX11, TX11, 31, tyX11, rfl, tyX11_ok, nmX11, by decide +kernel, rfl, rfl⟩
theorem tyX11_wanted : jTy 9 22 .int false := ⟨RX11, TX11, 31, tyX11, rfl, tyX11_ok, nmX11, by decide +kernel, rfl, rfl⟩
theorem tyX11_counted : jTy 9 23 .int false := ⟨RX11, TX11, 31, tyX11, rfl, tyX11_ok, nmX11, by decide +kernel, rfl, rfl⟩
theorem tyX11_foundKind : jTy 9 24 .int false := ⟨RX11, TX11, 31, tyX11, rfl, tyX11_ok, nmX11, by decide +kernel, rfl, rfl⟩
theorem tyX11_foundTick : jTy 9 25 .int false := ⟨RX11, TX11, 31, tyX11, rfl, tyX11_ok, nmX11, by decide +kernel, rfl, rfl⟩
theorem tyX11_foundParts : jTy 9 26 .int false := ⟨RX11, TX11, 31, tyX11, rfl, tyX11_ok, nmX11, by decide +kernel, rfl, rfl⟩
theorem tyX11_widths : jTy 9 27 (.array .int) true := ⟨RX11, TX11, 31, tyX11, rfl, tyX11_ok, nmX11, by decide +kernel, rfl, rfl⟩
theorem tyX11_best : jTy 9 28 (.array .int) true := ⟨RX11, TX11, 31, tyX11, rfl, tyX11_ok, nmX11, by decide +kernel, rfl, rfl⟩
theorem tyX11_end : jTy 9 29 (.array .int) true := ⟨RX11, TX11, 31, tyX11, rfl, tyX11_ok, nmX11, by decide +kernel, rfl, rfl⟩
theorem tyX11_sum : jTy 9 30 .long false := ⟨RX11, TX11, 31, tyX11, rfl, tyX11_ok, nmX11, by decide +kernel, rfl, rfl⟩
abbrev mX0_init : jM := (RX0, cX0_init, 1, none, [], "<init>", { frames := 2, cells := 4, slots := 96, locals := 47 })
abbrev mX0_isBar : jM := (RX0, cX0_isBar, 1, some .boolean, [], "isBar", { frames := 0, cells := 0, slots := 0, locals := 0 })
abbrev mX0_changeMetre : jM := (RX0, cX0_changeMetre, 5, none, [], "changeMetre", { frames := 1, cells := 0, slots := 0, locals := 23 })
abbrev mX0_changeKey : jM := (RX0, cX0_changeKey, 4, none, [], "changeKey", { frames := 1, cells := 0, slots := 0, locals := 20 })
abbrev mX0_keyAt : jM := (RX0, cX0_keyAt, 2, some .int, [], "keyAt", { frames := 1, cells := 0, slots := 0, locals := 20 })
abbrev mX0_lengthAt : jM := (RX0, cX0_lengthAt, 2, some .int, [], "lengthAt", { frames := 1, cells := 0, slots := 0, locals := 20 })
abbrev mX0_beginAt : jM := (RX0, cX0_beginAt, 4, some .int, [], "beginAt", { frames := 0, cells := 0, slots := 0, locals := 0 })
abbrev mX0_end : jM := (RX0, cX0_end, 1, some .int, [], "end", { frames := 0, cells := 0, slots := 0, locals := 0 })
abbrev mX0_barAt : jM := (RX0, cX0_barAt, 4, some .int, [], "barAt", { frames := 0, cells := 0, slots := 0, locals := 0 })
abbrev mX0_barsUpTo : jM := (RX0, cX0_barsUpTo, 2, some .int, [], "barsUpTo", { frames := 1, cells := 0, slots := 0, locals := 23 })
abbrev mX0_ticksBehind : jM := (RX0, cX0_ticksBehind, 4, some .int, [], "ticksBehind", { frames := 2, cells := 0, slots := 0, locals := 41 })
abbrev mX0_groupLengthAt : jM := (RX0, cX0_groupLengthAt, 2, some .int, [], "groupLengthAt", { frames := 1, cells := 0, slots := 0, locals := 20 })
abbrev mX1_init : jM := (RX1, cX1_init, 1, none, [], "<init>", { frames := 1, cells := 0, slots := 0, locals := 20 })
abbrev mX1_rootClass : jM := (RX1, cX1_rootClass, 1, some .int, [], "rootClass", { frames := 0, cells := 0, slots := 0, locals := 0 })
abbrev mX1_kindNumber : jM := (RX1, cX1_kindNumber, 1, some .int, [], "kindNumber", { frames := 0, cells := 0, slots := 0, locals := 0 })
abbrev mX1_lowestTone : jM := (RX1, cX1_lowestTone, 1, some .int, [], "lowestTone", { frames := 0, cells := 0, slots := 0, locals := 0 })
abbrev mX1_tell : jM := (RX1, cX1_tell, 8, none, [], "tell", { frames := 2, cells := 0, slots := 0, locals := 50 })
abbrev mX1_forget : jM := (RX1, cX1_forget, 1, none, [], "forget", { frames := 0, cells := 0, slots := 0, locals := 0 })
abbrev mX1_findRoot : jM := (RX1, cX1_findRoot, 4, none, [], "findRoot", { frames := 1, cells := 0, slots := 0, locals := 27 })
abbrev mX1_findKind : jM := (RX1, cX1_findKind, 8, none, [], "findKind", { frames := 0, cells := 0, slots := 0, locals := 0 })
abbrev mX2_init : jM := (RX2, cX2_init, 1, none, [], "<init>", { frames := 1, cells := 7, slots := 7696, locals := 20 })
abbrev mX2_size : jM := (RX2, cX2_size, 1, some .int, [], "size", { frames := 0, cells := 0, slots := 0, locals := 0 })
abbrev mX2_has : jM := (RX2, cX2_has, 2, some .boolean, [], "has", { frames := 0, cells := 0, slots := 0, locals := 0 })
abbrev mX2_kindAt : jM := (RX2, cX2_kindAt, 2, some .int, [], "kindAt", { frames := 1, cells := 0, slots := 0, locals := 21 })
abbrev mX2_tickAt : jM := (RX2, cX2_tickAt, 2, some .int, [], "tickAt", { frames := 1, cells := 0, slots := 0, locals := 21 })
abbrev mX2_partsAt : jM := (RX2, cX2_partsAt, 2, some .int, [], "partsAt", { frames := 1, cells := 0, slots := 0, locals := 21 })
abbrev mX2_search : jM := (RX2, cX2_search, 6, none, [], "search", { frames := 3, cells := 0, slots := 0, locals := 68 })
abbrev mX2_add : jM := (RX2, cX2_add, 4, none, [], "add", { frames := 0, cells := 0, slots := 0, locals := 0 })
abbrev mX2_goOn : jM := (RX2, cX2_goOn, 6, none, [], "goOn", { frames := 2, cells := 0, slots := 0, locals := 43 })
abbrev mX2_searchParallels : jM := (RX2, cX2_searchParallels, 6, none, [], "searchParallels", { frames := 1, cells := 0, slots := 0, locals := 23 })
abbrev mX2_searchCrossings : jM := (RX2, cX2_searchCrossings, 5, none, [], "searchCrossings", { frames := 1, cells := 0, slots := 0, locals := 23 })
abbrev mX2_searchNote : jM := (RX2, cX2_searchNote, 5, none, [], "searchNote", { frames := 2, cells := 0, slots := 0, locals := 42 })
abbrev mX3_init : jM := (RX3, cX3_init, 1, none, [], "<init>", { frames := 1, cells := 3, slots := 2564, locals := 20 })
abbrev mX3_size : jM := (RX3, cX3_size, 1, some .int, [], "size", { frames := 0, cells := 0, slots := 0, locals := 0 })
abbrev mX3_has : jM := (RX3, cX3_has, 2, some .boolean, [], "has", { frames := 0, cells := 0, slots := 0, locals := 0 })
abbrev mX3_tickAt : jM := (RX3, cX3_tickAt, 2, some .int, [], "tickAt", { frames := 1, cells := 0, slots := 0, locals := 21 })
abbrev mX3_eventAt : jM := (RX3, cX3_eventAt, 3, some .int, [], "eventAt", { frames := 1, cells := 0, slots := 0, locals := 21 })
abbrev mX3_listen : jM := (RX3, cX3_listen, 5, none, [], "listen", { frames := 3, cells := 0, slots := 0, locals := 67 })
abbrev mX3_nextBegin : jM := (RX3, cX3_nextBegin, 6, some .int, [], "nextBegin", { frames := 2, cells := 0, slots := 0, locals := 42 })
abbrev mX3_eventGoingOn : jM := (RX3, cX3_eventGoingOn, 5, some .int, [], "eventGoingOn", { frames := 2, cells := 0, slots := 0, locals := 42 })
abbrev mX4_init : jM := (RX4, cX4_init, 1, none, [], "<init>", { frames := 1, cells := 4, slots := 97, locals := 20 })
abbrev mX4_size : jM := (RX4, cX4_size, 1, some .int, [], "size", { frames := 0, cells := 0, slots := 0, locals := 0 })
abbrev mX4_leastCost : jM := (RX4, cX4_leastCost, 1, some .int, [], "leastCost", { frames := 0, cells := 0, slots := 0, locals := 0 })
abbrev mX4_widthAt : jM := (RX4, cX4_widthAt, 2, some .int, [], "widthAt", { frames := 0, cells := 0, slots := 0, locals := 0 })
abbrev mX4_lineAt : jM := (RX4, cX4_lineAt, 2, some .int, [], "lineAt", { frames := 0, cells := 0, slots := 0, locals := 0 })
abbrev mX4_measureWidths : jM := (RX4, cX4_measureWidths, 9, none, [], "measureWidths", { frames := 2, cells := 0, slots := 0, locals := 42 })
abbrev mX4_widthOfGap : jM := (RX4, cX4_widthOfGap, 3, some .int, [], "widthOfGap", { frames := 0, cells := 0, slots := 0, locals := 0 })
abbrev mX4_breakUp : jM := (RX4, cX4_breakUp, 5, none, [], "breakUp", { frames := 1, cells := 0, slots := 0, locals := 28 })
abbrev mX4_chooseLine : jM := (RX4, cX4_chooseLine, 9, none, [], "chooseLine", { frames := 0, cells := 0, slots := 0, locals := 0 })
abbrev mX4_numberLines : jM := (RX4, cX4_numberLines, 4, none, [], "numberLines", { frames := 0, cells := 0, slots := 0, locals := 0 })
abbrev mX5_init : jM := (RX5, cX5_init, 1, none, [], "<init>", { frames := 1, cells := 9, slots := 1087, locals := 20 })
abbrev mX5_size : jM := (RX5, cX5_size, 1, some .int, [], "size", { frames := 0, cells := 0, slots := 0, locals := 0 })
abbrev mX5_beamTotal : jM := (RX5, cX5_beamTotal, 1, some .int, [], "beamTotal", { frames := 0, cells := 0, slots := 0, locals := 0 })
abbrev mX5_has : jM := (RX5, cX5_has, 2, some .boolean, [], "has", { frames := 0, cells := 0, slots := 0, locals := 0 })
abbrev mX5_eventAt : jM := (RX5, cX5_eventAt, 2, some .int, [], "eventAt", { frames := 1, cells := 0, slots := 0, locals := 21 })
abbrev mX5_lengthAt : jM := (RX5, cX5_lengthAt, 2, some .int, [], "lengthAt", { frames := 1, cells := 0, slots := 0, locals := 21 })
abbrev mX5_tiedAt : jM := (RX5, cX5_tiedAt, 2, some .boolean, [], "tiedAt", { frames := 1, cells := 0, slots := 0, locals := 21 })
abbrev mX5_shownAt : jM := (RX5, cX5_shownAt, 2, some .int, [], "shownAt", { frames := 1, cells := 0, slots := 0, locals := 21 })
abbrev mX5_shownAsWrittenAt : jM := (RX5, cX5_shownAsWrittenAt, 2, some .int, [], "shownAsWrittenAt", { frames := 1, cells := 0, slots := 0, locals := 21 })
abbrev mX5_beamAt : jM := (RX5, cX5_beamAt, 2, some .int, [], "beamAt", { frames := 1, cells := 0, slots := 0, locals := 21 })
abbrev mX5_write : jM := (RX5, cX5_write, 8, none, [], "write", { frames := 3, cells := 0, slots := 0, locals := 70 })
abbrev mX5_writeStretch : jM := (RX5, cX5_writeStretch, 7, none, [], "writeStretch", { frames := 1, cells := 0, slots := 0, locals := 23 })
abbrev mX5_addSign : jM := (RX5, cX5_addSign, 4, none, [], "addSign", { frames := 0, cells := 0, slots := 0, locals := 0 })
abbrev mX5_markSigns : jM := (RX5, cX5_markSigns, 6, none, [], "markSigns", { frames := 2, cells := 0, slots := 0, locals := 42 })
abbrev mX5_beamSigns : jM := (RX5, cX5_beamSigns, 7, none, [], "beamSigns", { frames := 2, cells := 0, slots := 0, locals := 42 })
abbrev mX5_joinToSignAhead : jM := (RX5, cX5_joinToSignAhead, 2, none, [], "joinToSignAhead", { frames := 1, cells := 0, slots := 0, locals := 21 })
abbrev mX5_showAlters : jM := (RX5, cX5_showAlters, 5, none, [], "showAlters", { frames := 2, cells := 0, slots := 0, locals := 46 })
abbrev mX5_showAltersAsWritten : jM := (RX5, cX5_showAltersAsWritten, 5, none, [], "showAltersAsWritten", { frames := 2, cells := 0, slots := 0, locals := 46 })
abbrev mX5_alterToShow : jM := (RX5, cX5_alterToShow, 5, some .int, [], "alterToShow", { frames := 1, cells := 0, slots := 0, locals := 22 })
abbrev mX6_init : jM := (RX6, cX6_init, 1, none, [], "<init>", { frames := 1, cells := 7, slots := 3584, locals := 20 })
abbrev mX6_size : jM := (RX6, cX6_size, 1, some .int, [], "size", { frames := 0, cells := 0, slots := 0, locals := 0 })
abbrev mX6_end : jM := (RX6, cX6_end, 1, some .int, [], "end", { frames := 0, cells := 0, slots := 0, locals := 0 })
abbrev mX6_has : jM := (RX6, cX6_has, 2, some .boolean, [], "has", { frames := 0, cells := 0, slots := 0, locals := 0 })
abbrev mX6_append : jM := (RX6, cX6_append, 5, some .int, [], "append", { frames := 4, cells := 0, slots := 0, locals := 91 })
abbrev mX6_removeLast : jM := (RX6, cX6_removeLast, 2, some .int, [], "removeLast", { frames := 1, cells := 0, slots := 0, locals := 21 })
abbrev mX6_givePitch : jM := (RX6, cX6_givePitch, 4, none, [], "givePitch", { frames := 3, cells := 0, slots := 0, locals := 68 })
abbrev mX6_writeForInstrument : jM := (RX6, cX6_writeForInstrument, 5, none, [], "writeForInstrument", { frames := 2, cells := 0, slots := 0, locals := 44 })
abbrev mX6_changeRange : jM := (RX6, cX6_changeRange, 3, none, [], "changeRange", { frames := 0, cells := 0, slots := 0, locals := 0 })
abbrev mX6_changeShift : jM := (RX6, cX6_changeShift, 4, none, [], "changeShift", { frames := 3, cells := 0, slots := 0, locals := 68 })
abbrev mX6_isNote : jM := (RX6, cX6_isNote, 2, some .boolean, [], "isNote", { frames := 1, cells := 0, slots := 0, locals := 21 })
abbrev mX6_placeAt : jM := (RX6, cX6_placeAt, 2, some .int, [], "placeAt", { frames := 1, cells := 0, slots := 0, locals := 21 })
abbrev mX6_alterAt : jM := (RX6, cX6_alterAt, 2, some .int, [], "alterAt", { frames := 1, cells := 0, slots := 0, locals := 21 })
abbrev mX6_heightAt : jM := (RX6, cX6_heightAt, 2, some .int, [], "heightAt", { frames := 1, cells := 0, slots := 0, locals := 21 })
abbrev mX6_beginAt : jM := (RX6, cX6_beginAt, 2, some .int, [], "beginAt", { frames := 1, cells := 0, slots := 0, locals := 21 })
abbrev mX6_endAt : jM := (RX6, cX6_endAt, 2, some .int, [], "endAt", { frames := 1, cells := 0, slots := 0, locals := 21 })
abbrev mX6_firstEndingBehind : jM := (RX6, cX6_firstEndingBehind, 6, some .int, [], "firstEndingBehind", { frames := 2, cells := 0, slots := 0, locals := 42 })
abbrev mX6_isOutOfRange : jM := (RX6, cX6_isOutOfRange, 2, some .boolean, [], "isOutOfRange", { frames := 1, cells := 0, slots := 0, locals := 21 })
abbrev mX6_writtenPlaceAt : jM := (RX6, cX6_writtenPlaceAt, 2, some .int, [], "writtenPlaceAt", { frames := 1, cells := 0, slots := 0, locals := 21 })
abbrev mX6_writtenAlterAt : jM := (RX6, cX6_writtenAlterAt, 2, some .int, [], "writtenAlterAt", { frames := 1, cells := 0, slots := 0, locals := 21 })
abbrev mX6_keyAsWritten : jM := (RX6, cX6_keyAsWritten, 3, some .int, [], "keyAsWritten", { frames := 0, cells := 0, slots := 0, locals := 0 })
abbrev mX6_notes : jM := (RX6, cX6_notes, 3, some .int, [], "notes", { frames := 2, cells := 0, slots := 0, locals := 42 })
abbrev mX6_notesOutOfRange : jM := (RX6, cX6_notesOutOfRange, 3, some .int, [], "notesOutOfRange", { frames := 2, cells := 0, slots := 0, locals := 42 })
abbrev mX6_notesWithoutWrittenPitch : jM := (RX6, cX6_notesWithoutWrittenPitch, 3, some .int, [], "notesWithoutWrittenPitch", { frames := 2, cells := 0, slots := 0, locals := 42 })
abbrev mX6_sumOfHeights : jM := (RX6, cX6_sumOfHeights, 3, some .int, [], "sumOfHeights", { frames := 2, cells := 0, slots := 0, locals := 42 })
abbrev mX7_isPitch : jM := (RX7, cX7_isPitch, 2, some .boolean, [], "isPitch", { frames := 0, cells := 0, slots := 0, locals := 0 })
abbrev mX7_plainHeight : jM := (RX7, cX7_plainHeight, 3, some .int, [], "plainHeight", { frames := 1, cells := 0, slots := 0, locals := 22 })
abbrev mX7_alterByKey : jM := (RX7, cX7_alterByKey, 3, some .int, [], "alterByKey", { frames := 0, cells := 0, slots := 0, locals := 0 })
abbrev mX8_isValue : jM := (RX8, cX8_isValue, 2, some .boolean, [], "isValue", { frames := 0, cells := 0, slots := 0, locals := 0 })
abbrev mX8_greatestIn : jM := (RX8, cX8_greatestIn, 2, some .int, [], "greatestIn", { frames := 0, cells := 0, slots := 0, locals := 0 })
abbrev mX9_init : jM := (RX9, cX9_init, 2, none, [], "<init>", { frames := 3, cells := 66, slots := 25968, locals := 67 })
abbrev mX9_addNote : jM := (RX9, cX9_addNote, 6, some .int, [], "addNote", { frames := 7, cells := 1, slots := 6, locals := 115 })
abbrev mX9_addRest : jM := (RX9, cX9_addRest, 4, some .int, [], "addRest", { frames := 7, cells := 1, slots := 6, locals := 115 })
abbrev mX9_takeLast : jM := (RX9, cX9_takeLast, 3, some .int, [], "takeLast", { frames := 7, cells := 1, slots := 6, locals := 111 })
abbrev mX9_setPitch : jM := (RX9, cX9_setPitch, 7, some .int, [], "setPitch", { frames := 8, cells := 1, slots := 6, locals := 134 })
abbrev mX9_setMetre : jM := (RX9, cX9_setMetre, 4, some .int, [], "setMetre", { frames := 7, cells := 1, slots := 6, locals := 110 })
abbrev mX9_setKey : jM := (RX9, cX9_setKey, 4, some .int, [], "setKey", { frames := 7, cells := 1, slots := 6, locals := 110 })
abbrev mX9_setRange : jM := (RX9, cX9_setRange, 5, some .int, [], "setRange", { frames := 7, cells := 1, slots := 6, locals := 111 })
abbrev mX9_setShift : jM := (RX9, cX9_setShift, 5, some .int, [], "setShift", { frames := 7, cells := 1, slots := 6, locals := 111 })
abbrev mX9_events : jM := (RX9, cX9_events, 2, some .int, [], "events", { frames := 7, cells := 1, slots := 6, locals := 111 })
abbrev mX9_beginOf : jM := (RX9, cX9_beginOf, 3, some .int, [], "beginOf", { frames := 8, cells := 1, slots := 6, locals := 134 })
abbrev mX9_heightOf : jM := (RX9, cX9_heightOf, 3, some .int, [], "heightOf", { frames := 8, cells := 1, slots := 6, locals := 134 })
abbrev mX9_barOf : jM := (RX9, cX9_barOf, 3, some .int, [], "barOf", { frames := 8, cells := 1, slots := 6, locals := 134 })
abbrev mX9_writtenPlace : jM := (RX9, cX9_writtenPlace, 3, some .int, [], "writtenPlace", { frames := 8, cells := 1, slots := 6, locals := 134 })
abbrev mX9_writtenAlter : jM := (RX9, cX9_writtenAlter, 3, some .int, [], "writtenAlter", { frames := 8, cells := 1, slots := 6, locals := 134 })
abbrev mX9_alterIn : jM := (RX9, cX9_alterIn, 3, some .int, [], "alterIn", { frames := 7, cells := 1, slots := 6, locals := 110 })
abbrev mX9_writtenKey : jM := (RX9, cX9_writtenKey, 4, some .int, [], "writtenKey", { frames := 7, cells := 1, slots := 6, locals := 111 })
abbrev mX9_beginOfBar : jM := (RX9, cX9_beginOfBar, 2, some .int, [], "beginOfBar", { frames := 7, cells := 1, slots := 6, locals := 110 })
abbrev mX9_lengthOfBar : jM := (RX9, cX9_lengthOfBar, 2, some .int, [], "lengthOfBar", { frames := 7, cells := 1, slots := 6, locals := 110 })
abbrev mX9_signs : jM := (RX9, cX9_signs, 3, some .int, [], "signs", { frames := 8, cells := 1, slots := 6, locals := 134 })
abbrev mX9_eventOf : jM := (RX9, cX9_eventOf, 4, some .int, [], "eventOf", { frames := 9, cells := 1, slots := 6, locals := 158 })
abbrev mX9_lengthOf : jM := (RX9, cX9_lengthOf, 4, some .int, [], "lengthOf", { frames := 9, cells := 1, slots := 6, locals := 158 })
abbrev mX9_isTied : jM := (RX9, cX9_isTied, 4, some .boolean, [], "isTied", { frames := 9, cells := 1, slots := 6, locals := 158 })
abbrev mX9_shown : jM := (RX9, cX9_shown, 4, some .int, [], "shown", { frames := 9, cells := 1, slots := 6, locals := 158 })
abbrev mX9_shownWritten : jM := (RX9, cX9_shownWritten, 4, some .int, [], "shownWritten", { frames := 9, cells := 1, slots := 6, locals := 158 })
abbrev mX9_beams : jM := (RX9, cX9_beams, 3, some .int, [], "beams", { frames := 8, cells := 1, slots := 6, locals := 134 })
abbrev mX9_beamOf : jM := (RX9, cX9_beamOf, 4, some .int, [], "beamOf", { frames := 9, cells := 1, slots := 6, locals := 158 })
abbrev mX9_missing : jM := (RX9, cX9_missing, 4, some .int, [], "missing", { frames := 7, cells := 1, slots := 6, locals := 111 })
abbrev mX9_moments : jM := (RX9, cX9_moments, 1, some .int, [], "moments", { frames := 5, cells := 0, slots := 0, locals := 111 })
abbrev mX9_tickOf : jM := (RX9, cX9_tickOf, 2, some .int, [], "tickOf", { frames := 7, cells := 1, slots := 6, locals := 132 })
abbrev mX9_sounds : jM := (RX9, cX9_sounds, 3, some .int, [], "sounds", { frames := 7, cells := 1, slots := 6, locals := 132 })
abbrev mX9_root : jM := (RX9, cX9_root, 2, some .int, [], "root", { frames := 7, cells := 1, slots := 6, locals := 132 })
abbrev mX9_kind : jM := (RX9, cX9_kind, 2, some .int, [], "kind", { frames := 7, cells := 1, slots := 6, locals := 132 })
abbrev mX9_inversion : jM := (RX9, cX9_inversion, 2, some .int, [], "inversion", { frames := 7, cells := 1, slots := 6, locals := 132 })
abbrev mX9_faults : jM := (RX9, cX9_faults, 1, some .int, [], "faults", { frames := 6, cells := 0, slots := 0, locals := 131 })
abbrev mX9_kindOfFault : jM := (RX9, cX9_kindOfFault, 2, some .int, [], "kindOfFault", { frames := 7, cells := 1, slots := 6, locals := 131 })
abbrev mX9_tickOfFault : jM := (RX9, cX9_tickOfFault, 2, some .int, [], "tickOfFault", { frames := 7, cells := 1, slots := 6, locals := 131 })
abbrev mX9_partsOfFault : jM := (RX9, cX9_partsOfFault, 2, some .int, [], "partsOfFault", { frames := 7, cells := 1, slots := 6, locals := 131 })
abbrev mX9_faultsIfUp : jM := (RX9, cX9_faultsIfUp, 6, some .int, [], "faultsIfUp", { frames := 8, cells := 1, slots := 6, locals := 134 })
abbrev mX9_bars : jM := (RX9, cX9_bars, 1, some .int, [], "bars", { frames := 2, cells := 0, slots := 0, locals := 44 })
abbrev mX9_widthOf : jM := (RX9, cX9_widthOf, 2, some .int, [], "widthOf", { frames := 7, cells := 1, slots := 6, locals := 131 })
abbrev mX9_lines : jM := (RX9, cX9_lines, 2, some .int, [], "lines", { frames := 7, cells := 1, slots := 6, locals := 131 })
abbrev mX9_lineOf : jM := (RX9, cX9_lineOf, 3, some .int, [], "lineOf", { frames := 7, cells := 1, slots := 6, locals := 131 })
abbrev mX9_costOf : jM := (RX9, cX9_costOf, 2, some .int, [], "costOf", { frames := 7, cells := 1, slots := 6, locals := 131 })
abbrev mX9_meanHeight : jM := (RX9, cX9_meanHeight, 4, some .double, [], "meanHeight", { frames := 3, cells := 0, slots := 0, locals := 64 })
abbrev mX9_digest : jM := (RX9, cX9_digest, 4, some .long, [], "digest", { frames := 9, cells := 1, slots := 6, locals := 159 })
abbrev mX9_mix : jM := (RX9, cX9_mix, 4, some .long, [], "mix", { frames := 0, cells := 0, slots := 0, locals := 0 })
abbrev mX9_mixPart : jM := (RX9, cX9_mixPart, 5, some .long, [], "mixPart", { frames := 2, cells := 0, slots := 0, locals := 42 })
abbrev mX9_mixBar : jM := (RX9, cX9_mixBar, 6, some .long, [], "mixBar", { frames := 8, cells := 1, slots := 6, locals := 134 })
abbrev mX9_mixSigns : jM := (RX9, cX9_mixSigns, 5, some .long, [], "mixSigns", { frames := 2, cells := 0, slots := 0, locals := 42 })
abbrev mX9_mixMoments : jM := (RX9, cX9_mixMoments, 5, some .long, [], "mixMoments", { frames := 4, cells := 0, slots := 0, locals := 98 })
abbrev mX9_mixFaults : jM := (RX9, cX9_mixFaults, 4, some .long, [], "mixFaults", { frames := 2, cells := 0, slots := 0, locals := 42 })
abbrev mX9_mixLines : jM := (RX9, cX9_mixLines, 4, some .long, [], "mixLines", { frames := 3, cells := 0, slots := 0, locals := 73 })
abbrev mX9_forgetWhatFollows : jM := (RX9, cX9_forgetWhatFollows, 1, none, [], "forgetWhatFollows", { frames := 0, cells := 0, slots := 0, locals := 0 })
abbrev mX9_hear : jM := (RX9, cX9_hear, 1, none, [], "hear", { frames := 4, cells := 0, slots := 0, locals := 91 })
abbrev mX9_searchFaults : jM := (RX9, cX9_searchFaults, 1, none, [], "searchFaults", { frames := 5, cells := 0, slots := 0, locals := 111 })
abbrev mX9_measureWidths : jM := (RX9, cX9_measureWidths, 1, none, [], "measureWidths", { frames := 5, cells := 0, slots := 0, locals := 111 })
abbrev mX9_breakLines : jM := (RX9, cX9_breakLines, 2, none, [], "breakLines", { frames := 2, cells := 0, slots := 0, locals := 52 })
abbrev mX9_lastEnd : jM := (RX9, cX9_lastEnd, 3, some .int, [], "lastEnd", { frames := 1, cells := 0, slots := 0, locals := 21 })
abbrev mX9_allEvents : jM := (RX9, cX9_allEvents, 3, some .int, [], "allEvents", { frames := 1, cells := 0, slots := 0, locals := 20 })
abbrev mX9_partAt : jM := (RX9, cX9_partAt, 2, some (.object "ChoraleDesk$Part"), [], "partAt", { frames := 6, cells := 1, slots := 6, locals := 90 })
abbrev mX9_partWith : jM := (RX9, cX9_partWith, 4, some (.object "ChoraleDesk$Part"), [], "partWith", { frames := 7, cells := 1, slots := 6, locals := 111 })
abbrev mX9_measureAt : jM := (RX9, cX9_measureAt, 4, some (.object "ChoraleDesk$Measure"), [], "measureAt", { frames := 7, cells := 1, slots := 6, locals := 111 })
abbrev mX9_measureWith : jM := (RX9, cX9_measureWith, 5, some (.object "ChoraleDesk$Measure"), [], "measureWith", { frames := 8, cells := 1, slots := 6, locals := 134 })
abbrev mX9_chordAt : jM := (RX9, cX9_chordAt, 2, some (.object "ChoraleDesk$Chord"), [], "chordAt", { frames := 3, cells := 0, slots := 0, locals := 77 })
abbrev mX9_checkMoment : jM := (RX9, cX9_checkMoment, 2, none, [], "checkMoment", { frames := 6, cells := 1, slots := 6, locals := 111 })
abbrev mX9_checkFault : jM := (RX9, cX9_checkFault, 2, none, [], "checkFault", { frames := 6, cells := 1, slots := 6, locals := 90 })
abbrev mX9_checkRoom : jM := (RX9, cX9_checkRoom, 3, none, [], "checkRoom", { frames := 6, cells := 1, slots := 6, locals := 90 })
abbrev mX9_checkNote : jM := (RX9, cX9_checkNote, 2, none, [], "checkNote", { frames := 6, cells := 1, slots := 6, locals := 90 })
abbrev mX9_checkBar : jM := (RX9, cX9_checkBar, 1, none, [], "checkBar", { frames := 6, cells := 1, slots := 6, locals := 90 })
abbrev mX9_checkPitch : jM := (RX9, cX9_checkPitch, 2, none, [], "checkPitch", { frames := 6, cells := 1, slots := 6, locals := 90 })
abbrev mX9_checkValue : jM := (RX9, cX9_checkValue, 1, none, [], "checkValue", { frames := 6, cells := 1, slots := 6, locals := 90 })
abbrev mX9_checkKey : jM := (RX9, cX9_checkKey, 1, none, [], "checkKey", { frames := 6, cells := 1, slots := 6, locals := 90 })
abbrev mX9_checkWidth : jM := (RX9, cX9_checkWidth, 1, none, [], "checkWidth", { frames := 6, cells := 1, slots := 6, locals := 90 })
abbrev mX10_init : jM := (RX10, cX10_init, 1, none, [], "<init>", { frames := 1, cells := 4, slots := 64, locals := 20 })
abbrev mX10_end : jM := (RX10, cX10_end, 1, some .int, [], "end", { frames := 1, cells := 0, slots := 0, locals := 21 })
abbrev mX10_endOf : jM := (RX10, cX10_endOf, 2, some .int, [], "endOf", { frames := 0, cells := 0, slots := 0, locals := 0 })
abbrev mX10_add : jM := (RX10, cX10_add, 4, none, [], "add", { frames := 2, cells := 4, slots := 2048, locals := 82 })
abbrev mX10_isNote : jM := (RX10, cX10_isNote, 2, some .boolean, [], "isNote", { frames := 0, cells := 0, slots := 0, locals := 0 })
abbrev mX10_height : jM := (RX10, cX10_height, 2, some .int, [], "height", { frames := 2, cells := 0, slots := 0, locals := 42 })
abbrev mX10_isOut : jM := (RX10, cX10_isOut, 2, some .boolean, [], "isOut", { frames := 1, cells := 0, slots := 0, locals := 21 })
abbrev mX10_writtenPlace : jM := (RX10, cX10_writtenPlace, 2, some .int, [], "writtenPlace", { frames := 0, cells := 0, slots := 0, locals := 0 })
abbrev mX10_writtenAlter : jM := (RX10, cX10_writtenAlter, 2, some .int, [], "writtenAlter", { frames := 3, cells := 0, slots := 0, locals := 63 })
abbrev mX10_isWritten : jM := (RX10, cX10_isWritten, 2, some .boolean, [], "isWritten", { frames := 4, cells := 0, slots := 0, locals := 84 })
abbrev mX11_base : jM := (RX11, cX11_base, 1, some .int, [], "base", { frames := 1, cells := 0, slots := 0, locals := 22 })
abbrev mX11_is : jM := (RX11, cX11_is, 3, some .boolean, [], "is", { frames := 0, cells := 0, slots := 0, locals := 0 })
abbrev mX11_init : jM := (RX11, cX11_init, 2, none, [], "<init>", { frames := 2, cells := 38, slots := 6117, locals := 40 })
abbrev mX11_thrown : jM := (RX11, cX11_thrown, 1, some .int, [], "thrown", { frames := 0, cells := 0, slots := 0, locals := 0 })
abbrev mX11_refuse : jM := (RX11, cX11_refuse, 2, some .int, [], "refuse", { frames := 0, cells := 0, slots := 0, locals := 0 })
abbrev mX11_isPart : jM := (RX11, cX11_isPart, 1, some .boolean, [], "isPart", { frames := 1, cells := 0, slots := 0, locals := 22 })
abbrev mX11_isBar : jM := (RX11, cX11_isBar, 1, some .boolean, [], "isBar", { frames := 1, cells := 0, slots := 0, locals := 22 })
abbrev mX11_isEvent : jM := (RX11, cX11_isEvent, 3, some .boolean, [], "isEvent", { frames := 2, cells := 0, slots := 0, locals := 42 })
abbrev mX11_isPitch : jM := (RX11, cX11_isPitch, 2, some .boolean, [], "isPitch", { frames := 1, cells := 0, slots := 0, locals := 22 })
abbrev mX11_isValue : jM := (RX11, cX11_isValue, 6, some .boolean, [], "isValue", { frames := 0, cells := 0, slots := 0, locals := 0 })
abbrev mX11_length : jM := (RX11, cX11_length, 2, some .int, [], "length", { frames := 0, cells := 0, slots := 0, locals := 0 })
abbrev mX11_begin : jM := (RX11, cX11_begin, 4, some .int, [], "begin", { frames := 1, cells := 0, slots := 0, locals := 21 })
abbrev mX11_add : jM := (RX11, cX11_add, 5, some .int, [], "add", { frames := 3, cells := 4, slots := 2048, locals := 105 })
abbrev mX11_addNote : jM := (RX11, cX11_addNote, 5, some .int, [], "addNote", { frames := 4, cells := 4, slots := 2048, locals := 129 })
abbrev mX11_addRest : jM := (RX11, cX11_addRest, 3, some .int, [], "addRest", { frames := 4, cells := 4, slots := 2048, locals := 129 })
abbrev mX11_takeLast : jM := (RX11, cX11_takeLast, 3, some .int, [], "takeLast", { frames := 2, cells := 0, slots := 0, locals := 42 })
abbrev mX11_setPitch : jM := (RX11, cX11_setPitch, 7, some .int, [], "setPitch", { frames := 3, cells := 0, slots := 0, locals := 64 })
abbrev mX11_setMetre : jM := (RX11, cX11_setMetre, 5, some .int, [], "setMetre", { frames := 2, cells := 0, slots := 0, locals := 42 })
abbrev mX11_setKey : jM := (RX11, cX11_setKey, 5, some .int, [], "setKey", { frames := 2, cells := 0, slots := 0, locals := 42 })
abbrev mX11_setRange : jM := (RX11, cX11_setRange, 7, some .int, [], "setRange", { frames := 2, cells := 0, slots := 0, locals := 42 })
abbrev mX11_setShift : jM := (RX11, cX11_setShift, 7, some .int, [], "setShift", { frames := 5, cells := 0, slots := 0, locals := 105 })
abbrev mX11_events : jM := (RX11, cX11_events, 2, some .int, [], "events", { frames := 2, cells := 0, slots := 0, locals := 42 })
abbrev mX11_beginOf : jM := (RX11, cX11_beginOf, 3, some .int, [], "beginOf", { frames := 3, cells := 0, slots := 0, locals := 64 })
abbrev mX11_heightNow : jM := (RX11, cX11_heightNow, 3, some .int, [], "heightNow", { frames := 3, cells := 0, slots := 0, locals := 63 })
abbrev mX11_heightOf : jM := (RX11, cX11_heightOf, 3, some .int, [], "heightOf", { frames := 4, cells := 0, slots := 0, locals := 85 })
abbrev mX11_barAt : jM := (RX11, cX11_barAt, 4, some .int, [], "barAt", { frames := 1, cells := 0, slots := 0, locals := 21 })
abbrev mX11_barOf : jM := (RX11, cX11_barOf, 3, some .int, [], "barOf", { frames := 3, cells := 0, slots := 0, locals := 64 })
abbrev mX11_writtenPlaceNow : jM := (RX11, cX11_writtenPlaceNow, 3, some .int, [], "writtenPlaceNow", { frames := 5, cells := 0, slots := 0, locals := 105 })
abbrev mX11_writtenAlterNow : jM := (RX11, cX11_writtenAlterNow, 3, some .int, [], "writtenAlterNow", { frames := 5, cells := 0, slots := 0, locals := 105 })
abbrev mX11_writtenPlace : jM := (RX11, cX11_writtenPlace, 3, some .int, [], "writtenPlace", { frames := 6, cells := 0, slots := 0, locals := 127 })
abbrev mX11_writtenAlter : jM := (RX11, cX11_writtenAlter, 3, some .int, [], "writtenAlter", { frames := 6, cells := 0, slots := 0, locals := 127 })
abbrev mX11_altered : jM := (RX11, cX11_altered, 3, some .int, [], "altered", { frames := 1, cells := 0, slots := 0, locals := 21 })
abbrev mX11_alterIn : jM := (RX11, cX11_alterIn, 3, some .int, [], "alterIn", { frames := 2, cells := 0, slots := 0, locals := 43 })
abbrev mX11_keyWritten : jM := (RX11, cX11_keyWritten, 4, some .int, [], "keyWritten", { frames := 0, cells := 0, slots := 0, locals := 0 })
abbrev mX11_writtenKey : jM := (RX11, cX11_writtenKey, 3, some .int, [], "writtenKey", { frames := 2, cells := 0, slots := 0, locals := 42 })
abbrev mX11_beginOfBar : jM := (RX11, cX11_beginOfBar, 2, some .int, [], "beginOfBar", { frames := 2, cells := 0, slots := 0, locals := 44 })
abbrev mX11_lengthOfBar : jM := (RX11, cX11_lengthOfBar, 2, some .int, [], "lengthOfBar", { frames := 2, cells := 0, slots := 0, locals := 42 })
abbrev mX11_lay : jM := (RX11, cX11_lay, 11, none, [], "lay", { frames := 6, cells := 0, slots := 0, locals := 135 })
abbrev mX11_show : jM := (RX11, cX11_show, 11, none, [], "show", { frames := 5, cells := 0, slots := 0, locals := 105 })
abbrev mX11_beam : jM := (RX11, cX11_beam, 8, none, [], "beam", { frames := 2, cells := 0, slots := 0, locals := 43 })
abbrev mX11_isShort : jM := (RX11, cX11_isShort, 3, some .boolean, [], "isShort", { frames := 1, cells := 0, slots := 0, locals := 21 })
abbrev mX11_has : jM := (RX11, cX11_has, 3, some .boolean, [], "has", { frames := 7, cells := 0, slots := 0, locals := 165 })
abbrev mX11_has_ : jM := (RX11, cX11_has_, 4, some .boolean, [], "has", { frames := 8, cells := 0, slots := 0, locals := 187 })
abbrev mX11_signs : jM := (RX11, cX11_signs, 3, some .int, [], "signs", { frames := 8, cells := 0, slots := 0, locals := 187 })
abbrev mX11_eventOf : jM := (RX11, cX11_eventOf, 4, some .int, [], "eventOf", { frames := 9, cells := 0, slots := 0, locals := 210 })
abbrev mX11_lengthOf : jM := (RX11, cX11_lengthOf, 4, some .int, [], "lengthOf", { frames := 9, cells := 0, slots := 0, locals := 210 })
abbrev mX11_isTied : jM := (RX11, cX11_isTied, 4, some .boolean, [], "isTied", { frames := 9, cells := 0, slots := 0, locals := 210 })
abbrev mX11_shown : jM := (RX11, cX11_shown, 4, some .int, [], "shown", { frames := 9, cells := 0, slots := 0, locals := 210 })
abbrev mX11_shownWritten : jM := (RX11, cX11_shownWritten, 4, some .int, [], "shownWritten", { frames := 9, cells := 0, slots := 0, locals := 210 })
abbrev mX11_beams : jM := (RX11, cX11_beams, 3, some .int, [], "beams", { frames := 8, cells := 0, slots := 0, locals := 187 })
abbrev mX11_beamOf : jM := (RX11, cX11_beamOf, 4, some .int, [], "beamOf", { frames := 9, cells := 0, slots := 0, locals := 210 })
abbrev mX11_missingNow : jM := (RX11, cX11_missingNow, 3, some .int, [], "missingNow", { frames := 2, cells := 0, slots := 0, locals := 44 })
abbrev mX11_missing : jM := (RX11, cX11_missing, 3, some .int, [], "missing", { frames := 3, cells := 0, slots := 0, locals := 66 })
abbrev mX11_beginWalk : jM := (RX11, cX11_beginWalk, 2, none, [], "beginWalk", { frames := 0, cells := 0, slots := 0, locals := 0 })
abbrev mX11_walk : jM := (RX11, cX11_walk, 3, some .boolean, [], "walk", { frames := 1, cells := 0, slots := 0, locals := 21 })
abbrev mX11_soundsNow : jM := (RX11, cX11_soundsNow, 2, some .int, [], "soundsNow", { frames := 4, cells := 0, slots := 0, locals := 85 })
abbrev mX11_begins : jM := (RX11, cX11_begins, 2, some .boolean, [], "begins", { frames := 0, cells := 0, slots := 0, locals := 0 })
abbrev mX11_momentsNow : jM := (RX11, cX11_momentsNow, 2, some .int, [], "momentsNow", { frames := 2, cells := 0, slots := 0, locals := 43 })
abbrev mX11_moments : jM := (RX11, cX11_moments, 1, some .int, [], "moments", { frames := 3, cells := 0, slots := 0, locals := 64 })
abbrev mX11_walkTo : jM := (RX11, cX11_walkTo, 3, some .boolean, [], "walkTo", { frames := 2, cells := 0, slots := 0, locals := 43 })
abbrev mX11_tickOf : jM := (RX11, cX11_tickOf, 2, some .int, [], "tickOf", { frames := 3, cells := 0, slots := 0, locals := 65 })
abbrev mX11_sounds : jM := (RX11, cX11_sounds, 3, some .int, [], "sounds", { frames := 5, cells := 0, slots := 0, locals := 106 })
abbrev mX11_findChord : jM := (RX11, cX11_findChord, 7, none, [], "findChord", { frames := 5, cells := 2, slots := 8, locals := 106 })
abbrev mX11_root : jM := (RX11, cX11_root, 2, some .int, [], "root", { frames := 6, cells := 2, slots := 8, locals := 132 })
abbrev mX11_kind : jM := (RX11, cX11_kind, 2, some .int, [], "kind", { frames := 6, cells := 2, slots := 8, locals := 132 })
abbrev mX11_inversion : jM := (RX11, cX11_inversion, 2, some .int, [], "inversion", { frames := 6, cells := 2, slots := 8, locals := 132 })
abbrev mX11_blame : jM := (RX11, cX11_blame, 3, none, [], "blame", { frames := 0, cells := 0, slots := 0, locals := 0 })
abbrev mX11_countFaults : jM := (RX11, cX11_countFaults, 4, some .int, [], "countFaults", { frames := 6, cells := 0, slots := 0, locals := 131 })
abbrev mX11_blameParallels : jM := (RX11, cX11_blameParallels, 6, none, [], "blameParallels", { frames := 5, cells := 0, slots := 0, locals := 106 })
abbrev mX11_blamePart : jM := (RX11, cX11_blamePart, 3, none, [], "blamePart", { frames := 3, cells := 0, slots := 0, locals := 63 })
abbrev mX11_faults : jM := (RX11, cX11_faults, 1, some .int, [], "faults", { frames := 7, cells := 0, slots := 0, locals := 154 })
abbrev mX11_hasFault : jM := (RX11, cX11_hasFault, 2, some .boolean, [], "hasFault", { frames := 7, cells := 0, slots := 0, locals := 154 })
abbrev mX11_kindOfFault : jM := (RX11, cX11_kindOfFault, 2, some .int, [], "kindOfFault", { frames := 8, cells := 0, slots := 0, locals := 175 })
abbrev mX11_tickOfFault : jM := (RX11, cX11_tickOfFault, 2, some .int, [], "tickOfFault", { frames := 8, cells := 0, slots := 0, locals := 175 })
abbrev mX11_partsOfFault : jM := (RX11, cX11_partsOfFault, 2, some .int, [], "partsOfFault", { frames := 8, cells := 0, slots := 0, locals := 175 })
abbrev mX11_faultsIfUp : jM := (RX11, cX11_faultsIfUp, 5, some .int, [], "faultsIfUp", { frames := 7, cells := 0, slots := 0, locals := 154 })
abbrev mX11_barsNow : jM := (RX11, cX11_barsNow, 6, some .int, [], "barsNow", { frames := 2, cells := 0, slots := 0, locals := 44 })
abbrev mX11_bars : jM := (RX11, cX11_bars, 1, some .int, [], "bars", { frames := 3, cells := 0, slots := 0, locals := 69 })
abbrev mX11_width : jM := (RX11, cX11_width, 12, some .int, [], "width", { frames := 2, cells := 0, slots := 0, locals := 44 })
abbrev mX11_widthOf : jM := (RX11, cX11_widthOf, 2, some .int, [], "widthOf", { frames := 3, cells := 0, slots := 0, locals := 75 })
abbrev mX11_breakLines : jM := (RX11, cX11_breakLines, 7, some .int, [], "breakLines", { frames := 3, cells := 0, slots := 0, locals := 75 })
abbrev mX11_linesNow : jM := (RX11, cX11_linesNow, 5, some .int, [], "linesNow", { frames := 4, cells := 0, slots := 0, locals := 101 })
abbrev mX11_lines : jM := (RX11, cX11_lines, 2, some .int, [], "lines", { frames := 5, cells := 0, slots := 0, locals := 125 })
abbrev mX11_lineOf : jM := (RX11, cX11_lineOf, 5, some .int, [], "lineOf", { frames := 4, cells := 0, slots := 0, locals := 101 })
abbrev mX11_costNow : jM := (RX11, cX11_costNow, 2, some .int, [], "costNow", { frames := 4, cells := 0, slots := 0, locals := 101 })
abbrev mX11_costOf : jM := (RX11, cX11_costOf, 2, some .int, [], "costOf", { frames := 5, cells := 0, slots := 0, locals := 122 })
abbrev mX11_meanHeight : jM := (RX11, cX11_meanHeight, 8, some .double, [], "meanHeight", { frames := 3, cells := 0, slots := 0, locals := 63 })
abbrev mX11_add_ : jM := (RX11, cX11_add_, 2, none, [], "add", { frames := 0, cells := 0, slots := 0, locals := 0 })
abbrev mX11_addSigns : jM := (RX11, cX11_addSigns, 4, none, [], "addSigns", { frames := 7, cells := 0, slots := 0, locals := 165 })
abbrev mX11_digest : jM := (RX11, cX11_digest, 3, some .long, [], "digest", { frames := 8, cells := 1024, slots := 4096, locals := 188 })
abbrev mJ6_compare_7cf53 : jM := (RJ6, cJ6_compare_7cf53, 2, some .int, [], "compare", { frames := 0, cells := 0, slots := 0, locals := 0 })
abbrev mJ6_bitCount_0f7a4 : jM := (RJ6, cJ6_bitCount_0f7a4, 1, some .int, [], "bitCount", { frames := 0, cells := 0, slots := 0, locals := 0 })
abbrev mJ9_floorDiv_7cf53 : jM := (RJ9, cJ9_floorDiv_7cf53, 3, some .int, [], "floorDiv", { frames := 0, cells := 0, slots := 0, locals := 0 })
abbrev mJ9_floorMod_7cf53 : jM := (RJ9, cJ9_floorMod_7cf53, 3, some .int, [], "floorMod", { frames := 0, cells := 0, slots := 0, locals := 0 })
abbrev mJ9_abs_0f7a4 : jM := (RJ9, cJ9_abs_0f7a4, 1, some .int, [], "abs", { frames := 0, cells := 0, slots := 0, locals := 0 })
abbrev mJ9_max_7cf53 : jM := (RJ9, cJ9_max_7cf53, 2, some .int, [], "max", { frames := 0, cells := 0, slots := 0, locals := 0 })
abbrev mJ9_min_7cf53 : jM := (RJ9, cJ9_min_7cf53, 2, some .int, [], "min", { frames := 0, cells := 0, slots := 0, locals := 0 })
abbrev mJ7_fill_53178 : jM := (RJ7, cJ7_fill_53178, 4, none, [], "fill", { frames := 0, cells := 0, slots := 0, locals := 0 })
abbrev mJ7_copyOf_59c91 : jM := (RJ7, cJ7_copyOf_59c91, 3, some (.array .int), [], "copyOf", { frames := 1, cells := 1, slots := 512, locals := 60 })
abbrev mL_addNote : jM := (RL, cL_addNote, 7, some .int, [((0), (14), (17), (13)), ((0), (14), (21), (15)), ((0), (14), (25), (17))], "addNote", { frames := 8, cells := 1, slots := 6, locals := 140 })
abbrev mL_addRest : jM := (RL, cL_addRest, 5, some .int, [((0), (10), (13), (13)), ((0), (10), (17), (15)), ((0), (10), (21), (17))], "addRest", { frames := 8, cells := 1, slots := 6, locals := 138 })
abbrev mL_takeLast : jM := (RL, cL_takeLast, 4, some .int, [((0), (9), (12), (13)), ((0), (9), (15), (17))], "takeLast", { frames := 8, cells := 1, slots := 6, locals := 133 })
abbrev mL_setPitch : jM := (RL, cL_setPitch, 7, some .int, [((0), (14), (17), (13)), ((0), (14), (21), (15)), ((0), (14), (25), (17))], "setPitch", { frames := 9, cells := 1, slots := 6, locals := 160 })
abbrev mL_setMetre : jM := (RL, cL_setMetre, 6, some .int, [((0), (12), (15), (13)), ((0), (12), (19), (15))], "setMetre", { frames := 8, cells := 1, slots := 6, locals := 133 })
abbrev mL_setKey : jM := (RL, cL_setKey, 5, some .int, [((0), (10), (13), (13)), ((0), (10), (17), (15))], "setKey", { frames := 8, cells := 1, slots := 6, locals := 133 })
abbrev mL_setRange : jM := (RL, cL_setRange, 6, some .int, [((0), (12), (15), (13)), ((0), (12), (19), (15))], "setRange", { frames := 8, cells := 1, slots := 6, locals := 135 })
abbrev mL_setShift : jM := (RL, cL_setShift, 6, some .int, [((0), (12), (15), (13)), ((0), (12), (19), (15))], "setShift", { frames := 8, cells := 1, slots := 6, locals := 135 })
abbrev mL_events : jM := (RL, cL_events, 4, some .int, [((0), (9), (12), (13))], "events", { frames := 8, cells := 1, slots := 6, locals := 132 })
abbrev mL_beginOf : jM := (RL, cL_beginOf, 5, some .int, [((0), (10), (13), (13))], "beginOf", { frames := 9, cells := 1, slots := 6, locals := 156 })
abbrev mL_heightOf : jM := (RL, cL_heightOf, 5, some .int, [((0), (10), (13), (13))], "heightOf", { frames := 9, cells := 1, slots := 6, locals := 156 })
abbrev mL_barOf : jM := (RL, cL_barOf, 5, some .int, [((0), (10), (13), (13))], "barOf", { frames := 9, cells := 1, slots := 6, locals := 156 })
abbrev mL_writtenPlace : jM := (RL, cL_writtenPlace, 5, some .int, [((0), (10), (13), (13))], "writtenPlace", { frames := 9, cells := 1, slots := 6, locals := 156 })
abbrev mL_writtenAlter : jM := (RL, cL_writtenAlter, 5, some .int, [((0), (10), (13), (13))], "writtenAlter", { frames := 9, cells := 1, slots := 6, locals := 156 })
abbrev mL_alterIn : jM := (RL, cL_alterIn, 5, some .int, [((0), (10), (13), (15))], "alterIn", { frames := 8, cells := 1, slots := 6, locals := 132 })
abbrev mL_writtenKey : jM := (RL, cL_writtenKey, 5, some .int, [((0), (10), (13), (13))], "writtenKey", { frames := 8, cells := 1, slots := 6, locals := 134 })
abbrev mL_beginOfBar : jM := (RL, cL_beginOfBar, 4, some .int, [((0), (9), (12), (13))], "beginOfBar", { frames := 8, cells := 1, slots := 6, locals := 131 })
abbrev mL_lengthOfBar : jM := (RL, cL_lengthOfBar, 4, some .int, [((0), (9), (12), (13))], "lengthOfBar", { frames := 8, cells := 1, slots := 6, locals := 131 })
abbrev mL_signs : jM := (RL, cL_signs, 5, some .int, [((0), (10), (13), (13))], "signs", { frames := 9, cells := 1, slots := 6, locals := 156 })
abbrev mL_eventOf : jM := (RL, cL_eventOf, 6, some .int, [((0), (12), (15), (13))], "eventOf", { frames := 10, cells := 1, slots := 6, locals := 181 })
abbrev mL_lengthOf : jM := (RL, cL_lengthOf, 6, some .int, [((0), (12), (15), (13))], "lengthOf", { frames := 10, cells := 1, slots := 6, locals := 181 })
abbrev mL_isTied : jM := (RL, cL_isTied, 6, some .int, [((0), (19), (22), (13))], "isTied", { frames := 10, cells := 1, slots := 6, locals := 181 })
abbrev mL_shown : jM := (RL, cL_shown, 6, some .int, [((0), (12), (15), (13))], "shown", { frames := 10, cells := 1, slots := 6, locals := 181 })
abbrev mL_shownWritten : jM := (RL, cL_shownWritten, 6, some .int, [((0), (12), (15), (13))], "shownWritten", { frames := 10, cells := 1, slots := 6, locals := 181 })
abbrev mL_beams : jM := (RL, cL_beams, 5, some .int, [((0), (10), (13), (13))], "beams", { frames := 9, cells := 1, slots := 6, locals := 156 })
abbrev mL_beamOf : jM := (RL, cL_beamOf, 6, some .int, [((0), (12), (15), (13))], "beamOf", { frames := 10, cells := 1, slots := 6, locals := 181 })
abbrev mL_missing : jM := (RL, cL_missing, 5, some .int, [((0), (10), (13), (13))], "missing", { frames := 8, cells := 1, slots := 6, locals := 134 })
abbrev mL_tickOf : jM := (RL, cL_tickOf, 4, some .int, [((0), (9), (12), (13))], "tickOf", { frames := 8, cells := 1, slots := 6, locals := 153 })
abbrev mL_sounds : jM := (RL, cL_sounds, 5, some .int, [((0), (10), (13), (13))], "sounds", { frames := 8, cells := 1, slots := 6, locals := 154 })
abbrev mL_root : jM := (RL, cL_root, 4, some .int, [((0), (9), (12), (13))], "root", { frames := 8, cells := 1, slots := 6, locals := 153 })
abbrev mL_kind : jM := (RL, cL_kind, 4, some .int, [((0), (9), (12), (13))], "kind", { frames := 8, cells := 1, slots := 6, locals := 153 })
abbrev mL_inversion : jM := (RL, cL_inversion, 4, some .int, [((0), (9), (12), (13))], "inversion", { frames := 8, cells := 1, slots := 6, locals := 153 })
abbrev mL_kindOfFault : jM := (RL, cL_kindOfFault, 4, some .int, [((0), (9), (12), (13))], "kindOfFault", { frames := 8, cells := 1, slots := 6, locals := 152 })
abbrev mL_tickOfFault : jM := (RL, cL_tickOfFault, 4, some .int, [((0), (9), (12), (13))], "tickOfFault", { frames := 8, cells := 1, slots := 6, locals := 152 })
abbrev mL_partsOfFault : jM := (RL, cL_partsOfFault, 4, some .int, [((0), (9), (12), (13))], "partsOfFault", { frames := 8, cells := 1, slots := 6, locals := 152 })
abbrev mL_faultsIfUp : jM := (RL, cL_faultsIfUp, 5, some .int, [((0), (10), (13), (13)), ((0), (10), (17), (17))], "faultsIfUp", { frames := 9, cells := 1, slots := 6, locals := 159 })
abbrev mL_widthOf : jM := (RL, cL_widthOf, 4, some .int, [((0), (9), (12), (13))], "widthOf", { frames := 8, cells := 1, slots := 6, locals := 152 })
abbrev mL_lines : jM := (RL, cL_lines, 4, some .int, [((0), (9), (12), (15))], "lines", { frames := 8, cells := 1, slots := 6, locals := 152 })
abbrev mL_lineOf : jM := (RL, cL_lineOf, 5, some .int, [((0), (10), (13), (13)), ((0), (10), (17), (15))], "lineOf", { frames := 8, cells := 1, slots := 6, locals := 153 })
abbrev mL_costOf : jM := (RL, cL_costOf, 4, some .int, [((0), (9), (12), (15))], "costOf", { frames := 8, cells := 1, slots := 6, locals := 152 })
theorem ceX0_changeMetre : jCe yX0_changeMetre mX0_changeMetre 3 := ⟨wt 3 (by decide +kernel) rfl, wt 88 (by decide +kernel) rfl, by decide +kernel, by decide +kernel⟩
theorem cvX0_changeMetre : Cond.instanceMethod yX0_changeMetre ∈ WT ∧ Cond.selects yX0_changeMetre.cls yX0_changeMetre yX0_changeMetre ∈ WT ∧ vwCl[0]? = some (yX0_changeMetre.cls, TX0, 5) := ⟨wt 86 (by decide +kernel) rfl, wt 87 (by decide +kernel) rfl, rfl⟩
theorem ceX0_isBar : jCe yX0_isBar mX0_isBar 1 := ⟨wt 3 (by decide +kernel) rfl, wt 91 (by decide +kernel) rfl, by decide +kernel, by decide +kernel⟩
theorem csX0_isBar : Cond.static yX0_isBar ∈ WT := wt 90 (by decide +kernel) rfl
theorem ceX0_beginAt : jCe yX0_beginAt mX0_beginAt 1 := ⟨wt 3 (by decide +kernel) rfl, wt 95 (by decide +kernel) rfl, by decide +kernel, by decide +kernel⟩
theorem cvX0_beginAt : Cond.instanceMethod yX0_beginAt ∈ WT ∧ Cond.selects yX0_beginAt.cls yX0_beginAt yX0_beginAt ∈ WT ∧ vwCl[0]? = some (yX0_beginAt.cls, TX0, 5) := ⟨wt 93 (by decide +kernel) rfl, wt 94 (by decide +kernel) rfl, rfl⟩
theorem ceX0_barAt : jCe yX0_barAt mX0_barAt 1 := ⟨wt 3 (by decide +kernel) rfl, wt 415 (by decide +kernel) rfl, by decide +kernel, by decide +kernel⟩
theorem cvX0_barAt : Cond.instanceMethod yX0_barAt ∈ WT ∧ Cond.selects yX0_barAt.cls yX0_barAt yX0_barAt ∈ WT ∧ vwCl[0]? = some (yX0_barAt.cls, TX0, 5) := ⟨wt 413 (by decide +kernel) rfl, wt 414 (by decide +kernel) rfl, rfl⟩
theorem ceX0_lengthAt : jCe yX0_lengthAt mX0_lengthAt 1 := ⟨wt 3 (by decide +kernel) rfl, wt 446 (by decide +kernel) rfl, by decide +kernel, by decide +kernel⟩
theorem cvX0_lengthAt : Cond.instanceMethod yX0_lengthAt ∈ WT ∧ Cond.selects yX0_lengthAt.cls yX0_lengthAt yX0_lengthAt ∈ WT ∧ vwCl[0]? = some (yX0_lengthAt.cls, TX0, 5) := ⟨wt 444 (by decide +kernel) rfl, wt 445 (by decide +kernel) rfl, rfl⟩
theorem ceJ9_min_7cf53 : jCe yJ9_min_7cf53 mJ9_min_7cf53 2 := ⟨wt 20 (by decide +kernel) rfl, wt 308 (by decide +kernel) rfl, by decide +kernel, by decide +kernel⟩
theorem csJ9_min_7cf53 : Cond.static yJ9_min_7cf53 ∈ WT := wt 307 (by decide +kernel) rfl
theorem ceJ9_max_7cf53 : jCe yJ9_max_7cf53 mJ9_max_7cf53 2 := ⟨wt 20 (by decide +kernel) rfl, wt 407 (by decide +kernel) rfl, by decide +kernel, by decide +kernel⟩
theorem csJ9_max_7cf53 : Cond.static yJ9_max_7cf53 ∈ WT := wt 406 (by decide +kernel) rfl
theorem ceX3_eventAt : jCe yX3_eventAt mX3_eventAt 2 := ⟨wt 5 (by decide +kernel) rfl, wt 350 (by decide +kernel) rfl, by decide +kernel, by decide +kernel⟩
theorem cvX3_eventAt : Cond.instanceMethod yX3_eventAt ∈ WT ∧ Cond.selects yX3_eventAt.cls yX3_eventAt yX3_eventAt ∈ WT ∧ vwCl[3]? = some (yX3_eventAt.cls, TX3, 4) := ⟨wt 348 (by decide +kernel) rfl, wt 349 (by decide +kernel) rfl, rfl⟩
theorem ceX6_heightAt : jCe yX6_heightAt mX6_heightAt 1 := ⟨wt 2 (by decide +kernel) rfl, wt 354 (by decide +kernel) rfl, by decide +kernel, by decide +kernel⟩
theorem cvX6_heightAt : Cond.instanceMethod yX6_heightAt ∈ WT ∧ Cond.selects yX6_heightAt.cls yX6_heightAt yX6_heightAt ∈ WT ∧ vwCl[6]? = some (yX6_heightAt.cls, TX6, 13) := ⟨wt 352 (by decide +kernel) rfl, wt 353 (by decide +kernel) rfl, rfl⟩
theorem ceX1_forget : jCe yX1_forget mX1_forget 0 := ⟨wt 6 (by decide +kernel) rfl, wt 723 (by decide +kernel) rfl, by decide +kernel, by decide +kernel⟩
theorem cvX1_forget : Cond.instanceMethod yX1_forget ∈ WT ∧ Cond.selects yX1_forget.cls yX1_forget yX1_forget ∈ WT ∧ vwCl[1]? = some (yX1_forget.cls, TX1, 3) := ⟨wt 722 (by decide +kernel) rfl, wt_p 27 (by decide +kernel : _ = some (_, 3)), rfl⟩
theorem ceJ6_bitCount_0f7a4 : jCe yJ6_bitCount_0f7a4 mJ6_bitCount_0f7a4 1 := ⟨wt 22 (by decide +kernel) rfl, wt 726 (by decide +kernel) rfl, by decide +kernel, by decide +kernel⟩
theorem csJ6_bitCount_0f7a4 : Cond.static yJ6_bitCount_0f7a4 ∈ WT := wt 725 (by decide +kernel) rfl
theorem ceX1_findRoot : jCe yX1_findRoot mX1_findRoot 2 := ⟨wt 6 (by decide +kernel) rfl, wt 733 (by decide +kernel) rfl, by decide +kernel, by decide +kernel⟩
theorem cvX1_findRoot : Cond.instanceMethod yX1_findRoot ∈ WT ∧ Cond.selects yX1_findRoot.cls yX1_findRoot yX1_findRoot ∈ WT ∧ vwCl[1]? = some (yX1_findRoot.cls, TX1, 3) := ⟨wt 732 (by decide +kernel) rfl, wt_p 28 (by decide +kernel : _ = some (_, 3)), rfl⟩
theorem ceX1_findKind : jCe yX1_findKind mX1_findKind 3 := ⟨wt 6 (by decide +kernel) rfl, wt 737 (by decide +kernel) rfl, by decide +kernel, by decide +kernel⟩
theorem cvX1_findKind : Cond.instanceMethod yX1_findKind ∈ WT ∧ Cond.selects yX1_findKind.cls yX1_findKind yX1_findKind ∈ WT ∧ vwCl[1]? = some (yX1_findKind.cls, TX1, 3) := ⟨wt 736 (by decide +kernel) rfl, wt_p 29 (by decide +kernel : _ = some (_, 3)), rfl⟩
theorem ceX2_has : jCe yX2_has mX2_has 1 := ⟨wt 7 (by decide +kernel) rfl, wt 765 (by decide +kernel) rfl, by decide +kernel, by decide +kernel⟩
theorem cvX2_has : Cond.instanceMethod yX2_has ∈ WT ∧ Cond.selects yX2_has.cls yX2_has yX2_has ∈ WT ∧ vwCl[2]? = some (yX2_has.cls, TX2, 8) := ⟨wt 763 (by decide +kernel) rfl, wt 764 (by decide +kernel) rfl, rfl⟩
theorem ceJ7_fill_53178 : jCe yJ7_fill_53178 mJ7_fill_53178 2 := ⟨wt 11 (by decide +kernel) rfl, wt 292 (by decide +kernel) rfl, by decide +kernel, by decide +kernel⟩
theorem csJ7_fill_53178 : Cond.static yJ7_fill_53178 ∈ WT := wt 291 (by decide +kernel) rfl
theorem ceX3_size : jCe yX3_size mX3_size 0 := ⟨wt 5 (by decide +kernel) rfl, wt 320 (by decide +kernel) rfl, by decide +kernel, by decide +kernel⟩
theorem cvX3_size : Cond.instanceMethod yX3_size ∈ WT ∧ Cond.selects yX3_size.cls yX3_size yX3_size ∈ WT ∧ vwCl[3]? = some (yX3_size.cls, TX3, 4) := ⟨wt 318 (by decide +kernel) rfl, wt 319 (by decide +kernel) rfl, rfl⟩
theorem ceX3_tickAt : jCe yX3_tickAt mX3_tickAt 1 := ⟨wt 5 (by decide +kernel) rfl, wt 338 (by decide +kernel) rfl, by decide +kernel, by decide +kernel⟩
theorem cvX3_tickAt : Cond.instanceMethod yX3_tickAt ∈ WT ∧ Cond.selects yX3_tickAt.cls yX3_tickAt yX3_tickAt ∈ WT ∧ vwCl[3]? = some (yX3_tickAt.cls, TX3, 4) := ⟨wt 336 (by decide +kernel) rfl, wt 337 (by decide +kernel) rfl, rfl⟩
theorem ceX2_goOn : jCe yX2_goOn mX2_goOn 3 := ⟨wt 7 (by decide +kernel) rfl, wt 346 (by decide +kernel) rfl, by decide +kernel, by decide +kernel⟩
theorem cvX2_goOn : Cond.instanceMethod yX2_goOn ∈ WT ∧ Cond.selects yX2_goOn.cls yX2_goOn yX2_goOn ∈ WT ∧ vwCl[2]? = some (yX2_goOn.cls, TX2, 8) := ⟨wt 345 (by decide +kernel) rfl, wt_p 4 (by decide +kernel : _ = some (_, 8)), rfl⟩
theorem ceX2_searchParallels : jCe yX2_searchParallels mX2_searchParallels 1 := ⟨wt 7 (by decide +kernel) rfl, wt 366 (by decide +kernel) rfl, by decide +kernel, by decide +kernel⟩
theorem cvX2_searchParallels : Cond.instanceMethod yX2_searchParallels ∈ WT ∧ Cond.selects yX2_searchParallels.cls yX2_searchParallels yX2_searchParallels ∈ WT ∧ vwCl[2]? = some (yX2_searchParallels.cls, TX2, 8) := ⟨wt 365 (by decide +kernel) rfl, wt_p 5 (by decide +kernel : _ = some (_, 8)), rfl⟩
theorem ceX2_searchCrossings : jCe yX2_searchCrossings mX2_searchCrossings 1 := ⟨wt 7 (by decide +kernel) rfl, wt 377 (by decide +kernel) rfl, by decide +kernel, by decide +kernel⟩
theorem cvX2_searchCrossings : Cond.instanceMethod yX2_searchCrossings ∈ WT ∧ Cond.selects yX2_searchCrossings.cls yX2_searchCrossings yX2_searchCrossings ∈ WT ∧ vwCl[2]? = some (yX2_searchCrossings.cls, TX2, 8) := ⟨wt 376 (by decide +kernel) rfl, wt_p 7 (by decide +kernel : _ = some (_, 8)), rfl⟩
theorem ceX2_searchNote : jCe yX2_searchNote mX2_searchNote 3 := ⟨wt 7 (by decide +kernel) rfl, wt 381 (by decide +kernel) rfl, by decide +kernel, by decide +kernel⟩
theorem cvX2_searchNote : Cond.instanceMethod yX2_searchNote ∈ WT ∧ Cond.selects yX2_searchNote.cls yX2_searchNote yX2_searchNote ∈ WT ∧ vwCl[2]? = some (yX2_searchNote.cls, TX2, 8) := ⟨wt 380 (by decide +kernel) rfl, wt_p 8 (by decide +kernel : _ = some (_, 8)), rfl⟩
theorem ceX6_isNote : jCe yX6_isNote mX6_isNote 1 := ⟨wt 2 (by decide +kernel) rfl, wt 358 (by decide +kernel) rfl, by decide +kernel, by decide +kernel⟩
theorem cvX6_isNote : Cond.instanceMethod yX6_isNote ∈ WT ∧ Cond.selects yX6_isNote.cls yX6_isNote yX6_isNote ∈ WT ∧ vwCl[6]? = some (yX6_isNote.cls, TX6, 13) := ⟨wt 356 (by decide +kernel) rfl, wt 357 (by decide +kernel) rfl, rfl⟩
theorem ceX6_beginAt : jCe yX6_beginAt mX6_beginAt 1 := ⟨wt 2 (by decide +kernel) rfl, wt 304 (by decide +kernel) rfl, by decide +kernel, by decide +kernel⟩
theorem cvX6_beginAt : Cond.instanceMethod yX6_beginAt ∈ WT ∧ Cond.selects yX6_beginAt.cls yX6_beginAt yX6_beginAt ∈ WT ∧ vwCl[6]? = some (yX6_beginAt.cls, TX6, 13) := ⟨wt 302 (by decide +kernel) rfl, wt 303 (by decide +kernel) rfl, rfl⟩
theorem ceJ6_compare_7cf53 : jCe yJ6_compare_7cf53 mJ6_compare_7cf53 2 := ⟨wt 22 (by decide +kernel) rfl, wt 362 (by decide +kernel) rfl, by decide +kernel, by decide +kernel⟩
theorem csJ6_compare_7cf53 : Cond.static yJ6_compare_7cf53 ∈ WT := wt 361 (by decide +kernel) rfl
theorem ceJ9_floorMod_7cf53 : jCe yJ9_floorMod_7cf53 mJ9_floorMod_7cf53 2 := ⟨wt 20 (by decide +kernel) rfl, wt 369 (by decide +kernel) rfl, by decide +kernel, by decide +kernel⟩
theorem csJ9_floorMod_7cf53 : Cond.static yJ9_floorMod_7cf53 ∈ WT := wt 368 (by decide +kernel) rfl
theorem ceX2_add : jCe yX2_add mX2_add 3 := ⟨wt 7 (by decide +kernel) rfl, wt 373 (by decide +kernel) rfl, by decide +kernel, by decide +kernel⟩
theorem cvX2_add : Cond.instanceMethod yX2_add ∈ WT ∧ Cond.selects yX2_add.cls yX2_add yX2_add ∈ WT ∧ vwCl[2]? = some (yX2_add.cls, TX2, 8) := ⟨wt 372 (by decide +kernel) rfl, wt_p 6 (by decide +kernel : _ = some (_, 8)), rfl⟩
theorem ceJ9_abs_0f7a4 : jCe yJ9_abs_0f7a4 mJ9_abs_0f7a4 1 := ⟨wt 20 (by decide +kernel) rfl, wt 384 (by decide +kernel) rfl, by decide +kernel, by decide +kernel⟩
theorem csJ9_abs_0f7a4 : Cond.static yJ9_abs_0f7a4 ∈ WT := wt 383 (by decide +kernel) rfl
theorem ceX6_isOutOfRange : jCe yX6_isOutOfRange mX6_isOutOfRange 1 := ⟨wt 2 (by decide +kernel) rfl, wt 388 (by decide +kernel) rfl, by decide +kernel, by decide +kernel⟩
theorem cvX6_isOutOfRange : Cond.instanceMethod yX6_isOutOfRange ∈ WT ∧ Cond.selects yX6_isOutOfRange.cls yX6_isOutOfRange yX6_isOutOfRange ∈ WT ∧ vwCl[6]? = some (yX6_isOutOfRange.cls, TX6, 13) := ⟨wt 386 (by decide +kernel) rfl, wt 387 (by decide +kernel) rfl, rfl⟩
theorem ceX3_has : jCe yX3_has mX3_has 1 := ⟨wt 5 (by decide +kernel) rfl, wt 342 (by decide +kernel) rfl, by decide +kernel, by decide +kernel⟩
theorem cvX3_has : Cond.instanceMethod yX3_has ∈ WT ∧ Cond.selects yX3_has.cls yX3_has yX3_has ∈ WT ∧ vwCl[3]? = some (yX3_has.cls, TX3, 4) := ⟨wt 340 (by decide +kernel) rfl, wt 341 (by decide +kernel) rfl, rfl⟩
theorem ceX3_nextBegin : jCe yX3_nextBegin mX3_nextBegin 1 := ⟨wt 5 (by decide +kernel) rfl, wt 296 (by decide +kernel) rfl, by decide +kernel, by decide +kernel⟩
theorem cvX3_nextBegin : Cond.instanceMethod yX3_nextBegin ∈ WT ∧ Cond.selects yX3_nextBegin.cls yX3_nextBegin yX3_nextBegin ∈ WT ∧ vwCl[3]? = some (yX3_nextBegin.cls, TX3, 4) := ⟨wt 295 (by decide +kernel) rfl, wt_p 1 (by decide +kernel : _ = some (_, 4)), rfl⟩
theorem ceX3_eventGoingOn : jCe yX3_eventGoingOn mX3_eventGoingOn 3 := ⟨wt 5 (by decide +kernel) rfl, wt 312 (by decide +kernel) rfl, by decide +kernel, by decide +kernel⟩
theorem cvX3_eventGoingOn : Cond.instanceMethod yX3_eventGoingOn ∈ WT ∧ Cond.selects yX3_eventGoingOn.cls yX3_eventGoingOn yX3_eventGoingOn ∈ WT ∧ vwCl[3]? = some (yX3_eventGoingOn.cls, TX3, 4) := ⟨wt 311 (by decide +kernel) rfl, wt_p 2 (by decide +kernel : _ = some (_, 4)), rfl⟩
theorem ceX6_has : jCe yX6_has mX6_has 1 := ⟨wt 2 (by decide +kernel) rfl, wt 300 (by decide +kernel) rfl, by decide +kernel, by decide +kernel⟩
theorem cvX6_has : Cond.instanceMethod yX6_has ∈ WT ∧ Cond.selects yX6_has.cls yX6_has yX6_has ∈ WT ∧ vwCl[6]? = some (yX6_has.cls, TX6, 13) := ⟨wt 298 (by decide +kernel) rfl, wt 299 (by decide +kernel) rfl, rfl⟩
theorem ceX6_endAt : jCe yX6_endAt mX6_endAt 1 := ⟨wt 2 (by decide +kernel) rfl, wt 316 (by decide +kernel) rfl, by decide +kernel, by decide +kernel⟩
theorem cvX6_endAt : Cond.instanceMethod yX6_endAt ∈ WT ∧ Cond.selects yX6_endAt.cls yX6_endAt yX6_endAt ∈ WT ∧ vwCl[6]? = some (yX6_endAt.cls, TX6, 13) := ⟨wt 314 (by decide +kernel) rfl, wt 315 (by decide +kernel) rfl, rfl⟩
theorem ceX0_keyAt : jCe yX0_keyAt mX0_keyAt 1 := ⟨wt 3 (by decide +kernel) rfl, wt 450 (by decide +kernel) rfl, by decide +kernel, by decide +kernel⟩
theorem cvX0_keyAt : Cond.instanceMethod yX0_keyAt ∈ WT ∧ Cond.selects yX0_keyAt.cls yX0_keyAt yX0_keyAt ∈ WT ∧ vwCl[0]? = some (yX0_keyAt.cls, TX0, 5) := ⟨wt 448 (by decide +kernel) rfl, wt 449 (by decide +kernel) rfl, rfl⟩
theorem ceX4_widthOfGap : jCe yX4_widthOfGap mX4_widthOfGap 1 := ⟨wt 8 (by decide +kernel) rfl, wt 456 (by decide +kernel) rfl, by decide +kernel, by decide +kernel⟩
theorem csX4_widthOfGap : Cond.static yX4_widthOfGap ∈ WT := wt 455 (by decide +kernel) rfl
theorem ceX4_chooseLine : jCe yX4_chooseLine mX4_chooseLine 3 := ⟨wt 8 (by decide +kernel) rfl, wt 792 (by decide +kernel) rfl, by decide +kernel, by decide +kernel⟩
theorem cvX4_chooseLine : Cond.instanceMethod yX4_chooseLine ∈ WT ∧ Cond.selects yX4_chooseLine.cls yX4_chooseLine yX4_chooseLine ∈ WT ∧ vwCl[4]? = some (yX4_chooseLine.cls, TX4, 5) := ⟨wt 791 (by decide +kernel) rfl, wt_p 33 (by decide +kernel : _ = some (_, 5)), rfl⟩
theorem ceX4_numberLines : jCe yX4_numberLines mX4_numberLines 1 := ⟨wt 8 (by decide +kernel) rfl, wt 796 (by decide +kernel) rfl, by decide +kernel, by decide +kernel⟩
theorem cvX4_numberLines : Cond.instanceMethod yX4_numberLines ∈ WT ∧ Cond.selects yX4_numberLines.cls yX4_numberLines yX4_numberLines ∈ WT ∧ vwCl[4]? = some (yX4_numberLines.cls, TX4, 5) := ⟨wt 795 (by decide +kernel) rfl, wt_p 34 (by decide +kernel : _ = some (_, 5)), rfl⟩
theorem ceX5_has : jCe yX5_has mX5_has 1 := ⟨wt 4 (by decide +kernel) rfl, wt 624 (by decide +kernel) rfl, by decide +kernel, by decide +kernel⟩
theorem cvX5_has : Cond.instanceMethod yX5_has ∈ WT ∧ Cond.selects yX5_has.cls yX5_has yX5_has ∈ WT ∧ vwCl[5]? = some (yX5_has.cls, TX5, 11) := ⟨wt 622 (by decide +kernel) rfl, wt 623 (by decide +kernel) rfl, rfl⟩
theorem ceX6_firstEndingBehind : jCe yX6_firstEndingBehind mX6_firstEndingBehind 1 := ⟨wt 2 (by decide +kernel) rfl, wt 580 (by decide +kernel) rfl, by decide +kernel, by decide +kernel⟩
theorem cvX6_firstEndingBehind : Cond.instanceMethod yX6_firstEndingBehind ∈ WT ∧ Cond.selects yX6_firstEndingBehind.cls yX6_firstEndingBehind yX6_firstEndingBehind ∈ WT ∧ vwCl[6]? = some (yX6_firstEndingBehind.cls, TX6, 13) := ⟨wt 578 (by decide +kernel) rfl, wt 579 (by decide +kernel) rfl, rfl⟩
theorem ceX6_size : jCe yX6_size mX6_size 0 := ⟨wt 2 (by decide +kernel) rfl, wt 465 (by decide +kernel) rfl, by decide +kernel, by decide +kernel⟩
theorem cvX6_size : Cond.instanceMethod yX6_size ∈ WT ∧ Cond.selects yX6_size.cls yX6_size yX6_size ∈ WT ∧ vwCl[6]? = some (yX6_size.cls, TX6, 13) := ⟨wt 463 (by decide +kernel) rfl, wt 464 (by decide +kernel) rfl, rfl⟩
theorem ceX5_writeStretch : jCe yX5_writeStretch mX5_writeStretch 3 := ⟨wt 4 (by decide +kernel) rfl, wt 590 (by decide +kernel) rfl, by decide +kernel, by decide +kernel⟩
theorem cvX5_writeStretch : Cond.instanceMethod yX5_writeStretch ∈ WT ∧ Cond.selects yX5_writeStretch.cls yX5_writeStretch yX5_writeStretch ∈ WT ∧ vwCl[5]? = some (yX5_writeStretch.cls, TX5, 11) := ⟨wt 589 (by decide +kernel) rfl, wt_p 16 (by decide +kernel : _ = some (_, 11)), rfl⟩
theorem ceX0_end : jCe yX0_end mX0_end 0 := ⟨wt 3 (by decide +kernel) rfl, wt 603 (by decide +kernel) rfl, by decide +kernel, by decide +kernel⟩
theorem cvX0_end : Cond.instanceMethod yX0_end ∈ WT ∧ Cond.selects yX0_end.cls yX0_end yX0_end ∈ WT ∧ vwCl[0]? = some (yX0_end.cls, TX0, 5) := ⟨wt 601 (by decide +kernel) rfl, wt 602 (by decide +kernel) rfl, rfl⟩
theorem ceX5_markSigns : jCe yX5_markSigns mX5_markSigns 2 := ⟨wt 4 (by decide +kernel) rfl, wt 607 (by decide +kernel) rfl, by decide +kernel, by decide +kernel⟩
theorem cvX5_markSigns : Cond.instanceMethod yX5_markSigns ∈ WT ∧ Cond.selects yX5_markSigns.cls yX5_markSigns yX5_markSigns ∈ WT ∧ vwCl[5]? = some (yX5_markSigns.cls, TX5, 11) := ⟨wt 606 (by decide +kernel) rfl, wt_p 18 (by decide +kernel : _ = some (_, 11)), rfl⟩
theorem ceX0_groupLengthAt : jCe yX0_groupLengthAt mX0_groupLengthAt 1 := ⟨wt 3 (by decide +kernel) rfl, wt 612 (by decide +kernel) rfl, by decide +kernel, by decide +kernel⟩
theorem cvX0_groupLengthAt : Cond.instanceMethod yX0_groupLengthAt ∈ WT ∧ Cond.selects yX0_groupLengthAt.cls yX0_groupLengthAt yX0_groupLengthAt ∈ WT ∧ vwCl[0]? = some (yX0_groupLengthAt.cls, TX0, 5) := ⟨wt 610 (by decide +kernel) rfl, wt 611 (by decide +kernel) rfl, rfl⟩
theorem ceX5_beamSigns : jCe yX5_beamSigns mX5_beamSigns 3 := ⟨wt 4 (by decide +kernel) rfl, wt 616 (by decide +kernel) rfl, by decide +kernel, by decide +kernel⟩
theorem cvX5_beamSigns : Cond.instanceMethod yX5_beamSigns ∈ WT ∧ Cond.selects yX5_beamSigns.cls yX5_beamSigns yX5_beamSigns ∈ WT ∧ vwCl[5]? = some (yX5_beamSigns.cls, TX5, 11) := ⟨wt 615 (by decide +kernel) rfl, wt_p 19 (by decide +kernel : _ = some (_, 11)), rfl⟩
theorem ceX5_showAlters : jCe yX5_showAlters mX5_showAlters 2 := ⟨wt 4 (by decide +kernel) rfl, wt 629 (by decide +kernel) rfl, by decide +kernel, by decide +kernel⟩
theorem cvX5_showAlters : Cond.instanceMethod yX5_showAlters ∈ WT ∧ Cond.selects yX5_showAlters.cls yX5_showAlters yX5_showAlters ∈ WT ∧ vwCl[5]? = some (yX5_showAlters.cls, TX5, 11) := ⟨wt 628 (by decide +kernel) rfl, wt_p 21 (by decide +kernel : _ = some (_, 11)), rfl⟩
theorem ceX6_keyAsWritten : jCe yX6_keyAsWritten mX6_keyAsWritten 1 := ⟨wt 2 (by decide +kernel) rfl, wt 651 (by decide +kernel) rfl, by decide +kernel, by decide +kernel⟩
theorem cvX6_keyAsWritten : Cond.instanceMethod yX6_keyAsWritten ∈ WT ∧ Cond.selects yX6_keyAsWritten.cls yX6_keyAsWritten yX6_keyAsWritten ∈ WT ∧ vwCl[6]? = some (yX6_keyAsWritten.cls, TX6, 13) := ⟨wt 649 (by decide +kernel) rfl, wt 650 (by decide +kernel) rfl, rfl⟩
theorem ceX5_showAltersAsWritten : jCe yX5_showAltersAsWritten mX5_showAltersAsWritten 2 := ⟨wt 4 (by decide +kernel) rfl, wt 655 (by decide +kernel) rfl, by decide +kernel, by decide +kernel⟩
theorem cvX5_showAltersAsWritten : Cond.instanceMethod yX5_showAltersAsWritten ∈ WT ∧ Cond.selects yX5_showAltersAsWritten.cls yX5_showAltersAsWritten yX5_showAltersAsWritten ∈ WT ∧ vwCl[5]? = some (yX5_showAltersAsWritten.cls, TX5, 11) := ⟨wt 654 (by decide +kernel) rfl, wt_p 23 (by decide +kernel : _ = some (_, 11)), rfl⟩
theorem ceX8_greatestIn : jCe yX8_greatestIn mX8_greatestIn 1 := ⟨wt 18 (by decide +kernel) rfl, wt 593 (by decide +kernel) rfl, by decide +kernel, by decide +kernel⟩
theorem csX8_greatestIn : Cond.static yX8_greatestIn ∈ WT := wt 592 (by decide +kernel) rfl
theorem ceX5_addSign : jCe yX5_addSign mX5_addSign 3 := ⟨wt 4 (by decide +kernel) rfl, wt 599 (by decide +kernel) rfl, by decide +kernel, by decide +kernel⟩
theorem cvX5_addSign : Cond.instanceMethod yX5_addSign ∈ WT ∧ Cond.selects yX5_addSign.cls yX5_addSign yX5_addSign ∈ WT ∧ vwCl[5]? = some (yX5_addSign.cls, TX5, 11) := ⟨wt 598 (by decide +kernel) rfl, wt_p 17 (by decide +kernel : _ = some (_, 11)), rfl⟩
theorem ceX5_joinToSignAhead : jCe yX5_joinToSignAhead mX5_joinToSignAhead 1 := ⟨wt 4 (by decide +kernel) rfl, wt 620 (by decide +kernel) rfl, by decide +kernel, by decide +kernel⟩
theorem cvX5_joinToSignAhead : Cond.instanceMethod yX5_joinToSignAhead ∈ WT ∧ Cond.selects yX5_joinToSignAhead.cls yX5_joinToSignAhead yX5_joinToSignAhead ∈ WT ∧ vwCl[5]? = some (yX5_joinToSignAhead.cls, TX5, 11) := ⟨wt 619 (by decide +kernel) rfl, wt_p 20 (by decide +kernel : _ = some (_, 11)), rfl⟩
theorem ceX6_placeAt : jCe yX6_placeAt mX6_placeAt 1 := ⟨wt 2 (by decide +kernel) rfl, wt 634 (by decide +kernel) rfl, by decide +kernel, by decide +kernel⟩
theorem cvX6_placeAt : Cond.instanceMethod yX6_placeAt ∈ WT ∧ Cond.selects yX6_placeAt.cls yX6_placeAt yX6_placeAt ∈ WT ∧ vwCl[6]? = some (yX6_placeAt.cls, TX6, 13) := ⟨wt 632 (by decide +kernel) rfl, wt 633 (by decide +kernel) rfl, rfl⟩
theorem ceX6_alterAt : jCe yX6_alterAt mX6_alterAt 1 := ⟨wt 2 (by decide +kernel) rfl, wt 638 (by decide +kernel) rfl, by decide +kernel, by decide +kernel⟩
theorem cvX6_alterAt : Cond.instanceMethod yX6_alterAt ∈ WT ∧ Cond.selects yX6_alterAt.cls yX6_alterAt yX6_alterAt ∈ WT ∧ vwCl[6]? = some (yX6_alterAt.cls, TX6, 13) := ⟨wt 636 (by decide +kernel) rfl, wt 637 (by decide +kernel) rfl, rfl⟩
theorem ceX5_alterToShow : jCe yX5_alterToShow mX5_alterToShow 3 := ⟨wt 4 (by decide +kernel) rfl, wt 642 (by decide +kernel) rfl, by decide +kernel, by decide +kernel⟩
theorem cvX5_alterToShow : Cond.instanceMethod yX5_alterToShow ∈ WT ∧ Cond.selects yX5_alterToShow.cls yX5_alterToShow yX5_alterToShow ∈ WT ∧ vwCl[5]? = some (yX5_alterToShow.cls, TX5, 11) := ⟨wt 641 (by decide +kernel) rfl, wt_p 22 (by decide +kernel : _ = some (_, 11)), rfl⟩
theorem ceX6_writtenPlaceAt : jCe yX6_writtenPlaceAt mX6_writtenPlaceAt 1 := ⟨wt 2 (by decide +kernel) rfl, wt 476 (by decide +kernel) rfl, by decide +kernel, by decide +kernel⟩
theorem cvX6_writtenPlaceAt : Cond.instanceMethod yX6_writtenPlaceAt ∈ WT ∧ Cond.selects yX6_writtenPlaceAt.cls yX6_writtenPlaceAt yX6_writtenPlaceAt ∈ WT ∧ vwCl[6]? = some (yX6_writtenPlaceAt.cls, TX6, 13) := ⟨wt 474 (by decide +kernel) rfl, wt 475 (by decide +kernel) rfl, rfl⟩
theorem ceX6_writtenAlterAt : jCe yX6_writtenAlterAt mX6_writtenAlterAt 1 := ⟨wt 2 (by decide +kernel) rfl, wt 480 (by decide +kernel) rfl, by decide +kernel, by decide +kernel⟩
theorem cvX6_writtenAlterAt : Cond.instanceMethod yX6_writtenAlterAt ∈ WT ∧ Cond.selects yX6_writtenAlterAt.cls yX6_writtenAlterAt yX6_writtenAlterAt ∈ WT ∧ vwCl[6]? = some (yX6_writtenAlterAt.cls, TX6, 13) := ⟨wt 478 (by decide +kernel) rfl, wt 479 (by decide +kernel) rfl, rfl⟩
theorem ceX7_alterByKey : jCe yX7_alterByKey mX7_alterByKey 2 := ⟨wt 16 (by decide +kernel) rfl, wt 645 (by decide +kernel) rfl, by decide +kernel, by decide +kernel⟩
theorem csX7_alterByKey : Cond.static yX7_alterByKey ∈ WT := wt 644 (by decide +kernel) rfl
theorem ceX6_givePitch : jCe yX6_givePitch mX6_givePitch 3 := ⟨wt 2 (by decide +kernel) rfl, wt 880 (by decide +kernel) rfl, by decide +kernel, by decide +kernel⟩
theorem cvX6_givePitch : Cond.instanceMethod yX6_givePitch ∈ WT ∧ Cond.selects yX6_givePitch.cls yX6_givePitch yX6_givePitch ∈ WT ∧ vwCl[6]? = some (yX6_givePitch.cls, TX6, 13) := ⟨wt 878 (by decide +kernel) rfl, wt 879 (by decide +kernel) rfl, rfl⟩
theorem ceX7_plainHeight : jCe yX7_plainHeight mX7_plainHeight 1 := ⟨wt 16 (by decide +kernel) rfl, wt 883 (by decide +kernel) rfl, by decide +kernel, by decide +kernel⟩
theorem csX7_plainHeight : Cond.static yX7_plainHeight ∈ WT := wt 882 (by decide +kernel) rfl
theorem ceX6_writeForInstrument : jCe yX6_writeForInstrument mX6_writeForInstrument 1 := ⟨wt 2 (by decide +kernel) rfl, wt 893 (by decide +kernel) rfl, by decide +kernel, by decide +kernel⟩
theorem cvX6_writeForInstrument : Cond.instanceMethod yX6_writeForInstrument ∈ WT ∧ Cond.selects yX6_writeForInstrument.cls yX6_writeForInstrument yX6_writeForInstrument ∈ WT ∧ vwCl[6]? = some (yX6_writeForInstrument.cls, TX6, 13) := ⟨wt 892 (by decide +kernel) rfl, wt_p 38 (by decide +kernel : _ = some (_, 13)), rfl⟩
theorem ceX7_isPitch : jCe yX7_isPitch mX7_isPitch 2 := ⟨wt 16 (by decide +kernel) rfl, wt 820 (by decide +kernel) rfl, by decide +kernel, by decide +kernel⟩
theorem csX7_isPitch : Cond.static yX7_isPitch ∈ WT := wt 819 (by decide +kernel) rfl
theorem ceJ9_floorDiv_7cf53 : jCe yJ9_floorDiv_7cf53 mJ9_floorDiv_7cf53 2 := ⟨wt 20 (by decide +kernel) rfl, wt 889 (by decide +kernel) rfl, by decide +kernel, by decide +kernel⟩
theorem csJ9_floorDiv_7cf53 : Cond.static yJ9_floorDiv_7cf53 ∈ WT := wt 888 (by decide +kernel) rfl
theorem ceX6_init : jCe yX6_init mX6_init 0 := ⟨wt 2 (by decide +kernel) rfl, wt 36 (by decide +kernel) rfl, by decide +kernel, by decide +kernel⟩
theorem ciX6_init : Cond.instanceMethod yX6_init ∈ WT ∧ yX6_init.name = "<init>" := ⟨wt 35 (by decide +kernel) rfl, rfl⟩
theorem ceX0_init : jCe yX0_init mX0_init 0 := ⟨wt 3 (by decide +kernel) rfl, wt 83 (by decide +kernel) rfl, by decide +kernel, by decide +kernel⟩
theorem ciX0_init : Cond.instanceMethod yX0_init ∈ WT ∧ yX0_init.name = "<init>" := ⟨wt 82 (by decide +kernel) rfl, rfl⟩
theorem ceX5_init : jCe yX5_init mX5_init 0 := ⟨wt 4 (by decide +kernel) rfl, wt 116 (by decide +kernel) rfl, by decide +kernel, by decide +kernel⟩
theorem ciX5_init : Cond.instanceMethod yX5_init ∈ WT ∧ yX5_init.name = "<init>" := ⟨wt 115 (by decide +kernel) rfl, rfl⟩
theorem ceX3_init : jCe yX3_init mX3_init 0 := ⟨wt 5 (by decide +kernel) rfl, wt 157 (by decide +kernel) rfl, by decide +kernel, by decide +kernel⟩
theorem ciX3_init : Cond.instanceMethod yX3_init ∈ WT ∧ yX3_init.name = "<init>" := ⟨wt 156 (by decide +kernel) rfl, rfl⟩
theorem ceX1_init : jCe yX1_init mX1_init 0 := ⟨wt 6 (by decide +kernel) rfl, wt 176 (by decide +kernel) rfl, by decide +kernel, by decide +kernel⟩
theorem ciX1_init : Cond.instanceMethod yX1_init ∈ WT ∧ yX1_init.name = "<init>" := ⟨wt 175 (by decide +kernel) rfl, rfl⟩
theorem ceX2_init : jCe yX2_init mX2_init 0 := ⟨wt 7 (by decide +kernel) rfl, wt 192 (by decide +kernel) rfl, by decide +kernel, by decide +kernel⟩
theorem ciX2_init : Cond.instanceMethod yX2_init ∈ WT ∧ yX2_init.name = "<init>" := ⟨wt 191 (by decide +kernel) rfl, rfl⟩
theorem ceX4_init : jCe yX4_init mX4_init 0 := ⟨wt 8 (by decide +kernel) rfl, wt 223 (by decide +kernel) rfl, by decide +kernel, by decide +kernel⟩
theorem ciX4_init : Cond.instanceMethod yX4_init ∈ WT ∧ yX4_init.name = "<init>" := ⟨wt 222 (by decide +kernel) rfl, rfl⟩
theorem ceX9_partAt : jCe yX9_partAt mX9_partAt 1 := ⟨wt 1 (by decide +kernel) rfl, wt 498 (by decide +kernel) rfl, by decide +kernel, by decide +kernel⟩
theorem cvX9_partAt : Cond.instanceMethod yX9_partAt ∈ WT ∧ Cond.selects yX9_partAt.cls yX9_partAt yX9_partAt ∈ WT ∧ vwCl[7]? = some (yX9_partAt.cls, TX9, 12) := ⟨wt 497 (by decide +kernel) rfl, wt_p 14 (by decide +kernel : _ = some (_, 12)), rfl⟩
theorem ceX9_checkPitch : jCe yX9_checkPitch mX9_checkPitch 2 := ⟨wt 1 (by decide +kernel) rfl, wt 817 (by decide +kernel) rfl, by decide +kernel, by decide +kernel⟩
theorem csX9_checkPitch : Cond.static yX9_checkPitch ∈ WT := wt 816 (by decide +kernel) rfl
theorem ceX9_checkValue : jCe yX9_checkValue mX9_checkValue 1 := ⟨wt 1 (by decide +kernel) rfl, wt 839 (by decide +kernel) rfl, by decide +kernel, by decide +kernel⟩
theorem csX9_checkValue : Cond.static yX9_checkValue ∈ WT := wt 838 (by decide +kernel) rfl
theorem ceX9_checkRoom : jCe yX9_checkRoom mX9_checkRoom 2 := ⟨wt 1 (by decide +kernel) rfl, wt 847 (by decide +kernel) rfl, by decide +kernel, by decide +kernel⟩
theorem cvX9_checkRoom : Cond.instanceMethod yX9_checkRoom ∈ WT ∧ Cond.selects yX9_checkRoom.cls yX9_checkRoom yX9_checkRoom ∈ WT ∧ vwCl[7]? = some (yX9_checkRoom.cls, TX9, 12) := ⟨wt 846 (by decide +kernel) rfl, wt_p 35 (by decide +kernel : _ = some (_, 12)), rfl⟩
theorem ceX9_forgetWhatFollows : jCe yX9_forgetWhatFollows mX9_forgetWhatFollows 0 := ⟨wt 1 (by decide +kernel) rfl, wt 872 (by decide +kernel) rfl, by decide +kernel, by decide +kernel⟩
theorem cvX9_forgetWhatFollows : Cond.instanceMethod yX9_forgetWhatFollows ∈ WT ∧ Cond.selects yX9_forgetWhatFollows.cls yX9_forgetWhatFollows yX9_forgetWhatFollows ∈ WT ∧ vwCl[7]? = some (yX9_forgetWhatFollows.cls, TX9, 12) := ⟨wt 871 (by decide +kernel) rfl, wt_p 37 (by decide +kernel : _ = some (_, 12)), rfl⟩
theorem ceX6_append : jCe yX6_append mX6_append 3 := ⟨wt 2 (by decide +kernel) rfl, wt 876 (by decide +kernel) rfl, by decide +kernel, by decide +kernel⟩
theorem cvX6_append : Cond.instanceMethod yX6_append ∈ WT ∧ Cond.selects yX6_append.cls yX6_append yX6_append ∈ WT ∧ vwCl[6]? = some (yX6_append.cls, TX6, 13) := ⟨wt 874 (by decide +kernel) rfl, wt 875 (by decide +kernel) rfl, rfl⟩
theorem ceX6_removeLast : jCe yX6_removeLast mX6_removeLast 0 := ⟨wt 2 (by decide +kernel) rfl, wt 913 (by decide +kernel) rfl, by decide +kernel, by decide +kernel⟩
theorem cvX6_removeLast : Cond.instanceMethod yX6_removeLast ∈ WT ∧ Cond.selects yX6_removeLast.cls yX6_removeLast yX6_removeLast ∈ WT ∧ vwCl[6]? = some (yX6_removeLast.cls, TX6, 13) := ⟨wt 911 (by decide +kernel) rfl, wt 912 (by decide +kernel) rfl, rfl⟩
theorem ceX9_partWith : jCe yX9_partWith mX9_partWith 2 := ⟨wt 1 (by decide +kernel) rfl, wt 924 (by decide +kernel) rfl, by decide +kernel, by decide +kernel⟩
theorem cvX9_partWith : Cond.instanceMethod yX9_partWith ∈ WT ∧ Cond.selects yX9_partWith.cls yX9_partWith yX9_partWith ∈ WT ∧ vwCl[7]? = some (yX9_partWith.cls, TX9, 12) := ⟨wt 923 (by decide +kernel) rfl, wt_p 39 (by decide +kernel : _ = some (_, 12)), rfl⟩
theorem ceX9_checkNote : jCe yX9_checkNote mX9_checkNote 2 := ⟨wt 1 (by decide +kernel) rfl, wt 929 (by decide +kernel) rfl, by decide +kernel, by decide +kernel⟩
theorem csX9_checkNote : Cond.static yX9_checkNote ∈ WT := wt 928 (by decide +kernel) rfl
theorem ceX9_checkBar : jCe yX9_checkBar mX9_checkBar 1 := ⟨wt 1 (by decide +kernel) rfl, wt 569 (by decide +kernel) rfl, by decide +kernel, by decide +kernel⟩
theorem csX9_checkBar : Cond.static yX9_checkBar ∈ WT := wt 568 (by decide +kernel) rfl
theorem ceX9_checkKey : jCe yX9_checkKey mX9_checkKey 1 := ⟨wt 1 (by decide +kernel) rfl, wt 951 (by decide +kernel) rfl, by decide +kernel, by decide +kernel⟩
theorem csX9_checkKey : Cond.static yX9_checkKey ∈ WT := wt 950 (by decide +kernel) rfl
theorem ceX0_changeKey : jCe yX0_changeKey mX0_changeKey 2 := ⟨wt 3 (by decide +kernel) rfl, wt 956 (by decide +kernel) rfl, by decide +kernel, by decide +kernel⟩
theorem cvX0_changeKey : Cond.instanceMethod yX0_changeKey ∈ WT ∧ Cond.selects yX0_changeKey.cls yX0_changeKey yX0_changeKey ∈ WT ∧ vwCl[0]? = some (yX0_changeKey.cls, TX0, 5) := ⟨wt 954 (by decide +kernel) rfl, wt 955 (by decide +kernel) rfl, rfl⟩
theorem ceX6_changeRange : jCe yX6_changeRange mX6_changeRange 2 := ⟨wt 2 (by decide +kernel) rfl, wt 968 (by decide +kernel) rfl, by decide +kernel, by decide +kernel⟩
theorem cvX6_changeRange : Cond.instanceMethod yX6_changeRange ∈ WT ∧ Cond.selects yX6_changeRange.cls yX6_changeRange yX6_changeRange ∈ WT ∧ vwCl[6]? = some (yX6_changeRange.cls, TX6, 13) := ⟨wt 966 (by decide +kernel) rfl, wt 967 (by decide +kernel) rfl, rfl⟩
theorem ceX6_notesOutOfRange : jCe yX6_notesOutOfRange mX6_notesOutOfRange 0 := ⟨wt 2 (by decide +kernel) rfl, wt 972 (by decide +kernel) rfl, by decide +kernel, by decide +kernel⟩
theorem cvX6_notesOutOfRange : Cond.instanceMethod yX6_notesOutOfRange ∈ WT ∧ Cond.selects yX6_notesOutOfRange.cls yX6_notesOutOfRange yX6_notesOutOfRange ∈ WT ∧ vwCl[6]? = some (yX6_notesOutOfRange.cls, TX6, 13) := ⟨wt 970 (by decide +kernel) rfl, wt 971 (by decide +kernel) rfl, rfl⟩
theorem ceX6_changeShift : jCe yX6_changeShift mX6_changeShift 2 := ⟨wt 2 (by decide +kernel) rfl, wt 985 (by decide +kernel) rfl, by decide +kernel, by decide +kernel⟩
theorem cvX6_changeShift : Cond.instanceMethod yX6_changeShift ∈ WT ∧ Cond.selects yX6_changeShift.cls yX6_changeShift yX6_changeShift ∈ WT ∧ vwCl[6]? = some (yX6_changeShift.cls, TX6, 13) := ⟨wt 983 (by decide +kernel) rfl, wt 984 (by decide +kernel) rfl, rfl⟩
theorem ceX6_notesWithoutWrittenPitch : jCe yX6_notesWithoutWrittenPitch mX6_notesWithoutWrittenPitch 0 := ⟨wt 2 (by decide +kernel) rfl, wt 989 (by decide +kernel) rfl, by decide +kernel, by decide +kernel⟩
theorem cvX6_notesWithoutWrittenPitch : Cond.instanceMethod yX6_notesWithoutWrittenPitch ∈ WT ∧ Cond.selects yX6_notesWithoutWrittenPitch.cls yX6_notesWithoutWrittenPitch yX6_notesWithoutWrittenPitch ∈ WT ∧ vwCl[6]? = some (yX6_notesWithoutWrittenPitch.cls, TX6, 13) := ⟨wt 987 (by decide +kernel) rfl, wt 988 (by decide +kernel) rfl, rfl⟩
theorem ceX9_measureAt : jCe yX9_measureAt mX9_measureAt 2 := ⟨wt 1 (by decide +kernel) rfl, wt 494 (by decide +kernel) rfl, by decide +kernel, by decide +kernel⟩
theorem cvX9_measureAt : Cond.instanceMethod yX9_measureAt ∈ WT ∧ Cond.selects yX9_measureAt.cls yX9_measureAt yX9_measureAt ∈ WT ∧ vwCl[7]? = some (yX9_measureAt.cls, TX9, 12) := ⟨wt 493 (by decide +kernel) rfl, wt_p 13 (by decide +kernel : _ = some (_, 12)), rfl⟩
theorem ceX5_size : jCe yX5_size mX5_size 0 := ⟨wt 4 (by decide +kernel) rfl, wt 661 (by decide +kernel) rfl, by decide +kernel, by decide +kernel⟩
theorem cvX5_size : Cond.instanceMethod yX5_size ∈ WT ∧ Cond.selects yX5_size.cls yX5_size yX5_size ∈ WT ∧ vwCl[5]? = some (yX5_size.cls, TX5, 11) := ⟨wt 659 (by decide +kernel) rfl, wt 660 (by decide +kernel) rfl, rfl⟩
theorem ceX9_measureWith : jCe yX9_measureWith mX9_measureWith 3 := ⟨wt 1 (by decide +kernel) rfl, wt 1079 (by decide +kernel) rfl, by decide +kernel, by decide +kernel⟩
theorem cvX9_measureWith : Cond.instanceMethod yX9_measureWith ∈ WT ∧ Cond.selects yX9_measureWith.cls yX9_measureWith yX9_measureWith ∈ WT ∧ vwCl[7]? = some (yX9_measureWith.cls, TX9, 12) := ⟨wt 1078 (by decide +kernel) rfl, wt_p 40 (by decide +kernel : _ = some (_, 12)), rfl⟩
theorem ceX5_eventAt : jCe yX5_eventAt mX5_eventAt 1 := ⟨wt 4 (by decide +kernel) rfl, wt 682 (by decide +kernel) rfl, by decide +kernel, by decide +kernel⟩
theorem cvX5_eventAt : Cond.instanceMethod yX5_eventAt ∈ WT ∧ Cond.selects yX5_eventAt.cls yX5_eventAt yX5_eventAt ∈ WT ∧ vwCl[5]? = some (yX5_eventAt.cls, TX5, 11) := ⟨wt 680 (by decide +kernel) rfl, wt 681 (by decide +kernel) rfl, rfl⟩
theorem ceX5_lengthAt : jCe yX5_lengthAt mX5_lengthAt 1 := ⟨wt 4 (by decide +kernel) rfl, wt 686 (by decide +kernel) rfl, by decide +kernel, by decide +kernel⟩
theorem cvX5_lengthAt : Cond.instanceMethod yX5_lengthAt ∈ WT ∧ Cond.selects yX5_lengthAt.cls yX5_lengthAt yX5_lengthAt ∈ WT ∧ vwCl[5]? = some (yX5_lengthAt.cls, TX5, 11) := ⟨wt 684 (by decide +kernel) rfl, wt 685 (by decide +kernel) rfl, rfl⟩
theorem ceX5_tiedAt : jCe yX5_tiedAt mX5_tiedAt 1 := ⟨wt 4 (by decide +kernel) rfl, wt 690 (by decide +kernel) rfl, by decide +kernel, by decide +kernel⟩
theorem cvX5_tiedAt : Cond.instanceMethod yX5_tiedAt ∈ WT ∧ Cond.selects yX5_tiedAt.cls yX5_tiedAt yX5_tiedAt ∈ WT ∧ vwCl[5]? = some (yX5_tiedAt.cls, TX5, 11) := ⟨wt 688 (by decide +kernel) rfl, wt 689 (by decide +kernel) rfl, rfl⟩
theorem ceX5_shownAt : jCe yX5_shownAt mX5_shownAt 1 := ⟨wt 4 (by decide +kernel) rfl, wt 694 (by decide +kernel) rfl, by decide +kernel, by decide +kernel⟩
theorem cvX5_shownAt : Cond.instanceMethod yX5_shownAt ∈ WT ∧ Cond.selects yX5_shownAt.cls yX5_shownAt yX5_shownAt ∈ WT ∧ vwCl[5]? = some (yX5_shownAt.cls, TX5, 11) := ⟨wt 692 (by decide +kernel) rfl, wt 693 (by decide +kernel) rfl, rfl⟩
theorem ceX5_shownAsWrittenAt : jCe yX5_shownAsWrittenAt mX5_shownAsWrittenAt 1 := ⟨wt 4 (by decide +kernel) rfl, wt 698 (by decide +kernel) rfl, by decide +kernel, by decide +kernel⟩
theorem cvX5_shownAsWrittenAt : Cond.instanceMethod yX5_shownAsWrittenAt ∈ WT ∧ Cond.selects yX5_shownAsWrittenAt.cls yX5_shownAsWrittenAt yX5_shownAsWrittenAt ∈ WT ∧ vwCl[5]? = some (yX5_shownAsWrittenAt.cls, TX5, 11) := ⟨wt 696 (by decide +kernel) rfl, wt 697 (by decide +kernel) rfl, rfl⟩
theorem ceX5_beamTotal : jCe yX5_beamTotal mX5_beamTotal 0 := ⟨wt 4 (by decide +kernel) rfl, wt 665 (by decide +kernel) rfl, by decide +kernel, by decide +kernel⟩
theorem cvX5_beamTotal : Cond.instanceMethod yX5_beamTotal ∈ WT ∧ Cond.selects yX5_beamTotal.cls yX5_beamTotal yX5_beamTotal ∈ WT ∧ vwCl[5]? = some (yX5_beamTotal.cls, TX5, 11) := ⟨wt 663 (by decide +kernel) rfl, wt 664 (by decide +kernel) rfl, rfl⟩
theorem ceX5_beamAt : jCe yX5_beamAt mX5_beamAt 1 := ⟨wt 4 (by decide +kernel) rfl, wt 702 (by decide +kernel) rfl, by decide +kernel, by decide +kernel⟩
theorem cvX5_beamAt : Cond.instanceMethod yX5_beamAt ∈ WT ∧ Cond.selects yX5_beamAt.cls yX5_beamAt yX5_beamAt ∈ WT ∧ vwCl[5]? = some (yX5_beamAt.cls, TX5, 11) := ⟨wt 700 (by decide +kernel) rfl, wt 701 (by decide +kernel) rfl, rfl⟩
theorem ceX6_end : jCe yX6_end mX6_end 0 := ⟨wt 2 (by decide +kernel) rfl, wt 404 (by decide +kernel) rfl, by decide +kernel, by decide +kernel⟩
theorem cvX6_end : Cond.instanceMethod yX6_end ∈ WT ∧ Cond.selects yX6_end.cls yX6_end yX6_end ∈ WT ∧ vwCl[6]? = some (yX6_end.cls, TX6, 13) := ⟨wt 402 (by decide +kernel) rfl, wt 403 (by decide +kernel) rfl, rfl⟩
theorem ceX0_ticksBehind : jCe yX0_ticksBehind mX0_ticksBehind 2 := ⟨wt 3 (by decide +kernel) rfl, wt 669 (by decide +kernel) rfl, by decide +kernel, by decide +kernel⟩
theorem cvX0_ticksBehind : Cond.instanceMethod yX0_ticksBehind ∈ WT ∧ Cond.selects yX0_ticksBehind.cls yX0_ticksBehind yX0_ticksBehind ∈ WT ∧ vwCl[0]? = some (yX0_ticksBehind.cls, TX0, 5) := ⟨wt 667 (by decide +kernel) rfl, wt 668 (by decide +kernel) rfl, rfl⟩
theorem ceX9_hear : jCe yX9_hear mX9_hear 0 := ⟨wt 1 (by decide +kernel) rfl, wt 285 (by decide +kernel) rfl, by decide +kernel, by decide +kernel⟩
theorem cvX9_hear : Cond.instanceMethod yX9_hear ∈ WT ∧ Cond.selects yX9_hear.cls yX9_hear yX9_hear ∈ WT ∧ vwCl[7]? = some (yX9_hear.cls, TX9, 12) := ⟨wt 284 (by decide +kernel) rfl, wt_p 0 (by decide +kernel : _ = some (_, 12)), rfl⟩
theorem ceX9_checkMoment : jCe yX9_checkMoment mX9_checkMoment 1 := ⟨wt 1 (by decide +kernel) rfl, wt 1141 (by decide +kernel) rfl, by decide +kernel, by decide +kernel⟩
theorem cvX9_checkMoment : Cond.instanceMethod yX9_checkMoment ∈ WT ∧ Cond.selects yX9_checkMoment.cls yX9_checkMoment yX9_checkMoment ∈ WT ∧ vwCl[7]? = some (yX9_checkMoment.cls, TX9, 12) := ⟨wt 1140 (by decide +kernel) rfl, wt_p 41 (by decide +kernel : _ = some (_, 12)), rfl⟩
theorem ceX9_chordAt : jCe yX9_chordAt mX9_chordAt 1 := ⟨wt 1 (by decide +kernel) rfl, wt 712 (by decide +kernel) rfl, by decide +kernel, by decide +kernel⟩
theorem cvX9_chordAt : Cond.instanceMethod yX9_chordAt ∈ WT ∧ Cond.selects yX9_chordAt.cls yX9_chordAt yX9_chordAt ∈ WT ∧ vwCl[7]? = some (yX9_chordAt.cls, TX9, 12) := ⟨wt 711 (by decide +kernel) rfl, wt_p 26 (by decide +kernel : _ = some (_, 12)), rfl⟩
theorem ceX1_rootClass : jCe yX1_rootClass mX1_rootClass 0 := ⟨wt 6 (by decide +kernel) rfl, wt 745 (by decide +kernel) rfl, by decide +kernel, by decide +kernel⟩
theorem cvX1_rootClass : Cond.instanceMethod yX1_rootClass ∈ WT ∧ Cond.selects yX1_rootClass.cls yX1_rootClass yX1_rootClass ∈ WT ∧ vwCl[1]? = some (yX1_rootClass.cls, TX1, 3) := ⟨wt 743 (by decide +kernel) rfl, wt 744 (by decide +kernel) rfl, rfl⟩
theorem ceX1_kindNumber : jCe yX1_kindNumber mX1_kindNumber 0 := ⟨wt 6 (by decide +kernel) rfl, wt 749 (by decide +kernel) rfl, by decide +kernel, by decide +kernel⟩
theorem cvX1_kindNumber : Cond.instanceMethod yX1_kindNumber ∈ WT ∧ Cond.selects yX1_kindNumber.cls yX1_kindNumber yX1_kindNumber ∈ WT ∧ vwCl[1]? = some (yX1_kindNumber.cls, TX1, 3) := ⟨wt 747 (by decide +kernel) rfl, wt 748 (by decide +kernel) rfl, rfl⟩
theorem ceX1_lowestTone : jCe yX1_lowestTone mX1_lowestTone 0 := ⟨wt 6 (by decide +kernel) rfl, wt 753 (by decide +kernel) rfl, by decide +kernel, by decide +kernel⟩
theorem cvX1_lowestTone : Cond.instanceMethod yX1_lowestTone ∈ WT ∧ Cond.selects yX1_lowestTone.cls yX1_lowestTone yX1_lowestTone ∈ WT ∧ vwCl[1]? = some (yX1_lowestTone.cls, TX1, 3) := ⟨wt 751 (by decide +kernel) rfl, wt 752 (by decide +kernel) rfl, rfl⟩
theorem ceX9_searchFaults : jCe yX9_searchFaults mX9_searchFaults 0 := ⟨wt 1 (by decide +kernel) rfl, wt 328 (by decide +kernel) rfl, by decide +kernel, by decide +kernel⟩
theorem cvX9_searchFaults : Cond.instanceMethod yX9_searchFaults ∈ WT ∧ Cond.selects yX9_searchFaults.cls yX9_searchFaults yX9_searchFaults ∈ WT ∧ vwCl[7]? = some (yX9_searchFaults.cls, TX9, 12) := ⟨wt 327 (by decide +kernel) rfl, wt_p 3 (by decide +kernel : _ = some (_, 12)), rfl⟩
theorem ceX2_size : jCe yX2_size mX2_size 0 := ⟨wt 7 (by decide +kernel) rfl, wt 392 (by decide +kernel) rfl, by decide +kernel, by decide +kernel⟩
theorem cvX2_size : Cond.instanceMethod yX2_size ∈ WT ∧ Cond.selects yX2_size.cls yX2_size yX2_size ∈ WT ∧ vwCl[2]? = some (yX2_size.cls, TX2, 8) := ⟨wt 390 (by decide +kernel) rfl, wt 391 (by decide +kernel) rfl, rfl⟩
theorem ceX9_checkFault : jCe yX9_checkFault mX9_checkFault 1 := ⟨wt 1 (by decide +kernel) rfl, wt 1182 (by decide +kernel) rfl, by decide +kernel, by decide +kernel⟩
theorem cvX9_checkFault : Cond.instanceMethod yX9_checkFault ∈ WT ∧ Cond.selects yX9_checkFault.cls yX9_checkFault yX9_checkFault ∈ WT ∧ vwCl[7]? = some (yX9_checkFault.cls, TX9, 12) := ⟨wt 1181 (by decide +kernel) rfl, wt_p 42 (by decide +kernel : _ = some (_, 12)), rfl⟩
theorem ceX2_kindAt : jCe yX2_kindAt mX2_kindAt 1 := ⟨wt 7 (by decide +kernel) rfl, wt 761 (by decide +kernel) rfl, by decide +kernel, by decide +kernel⟩
theorem cvX2_kindAt : Cond.instanceMethod yX2_kindAt ∈ WT ∧ Cond.selects yX2_kindAt.cls yX2_kindAt yX2_kindAt ∈ WT ∧ vwCl[2]? = some (yX2_kindAt.cls, TX2, 8) := ⟨wt 759 (by decide +kernel) rfl, wt 760 (by decide +kernel) rfl, rfl⟩
theorem ceX2_tickAt : jCe yX2_tickAt mX2_tickAt 1 := ⟨wt 7 (by decide +kernel) rfl, wt 769 (by decide +kernel) rfl, by decide +kernel, by decide +kernel⟩
theorem cvX2_tickAt : Cond.instanceMethod yX2_tickAt ∈ WT ∧ Cond.selects yX2_tickAt.cls yX2_tickAt yX2_tickAt ∈ WT ∧ vwCl[2]? = some (yX2_tickAt.cls, TX2, 8) := ⟨wt 767 (by decide +kernel) rfl, wt 768 (by decide +kernel) rfl, rfl⟩
theorem ceX2_partsAt : jCe yX2_partsAt mX2_partsAt 1 := ⟨wt 7 (by decide +kernel) rfl, wt 773 (by decide +kernel) rfl, by decide +kernel, by decide +kernel⟩
theorem cvX2_partsAt : Cond.instanceMethod yX2_partsAt ∈ WT ∧ Cond.selects yX2_partsAt.cls yX2_partsAt yX2_partsAt ∈ WT ∧ vwCl[2]? = some (yX2_partsAt.cls, TX2, 8) := ⟨wt 771 (by decide +kernel) rfl, wt 772 (by decide +kernel) rfl, rfl⟩
theorem ceX2_search : jCe yX2_search mX2_search 2 := ⟨wt 7 (by decide +kernel) rfl, wt 332 (by decide +kernel) rfl, by decide +kernel, by decide +kernel⟩
theorem cvX2_search : Cond.instanceMethod yX2_search ∈ WT ∧ Cond.selects yX2_search.cls yX2_search yX2_search ∈ WT ∧ vwCl[2]? = some (yX2_search.cls, TX2, 8) := ⟨wt 330 (by decide +kernel) rfl, wt 331 (by decide +kernel) rfl, rfl⟩
theorem ceX9_lastEnd : jCe yX9_lastEnd mX9_lastEnd 0 := ⟨wt 1 (by decide +kernel) rfl, wt 400 (by decide +kernel) rfl, by decide +kernel, by decide +kernel⟩
theorem cvX9_lastEnd : Cond.instanceMethod yX9_lastEnd ∈ WT ∧ Cond.selects yX9_lastEnd.cls yX9_lastEnd yX9_lastEnd ∈ WT ∧ vwCl[7]? = some (yX9_lastEnd.cls, TX9, 12) := ⟨wt 399 (by decide +kernel) rfl, wt_p 9 (by decide +kernel : _ = some (_, 12)), rfl⟩
theorem ceX0_barsUpTo : jCe yX0_barsUpTo mX0_barsUpTo 1 := ⟨wt 3 (by decide +kernel) rfl, wt 411 (by decide +kernel) rfl, by decide +kernel, by decide +kernel⟩
theorem cvX0_barsUpTo : Cond.instanceMethod yX0_barsUpTo ∈ WT ∧ Cond.selects yX0_barsUpTo.cls yX0_barsUpTo yX0_barsUpTo ∈ WT ∧ vwCl[0]? = some (yX0_barsUpTo.cls, TX0, 5) := ⟨wt 409 (by decide +kernel) rfl, wt 410 (by decide +kernel) rfl, rfl⟩
theorem ceX9_measureWidths : jCe yX9_measureWidths mX9_measureWidths 0 := ⟨wt 1 (by decide +kernel) rfl, wt 437 (by decide +kernel) rfl, by decide +kernel, by decide +kernel⟩
theorem cvX9_measureWidths : Cond.instanceMethod yX9_measureWidths ∈ WT ∧ Cond.selects yX9_measureWidths.cls yX9_measureWidths yX9_measureWidths ∈ WT ∧ vwCl[7]? = some (yX9_measureWidths.cls, TX9, 12) := ⟨wt 436 (by decide +kernel) rfl, wt_p 10 (by decide +kernel : _ = some (_, 12)), rfl⟩
theorem ceX4_widthAt : jCe yX4_widthAt mX4_widthAt 1 := ⟨wt 8 (by decide +kernel) rfl, wt 490 (by decide +kernel) rfl, by decide +kernel, by decide +kernel⟩
theorem cvX4_widthAt : Cond.instanceMethod yX4_widthAt ∈ WT ∧ Cond.selects yX4_widthAt.cls yX4_widthAt yX4_widthAt ∈ WT ∧ vwCl[4]? = some (yX4_widthAt.cls, TX4, 5) := ⟨wt 488 (by decide +kernel) rfl, wt 489 (by decide +kernel) rfl, rfl⟩
theorem ceX9_checkWidth : jCe yX9_checkWidth mX9_checkWidth 1 := ⟨wt 1 (by decide +kernel) rfl, wt 1224 (by decide +kernel) rfl, by decide +kernel, by decide +kernel⟩
theorem csX9_checkWidth : Cond.static yX9_checkWidth ∈ WT := wt 1223 (by decide +kernel) rfl
theorem ceX9_breakLines : jCe yX9_breakLines mX9_breakLines 1 := ⟨wt 1 (by decide +kernel) rfl, wt 782 (by decide +kernel) rfl, by decide +kernel, by decide +kernel⟩
theorem cvX9_breakLines : Cond.instanceMethod yX9_breakLines ∈ WT ∧ Cond.selects yX9_breakLines.cls yX9_breakLines yX9_breakLines ∈ WT ∧ vwCl[7]? = some (yX9_breakLines.cls, TX9, 12) := ⟨wt 781 (by decide +kernel) rfl, wt_p 32 (by decide +kernel : _ = some (_, 12)), rfl⟩
theorem ceX4_size : jCe yX4_size mX4_size 0 := ⟨wt 8 (by decide +kernel) rfl, wt 800 (by decide +kernel) rfl, by decide +kernel, by decide +kernel⟩
theorem cvX4_size : Cond.instanceMethod yX4_size ∈ WT ∧ Cond.selects yX4_size.cls yX4_size yX4_size ∈ WT ∧ vwCl[4]? = some (yX4_size.cls, TX4, 5) := ⟨wt 798 (by decide +kernel) rfl, wt 799 (by decide +kernel) rfl, rfl⟩
theorem ceX4_lineAt : jCe yX4_lineAt mX4_lineAt 1 := ⟨wt 8 (by decide +kernel) rfl, wt 1236 (by decide +kernel) rfl, by decide +kernel, by decide +kernel⟩
theorem cvX4_lineAt : Cond.instanceMethod yX4_lineAt ∈ WT ∧ Cond.selects yX4_lineAt.cls yX4_lineAt yX4_lineAt ∈ WT ∧ vwCl[4]? = some (yX4_lineAt.cls, TX4, 5) := ⟨wt 1234 (by decide +kernel) rfl, wt 1235 (by decide +kernel) rfl, rfl⟩
theorem ceX4_leastCost : jCe yX4_leastCost mX4_leastCost 0 := ⟨wt 8 (by decide +kernel) rfl, wt 804 (by decide +kernel) rfl, by decide +kernel, by decide +kernel⟩
theorem cvX4_leastCost : Cond.instanceMethod yX4_leastCost ∈ WT ∧ Cond.selects yX4_leastCost.cls yX4_leastCost yX4_leastCost ∈ WT ∧ vwCl[4]? = some (yX4_leastCost.cls, TX4, 5) := ⟨wt 802 (by decide +kernel) rfl, wt 803 (by decide +kernel) rfl, rfl⟩
theorem ceX6_sumOfHeights : jCe yX6_sumOfHeights mX6_sumOfHeights 0 := ⟨wt 2 (by decide +kernel) rfl, wt 423 (by decide +kernel) rfl, by decide +kernel, by decide +kernel⟩
theorem cvX6_sumOfHeights : Cond.instanceMethod yX6_sumOfHeights ∈ WT ∧ Cond.selects yX6_sumOfHeights.cls yX6_sumOfHeights yX6_sumOfHeights ∈ WT ∧ vwCl[6]? = some (yX6_sumOfHeights.cls, TX6, 13) := ⟨wt 421 (by decide +kernel) rfl, wt 422 (by decide +kernel) rfl, rfl⟩
theorem ceX6_notes : jCe yX6_notes mX6_notes 0 := ⟨wt 2 (by decide +kernel) rfl, wt 429 (by decide +kernel) rfl, by decide +kernel, by decide +kernel⟩
theorem cvX6_notes : Cond.instanceMethod yX6_notes ∈ WT ∧ Cond.selects yX6_notes.cls yX6_notes yX6_notes ∈ WT ∧ vwCl[6]? = some (yX6_notes.cls, TX6, 13) := ⟨wt 427 (by decide +kernel) rfl, wt 428 (by decide +kernel) rfl, rfl⟩
theorem ceX9_mixPart : jCe yX9_mixPart mX9_mixPart 2 := ⟨wt 1 (by decide +kernel) rfl, wt 461 (by decide +kernel) rfl, by decide +kernel, by decide +kernel⟩
theorem cvX9_mixPart : Cond.instanceMethod yX9_mixPart ∈ WT ∧ Cond.selects yX9_mixPart.cls yX9_mixPart yX9_mixPart ∈ WT ∧ vwCl[7]? = some (yX9_mixPart.cls, TX9, 12) := ⟨wt 460 (by decide +kernel) rfl, wt_p 11 (by decide +kernel : _ = some (_, 12)), rfl⟩
theorem ceX9_mixBar : jCe yX9_mixBar mX9_mixBar 2 := ⟨wt 1 (by decide +kernel) rfl, wt 484 (by decide +kernel) rfl, by decide +kernel, by decide +kernel⟩
theorem cvX9_mixBar : Cond.instanceMethod yX9_mixBar ∈ WT ∧ Cond.selects yX9_mixBar.cls yX9_mixBar yX9_mixBar ∈ WT ∧ vwCl[7]? = some (yX9_mixBar.cls, TX9, 12) := ⟨wt 483 (by decide +kernel) rfl, wt_p 12 (by decide +kernel : _ = some (_, 12)), rfl⟩
theorem ceX9_mixMoments : jCe yX9_mixMoments mX9_mixMoments 1 := ⟨wt 1 (by decide +kernel) rfl, wt 706 (by decide +kernel) rfl, by decide +kernel, by decide +kernel⟩
theorem cvX9_mixMoments : Cond.instanceMethod yX9_mixMoments ∈ WT ∧ Cond.selects yX9_mixMoments.cls yX9_mixMoments yX9_mixMoments ∈ WT ∧ vwCl[7]? = some (yX9_mixMoments.cls, TX9, 12) := ⟨wt 705 (by decide +kernel) rfl, wt_p 25 (by decide +kernel : _ = some (_, 12)), rfl⟩
theorem ceX9_mixFaults : jCe yX9_mixFaults mX9_mixFaults 1 := ⟨wt 1 (by decide +kernel) rfl, wt 757 (by decide +kernel) rfl, by decide +kernel, by decide +kernel⟩
theorem cvX9_mixFaults : Cond.instanceMethod yX9_mixFaults ∈ WT ∧ Cond.selects yX9_mixFaults.cls yX9_mixFaults yX9_mixFaults ∈ WT ∧ vwCl[7]? = some (yX9_mixFaults.cls, TX9, 12) := ⟨wt 756 (by decide +kernel) rfl, wt_p 30 (by decide +kernel : _ = some (_, 12)), rfl⟩
theorem ceX9_bars : jCe yX9_bars mX9_bars 0 := ⟨wt 1 (by decide +kernel) rfl, wt 396 (by decide +kernel) rfl, by decide +kernel, by decide +kernel⟩
theorem cvX9_bars : Cond.instanceMethod yX9_bars ∈ WT ∧ Cond.selects yX9_bars.cls yX9_bars yX9_bars ∈ WT ∧ vwCl[7]? = some (yX9_bars.cls, TX9, 12) := ⟨wt 394 (by decide +kernel) rfl, wt 395 (by decide +kernel) rfl, rfl⟩
theorem ceX9_mix : jCe yX9_mix mX9_mix 2 := ⟨wt 1 (by decide +kernel) rfl, wt 468 (by decide +kernel) rfl, by decide +kernel, by decide +kernel⟩
theorem csX9_mix : Cond.static yX9_mix ∈ WT := wt 467 (by decide +kernel) rfl
theorem ceX9_mixLines : jCe yX9_mixLines mX9_mixLines 2 := ⟨wt 1 (by decide +kernel) rfl, wt 778 (by decide +kernel) rfl, by decide +kernel, by decide +kernel⟩
theorem cvX9_mixLines : Cond.instanceMethod yX9_mixLines ∈ WT ∧ Cond.selects yX9_mixLines.cls yX9_mixLines yX9_mixLines ∈ WT ∧ vwCl[7]? = some (yX9_mixLines.cls, TX9, 12) := ⟨wt 777 (by decide +kernel) rfl, wt_p 31 (by decide +kernel : _ = some (_, 12)), rfl⟩
theorem ceX9_mixSigns : jCe yX9_mixSigns mX9_mixSigns 2 := ⟨wt 1 (by decide +kernel) rfl, wt 678 (by decide +kernel) rfl, by decide +kernel, by decide +kernel⟩
theorem cvX9_mixSigns : Cond.instanceMethod yX9_mixSigns ∈ WT ∧ Cond.selects yX9_mixSigns.cls yX9_mixSigns yX9_mixSigns ∈ WT ∧ vwCl[7]? = some (yX9_mixSigns.cls, TX9, 12) := ⟨wt 677 (by decide +kernel) rfl, wt_p 24 (by decide +kernel : _ = some (_, 12)), rfl⟩
theorem ceX3_listen : jCe yX3_listen mX3_listen 1 := ⟨wt 5 (by decide +kernel) rfl, wt 289 (by decide +kernel) rfl, by decide +kernel, by decide +kernel⟩
theorem cvX3_listen : Cond.instanceMethod yX3_listen ∈ WT ∧ Cond.selects yX3_listen.cls yX3_listen yX3_listen ∈ WT ∧ vwCl[3]? = some (yX3_listen.cls, TX3, 4) := ⟨wt 287 (by decide +kernel) rfl, wt 288 (by decide +kernel) rfl, rfl⟩
theorem ceX4_measureWidths : jCe yX4_measureWidths mX4_measureWidths 2 := ⟨wt 8 (by decide +kernel) rfl, wt 441 (by decide +kernel) rfl, by decide +kernel, by decide +kernel⟩
theorem cvX4_measureWidths : Cond.instanceMethod yX4_measureWidths ∈ WT ∧ Cond.selects yX4_measureWidths.cls yX4_measureWidths yX4_measureWidths ∈ WT ∧ vwCl[4]? = some (yX4_measureWidths.cls, TX4, 5) := ⟨wt 439 (by decide +kernel) rfl, wt 440 (by decide +kernel) rfl, rfl⟩
theorem ceX4_breakUp : jCe yX4_breakUp mX4_breakUp 2 := ⟨wt 8 (by decide +kernel) rfl, wt 786 (by decide +kernel) rfl, by decide +kernel, by decide +kernel⟩
theorem cvX4_breakUp : Cond.instanceMethod yX4_breakUp ∈ WT ∧ Cond.selects yX4_breakUp.cls yX4_breakUp yX4_breakUp ∈ WT ∧ vwCl[4]? = some (yX4_breakUp.cls, TX4, 5) := ⟨wt 784 (by decide +kernel) rfl, wt 785 (by decide +kernel) rfl, rfl⟩
theorem ceX5_write : jCe yX5_write mX5_write 3 := ⟨wt 4 (by decide +kernel) rfl, wt 574 (by decide +kernel) rfl, by decide +kernel, by decide +kernel⟩
theorem cvX5_write : Cond.instanceMethod yX5_write ∈ WT ∧ Cond.selects yX5_write.cls yX5_write yX5_write ∈ WT ∧ vwCl[5]? = some (yX5_write.cls, TX5, 11) := ⟨wt 572 (by decide +kernel) rfl, wt 573 (by decide +kernel) rfl, rfl⟩
theorem ceX1_tell : jCe yX1_tell mX1_tell 3 := ⟨wt 6 (by decide +kernel) rfl, wt 716 (by decide +kernel) rfl, by decide +kernel, by decide +kernel⟩
theorem cvX1_tell : Cond.instanceMethod yX1_tell ∈ WT ∧ Cond.selects yX1_tell.cls yX1_tell yX1_tell ∈ WT ∧ vwCl[1]? = some (yX1_tell.cls, TX1, 3) := ⟨wt 714 (by decide +kernel) rfl, wt 715 (by decide +kernel) rfl, rfl⟩
theorem ceX9_allEvents : jCe yX9_allEvents mX9_allEvents 0 := ⟨wt 1 (by decide +kernel) rfl, wt 851 (by decide +kernel) rfl, by decide +kernel, by decide +kernel⟩
theorem cvX9_allEvents : Cond.instanceMethod yX9_allEvents ∈ WT ∧ Cond.selects yX9_allEvents.cls yX9_allEvents yX9_allEvents ∈ WT ∧ vwCl[7]? = some (yX9_allEvents.cls, TX9, 12) := ⟨wt 850 (by decide +kernel) rfl, wt_p 36 (by decide +kernel : _ = some (_, 12)), rfl⟩
theorem ceX8_isValue : jCe yX8_isValue mX8_isValue 1 := ⟨wt 18 (by decide +kernel) rfl, wt 842 (by decide +kernel) rfl, by decide +kernel, by decide +kernel⟩
theorem csX8_isValue : Cond.static yX8_isValue ∈ WT := wt 841 (by decide +kernel) rfl
theorem ceX10_endOf : jCe yX10_endOf mX10_endOf 1 := ⟨wt 10 (by decide +kernel) rfl, wt 1426 (by decide +kernel) rfl, by decide +kernel, by decide +kernel⟩
theorem cvX10_endOf : Cond.instanceMethod yX10_endOf ∈ WT ∧ Cond.selects yX10_endOf.cls yX10_endOf yX10_endOf ∈ WT ∧ vwCl[8]? = some (yX10_endOf.cls, TX10, 9) := ⟨wt 1424 (by decide +kernel) rfl, wt 1425 (by decide +kernel) rfl, rfl⟩
theorem ceJ7_copyOf_59c91 : jCe yJ7_copyOf_59c91 mJ7_copyOf_59c91 2 := ⟨wt 11 (by decide +kernel) rfl, wt 1441 (by decide +kernel) rfl, by decide +kernel, by decide +kernel⟩
theorem csJ7_copyOf_59c91 : Cond.static yJ7_copyOf_59c91 ∈ WT := wt 1440 (by decide +kernel) rfl
theorem ceX10_end : jCe yX10_end mX10_end 0 := ⟨wt 10 (by decide +kernel) rfl, wt 1422 (by decide +kernel) rfl, by decide +kernel, by decide +kernel⟩
theorem cvX10_end : Cond.instanceMethod yX10_end ∈ WT ∧ Cond.selects yX10_end.cls yX10_end yX10_end ∈ WT ∧ vwCl[8]? = some (yX10_end.cls, TX10, 9) := ⟨wt 1420 (by decide +kernel) rfl, wt 1421 (by decide +kernel) rfl, rfl⟩
theorem ceX11_base : jCe yX11_base mX11_base 1 := ⟨wt 9 (by decide +kernel) rfl, wt 1480 (by decide +kernel) rfl, by decide +kernel, by decide +kernel⟩
theorem csX11_base : Cond.static yX11_base ∈ WT := wt 1479 (by decide +kernel) rfl
theorem ceX10_isNote : jCe yX10_isNote mX10_isNote 1 := ⟨wt 10 (by decide +kernel) rfl, wt 1473 (by decide +kernel) rfl, by decide +kernel, by decide +kernel⟩
theorem cvX10_isNote : Cond.instanceMethod yX10_isNote ∈ WT ∧ Cond.selects yX10_isNote.cls yX10_isNote yX10_isNote ∈ WT ∧ vwCl[8]? = some (yX10_isNote.cls, TX10, 9) := ⟨wt 1471 (by decide +kernel) rfl, wt 1472 (by decide +kernel) rfl, rfl⟩
theorem ceX10_height : jCe yX10_height mX10_height 1 := ⟨wt 10 (by decide +kernel) rfl, wt 1477 (by decide +kernel) rfl, by decide +kernel, by decide +kernel⟩
theorem cvX10_height : Cond.instanceMethod yX10_height ∈ WT ∧ Cond.selects yX10_height.cls yX10_height yX10_height ∈ WT ∧ vwCl[8]? = some (yX10_height.cls, TX10, 9) := ⟨wt 1475 (by decide +kernel) rfl, wt 1476 (by decide +kernel) rfl, rfl⟩
theorem ceX10_writtenPlace : jCe yX10_writtenPlace mX10_writtenPlace 1 := ⟨wt 10 (by decide +kernel) rfl, wt 1516 (by decide +kernel) rfl, by decide +kernel, by decide +kernel⟩
theorem cvX10_writtenPlace : Cond.instanceMethod yX10_writtenPlace ∈ WT ∧ Cond.selects yX10_writtenPlace.cls yX10_writtenPlace yX10_writtenPlace ∈ WT ∧ vwCl[8]? = some (yX10_writtenPlace.cls, TX10, 9) := ⟨wt 1514 (by decide +kernel) rfl, wt 1515 (by decide +kernel) rfl, rfl⟩
theorem ceX11_is : jCe yX11_is mX11_is 3 := ⟨wt 9 (by decide +kernel) rfl, wt 1402 (by decide +kernel) rfl, by decide +kernel, by decide +kernel⟩
theorem csX11_is : Cond.static yX11_is ∈ WT := wt 1401 (by decide +kernel) rfl
theorem ceX10_writtenAlter : jCe yX10_writtenAlter mX10_writtenAlter 1 := ⟨wt 10 (by decide +kernel) rfl, wt 1521 (by decide +kernel) rfl, by decide +kernel, by decide +kernel⟩
theorem cvX10_writtenAlter : Cond.instanceMethod yX10_writtenAlter ∈ WT ∧ Cond.selects yX10_writtenAlter.cls yX10_writtenAlter yX10_writtenAlter ∈ WT ∧ vwCl[8]? = some (yX10_writtenAlter.cls, TX10, 9) := ⟨wt 1519 (by decide +kernel) rfl, wt 1520 (by decide +kernel) rfl, rfl⟩
theorem ceX10_init : jCe yX10_init mX10_init 0 := ⟨wt 10 (by decide +kernel) rfl, wt 1255 (by decide +kernel) rfl, by decide +kernel, by decide +kernel⟩
theorem ciX10_init : Cond.instanceMethod yX10_init ∈ WT ∧ yX10_init.name = "<init>" := ⟨wt 1254 (by decide +kernel) rfl, rfl⟩
theorem ceX11_isPart : jCe yX11_isPart mX11_isPart 1 := ⟨wt 9 (by decide +kernel) rfl, wt 1399 (by decide +kernel) rfl, by decide +kernel, by decide +kernel⟩
theorem csX11_isPart : Cond.static yX11_isPart ∈ WT := wt 1398 (by decide +kernel) rfl
theorem ceX11_length : jCe yX11_length mX11_length 1 := ⟨wt 9 (by decide +kernel) rfl, wt 1434 (by decide +kernel) rfl, by decide +kernel, by decide +kernel⟩
theorem cvX11_length : Cond.instanceMethod yX11_length ∈ WT ∧ Cond.selects yX11_length.cls yX11_length yX11_length ∈ WT ∧ vwCl[9]? = some (yX11_length.cls, TX11, 31) := ⟨wt 1433 (by decide +kernel) rfl, wt_p 46 (by decide +kernel : _ = some (_, 31)), rfl⟩
theorem ceX11_begin : jCe yX11_begin mX11_begin 1 := ⟨wt 9 (by decide +kernel) rfl, wt 1430 (by decide +kernel) rfl, by decide +kernel, by decide +kernel⟩
theorem cvX11_begin : Cond.instanceMethod yX11_begin ∈ WT ∧ Cond.selects yX11_begin.cls yX11_begin yX11_begin ∈ WT ∧ vwCl[9]? = some (yX11_begin.cls, TX11, 31) := ⟨wt 1429 (by decide +kernel) rfl, wt_p 45 (by decide +kernel : _ = some (_, 31)), rfl⟩
theorem ceX11_refuse : jCe yX11_refuse mX11_refuse 1 := ⟨wt 9 (by decide +kernel) rfl, wt 1406 (by decide +kernel) rfl, by decide +kernel, by decide +kernel⟩
theorem cvX11_refuse : Cond.instanceMethod yX11_refuse ∈ WT ∧ Cond.selects yX11_refuse.cls yX11_refuse yX11_refuse ∈ WT ∧ vwCl[9]? = some (yX11_refuse.cls, TX11, 31) := ⟨wt 1405 (by decide +kernel) rfl, wt_p 43 (by decide +kernel : _ = some (_, 31)), rfl⟩
theorem ceX10_add : jCe yX10_add mX10_add 3 := ⟨wt 10 (by decide +kernel) rfl, wt 1438 (by decide +kernel) rfl, by decide +kernel, by decide +kernel⟩
theorem cvX10_add : Cond.instanceMethod yX10_add ∈ WT ∧ Cond.selects yX10_add.cls yX10_add yX10_add ∈ WT ∧ vwCl[8]? = some (yX10_add.cls, TX10, 9) := ⟨wt 1436 (by decide +kernel) rfl, wt 1437 (by decide +kernel) rfl, rfl⟩
theorem ceX11_isPitch : jCe yX11_isPitch mX11_isPitch 2 := ⟨wt 9 (by decide +kernel) rfl, wt 1409 (by decide +kernel) rfl, by decide +kernel, by decide +kernel⟩
theorem csX11_isPitch : Cond.static yX11_isPitch ∈ WT := wt 1408 (by decide +kernel) rfl
theorem ceX11_isValue : jCe yX11_isValue mX11_isValue 1 := ⟨wt 9 (by decide +kernel) rfl, wt 1412 (by decide +kernel) rfl, by decide +kernel, by decide +kernel⟩
theorem csX11_isValue : Cond.static yX11_isValue ∈ WT := wt 1411 (by decide +kernel) rfl
theorem ceX11_add : jCe yX11_add mX11_add 4 := ⟨wt 9 (by decide +kernel) rfl, wt 1418 (by decide +kernel) rfl, by decide +kernel, by decide +kernel⟩
theorem cvX11_add : Cond.instanceMethod yX11_add ∈ WT ∧ Cond.selects yX11_add.cls yX11_add yX11_add ∈ WT ∧ vwCl[9]? = some (yX11_add.cls, TX11, 31) := ⟨wt 1417 (by decide +kernel) rfl, wt_p 44 (by decide +kernel : _ = some (_, 31)), rfl⟩
theorem ceX11_isEvent : jCe yX11_isEvent mX11_isEvent 2 := ⟨wt 9 (by decide +kernel) rfl, wt 1469 (by decide +kernel) rfl, by decide +kernel, by decide +kernel⟩
theorem cvX11_isEvent : Cond.instanceMethod yX11_isEvent ∈ WT ∧ Cond.selects yX11_isEvent.cls yX11_isEvent yX11_isEvent ∈ WT ∧ vwCl[9]? = some (yX11_isEvent.cls, TX11, 31) := ⟨wt 1468 (by decide +kernel) rfl, wt_p 47 (by decide +kernel : _ = some (_, 31)), rfl⟩
theorem ceX11_isBar : jCe yX11_isBar mX11_isBar 1 := ⟨wt 9 (by decide +kernel) rfl, wt 1491 (by decide +kernel) rfl, by decide +kernel, by decide +kernel⟩
theorem csX11_isBar : Cond.static yX11_isBar ∈ WT := wt 1490 (by decide +kernel) rfl
theorem ceX10_isOut : jCe yX10_isOut mX10_isOut 1 := ⟨wt 10 (by decide +kernel) rfl, wt 1503 (by decide +kernel) rfl, by decide +kernel, by decide +kernel⟩
theorem cvX10_isOut : Cond.instanceMethod yX10_isOut ∈ WT ∧ Cond.selects yX10_isOut.cls yX10_isOut yX10_isOut ∈ WT ∧ vwCl[8]? = some (yX10_isOut.cls, TX10, 9) := ⟨wt 1501 (by decide +kernel) rfl, wt 1502 (by decide +kernel) rfl, rfl⟩
theorem ceX10_isWritten : jCe yX10_isWritten mX10_isWritten 1 := ⟨wt 10 (by decide +kernel) rfl, wt 1512 (by decide +kernel) rfl, by decide +kernel, by decide +kernel⟩
theorem cvX10_isWritten : Cond.instanceMethod yX10_isWritten ∈ WT ∧ Cond.selects yX10_isWritten.cls yX10_isWritten yX10_isWritten ∈ WT ∧ vwCl[8]? = some (yX10_isWritten.cls, TX10, 9) := ⟨wt 1510 (by decide +kernel) rfl, wt 1511 (by decide +kernel) rfl, rfl⟩
theorem ceX11_heightNow : jCe yX11_heightNow mX11_heightNow 2 := ⟨wt 9 (by decide +kernel) rfl, wt 1538 (by decide +kernel) rfl, by decide +kernel, by decide +kernel⟩
theorem cvX11_heightNow : Cond.instanceMethod yX11_heightNow ∈ WT ∧ Cond.selects yX11_heightNow.cls yX11_heightNow yX11_heightNow ∈ WT ∧ vwCl[9]? = some (yX11_heightNow.cls, TX11, 31) := ⟨wt 1537 (by decide +kernel) rfl, wt_p 48 (by decide +kernel : _ = some (_, 31)), rfl⟩
theorem ceX11_barAt : jCe yX11_barAt mX11_barAt 1 := ⟨wt 9 (by decide +kernel) rfl, wt 1546 (by decide +kernel) rfl, by decide +kernel, by decide +kernel⟩
theorem cvX11_barAt : Cond.instanceMethod yX11_barAt ∈ WT ∧ Cond.selects yX11_barAt.cls yX11_barAt yX11_barAt ∈ WT ∧ vwCl[9]? = some (yX11_barAt.cls, TX11, 31) := ⟨wt 1545 (by decide +kernel) rfl, wt_p 49 (by decide +kernel : _ = some (_, 31)), rfl⟩
theorem ceX11_writtenPlaceNow : jCe yX11_writtenPlaceNow mX11_writtenPlaceNow 2 := ⟨wt 9 (by decide +kernel) rfl, wt 1554 (by decide +kernel) rfl, by decide +kernel, by decide +kernel⟩
theorem cvX11_writtenPlaceNow : Cond.instanceMethod yX11_writtenPlaceNow ∈ WT ∧ Cond.selects yX11_writtenPlaceNow.cls yX11_writtenPlaceNow yX11_writtenPlaceNow ∈ WT ∧ vwCl[9]? = some (yX11_writtenPlaceNow.cls, TX11, 31) := ⟨wt 1553 (by decide +kernel) rfl, wt_p 50 (by decide +kernel : _ = some (_, 31)), rfl⟩
theorem ceX11_writtenAlterNow : jCe yX11_writtenAlterNow mX11_writtenAlterNow 2 := ⟨wt 9 (by decide +kernel) rfl, wt 1563 (by decide +kernel) rfl, by decide +kernel, by decide +kernel⟩
theorem cvX11_writtenAlterNow : Cond.instanceMethod yX11_writtenAlterNow ∈ WT ∧ Cond.selects yX11_writtenAlterNow.cls yX11_writtenAlterNow yX11_writtenAlterNow ∈ WT ∧ vwCl[9]? = some (yX11_writtenAlterNow.cls, TX11, 31) := ⟨wt 1562 (by decide +kernel) rfl, wt_p 51 (by decide +kernel : _ = some (_, 31)), rfl⟩
theorem ceX11_altered : jCe yX11_altered mX11_altered 2 := ⟨wt 9 (by decide +kernel) rfl, wt 1571 (by decide +kernel) rfl, by decide +kernel, by decide +kernel⟩
theorem csX11_altered : Cond.static yX11_altered ∈ WT := wt 1570 (by decide +kernel) rfl
theorem ceX11_keyWritten : jCe yX11_keyWritten mX11_keyWritten 2 := ⟨wt 9 (by decide +kernel) rfl, wt 1582 (by decide +kernel) rfl, by decide +kernel, by decide +kernel⟩
theorem cvX11_keyWritten : Cond.instanceMethod yX11_keyWritten ∈ WT ∧ Cond.selects yX11_keyWritten.cls yX11_keyWritten yX11_keyWritten ∈ WT ∧ vwCl[9]? = some (yX11_keyWritten.cls, TX11, 31) := ⟨wt 1581 (by decide +kernel) rfl, wt_p 52 (by decide +kernel : _ = some (_, 31)), rfl⟩
theorem ceX11_show : jCe yX11_show mX11_show 4 := ⟨wt 9 (by decide +kernel) rfl, wt 1609 (by decide +kernel) rfl, by decide +kernel, by decide +kernel⟩
theorem cvX11_show : Cond.instanceMethod yX11_show ∈ WT ∧ Cond.selects yX11_show.cls yX11_show yX11_show ∈ WT ∧ vwCl[9]? = some (yX11_show.cls, TX11, 31) := ⟨wt 1608 (by decide +kernel) rfl, wt_p 55 (by decide +kernel : _ = some (_, 31)), rfl⟩
theorem ceX11_beam : jCe yX11_beam mX11_beam 3 := ⟨wt 9 (by decide +kernel) rfl, wt 1613 (by decide +kernel) rfl, by decide +kernel, by decide +kernel⟩
theorem cvX11_beam : Cond.instanceMethod yX11_beam ∈ WT ∧ Cond.selects yX11_beam.cls yX11_beam yX11_beam ∈ WT ∧ vwCl[9]? = some (yX11_beam.cls, TX11, 31) := ⟨wt 1612 (by decide +kernel) rfl, wt_p 56 (by decide +kernel : _ = some (_, 31)), rfl⟩
theorem ceX11_isShort : jCe yX11_isShort mX11_isShort 2 := ⟨wt 9 (by decide +kernel) rfl, wt 1617 (by decide +kernel) rfl, by decide +kernel, by decide +kernel⟩
theorem cvX11_isShort : Cond.instanceMethod yX11_isShort ∈ WT ∧ Cond.selects yX11_isShort.cls yX11_isShort yX11_isShort ∈ WT ∧ vwCl[9]? = some (yX11_isShort.cls, TX11, 31) := ⟨wt 1616 (by decide +kernel) rfl, wt_p 57 (by decide +kernel : _ = some (_, 31)), rfl⟩
theorem ceX11_lay : jCe yX11_lay mX11_lay 2 := ⟨wt 9 (by decide +kernel) rfl, wt 1602 (by decide +kernel) rfl, by decide +kernel, by decide +kernel⟩
theorem cvX11_lay : Cond.instanceMethod yX11_lay ∈ WT ∧ Cond.selects yX11_lay.cls yX11_lay yX11_lay ∈ WT ∧ vwCl[9]? = some (yX11_lay.cls, TX11, 31) := ⟨wt 1601 (by decide +kernel) rfl, wt_p 54 (by decide +kernel : _ = some (_, 31)), rfl⟩
theorem ceX11_has : jCe yX11_has mX11_has 2 := ⟨wt 9 (by decide +kernel) rfl, wt 1598 (by decide +kernel) rfl, by decide +kernel, by decide +kernel⟩
theorem cvX11_has : Cond.instanceMethod yX11_has ∈ WT ∧ Cond.selects yX11_has.cls yX11_has yX11_has ∈ WT ∧ vwCl[9]? = some (yX11_has.cls, TX11, 31) := ⟨wt 1597 (by decide +kernel) rfl, wt_p 53 (by decide +kernel : _ = some (_, 31)), rfl⟩
theorem ceX11_has_ : jCe yX11_has_ mX11_has_ 3 := ⟨wt 9 (by decide +kernel) rfl, wt 1625 (by decide +kernel) rfl, by decide +kernel, by decide +kernel⟩
theorem cvX11_has_ : Cond.instanceMethod yX11_has_ ∈ WT ∧ Cond.selects yX11_has_.cls yX11_has_ yX11_has_ ∈ WT ∧ vwCl[9]? = some (yX11_has_.cls, TX11, 31) := ⟨wt 1624 (by decide +kernel) rfl, wt_p 58 (by decide +kernel : _ = some (_, 31)), rfl⟩
theorem ceX11_missingNow : jCe yX11_missingNow mX11_missingNow 2 := ⟨wt 9 (by decide +kernel) rfl, wt 1657 (by decide +kernel) rfl, by decide +kernel, by decide +kernel⟩
theorem cvX11_missingNow : Cond.instanceMethod yX11_missingNow ∈ WT ∧ Cond.selects yX11_missingNow.cls yX11_missingNow yX11_missingNow ∈ WT ∧ vwCl[9]? = some (yX11_missingNow.cls, TX11, 31) := ⟨wt 1656 (by decide +kernel) rfl, wt_p 59 (by decide +kernel : _ = some (_, 31)), rfl⟩
theorem ceX11_beginWalk : jCe yX11_beginWalk mX11_beginWalk 0 := ⟨wt 9 (by decide +kernel) rfl, wt 1669 (by decide +kernel) rfl, by decide +kernel, by decide +kernel⟩
theorem cvX11_beginWalk : Cond.instanceMethod yX11_beginWalk ∈ WT ∧ Cond.selects yX11_beginWalk.cls yX11_beginWalk yX11_beginWalk ∈ WT ∧ vwCl[9]? = some (yX11_beginWalk.cls, TX11, 31) := ⟨wt 1668 (by decide +kernel) rfl, wt_p 61 (by decide +kernel : _ = some (_, 31)), rfl⟩
theorem ceX11_walk : jCe yX11_walk mX11_walk 0 := ⟨wt 9 (by decide +kernel) rfl, wt 1673 (by decide +kernel) rfl, by decide +kernel, by decide +kernel⟩
theorem cvX11_walk : Cond.instanceMethod yX11_walk ∈ WT ∧ Cond.selects yX11_walk.cls yX11_walk yX11_walk ∈ WT ∧ vwCl[9]? = some (yX11_walk.cls, TX11, 31) := ⟨wt 1672 (by decide +kernel) rfl, wt_p 62 (by decide +kernel : _ = some (_, 31)), rfl⟩
theorem ceX11_momentsNow : jCe yX11_momentsNow mX11_momentsNow 0 := ⟨wt 9 (by decide +kernel) rfl, wt 1665 (by decide +kernel) rfl, by decide +kernel, by decide +kernel⟩
theorem cvX11_momentsNow : Cond.instanceMethod yX11_momentsNow ∈ WT ∧ Cond.selects yX11_momentsNow.cls yX11_momentsNow yX11_momentsNow ∈ WT ∧ vwCl[9]? = some (yX11_momentsNow.cls, TX11, 31) := ⟨wt 1664 (by decide +kernel) rfl, wt_p 60 (by decide +kernel : _ = some (_, 31)), rfl⟩
theorem ceX11_walkTo : jCe yX11_walkTo mX11_walkTo 1 := ⟨wt 9 (by decide +kernel) rfl, wt 1682 (by decide +kernel) rfl, by decide +kernel, by decide +kernel⟩
theorem cvX11_walkTo : Cond.instanceMethod yX11_walkTo ∈ WT ∧ Cond.selects yX11_walkTo.cls yX11_walkTo yX11_walkTo ∈ WT ∧ vwCl[9]? = some (yX11_walkTo.cls, TX11, 31) := ⟨wt 1681 (by decide +kernel) rfl, wt_p 63 (by decide +kernel : _ = some (_, 31)), rfl⟩
theorem ceX11_soundsNow : jCe yX11_soundsNow mX11_soundsNow 1 := ⟨wt 9 (by decide +kernel) rfl, wt 1690 (by decide +kernel) rfl, by decide +kernel, by decide +kernel⟩
theorem cvX11_soundsNow : Cond.instanceMethod yX11_soundsNow ∈ WT ∧ Cond.selects yX11_soundsNow.cls yX11_soundsNow yX11_soundsNow ∈ WT ∧ vwCl[9]? = some (yX11_soundsNow.cls, TX11, 31) := ⟨wt 1689 (by decide +kernel) rfl, wt_p 64 (by decide +kernel : _ = some (_, 31)), rfl⟩
theorem ceX11_findChord : jCe yX11_findChord mX11_findChord 0 := ⟨wt 9 (by decide +kernel) rfl, wt 1698 (by decide +kernel) rfl, by decide +kernel, by decide +kernel⟩
theorem cvX11_findChord : Cond.instanceMethod yX11_findChord ∈ WT ∧ Cond.selects yX11_findChord.cls yX11_findChord yX11_findChord ∈ WT ∧ vwCl[9]? = some (yX11_findChord.cls, TX11, 31) := ⟨wt 1697 (by decide +kernel) rfl, wt_p 65 (by decide +kernel : _ = some (_, 31)), rfl⟩
theorem ceX11_blameParallels : jCe yX11_blameParallels mX11_blameParallels 2 := ⟨wt 9 (by decide +kernel) rfl, wt 1718 (by decide +kernel) rfl, by decide +kernel, by decide +kernel⟩
theorem cvX11_blameParallels : Cond.instanceMethod yX11_blameParallels ∈ WT ∧ Cond.selects yX11_blameParallels.cls yX11_blameParallels yX11_blameParallels ∈ WT ∧ vwCl[9]? = some (yX11_blameParallels.cls, TX11, 31) := ⟨wt 1717 (by decide +kernel) rfl, wt_p 67 (by decide +kernel : _ = some (_, 31)), rfl⟩
theorem ceX11_begins : jCe yX11_begins mX11_begins 1 := ⟨wt 9 (by decide +kernel) rfl, wt 1722 (by decide +kernel) rfl, by decide +kernel, by decide +kernel⟩
theorem cvX11_begins : Cond.instanceMethod yX11_begins ∈ WT ∧ Cond.selects yX11_begins.cls yX11_begins yX11_begins ∈ WT ∧ vwCl[9]? = some (yX11_begins.cls, TX11, 31) := ⟨wt 1721 (by decide +kernel) rfl, wt_p 68 (by decide +kernel : _ = some (_, 31)), rfl⟩
theorem ceX11_blame : jCe yX11_blame mX11_blame 2 := ⟨wt 9 (by decide +kernel) rfl, wt 1726 (by decide +kernel) rfl, by decide +kernel, by decide +kernel⟩
theorem cvX11_blame : Cond.instanceMethod yX11_blame ∈ WT ∧ Cond.selects yX11_blame.cls yX11_blame yX11_blame ∈ WT ∧ vwCl[9]? = some (yX11_blame.cls, TX11, 31) := ⟨wt 1725 (by decide +kernel) rfl, wt_p 69 (by decide +kernel : _ = some (_, 31)), rfl⟩
theorem ceX11_blamePart : jCe yX11_blamePart mX11_blamePart 1 := ⟨wt 9 (by decide +kernel) rfl, wt 1730 (by decide +kernel) rfl, by decide +kernel, by decide +kernel⟩
theorem cvX11_blamePart : Cond.instanceMethod yX11_blamePart ∈ WT ∧ Cond.selects yX11_blamePart.cls yX11_blamePart yX11_blamePart ∈ WT ∧ vwCl[9]? = some (yX11_blamePart.cls, TX11, 31) := ⟨wt 1729 (by decide +kernel) rfl, wt_p 70 (by decide +kernel : _ = some (_, 31)), rfl⟩
theorem ceX11_countFaults : jCe yX11_countFaults mX11_countFaults 1 := ⟨wt 9 (by decide +kernel) rfl, wt 1714 (by decide +kernel) rfl, by decide +kernel, by decide +kernel⟩
theorem cvX11_countFaults : Cond.instanceMethod yX11_countFaults ∈ WT ∧ Cond.selects yX11_countFaults.cls yX11_countFaults yX11_countFaults ∈ WT ∧ vwCl[9]? = some (yX11_countFaults.cls, TX11, 31) := ⟨wt 1713 (by decide +kernel) rfl, wt_p 66 (by decide +kernel : _ = some (_, 31)), rfl⟩
theorem ceX11_hasFault : jCe yX11_hasFault mX11_hasFault 1 := ⟨wt 9 (by decide +kernel) rfl, wt 1738 (by decide +kernel) rfl, by decide +kernel, by decide +kernel⟩
theorem cvX11_hasFault : Cond.instanceMethod yX11_hasFault ∈ WT ∧ Cond.selects yX11_hasFault.cls yX11_hasFault yX11_hasFault ∈ WT ∧ vwCl[9]? = some (yX11_hasFault.cls, TX11, 31) := ⟨wt 1737 (by decide +kernel) rfl, wt_p 71 (by decide +kernel : _ = some (_, 31)), rfl⟩
theorem ceX11_barsNow : jCe yX11_barsNow mX11_barsNow 0 := ⟨wt 9 (by decide +kernel) rfl, wt 1758 (by decide +kernel) rfl, by decide +kernel, by decide +kernel⟩
theorem cvX11_barsNow : Cond.instanceMethod yX11_barsNow ∈ WT ∧ Cond.selects yX11_barsNow.cls yX11_barsNow yX11_barsNow ∈ WT ∧ vwCl[9]? = some (yX11_barsNow.cls, TX11, 31) := ⟨wt 1757 (by decide +kernel) rfl, wt_p 72 (by decide +kernel : _ = some (_, 31)), rfl⟩
theorem ceX11_width : jCe yX11_width mX11_width 1 := ⟨wt 9 (by decide +kernel) rfl, wt 1766 (by decide +kernel) rfl, by decide +kernel, by decide +kernel⟩
theorem cvX11_width : Cond.instanceMethod yX11_width ∈ WT ∧ Cond.selects yX11_width.cls yX11_width yX11_width ∈ WT ∧ vwCl[9]? = some (yX11_width.cls, TX11, 31) := ⟨wt 1765 (by decide +kernel) rfl, wt_p 73 (by decide +kernel : _ = some (_, 31)), rfl⟩
theorem ceX11_breakLines : jCe yX11_breakLines mX11_breakLines 1 := ⟨wt 9 (by decide +kernel) rfl, wt 1778 (by decide +kernel) rfl, by decide +kernel, by decide +kernel⟩
theorem cvX11_breakLines : Cond.instanceMethod yX11_breakLines ∈ WT ∧ Cond.selects yX11_breakLines.cls yX11_breakLines yX11_breakLines ∈ WT ∧ vwCl[9]? = some (yX11_breakLines.cls, TX11, 31) := ⟨wt 1777 (by decide +kernel) rfl, wt_p 75 (by decide +kernel : _ = some (_, 31)), rfl⟩
theorem ceX11_linesNow : jCe yX11_linesNow mX11_linesNow 1 := ⟨wt 9 (by decide +kernel) rfl, wt 1774 (by decide +kernel) rfl, by decide +kernel, by decide +kernel⟩
theorem cvX11_linesNow : Cond.instanceMethod yX11_linesNow ∈ WT ∧ Cond.selects yX11_linesNow.cls yX11_linesNow yX11_linesNow ∈ WT ∧ vwCl[9]? = some (yX11_linesNow.cls, TX11, 31) := ⟨wt 1773 (by decide +kernel) rfl, wt_p 74 (by decide +kernel : _ = some (_, 31)), rfl⟩
theorem ceX11_costNow : jCe yX11_costNow mX11_costNow 1 := ⟨wt 9 (by decide +kernel) rfl, wt 1790 (by decide +kernel) rfl, by decide +kernel, by decide +kernel⟩
theorem cvX11_costNow : Cond.instanceMethod yX11_costNow ∈ WT ∧ Cond.selects yX11_costNow.cls yX11_costNow yX11_costNow ∈ WT ∧ vwCl[9]? = some (yX11_costNow.cls, TX11, 31) := ⟨wt 1789 (by decide +kernel) rfl, wt_p 76 (by decide +kernel : _ = some (_, 31)), rfl⟩
theorem ceX11_add_ : jCe yX11_add_ mX11_add_ 1 := ⟨wt 9 (by decide +kernel) rfl, wt 1803 (by decide +kernel) rfl, by decide +kernel, by decide +kernel⟩
theorem cvX11_add_ : Cond.instanceMethod yX11_add_ ∈ WT ∧ Cond.selects yX11_add_.cls yX11_add_ yX11_add_ ∈ WT ∧ vwCl[9]? = some (yX11_add_.cls, TX11, 31) := ⟨wt 1802 (by decide +kernel) rfl, wt_p 77 (by decide +kernel : _ = some (_, 31)), rfl⟩
theorem ceX11_addSigns : jCe yX11_addSigns mX11_addSigns 2 := ⟨wt 9 (by decide +kernel) rfl, wt 1808 (by decide +kernel) rfl, by decide +kernel, by decide +kernel⟩
theorem cvX11_addSigns : Cond.instanceMethod yX11_addSigns ∈ WT ∧ Cond.selects yX11_addSigns.cls yX11_addSigns yX11_addSigns ∈ WT ∧ vwCl[9]? = some (yX11_addSigns.cls, TX11, 31) := ⟨wt 1807 (by decide +kernel) rfl, wt_p 78 (by decide +kernel : _ = some (_, 31)), rfl⟩
theorem ceX9_addNote : jCe yX9_addNote mX9_addNote 4 := ⟨wt 1 (by decide +kernel) rfl, wt 814 (by decide +kernel) rfl, by decide +kernel, by decide +kernel⟩
theorem cvX9_addNote : Cond.instanceMethod yX9_addNote ∈ WT ∧ Cond.selects yX9_addNote.cls yX9_addNote yX9_addNote ∈ WT ∧ vwCl[7]? = some (yX9_addNote.cls, TX9, 12) := ⟨wt 812 (by decide +kernel) rfl, wt 813 (by decide +kernel) rfl, rfl⟩
theorem ceX9_addRest : jCe yX9_addRest mX9_addRest 2 := ⟨wt 1 (by decide +kernel) rfl, wt 901 (by decide +kernel) rfl, by decide +kernel, by decide +kernel⟩
theorem cvX9_addRest : Cond.instanceMethod yX9_addRest ∈ WT ∧ Cond.selects yX9_addRest.cls yX9_addRest yX9_addRest ∈ WT ∧ vwCl[7]? = some (yX9_addRest.cls, TX9, 12) := ⟨wt 899 (by decide +kernel) rfl, wt 900 (by decide +kernel) rfl, rfl⟩
theorem ceX9_takeLast : jCe yX9_takeLast mX9_takeLast 1 := ⟨wt 1 (by decide +kernel) rfl, wt 908 (by decide +kernel) rfl, by decide +kernel, by decide +kernel⟩
theorem cvX9_takeLast : Cond.instanceMethod yX9_takeLast ∈ WT ∧ Cond.selects yX9_takeLast.cls yX9_takeLast yX9_takeLast ∈ WT ∧ vwCl[7]? = some (yX9_takeLast.cls, TX9, 12) := ⟨wt 906 (by decide +kernel) rfl, wt 907 (by decide +kernel) rfl, rfl⟩
theorem ceX9_setPitch : jCe yX9_setPitch mX9_setPitch 4 := ⟨wt 1 (by decide +kernel) rfl, wt 920 (by decide +kernel) rfl, by decide +kernel, by decide +kernel⟩
theorem cvX9_setPitch : Cond.instanceMethod yX9_setPitch ∈ WT ∧ Cond.selects yX9_setPitch.cls yX9_setPitch yX9_setPitch ∈ WT ∧ vwCl[7]? = some (yX9_setPitch.cls, TX9, 12) := ⟨wt 918 (by decide +kernel) rfl, wt 919 (by decide +kernel) rfl, rfl⟩
theorem ceX9_setMetre : jCe yX9_setMetre mX9_setMetre 3 := ⟨wt 1 (by decide +kernel) rfl, wt 939 (by decide +kernel) rfl, by decide +kernel, by decide +kernel⟩
theorem cvX9_setMetre : Cond.instanceMethod yX9_setMetre ∈ WT ∧ Cond.selects yX9_setMetre.cls yX9_setMetre yX9_setMetre ∈ WT ∧ vwCl[7]? = some (yX9_setMetre.cls, TX9, 12) := ⟨wt 937 (by decide +kernel) rfl, wt 938 (by decide +kernel) rfl, rfl⟩
theorem ceX9_setKey : jCe yX9_setKey mX9_setKey 2 := ⟨wt 1 (by decide +kernel) rfl, wt 948 (by decide +kernel) rfl, by decide +kernel, by decide +kernel⟩
theorem cvX9_setKey : Cond.instanceMethod yX9_setKey ∈ WT ∧ Cond.selects yX9_setKey.cls yX9_setKey yX9_setKey ∈ WT ∧ vwCl[7]? = some (yX9_setKey.cls, TX9, 12) := ⟨wt 946 (by decide +kernel) rfl, wt 947 (by decide +kernel) rfl, rfl⟩
theorem ceX9_setRange : jCe yX9_setRange mX9_setRange 3 := ⟨wt 1 (by decide +kernel) rfl, wt 963 (by decide +kernel) rfl, by decide +kernel, by decide +kernel⟩
theorem cvX9_setRange : Cond.instanceMethod yX9_setRange ∈ WT ∧ Cond.selects yX9_setRange.cls yX9_setRange yX9_setRange ∈ WT ∧ vwCl[7]? = some (yX9_setRange.cls, TX9, 12) := ⟨wt 961 (by decide +kernel) rfl, wt 962 (by decide +kernel) rfl, rfl⟩
theorem ceX9_setShift : jCe yX9_setShift mX9_setShift 3 := ⟨wt 1 (by decide +kernel) rfl, wt 980 (by decide +kernel) rfl, by decide +kernel, by decide +kernel⟩
theorem cvX9_setShift : Cond.instanceMethod yX9_setShift ∈ WT ∧ Cond.selects yX9_setShift.cls yX9_setShift yX9_setShift ∈ WT ∧ vwCl[7]? = some (yX9_setShift.cls, TX9, 12) := ⟨wt 978 (by decide +kernel) rfl, wt 979 (by decide +kernel) rfl, rfl⟩
theorem ceX9_events : jCe yX9_events mX9_events 1 := ⟨wt 1 (by decide +kernel) rfl, wt 996 (by decide +kernel) rfl, by decide +kernel, by decide +kernel⟩
theorem cvX9_events : Cond.instanceMethod yX9_events ∈ WT ∧ Cond.selects yX9_events.cls yX9_events yX9_events ∈ WT ∧ vwCl[7]? = some (yX9_events.cls, TX9, 12) := ⟨wt 994 (by decide +kernel) rfl, wt 995 (by decide +kernel) rfl, rfl⟩
theorem ceX9_beginOf : jCe yX9_beginOf mX9_beginOf 2 := ⟨wt 1 (by decide +kernel) rfl, wt 1003 (by decide +kernel) rfl, by decide +kernel, by decide +kernel⟩
theorem cvX9_beginOf : Cond.instanceMethod yX9_beginOf ∈ WT ∧ Cond.selects yX9_beginOf.cls yX9_beginOf yX9_beginOf ∈ WT ∧ vwCl[7]? = some (yX9_beginOf.cls, TX9, 12) := ⟨wt 1001 (by decide +kernel) rfl, wt 1002 (by decide +kernel) rfl, rfl⟩
theorem ceX9_heightOf : jCe yX9_heightOf mX9_heightOf 2 := ⟨wt 1 (by decide +kernel) rfl, wt 1010 (by decide +kernel) rfl, by decide +kernel, by decide +kernel⟩
theorem cvX9_heightOf : Cond.instanceMethod yX9_heightOf ∈ WT ∧ Cond.selects yX9_heightOf.cls yX9_heightOf yX9_heightOf ∈ WT ∧ vwCl[7]? = some (yX9_heightOf.cls, TX9, 12) := ⟨wt 1008 (by decide +kernel) rfl, wt 1009 (by decide +kernel) rfl, rfl⟩
theorem ceX9_barOf : jCe yX9_barOf mX9_barOf 2 := ⟨wt 1 (by decide +kernel) rfl, wt 1017 (by decide +kernel) rfl, by decide +kernel, by decide +kernel⟩
theorem cvX9_barOf : Cond.instanceMethod yX9_barOf ∈ WT ∧ Cond.selects yX9_barOf.cls yX9_barOf yX9_barOf ∈ WT ∧ vwCl[7]? = some (yX9_barOf.cls, TX9, 12) := ⟨wt 1015 (by decide +kernel) rfl, wt 1016 (by decide +kernel) rfl, rfl⟩
theorem ceX9_writtenPlace : jCe yX9_writtenPlace mX9_writtenPlace 2 := ⟨wt 1 (by decide +kernel) rfl, wt 1024 (by decide +kernel) rfl, by decide +kernel, by decide +kernel⟩
theorem cvX9_writtenPlace : Cond.instanceMethod yX9_writtenPlace ∈ WT ∧ Cond.selects yX9_writtenPlace.cls yX9_writtenPlace yX9_writtenPlace ∈ WT ∧ vwCl[7]? = some (yX9_writtenPlace.cls, TX9, 12) := ⟨wt 1022 (by decide +kernel) rfl, wt 1023 (by decide +kernel) rfl, rfl⟩
theorem ceX9_writtenAlter : jCe yX9_writtenAlter mX9_writtenAlter 2 := ⟨wt 1 (by decide +kernel) rfl, wt 1031 (by decide +kernel) rfl, by decide +kernel, by decide +kernel⟩
theorem cvX9_writtenAlter : Cond.instanceMethod yX9_writtenAlter ∈ WT ∧ Cond.selects yX9_writtenAlter.cls yX9_writtenAlter yX9_writtenAlter ∈ WT ∧ vwCl[7]? = some (yX9_writtenAlter.cls, TX9, 12) := ⟨wt 1029 (by decide +kernel) rfl, wt 1030 (by decide +kernel) rfl, rfl⟩
theorem ceX9_alterIn : jCe yX9_alterIn mX9_alterIn 2 := ⟨wt 1 (by decide +kernel) rfl, wt 1038 (by decide +kernel) rfl, by decide +kernel, by decide +kernel⟩
theorem cvX9_alterIn : Cond.instanceMethod yX9_alterIn ∈ WT ∧ Cond.selects yX9_alterIn.cls yX9_alterIn yX9_alterIn ∈ WT ∧ vwCl[7]? = some (yX9_alterIn.cls, TX9, 12) := ⟨wt 1036 (by decide +kernel) rfl, wt 1037 (by decide +kernel) rfl, rfl⟩
theorem ceX9_writtenKey : jCe yX9_writtenKey mX9_writtenKey 2 := ⟨wt 1 (by decide +kernel) rfl, wt 1047 (by decide +kernel) rfl, by decide +kernel, by decide +kernel⟩
theorem cvX9_writtenKey : Cond.instanceMethod yX9_writtenKey ∈ WT ∧ Cond.selects yX9_writtenKey.cls yX9_writtenKey yX9_writtenKey ∈ WT ∧ vwCl[7]? = some (yX9_writtenKey.cls, TX9, 12) := ⟨wt 1045 (by decide +kernel) rfl, wt 1046 (by decide +kernel) rfl, rfl⟩
theorem ceX9_beginOfBar : jCe yX9_beginOfBar mX9_beginOfBar 1 := ⟨wt 1 (by decide +kernel) rfl, wt 1054 (by decide +kernel) rfl, by decide +kernel, by decide +kernel⟩
theorem cvX9_beginOfBar : Cond.instanceMethod yX9_beginOfBar ∈ WT ∧ Cond.selects yX9_beginOfBar.cls yX9_beginOfBar yX9_beginOfBar ∈ WT ∧ vwCl[7]? = some (yX9_beginOfBar.cls, TX9, 12) := ⟨wt 1052 (by decide +kernel) rfl, wt 1053 (by decide +kernel) rfl, rfl⟩
theorem ceX9_lengthOfBar : jCe yX9_lengthOfBar mX9_lengthOfBar 1 := ⟨wt 1 (by decide +kernel) rfl, wt 1061 (by decide +kernel) rfl, by decide +kernel, by decide +kernel⟩
theorem cvX9_lengthOfBar : Cond.instanceMethod yX9_lengthOfBar ∈ WT ∧ Cond.selects yX9_lengthOfBar.cls yX9_lengthOfBar yX9_lengthOfBar ∈ WT ∧ vwCl[7]? = some (yX9_lengthOfBar.cls, TX9, 12) := ⟨wt 1059 (by decide +kernel) rfl, wt 1060 (by decide +kernel) rfl, rfl⟩
theorem ceX9_signs : jCe yX9_signs mX9_signs 2 := ⟨wt 1 (by decide +kernel) rfl, wt 1068 (by decide +kernel) rfl, by decide +kernel, by decide +kernel⟩
theorem cvX9_signs : Cond.instanceMethod yX9_signs ∈ WT ∧ Cond.selects yX9_signs.cls yX9_signs yX9_signs ∈ WT ∧ vwCl[7]? = some (yX9_signs.cls, TX9, 12) := ⟨wt 1066 (by decide +kernel) rfl, wt 1067 (by decide +kernel) rfl, rfl⟩
theorem ceX9_eventOf : jCe yX9_eventOf mX9_eventOf 3 := ⟨wt 1 (by decide +kernel) rfl, wt 1075 (by decide +kernel) rfl, by decide +kernel, by decide +kernel⟩
theorem cvX9_eventOf : Cond.instanceMethod yX9_eventOf ∈ WT ∧ Cond.selects yX9_eventOf.cls yX9_eventOf yX9_eventOf ∈ WT ∧ vwCl[7]? = some (yX9_eventOf.cls, TX9, 12) := ⟨wt 1073 (by decide +kernel) rfl, wt 1074 (by decide +kernel) rfl, rfl⟩
theorem ceX9_lengthOf : jCe yX9_lengthOf mX9_lengthOf 3 := ⟨wt 1 (by decide +kernel) rfl, wt 1088 (by decide +kernel) rfl, by decide +kernel, by decide +kernel⟩
theorem cvX9_lengthOf : Cond.instanceMethod yX9_lengthOf ∈ WT ∧ Cond.selects yX9_lengthOf.cls yX9_lengthOf yX9_lengthOf ∈ WT ∧ vwCl[7]? = some (yX9_lengthOf.cls, TX9, 12) := ⟨wt 1086 (by decide +kernel) rfl, wt 1087 (by decide +kernel) rfl, rfl⟩
theorem ceX9_isTied : jCe yX9_isTied mX9_isTied 3 := ⟨wt 1 (by decide +kernel) rfl, wt 1095 (by decide +kernel) rfl, by decide +kernel, by decide +kernel⟩
theorem cvX9_isTied : Cond.instanceMethod yX9_isTied ∈ WT ∧ Cond.selects yX9_isTied.cls yX9_isTied yX9_isTied ∈ WT ∧ vwCl[7]? = some (yX9_isTied.cls, TX9, 12) := ⟨wt 1093 (by decide +kernel) rfl, wt 1094 (by decide +kernel) rfl, rfl⟩
theorem ceX9_shown : jCe yX9_shown mX9_shown 3 := ⟨wt 1 (by decide +kernel) rfl, wt 1102 (by decide +kernel) rfl, by decide +kernel, by decide +kernel⟩
theorem cvX9_shown : Cond.instanceMethod yX9_shown ∈ WT ∧ Cond.selects yX9_shown.cls yX9_shown yX9_shown ∈ WT ∧ vwCl[7]? = some (yX9_shown.cls, TX9, 12) := ⟨wt 1100 (by decide +kernel) rfl, wt 1101 (by decide +kernel) rfl, rfl⟩
theorem ceX9_shownWritten : jCe yX9_shownWritten mX9_shownWritten 3 := ⟨wt 1 (by decide +kernel) rfl, wt 1109 (by decide +kernel) rfl, by decide +kernel, by decide +kernel⟩
theorem cvX9_shownWritten : Cond.instanceMethod yX9_shownWritten ∈ WT ∧ Cond.selects yX9_shownWritten.cls yX9_shownWritten yX9_shownWritten ∈ WT ∧ vwCl[7]? = some (yX9_shownWritten.cls, TX9, 12) := ⟨wt 1107 (by decide +kernel) rfl, wt 1108 (by decide +kernel) rfl, rfl⟩
theorem ceX9_beams : jCe yX9_beams mX9_beams 2 := ⟨wt 1 (by decide +kernel) rfl, wt 1116 (by decide +kernel) rfl, by decide +kernel, by decide +kernel⟩
theorem cvX9_beams : Cond.instanceMethod yX9_beams ∈ WT ∧ Cond.selects yX9_beams.cls yX9_beams yX9_beams ∈ WT ∧ vwCl[7]? = some (yX9_beams.cls, TX9, 12) := ⟨wt 1114 (by decide +kernel) rfl, wt 1115 (by decide +kernel) rfl, rfl⟩
theorem ceX9_beamOf : jCe yX9_beamOf mX9_beamOf 3 := ⟨wt 1 (by decide +kernel) rfl, wt 1123 (by decide +kernel) rfl, by decide +kernel, by decide +kernel⟩
theorem cvX9_beamOf : Cond.instanceMethod yX9_beamOf ∈ WT ∧ Cond.selects yX9_beamOf.cls yX9_beamOf yX9_beamOf ∈ WT ∧ vwCl[7]? = some (yX9_beamOf.cls, TX9, 12) := ⟨wt 1121 (by decide +kernel) rfl, wt 1122 (by decide +kernel) rfl, rfl⟩
theorem ceX9_missing : jCe yX9_missing mX9_missing 2 := ⟨wt 1 (by decide +kernel) rfl, wt 1130 (by decide +kernel) rfl, by decide +kernel, by decide +kernel⟩
theorem cvX9_missing : Cond.instanceMethod yX9_missing ∈ WT ∧ Cond.selects yX9_missing.cls yX9_missing yX9_missing ∈ WT ∧ vwCl[7]? = some (yX9_missing.cls, TX9, 12) := ⟨wt 1128 (by decide +kernel) rfl, wt 1129 (by decide +kernel) rfl, rfl⟩
theorem ceX9_tickOf : jCe yX9_tickOf mX9_tickOf 1 := ⟨wt 1 (by decide +kernel) rfl, wt 1137 (by decide +kernel) rfl, by decide +kernel, by decide +kernel⟩
theorem cvX9_tickOf : Cond.instanceMethod yX9_tickOf ∈ WT ∧ Cond.selects yX9_tickOf.cls yX9_tickOf yX9_tickOf ∈ WT ∧ vwCl[7]? = some (yX9_tickOf.cls, TX9, 12) := ⟨wt 1135 (by decide +kernel) rfl, wt 1136 (by decide +kernel) rfl, rfl⟩
theorem ceX9_sounds : jCe yX9_sounds mX9_sounds 2 := ⟨wt 1 (by decide +kernel) rfl, wt 1150 (by decide +kernel) rfl, by decide +kernel, by decide +kernel⟩
theorem cvX9_sounds : Cond.instanceMethod yX9_sounds ∈ WT ∧ Cond.selects yX9_sounds.cls yX9_sounds yX9_sounds ∈ WT ∧ vwCl[7]? = some (yX9_sounds.cls, TX9, 12) := ⟨wt 1148 (by decide +kernel) rfl, wt 1149 (by decide +kernel) rfl, rfl⟩
theorem ceX9_root : jCe yX9_root mX9_root 1 := ⟨wt 1 (by decide +kernel) rfl, wt 1157 (by decide +kernel) rfl, by decide +kernel, by decide +kernel⟩
theorem cvX9_root : Cond.instanceMethod yX9_root ∈ WT ∧ Cond.selects yX9_root.cls yX9_root yX9_root ∈ WT ∧ vwCl[7]? = some (yX9_root.cls, TX9, 12) := ⟨wt 1155 (by decide +kernel) rfl, wt 1156 (by decide +kernel) rfl, rfl⟩
theorem ceX9_kind : jCe yX9_kind mX9_kind 1 := ⟨wt 1 (by decide +kernel) rfl, wt 1164 (by decide +kernel) rfl, by decide +kernel, by decide +kernel⟩
theorem cvX9_kind : Cond.instanceMethod yX9_kind ∈ WT ∧ Cond.selects yX9_kind.cls yX9_kind yX9_kind ∈ WT ∧ vwCl[7]? = some (yX9_kind.cls, TX9, 12) := ⟨wt 1162 (by decide +kernel) rfl, wt 1163 (by decide +kernel) rfl, rfl⟩
theorem ceX9_inversion : jCe yX9_inversion mX9_inversion 1 := ⟨wt 1 (by decide +kernel) rfl, wt 1171 (by decide +kernel) rfl, by decide +kernel, by decide +kernel⟩
theorem cvX9_inversion : Cond.instanceMethod yX9_inversion ∈ WT ∧ Cond.selects yX9_inversion.cls yX9_inversion yX9_inversion ∈ WT ∧ vwCl[7]? = some (yX9_inversion.cls, TX9, 12) := ⟨wt 1169 (by decide +kernel) rfl, wt 1170 (by decide +kernel) rfl, rfl⟩
theorem ceX9_kindOfFault : jCe yX9_kindOfFault mX9_kindOfFault 1 := ⟨wt 1 (by decide +kernel) rfl, wt 1178 (by decide +kernel) rfl, by decide +kernel, by decide +kernel⟩
theorem cvX9_kindOfFault : Cond.instanceMethod yX9_kindOfFault ∈ WT ∧ Cond.selects yX9_kindOfFault.cls yX9_kindOfFault yX9_kindOfFault ∈ WT ∧ vwCl[7]? = some (yX9_kindOfFault.cls, TX9, 12) := ⟨wt 1176 (by decide +kernel) rfl, wt 1177 (by decide +kernel) rfl, rfl⟩
theorem ceX9_tickOfFault : jCe yX9_tickOfFault mX9_tickOfFault 1 := ⟨wt 1 (by decide +kernel) rfl, wt 1191 (by decide +kernel) rfl, by decide +kernel, by decide +kernel⟩
theorem cvX9_tickOfFault : Cond.instanceMethod yX9_tickOfFault ∈ WT ∧ Cond.selects yX9_tickOfFault.cls yX9_tickOfFault yX9_tickOfFault ∈ WT ∧ vwCl[7]? = some (yX9_tickOfFault.cls, TX9, 12) := ⟨wt 1189 (by decide +kernel) rfl, wt 1190 (by decide +kernel) rfl, rfl⟩
theorem ceX9_partsOfFault : jCe yX9_partsOfFault mX9_partsOfFault 1 := ⟨wt 1 (by decide +kernel) rfl, wt 1198 (by decide +kernel) rfl, by decide +kernel, by decide +kernel⟩
theorem cvX9_partsOfFault : Cond.instanceMethod yX9_partsOfFault ∈ WT ∧ Cond.selects yX9_partsOfFault.cls yX9_partsOfFault yX9_partsOfFault ∈ WT ∧ vwCl[7]? = some (yX9_partsOfFault.cls, TX9, 12) := ⟨wt 1196 (by decide +kernel) rfl, wt 1197 (by decide +kernel) rfl, rfl⟩
theorem ceX9_faultsIfUp : jCe yX9_faultsIfUp mX9_faultsIfUp 2 := ⟨wt 1 (by decide +kernel) rfl, wt 1205 (by decide +kernel) rfl, by decide +kernel, by decide +kernel⟩
theorem cvX9_faultsIfUp : Cond.instanceMethod yX9_faultsIfUp ∈ WT ∧ Cond.selects yX9_faultsIfUp.cls yX9_faultsIfUp yX9_faultsIfUp ∈ WT ∧ vwCl[7]? = some (yX9_faultsIfUp.cls, TX9, 12) := ⟨wt 1203 (by decide +kernel) rfl, wt 1204 (by decide +kernel) rfl, rfl⟩
theorem ceX9_widthOf : jCe yX9_widthOf mX9_widthOf 1 := ⟨wt 1 (by decide +kernel) rfl, wt 1214 (by decide +kernel) rfl, by decide +kernel, by decide +kernel⟩
theorem cvX9_widthOf : Cond.instanceMethod yX9_widthOf ∈ WT ∧ Cond.selects yX9_widthOf.cls yX9_widthOf yX9_widthOf ∈ WT ∧ vwCl[7]? = some (yX9_widthOf.cls, TX9, 12) := ⟨wt 1212 (by decide +kernel) rfl, wt 1213 (by decide +kernel) rfl, rfl⟩
theorem ceX9_lines : jCe yX9_lines mX9_lines 1 := ⟨wt 1 (by decide +kernel) rfl, wt 1221 (by decide +kernel) rfl, by decide +kernel, by decide +kernel⟩
theorem cvX9_lines : Cond.instanceMethod yX9_lines ∈ WT ∧ Cond.selects yX9_lines.cls yX9_lines yX9_lines ∈ WT ∧ vwCl[7]? = some (yX9_lines.cls, TX9, 12) := ⟨wt 1219 (by decide +kernel) rfl, wt 1220 (by decide +kernel) rfl, rfl⟩
theorem ceX9_lineOf : jCe yX9_lineOf mX9_lineOf 2 := ⟨wt 1 (by decide +kernel) rfl, wt 1232 (by decide +kernel) rfl, by decide +kernel, by decide +kernel⟩
theorem cvX9_lineOf : Cond.instanceMethod yX9_lineOf ∈ WT ∧ Cond.selects yX9_lineOf.cls yX9_lineOf yX9_lineOf ∈ WT ∧ vwCl[7]? = some (yX9_lineOf.cls, TX9, 12) := ⟨wt 1230 (by decide +kernel) rfl, wt 1231 (by decide +kernel) rfl, rfl⟩
theorem ceX9_costOf : jCe yX9_costOf mX9_costOf 1 := ⟨wt 1 (by decide +kernel) rfl, wt 1243 (by decide +kernel) rfl, by decide +kernel, by decide +kernel⟩
theorem cvX9_costOf : Cond.instanceMethod yX9_costOf ∈ WT ∧ Cond.selects yX9_costOf.cls yX9_costOf yX9_costOf ∈ WT ∧ vwCl[7]? = some (yX9_costOf.cls, TX9, 12) := ⟨wt 1241 (by decide +kernel) rfl, wt 1242 (by decide +kernel) rfl, rfl⟩
theorem ceX9_init : jCe yX9_init mX9_init 0 := ⟨wt 1 (by decide +kernel) rfl, wt 27 (by decide +kernel) rfl, by decide +kernel, by decide +kernel⟩
theorem ciX9_init : Cond.instanceMethod yX9_init ∈ WT ∧ yX9_init.name = "<init>" := ⟨wt 26 (by decide +kernel) rfl, rfl⟩
theorem ceX11_init : jCe yX11_init mX11_init 0 := ⟨wt 9 (by decide +kernel) rfl, wt 1248 (by decide +kernel) rfl, by decide +kernel, by decide +kernel⟩
theorem ciX11_init : Cond.instanceMethod yX11_init ∈ WT ∧ yX11_init.name = "<init>" := ⟨wt 1247 (by decide +kernel) rfl, rfl⟩
theorem ceL_addNote : Cond.initialized yL_addNote.cls ∈ WT ∧ Cond.codeWith yL_addNote (jM.cc mL_addNote) (jM.nL mL_addNote) (jM.ret mL_addNote) (jM.hh mL_addNote) ∈ WT ∧ (yL_addNote.cls ≠ "java/lang/invoke/MethodHandle" ∧ yL_addNote.cls ≠ "java/lang/invoke/VarHandle") ∧ (parseMethodDescriptor yL_addNote.desc).map (fun d => d.parameters.length) = some 6 := ⟨wt 0 (by decide +kernel) rfl, wt 807 (by decide +kernel) rfl, by decide +kernel, by decide +kernel⟩
theorem csL_addNote : Cond.static yL_addNote ∈ WT := wt 806 (by decide +kernel) rfl
theorem ceX11_addNote : jCe yX11_addNote mX11_addNote 4 := ⟨wt 9 (by decide +kernel) rfl, wt 1396 (by decide +kernel) rfl, by decide +kernel, by decide +kernel⟩
theorem cvX11_addNote : Cond.instanceMethod yX11_addNote ∈ WT ∧ Cond.selects yX11_addNote.cls yX11_addNote yX11_addNote ∈ WT ∧ vwCl[9]? = some (yX11_addNote.cls, TX11, 31) := ⟨wt 1394 (by decide +kernel) rfl, wt 1395 (by decide +kernel) rfl, rfl⟩
theorem ceX11_thrown : jCe yX11_thrown mX11_thrown 0 := ⟨wt 9 (by decide +kernel) rfl, wt 1392 (by decide +kernel) rfl, by decide +kernel, by decide +kernel⟩
theorem cvX11_thrown : Cond.instanceMethod yX11_thrown ∈ WT ∧ Cond.selects yX11_thrown.cls yX11_thrown yX11_thrown ∈ WT ∧ vwCl[9]? = some (yX11_thrown.cls, TX11, 31) := ⟨wt 1390 (by decide +kernel) rfl, wt 1391 (by decide +kernel) rfl, rfl⟩
theorem ceL_addRest : Cond.initialized yL_addRest.cls ∈ WT ∧ Cond.codeWith yL_addRest (jM.cc mL_addRest) (jM.nL mL_addRest) (jM.ret mL_addRest) (jM.hh mL_addRest) ∈ WT ∧ (yL_addRest.cls ≠ "java/lang/invoke/MethodHandle" ∧ yL_addRest.cls ≠ "java/lang/invoke/VarHandle") ∧ (parseMethodDescriptor yL_addRest.desc).map (fun d => d.parameters.length) = some 4 := ⟨wt 0 (by decide +kernel) rfl, wt 897 (by decide +kernel) rfl, by decide +kernel, by decide +kernel⟩
theorem csL_addRest : Cond.static yL_addRest ∈ WT := wt 896 (by decide +kernel) rfl
theorem ceX11_addRest : jCe yX11_addRest mX11_addRest 2 := ⟨wt 9 (by decide +kernel) rfl, wt 1457 (by decide +kernel) rfl, by decide +kernel, by decide +kernel⟩
theorem cvX11_addRest : Cond.instanceMethod yX11_addRest ∈ WT ∧ Cond.selects yX11_addRest.cls yX11_addRest yX11_addRest ∈ WT ∧ vwCl[9]? = some (yX11_addRest.cls, TX11, 31) := ⟨wt 1455 (by decide +kernel) rfl, wt 1456 (by decide +kernel) rfl, rfl⟩
theorem ceL_takeLast : Cond.initialized yL_takeLast.cls ∈ WT ∧ Cond.codeWith yL_takeLast (jM.cc mL_takeLast) (jM.nL mL_takeLast) (jM.ret mL_takeLast) (jM.hh mL_takeLast) ∈ WT ∧ (yL_takeLast.cls ≠ "java/lang/invoke/MethodHandle" ∧ yL_takeLast.cls ≠ "java/lang/invoke/VarHandle") ∧ (parseMethodDescriptor yL_takeLast.desc).map (fun d => d.parameters.length) = some 3 := ⟨wt 0 (by decide +kernel) rfl, wt 904 (by decide +kernel) rfl, by decide +kernel, by decide +kernel⟩
theorem csL_takeLast : Cond.static yL_takeLast ∈ WT := wt 903 (by decide +kernel) rfl
theorem ceX11_takeLast : jCe yX11_takeLast mX11_takeLast 1 := ⟨wt 9 (by decide +kernel) rfl, wt 1461 (by decide +kernel) rfl, by decide +kernel, by decide +kernel⟩
theorem cvX11_takeLast : Cond.instanceMethod yX11_takeLast ∈ WT ∧ Cond.selects yX11_takeLast.cls yX11_takeLast yX11_takeLast ∈ WT ∧ vwCl[9]? = some (yX11_takeLast.cls, TX11, 31) := ⟨wt 1459 (by decide +kernel) rfl, wt 1460 (by decide +kernel) rfl, rfl⟩
theorem ceL_setPitch : Cond.initialized yL_setPitch.cls ∈ WT ∧ Cond.codeWith yL_setPitch (jM.cc mL_setPitch) (jM.nL mL_setPitch) (jM.ret mL_setPitch) (jM.hh mL_setPitch) ∈ WT ∧ (yL_setPitch.cls ≠ "java/lang/invoke/MethodHandle" ∧ yL_setPitch.cls ≠ "java/lang/invoke/VarHandle") ∧ (parseMethodDescriptor yL_setPitch.desc).map (fun d => d.parameters.length) = some 6 := ⟨wt 0 (by decide +kernel) rfl, wt 916 (by decide +kernel) rfl, by decide +kernel, by decide +kernel⟩
theorem csL_setPitch : Cond.static yL_setPitch ∈ WT := wt 915 (by decide +kernel) rfl
theorem ceX11_setPitch : jCe yX11_setPitch mX11_setPitch 4 := ⟨wt 9 (by decide +kernel) rfl, wt 1465 (by decide +kernel) rfl, by decide +kernel, by decide +kernel⟩
theorem cvX11_setPitch : Cond.instanceMethod yX11_setPitch ∈ WT ∧ Cond.selects yX11_setPitch.cls yX11_setPitch yX11_setPitch ∈ WT ∧ vwCl[9]? = some (yX11_setPitch.cls, TX11, 31) := ⟨wt 1463 (by decide +kernel) rfl, wt 1464 (by decide +kernel) rfl, rfl⟩
theorem ceL_setMetre : Cond.initialized yL_setMetre.cls ∈ WT ∧ Cond.codeWith yL_setMetre (jM.cc mL_setMetre) (jM.nL mL_setMetre) (jM.ret mL_setMetre) (jM.hh mL_setMetre) ∈ WT ∧ (yL_setMetre.cls ≠ "java/lang/invoke/MethodHandle" ∧ yL_setMetre.cls ≠ "java/lang/invoke/VarHandle") ∧ (parseMethodDescriptor yL_setMetre.desc).map (fun d => d.parameters.length) = some 5 := ⟨wt 0 (by decide +kernel) rfl, wt 935 (by decide +kernel) rfl, by decide +kernel, by decide +kernel⟩
theorem csL_setMetre : Cond.static yL_setMetre ∈ WT := wt 934 (by decide +kernel) rfl
theorem ceX11_setMetre : jCe yX11_setMetre mX11_setMetre 3 := ⟨wt 9 (by decide +kernel) rfl, wt 1488 (by decide +kernel) rfl, by decide +kernel, by decide +kernel⟩
theorem cvX11_setMetre : Cond.instanceMethod yX11_setMetre ∈ WT ∧ Cond.selects yX11_setMetre.cls yX11_setMetre yX11_setMetre ∈ WT ∧ vwCl[9]? = some (yX11_setMetre.cls, TX11, 31) := ⟨wt 1486 (by decide +kernel) rfl, wt 1487 (by decide +kernel) rfl, rfl⟩
theorem ceL_setKey : Cond.initialized yL_setKey.cls ∈ WT ∧ Cond.codeWith yL_setKey (jM.cc mL_setKey) (jM.nL mL_setKey) (jM.ret mL_setKey) (jM.hh mL_setKey) ∈ WT ∧ (yL_setKey.cls ≠ "java/lang/invoke/MethodHandle" ∧ yL_setKey.cls ≠ "java/lang/invoke/VarHandle") ∧ (parseMethodDescriptor yL_setKey.desc).map (fun d => d.parameters.length) = some 4 := ⟨wt 0 (by decide +kernel) rfl, wt 944 (by decide +kernel) rfl, by decide +kernel, by decide +kernel⟩
theorem csL_setKey : Cond.static yL_setKey ∈ WT := wt 943 (by decide +kernel) rfl
theorem ceX11_setKey : jCe yX11_setKey mX11_setKey 2 := ⟨wt 9 (by decide +kernel) rfl, wt 1495 (by decide +kernel) rfl, by decide +kernel, by decide +kernel⟩
theorem cvX11_setKey : Cond.instanceMethod yX11_setKey ∈ WT ∧ Cond.selects yX11_setKey.cls yX11_setKey yX11_setKey ∈ WT ∧ vwCl[9]? = some (yX11_setKey.cls, TX11, 31) := ⟨wt 1493 (by decide +kernel) rfl, wt 1494 (by decide +kernel) rfl, rfl⟩
theorem ceL_setRange : Cond.initialized yL_setRange.cls ∈ WT ∧ Cond.codeWith yL_setRange (jM.cc mL_setRange) (jM.nL mL_setRange) (jM.ret mL_setRange) (jM.hh mL_setRange) ∈ WT ∧ (yL_setRange.cls ≠ "java/lang/invoke/MethodHandle" ∧ yL_setRange.cls ≠ "java/lang/invoke/VarHandle") ∧ (parseMethodDescriptor yL_setRange.desc).map (fun d => d.parameters.length) = some 5 := ⟨wt 0 (by decide +kernel) rfl, wt 959 (by decide +kernel) rfl, by decide +kernel, by decide +kernel⟩
theorem csL_setRange : Cond.static yL_setRange ∈ WT := wt 958 (by decide +kernel) rfl
theorem ceX11_setRange : jCe yX11_setRange mX11_setRange 3 := ⟨wt 9 (by decide +kernel) rfl, wt 1499 (by decide +kernel) rfl, by decide +kernel, by decide +kernel⟩
theorem cvX11_setRange : Cond.instanceMethod yX11_setRange ∈ WT ∧ Cond.selects yX11_setRange.cls yX11_setRange yX11_setRange ∈ WT ∧ vwCl[9]? = some (yX11_setRange.cls, TX11, 31) := ⟨wt 1497 (by decide +kernel) rfl, wt 1498 (by decide +kernel) rfl, rfl⟩
theorem ceL_setShift : Cond.initialized yL_setShift.cls ∈ WT ∧ Cond.codeWith yL_setShift (jM.cc mL_setShift) (jM.nL mL_setShift) (jM.ret mL_setShift) (jM.hh mL_setShift) ∈ WT ∧ (yL_setShift.cls ≠ "java/lang/invoke/MethodHandle" ∧ yL_setShift.cls ≠ "java/lang/invoke/VarHandle") ∧ (parseMethodDescriptor yL_setShift.desc).map (fun d => d.parameters.length) = some 5 := ⟨wt 0 (by decide +kernel) rfl, wt 976 (by decide +kernel) rfl, by decide +kernel, by decide +kernel⟩
theorem csL_setShift : Cond.static yL_setShift ∈ WT := wt 975 (by decide +kernel) rfl
theorem ceX11_setShift : jCe yX11_setShift mX11_setShift 3 := ⟨wt 9 (by decide +kernel) rfl, wt 1508 (by decide +kernel) rfl, by decide +kernel, by decide +kernel⟩
theorem cvX11_setShift : Cond.instanceMethod yX11_setShift ∈ WT ∧ Cond.selects yX11_setShift.cls yX11_setShift yX11_setShift ∈ WT ∧ vwCl[9]? = some (yX11_setShift.cls, TX11, 31) := ⟨wt 1506 (by decide +kernel) rfl, wt 1507 (by decide +kernel) rfl, rfl⟩
theorem ceL_events : Cond.initialized yL_events.cls ∈ WT ∧ Cond.codeWith yL_events (jM.cc mL_events) (jM.nL mL_events) (jM.ret mL_events) (jM.hh mL_events) ∈ WT ∧ (yL_events.cls ≠ "java/lang/invoke/MethodHandle" ∧ yL_events.cls ≠ "java/lang/invoke/VarHandle") ∧ (parseMethodDescriptor yL_events.desc).map (fun d => d.parameters.length) = some 3 := ⟨wt 0 (by decide +kernel) rfl, wt 992 (by decide +kernel) rfl, by decide +kernel, by decide +kernel⟩
theorem csL_events : Cond.static yL_events ∈ WT := wt 991 (by decide +kernel) rfl
theorem ceX11_events : jCe yX11_events mX11_events 1 := ⟨wt 9 (by decide +kernel) rfl, wt 1526 (by decide +kernel) rfl, by decide +kernel, by decide +kernel⟩
theorem cvX11_events : Cond.instanceMethod yX11_events ∈ WT ∧ Cond.selects yX11_events.cls yX11_events yX11_events ∈ WT ∧ vwCl[9]? = some (yX11_events.cls, TX11, 31) := ⟨wt 1524 (by decide +kernel) rfl, wt 1525 (by decide +kernel) rfl, rfl⟩
theorem ceL_beginOf : Cond.initialized yL_beginOf.cls ∈ WT ∧ Cond.codeWith yL_beginOf (jM.cc mL_beginOf) (jM.nL mL_beginOf) (jM.ret mL_beginOf) (jM.hh mL_beginOf) ∈ WT ∧ (yL_beginOf.cls ≠ "java/lang/invoke/MethodHandle" ∧ yL_beginOf.cls ≠ "java/lang/invoke/VarHandle") ∧ (parseMethodDescriptor yL_beginOf.desc).map (fun d => d.parameters.length) = some 4 := ⟨wt 0 (by decide +kernel) rfl, wt 999 (by decide +kernel) rfl, by decide +kernel, by decide +kernel⟩
theorem csL_beginOf : Cond.static yL_beginOf ∈ WT := wt 998 (by decide +kernel) rfl
theorem ceX11_beginOf : jCe yX11_beginOf mX11_beginOf 2 := ⟨wt 9 (by decide +kernel) rfl, wt 1530 (by decide +kernel) rfl, by decide +kernel, by decide +kernel⟩
theorem cvX11_beginOf : Cond.instanceMethod yX11_beginOf ∈ WT ∧ Cond.selects yX11_beginOf.cls yX11_beginOf yX11_beginOf ∈ WT ∧ vwCl[9]? = some (yX11_beginOf.cls, TX11, 31) := ⟨wt 1528 (by decide +kernel) rfl, wt 1529 (by decide +kernel) rfl, rfl⟩
theorem ceL_heightOf : Cond.initialized yL_heightOf.cls ∈ WT ∧ Cond.codeWith yL_heightOf (jM.cc mL_heightOf) (jM.nL mL_heightOf) (jM.ret mL_heightOf) (jM.hh mL_heightOf) ∈ WT ∧ (yL_heightOf.cls ≠ "java/lang/invoke/MethodHandle" ∧ yL_heightOf.cls ≠ "java/lang/invoke/VarHandle") ∧ (parseMethodDescriptor yL_heightOf.desc).map (fun d => d.parameters.length) = some 4 := ⟨wt 0 (by decide +kernel) rfl, wt 1006 (by decide +kernel) rfl, by decide +kernel, by decide +kernel⟩
theorem csL_heightOf : Cond.static yL_heightOf ∈ WT := wt 1005 (by decide +kernel) rfl
theorem ceX11_heightOf : jCe yX11_heightOf mX11_heightOf 2 := ⟨wt 9 (by decide +kernel) rfl, wt 1534 (by decide +kernel) rfl, by decide +kernel, by decide +kernel⟩
theorem cvX11_heightOf : Cond.instanceMethod yX11_heightOf ∈ WT ∧ Cond.selects yX11_heightOf.cls yX11_heightOf yX11_heightOf ∈ WT ∧ vwCl[9]? = some (yX11_heightOf.cls, TX11, 31) := ⟨wt 1532 (by decide +kernel) rfl, wt 1533 (by decide +kernel) rfl, rfl⟩
theorem ceL_barOf : Cond.initialized yL_barOf.cls ∈ WT ∧ Cond.codeWith yL_barOf (jM.cc mL_barOf) (jM.nL mL_barOf) (jM.ret mL_barOf) (jM.hh mL_barOf) ∈ WT ∧ (yL_barOf.cls ≠ "java/lang/invoke/MethodHandle" ∧ yL_barOf.cls ≠ "java/lang/invoke/VarHandle") ∧ (parseMethodDescriptor yL_barOf.desc).map (fun d => d.parameters.length) = some 4 := ⟨wt 0 (by decide +kernel) rfl, wt 1013 (by decide +kernel) rfl, by decide +kernel, by decide +kernel⟩
theorem csL_barOf : Cond.static yL_barOf ∈ WT := wt 1012 (by decide +kernel) rfl
theorem ceX11_barOf : jCe yX11_barOf mX11_barOf 2 := ⟨wt 9 (by decide +kernel) rfl, wt 1542 (by decide +kernel) rfl, by decide +kernel, by decide +kernel⟩
theorem cvX11_barOf : Cond.instanceMethod yX11_barOf ∈ WT ∧ Cond.selects yX11_barOf.cls yX11_barOf yX11_barOf ∈ WT ∧ vwCl[9]? = some (yX11_barOf.cls, TX11, 31) := ⟨wt 1540 (by decide +kernel) rfl, wt 1541 (by decide +kernel) rfl, rfl⟩
theorem ceL_writtenPlace : Cond.initialized yL_writtenPlace.cls ∈ WT ∧ Cond.codeWith yL_writtenPlace (jM.cc mL_writtenPlace) (jM.nL mL_writtenPlace) (jM.ret mL_writtenPlace) (jM.hh mL_writtenPlace) ∈ WT ∧ (yL_writtenPlace.cls ≠ "java/lang/invoke/MethodHandle" ∧ yL_writtenPlace.cls ≠ "java/lang/invoke/VarHandle") ∧ (parseMethodDescriptor yL_writtenPlace.desc).map (fun d => d.parameters.length) = some 4 := ⟨wt 0 (by decide +kernel) rfl, wt 1020 (by decide +kernel) rfl, by decide +kernel, by decide +kernel⟩
theorem csL_writtenPlace : Cond.static yL_writtenPlace ∈ WT := wt 1019 (by decide +kernel) rfl
theorem ceX11_writtenPlace : jCe yX11_writtenPlace mX11_writtenPlace 2 := ⟨wt 9 (by decide +kernel) rfl, wt 1550 (by decide +kernel) rfl, by decide +kernel, by decide +kernel⟩
theorem cvX11_writtenPlace : Cond.instanceMethod yX11_writtenPlace ∈ WT ∧ Cond.selects yX11_writtenPlace.cls yX11_writtenPlace yX11_writtenPlace ∈ WT ∧ vwCl[9]? = some (yX11_writtenPlace.cls, TX11, 31) := ⟨wt 1548 (by decide +kernel) rfl, wt 1549 (by decide +kernel) rfl, rfl⟩
theorem ceL_writtenAlter : Cond.initialized yL_writtenAlter.cls ∈ WT ∧ Cond.codeWith yL_writtenAlter (jM.cc mL_writtenAlter) (jM.nL mL_writtenAlter) (jM.ret mL_writtenAlter) (jM.hh mL_writtenAlter) ∈ WT ∧ (yL_writtenAlter.cls ≠ "java/lang/invoke/MethodHandle" ∧ yL_writtenAlter.cls ≠ "java/lang/invoke/VarHandle") ∧ (parseMethodDescriptor yL_writtenAlter.desc).map (fun d => d.parameters.length) = some 4 := ⟨wt 0 (by decide +kernel) rfl, wt 1027 (by decide +kernel) rfl, by decide +kernel, by decide +kernel⟩
theorem csL_writtenAlter : Cond.static yL_writtenAlter ∈ WT := wt 1026 (by decide +kernel) rfl
theorem ceX11_writtenAlter : jCe yX11_writtenAlter mX11_writtenAlter 2 := ⟨wt 9 (by decide +kernel) rfl, wt 1559 (by decide +kernel) rfl, by decide +kernel, by decide +kernel⟩
theorem cvX11_writtenAlter : Cond.instanceMethod yX11_writtenAlter ∈ WT ∧ Cond.selects yX11_writtenAlter.cls yX11_writtenAlter yX11_writtenAlter ∈ WT ∧ vwCl[9]? = some (yX11_writtenAlter.cls, TX11, 31) := ⟨wt 1557 (by decide +kernel) rfl, wt 1558 (by decide +kernel) rfl, rfl⟩
theorem ceL_alterIn : Cond.initialized yL_alterIn.cls ∈ WT ∧ Cond.codeWith yL_alterIn (jM.cc mL_alterIn) (jM.nL mL_alterIn) (jM.ret mL_alterIn) (jM.hh mL_alterIn) ∈ WT ∧ (yL_alterIn.cls ≠ "java/lang/invoke/MethodHandle" ∧ yL_alterIn.cls ≠ "java/lang/invoke/VarHandle") ∧ (parseMethodDescriptor yL_alterIn.desc).map (fun d => d.parameters.length) = some 4 := ⟨wt 0 (by decide +kernel) rfl, wt 1034 (by decide +kernel) rfl, by decide +kernel, by decide +kernel⟩
theorem csL_alterIn : Cond.static yL_alterIn ∈ WT := wt 1033 (by decide +kernel) rfl
theorem ceX11_alterIn : jCe yX11_alterIn mX11_alterIn 2 := ⟨wt 9 (by decide +kernel) rfl, wt 1568 (by decide +kernel) rfl, by decide +kernel, by decide +kernel⟩
theorem cvX11_alterIn : Cond.instanceMethod yX11_alterIn ∈ WT ∧ Cond.selects yX11_alterIn.cls yX11_alterIn yX11_alterIn ∈ WT ∧ vwCl[9]? = some (yX11_alterIn.cls, TX11, 31) := ⟨wt 1566 (by decide +kernel) rfl, wt 1567 (by decide +kernel) rfl, rfl⟩
theorem ceL_writtenKey : Cond.initialized yL_writtenKey.cls ∈ WT ∧ Cond.codeWith yL_writtenKey (jM.cc mL_writtenKey) (jM.nL mL_writtenKey) (jM.ret mL_writtenKey) (jM.hh mL_writtenKey) ∈ WT ∧ (yL_writtenKey.cls ≠ "java/lang/invoke/MethodHandle" ∧ yL_writtenKey.cls ≠ "java/lang/invoke/VarHandle") ∧ (parseMethodDescriptor yL_writtenKey.desc).map (fun d => d.parameters.length) = some 4 := ⟨wt 0 (by decide +kernel) rfl, wt 1043 (by decide +kernel) rfl, by decide +kernel, by decide +kernel⟩
theorem csL_writtenKey : Cond.static yL_writtenKey ∈ WT := wt 1042 (by decide +kernel) rfl
theorem ceX11_writtenKey : jCe yX11_writtenKey mX11_writtenKey 2 := ⟨wt 9 (by decide +kernel) rfl, wt 1578 (by decide +kernel) rfl, by decide +kernel, by decide +kernel⟩
theorem cvX11_writtenKey : Cond.instanceMethod yX11_writtenKey ∈ WT ∧ Cond.selects yX11_writtenKey.cls yX11_writtenKey yX11_writtenKey ∈ WT ∧ vwCl[9]? = some (yX11_writtenKey.cls, TX11, 31) := ⟨wt 1576 (by decide +kernel) rfl, wt 1577 (by decide +kernel) rfl, rfl⟩
theorem ceL_beginOfBar : Cond.initialized yL_beginOfBar.cls ∈ WT ∧ Cond.codeWith yL_beginOfBar (jM.cc mL_beginOfBar) (jM.nL mL_beginOfBar) (jM.ret mL_beginOfBar) (jM.hh mL_beginOfBar) ∈ WT ∧ (yL_beginOfBar.cls ≠ "java/lang/invoke/MethodHandle" ∧ yL_beginOfBar.cls ≠ "java/lang/invoke/VarHandle") ∧ (parseMethodDescriptor yL_beginOfBar.desc).map (fun d => d.parameters.length) = some 3 := ⟨wt 0 (by decide +kernel) rfl, wt 1050 (by decide +kernel) rfl, by decide +kernel, by decide +kernel⟩
theorem csL_beginOfBar : Cond.static yL_beginOfBar ∈ WT := wt 1049 (by decide +kernel) rfl
theorem ceX11_beginOfBar : jCe yX11_beginOfBar mX11_beginOfBar 1 := ⟨wt 9 (by decide +kernel) rfl, wt 1586 (by decide +kernel) rfl, by decide +kernel, by decide +kernel⟩
theorem cvX11_beginOfBar : Cond.instanceMethod yX11_beginOfBar ∈ WT ∧ Cond.selects yX11_beginOfBar.cls yX11_beginOfBar yX11_beginOfBar ∈ WT ∧ vwCl[9]? = some (yX11_beginOfBar.cls, TX11, 31) := ⟨wt 1584 (by decide +kernel) rfl, wt 1585 (by decide +kernel) rfl, rfl⟩
theorem ceL_lengthOfBar : Cond.initialized yL_lengthOfBar.cls ∈ WT ∧ Cond.codeWith yL_lengthOfBar (jM.cc mL_lengthOfBar) (jM.nL mL_lengthOfBar) (jM.ret mL_lengthOfBar) (jM.hh mL_lengthOfBar) ∈ WT ∧ (yL_lengthOfBar.cls ≠ "java/lang/invoke/MethodHandle" ∧ yL_lengthOfBar.cls ≠ "java/lang/invoke/VarHandle") ∧ (parseMethodDescriptor yL_lengthOfBar.desc).map (fun d => d.parameters.length) = some 3 := ⟨wt 0 (by decide +kernel) rfl, wt 1057 (by decide +kernel) rfl, by decide +kernel, by decide +kernel⟩
theorem csL_lengthOfBar : Cond.static yL_lengthOfBar ∈ WT := wt 1056 (by decide +kernel) rfl
theorem ceX11_lengthOfBar : jCe yX11_lengthOfBar mX11_lengthOfBar 1 := ⟨wt 9 (by decide +kernel) rfl, wt 1590 (by decide +kernel) rfl, by decide +kernel, by decide +kernel⟩
theorem cvX11_lengthOfBar : Cond.instanceMethod yX11_lengthOfBar ∈ WT ∧ Cond.selects yX11_lengthOfBar.cls yX11_lengthOfBar yX11_lengthOfBar ∈ WT ∧ vwCl[9]? = some (yX11_lengthOfBar.cls, TX11, 31) := ⟨wt 1588 (by decide +kernel) rfl, wt 1589 (by decide +kernel) rfl, rfl⟩
theorem ceL_signs : Cond.initialized yL_signs.cls ∈ WT ∧ Cond.codeWith yL_signs (jM.cc mL_signs) (jM.nL mL_signs) (jM.ret mL_signs) (jM.hh mL_signs) ∈ WT ∧ (yL_signs.cls ≠ "java/lang/invoke/MethodHandle" ∧ yL_signs.cls ≠ "java/lang/invoke/VarHandle") ∧ (parseMethodDescriptor yL_signs.desc).map (fun d => d.parameters.length) = some 4 := ⟨wt 0 (by decide +kernel) rfl, wt 1064 (by decide +kernel) rfl, by decide +kernel, by decide +kernel⟩
theorem csL_signs : Cond.static yL_signs ∈ WT := wt 1063 (by decide +kernel) rfl
theorem ceX11_signs : jCe yX11_signs mX11_signs 2 := ⟨wt 9 (by decide +kernel) rfl, wt 1594 (by decide +kernel) rfl, by decide +kernel, by decide +kernel⟩
theorem cvX11_signs : Cond.instanceMethod yX11_signs ∈ WT ∧ Cond.selects yX11_signs.cls yX11_signs yX11_signs ∈ WT ∧ vwCl[9]? = some (yX11_signs.cls, TX11, 31) := ⟨wt 1592 (by decide +kernel) rfl, wt 1593 (by decide +kernel) rfl, rfl⟩
theorem ceL_eventOf : Cond.initialized yL_eventOf.cls ∈ WT ∧ Cond.codeWith yL_eventOf (jM.cc mL_eventOf) (jM.nL mL_eventOf) (jM.ret mL_eventOf) (jM.hh mL_eventOf) ∈ WT ∧ (yL_eventOf.cls ≠ "java/lang/invoke/MethodHandle" ∧ yL_eventOf.cls ≠ "java/lang/invoke/VarHandle") ∧ (parseMethodDescriptor yL_eventOf.desc).map (fun d => d.parameters.length) = some 5 := ⟨wt 0 (by decide +kernel) rfl, wt 1071 (by decide +kernel) rfl, by decide +kernel, by decide +kernel⟩
theorem csL_eventOf : Cond.static yL_eventOf ∈ WT := wt 1070 (by decide +kernel) rfl
theorem ceX11_eventOf : jCe yX11_eventOf mX11_eventOf 3 := ⟨wt 9 (by decide +kernel) rfl, wt 1621 (by decide +kernel) rfl, by decide +kernel, by decide +kernel⟩
theorem cvX11_eventOf : Cond.instanceMethod yX11_eventOf ∈ WT ∧ Cond.selects yX11_eventOf.cls yX11_eventOf yX11_eventOf ∈ WT ∧ vwCl[9]? = some (yX11_eventOf.cls, TX11, 31) := ⟨wt 1619 (by decide +kernel) rfl, wt 1620 (by decide +kernel) rfl, rfl⟩
theorem ceL_lengthOf : Cond.initialized yL_lengthOf.cls ∈ WT ∧ Cond.codeWith yL_lengthOf (jM.cc mL_lengthOf) (jM.nL mL_lengthOf) (jM.ret mL_lengthOf) (jM.hh mL_lengthOf) ∈ WT ∧ (yL_lengthOf.cls ≠ "java/lang/invoke/MethodHandle" ∧ yL_lengthOf.cls ≠ "java/lang/invoke/VarHandle") ∧ (parseMethodDescriptor yL_lengthOf.desc).map (fun d => d.parameters.length) = some 5 := ⟨wt 0 (by decide +kernel) rfl, wt 1084 (by decide +kernel) rfl, by decide +kernel, by decide +kernel⟩
theorem csL_lengthOf : Cond.static yL_lengthOf ∈ WT := wt 1083 (by decide +kernel) rfl
theorem ceX11_lengthOf : jCe yX11_lengthOf mX11_lengthOf 3 := ⟨wt 9 (by decide +kernel) rfl, wt 1629 (by decide +kernel) rfl, by decide +kernel, by decide +kernel⟩
theorem cvX11_lengthOf : Cond.instanceMethod yX11_lengthOf ∈ WT ∧ Cond.selects yX11_lengthOf.cls yX11_lengthOf yX11_lengthOf ∈ WT ∧ vwCl[9]? = some (yX11_lengthOf.cls, TX11, 31) := ⟨wt 1627 (by decide +kernel) rfl, wt 1628 (by decide +kernel) rfl, rfl⟩
theorem ceL_isTied : Cond.initialized yL_isTied.cls ∈ WT ∧ Cond.codeWith yL_isTied (jM.cc mL_isTied) (jM.nL mL_isTied) (jM.ret mL_isTied) (jM.hh mL_isTied) ∈ WT ∧ (yL_isTied.cls ≠ "java/lang/invoke/MethodHandle" ∧ yL_isTied.cls ≠ "java/lang/invoke/VarHandle") ∧ (parseMethodDescriptor yL_isTied.desc).map (fun d => d.parameters.length) = some 5 := ⟨wt 0 (by decide +kernel) rfl, wt 1091 (by decide +kernel) rfl, by decide +kernel, by decide +kernel⟩
theorem csL_isTied : Cond.static yL_isTied ∈ WT := wt 1090 (by decide +kernel) rfl
theorem ceX11_isTied : jCe yX11_isTied mX11_isTied 3 := ⟨wt 9 (by decide +kernel) rfl, wt 1633 (by decide +kernel) rfl, by decide +kernel, by decide +kernel⟩
theorem cvX11_isTied : Cond.instanceMethod yX11_isTied ∈ WT ∧ Cond.selects yX11_isTied.cls yX11_isTied yX11_isTied ∈ WT ∧ vwCl[9]? = some (yX11_isTied.cls, TX11, 31) := ⟨wt 1631 (by decide +kernel) rfl, wt 1632 (by decide +kernel) rfl, rfl⟩
theorem ceL_shown : Cond.initialized yL_shown.cls ∈ WT ∧ Cond.codeWith yL_shown (jM.cc mL_shown) (jM.nL mL_shown) (jM.ret mL_shown) (jM.hh mL_shown) ∈ WT ∧ (yL_shown.cls ≠ "java/lang/invoke/MethodHandle" ∧ yL_shown.cls ≠ "java/lang/invoke/VarHandle") ∧ (parseMethodDescriptor yL_shown.desc).map (fun d => d.parameters.length) = some 5 := ⟨wt 0 (by decide +kernel) rfl, wt 1098 (by decide +kernel) rfl, by decide +kernel, by decide +kernel⟩
theorem csL_shown : Cond.static yL_shown ∈ WT := wt 1097 (by decide +kernel) rfl
theorem ceX11_shown : jCe yX11_shown mX11_shown 3 := ⟨wt 9 (by decide +kernel) rfl, wt 1637 (by decide +kernel) rfl, by decide +kernel, by decide +kernel⟩
theorem cvX11_shown : Cond.instanceMethod yX11_shown ∈ WT ∧ Cond.selects yX11_shown.cls yX11_shown yX11_shown ∈ WT ∧ vwCl[9]? = some (yX11_shown.cls, TX11, 31) := ⟨wt 1635 (by decide +kernel) rfl, wt 1636 (by decide +kernel) rfl, rfl⟩
theorem ceL_shownWritten : Cond.initialized yL_shownWritten.cls ∈ WT ∧ Cond.codeWith yL_shownWritten (jM.cc mL_shownWritten) (jM.nL mL_shownWritten) (jM.ret mL_shownWritten) (jM.hh mL_shownWritten) ∈ WT ∧ (yL_shownWritten.cls ≠ "java/lang/invoke/MethodHandle" ∧ yL_shownWritten.cls ≠ "java/lang/invoke/VarHandle") ∧ (parseMethodDescriptor yL_shownWritten.desc).map (fun d => d.parameters.length) = some 5 := ⟨wt 0 (by decide +kernel) rfl, wt 1105 (by decide +kernel) rfl, by decide +kernel, by decide +kernel⟩
theorem csL_shownWritten : Cond.static yL_shownWritten ∈ WT := wt 1104 (by decide +kernel) rfl
theorem ceX11_shownWritten : jCe yX11_shownWritten mX11_shownWritten 3 := ⟨wt 9 (by decide +kernel) rfl, wt 1641 (by decide +kernel) rfl, by decide +kernel, by decide +kernel⟩
theorem cvX11_shownWritten : Cond.instanceMethod yX11_shownWritten ∈ WT ∧ Cond.selects yX11_shownWritten.cls yX11_shownWritten yX11_shownWritten ∈ WT ∧ vwCl[9]? = some (yX11_shownWritten.cls, TX11, 31) := ⟨wt 1639 (by decide +kernel) rfl, wt 1640 (by decide +kernel) rfl, rfl⟩
theorem ceL_beams : Cond.initialized yL_beams.cls ∈ WT ∧ Cond.codeWith yL_beams (jM.cc mL_beams) (jM.nL mL_beams) (jM.ret mL_beams) (jM.hh mL_beams) ∈ WT ∧ (yL_beams.cls ≠ "java/lang/invoke/MethodHandle" ∧ yL_beams.cls ≠ "java/lang/invoke/VarHandle") ∧ (parseMethodDescriptor yL_beams.desc).map (fun d => d.parameters.length) = some 4 := ⟨wt 0 (by decide +kernel) rfl, wt 1112 (by decide +kernel) rfl, by decide +kernel, by decide +kernel⟩
theorem csL_beams : Cond.static yL_beams ∈ WT := wt 1111 (by decide +kernel) rfl
theorem ceX11_beams : jCe yX11_beams mX11_beams 2 := ⟨wt 9 (by decide +kernel) rfl, wt 1645 (by decide +kernel) rfl, by decide +kernel, by decide +kernel⟩
theorem cvX11_beams : Cond.instanceMethod yX11_beams ∈ WT ∧ Cond.selects yX11_beams.cls yX11_beams yX11_beams ∈ WT ∧ vwCl[9]? = some (yX11_beams.cls, TX11, 31) := ⟨wt 1643 (by decide +kernel) rfl, wt 1644 (by decide +kernel) rfl, rfl⟩
theorem ceL_beamOf : Cond.initialized yL_beamOf.cls ∈ WT ∧ Cond.codeWith yL_beamOf (jM.cc mL_beamOf) (jM.nL mL_beamOf) (jM.ret mL_beamOf) (jM.hh mL_beamOf) ∈ WT ∧ (yL_beamOf.cls ≠ "java/lang/invoke/MethodHandle" ∧ yL_beamOf.cls ≠ "java/lang/invoke/VarHandle") ∧ (parseMethodDescriptor yL_beamOf.desc).map (fun d => d.parameters.length) = some 5 := ⟨wt 0 (by decide +kernel) rfl, wt 1119 (by decide +kernel) rfl, by decide +kernel, by decide +kernel⟩
theorem csL_beamOf : Cond.static yL_beamOf ∈ WT := wt 1118 (by decide +kernel) rfl
theorem ceX11_beamOf : jCe yX11_beamOf mX11_beamOf 3 := ⟨wt 9 (by decide +kernel) rfl, wt 1649 (by decide +kernel) rfl, by decide +kernel, by decide +kernel⟩
theorem cvX11_beamOf : Cond.instanceMethod yX11_beamOf ∈ WT ∧ Cond.selects yX11_beamOf.cls yX11_beamOf yX11_beamOf ∈ WT ∧ vwCl[9]? = some (yX11_beamOf.cls, TX11, 31) := ⟨wt 1647 (by decide +kernel) rfl, wt 1648 (by decide +kernel) rfl, rfl⟩
theorem ceL_missing : Cond.initialized yL_missing.cls ∈ WT ∧ Cond.codeWith yL_missing (jM.cc mL_missing) (jM.nL mL_missing) (jM.ret mL_missing) (jM.hh mL_missing) ∈ WT ∧ (yL_missing.cls ≠ "java/lang/invoke/MethodHandle" ∧ yL_missing.cls ≠ "java/lang/invoke/VarHandle") ∧ (parseMethodDescriptor yL_missing.desc).map (fun d => d.parameters.length) = some 4 := ⟨wt 0 (by decide +kernel) rfl, wt 1126 (by decide +kernel) rfl, by decide +kernel, by decide +kernel⟩
theorem csL_missing : Cond.static yL_missing ∈ WT := wt 1125 (by decide +kernel) rfl
theorem ceX11_missing : jCe yX11_missing mX11_missing 2 := ⟨wt 9 (by decide +kernel) rfl, wt 1653 (by decide +kernel) rfl, by decide +kernel, by decide +kernel⟩
theorem cvX11_missing : Cond.instanceMethod yX11_missing ∈ WT ∧ Cond.selects yX11_missing.cls yX11_missing yX11_missing ∈ WT ∧ vwCl[9]? = some (yX11_missing.cls, TX11, 31) := ⟨wt 1651 (by decide +kernel) rfl, wt 1652 (by decide +kernel) rfl, rfl⟩
theorem ceX9_moments : jCe yX9_moments mX9_moments 0 := ⟨wt 1 (by decide +kernel) rfl, wt 281 (by decide +kernel) rfl, by decide +kernel, by decide +kernel⟩
theorem cvX9_moments : Cond.instanceMethod yX9_moments ∈ WT ∧ Cond.selects yX9_moments.cls yX9_moments yX9_moments ∈ WT ∧ vwCl[7]? = some (yX9_moments.cls, TX9, 12) := ⟨wt 279 (by decide +kernel) rfl, wt 280 (by decide +kernel) rfl, rfl⟩
theorem ceX11_moments : jCe yX11_moments mX11_moments 0 := ⟨wt 9 (by decide +kernel) rfl, wt 1661 (by decide +kernel) rfl, by decide +kernel, by decide +kernel⟩
theorem cvX11_moments : Cond.instanceMethod yX11_moments ∈ WT ∧ Cond.selects yX11_moments.cls yX11_moments yX11_moments ∈ WT ∧ vwCl[9]? = some (yX11_moments.cls, TX11, 31) := ⟨wt 1659 (by decide +kernel) rfl, wt 1660 (by decide +kernel) rfl, rfl⟩
theorem ceL_tickOf : Cond.initialized yL_tickOf.cls ∈ WT ∧ Cond.codeWith yL_tickOf (jM.cc mL_tickOf) (jM.nL mL_tickOf) (jM.ret mL_tickOf) (jM.hh mL_tickOf) ∈ WT ∧ (yL_tickOf.cls ≠ "java/lang/invoke/MethodHandle" ∧ yL_tickOf.cls ≠ "java/lang/invoke/VarHandle") ∧ (parseMethodDescriptor yL_tickOf.desc).map (fun d => d.parameters.length) = some 3 := ⟨wt 0 (by decide +kernel) rfl, wt 1133 (by decide +kernel) rfl, by decide +kernel, by decide +kernel⟩
theorem csL_tickOf : Cond.static yL_tickOf ∈ WT := wt 1132 (by decide +kernel) rfl
theorem ceX11_tickOf : jCe yX11_tickOf mX11_tickOf 1 := ⟨wt 9 (by decide +kernel) rfl, wt 1678 (by decide +kernel) rfl, by decide +kernel, by decide +kernel⟩
theorem cvX11_tickOf : Cond.instanceMethod yX11_tickOf ∈ WT ∧ Cond.selects yX11_tickOf.cls yX11_tickOf yX11_tickOf ∈ WT ∧ vwCl[9]? = some (yX11_tickOf.cls, TX11, 31) := ⟨wt 1676 (by decide +kernel) rfl, wt 1677 (by decide +kernel) rfl, rfl⟩
theorem ceL_sounds : Cond.initialized yL_sounds.cls ∈ WT ∧ Cond.codeWith yL_sounds (jM.cc mL_sounds) (jM.nL mL_sounds) (jM.ret mL_sounds) (jM.hh mL_sounds) ∈ WT ∧ (yL_sounds.cls ≠ "java/lang/invoke/MethodHandle" ∧ yL_sounds.cls ≠ "java/lang/invoke/VarHandle") ∧ (parseMethodDescriptor yL_sounds.desc).map (fun d => d.parameters.length) = some 4 := ⟨wt 0 (by decide +kernel) rfl, wt 1146 (by decide +kernel) rfl, by decide +kernel, by decide +kernel⟩
theorem csL_sounds : Cond.static yL_sounds ∈ WT := wt 1145 (by decide +kernel) rfl
theorem ceX11_sounds : jCe yX11_sounds mX11_sounds 2 := ⟨wt 9 (by decide +kernel) rfl, wt 1686 (by decide +kernel) rfl, by decide +kernel, by decide +kernel⟩
theorem cvX11_sounds : Cond.instanceMethod yX11_sounds ∈ WT ∧ Cond.selects yX11_sounds.cls yX11_sounds yX11_sounds ∈ WT ∧ vwCl[9]? = some (yX11_sounds.cls, TX11, 31) := ⟨wt 1684 (by decide +kernel) rfl, wt 1685 (by decide +kernel) rfl, rfl⟩
theorem ceL_root : Cond.initialized yL_root.cls ∈ WT ∧ Cond.codeWith yL_root (jM.cc mL_root) (jM.nL mL_root) (jM.ret mL_root) (jM.hh mL_root) ∈ WT ∧ (yL_root.cls ≠ "java/lang/invoke/MethodHandle" ∧ yL_root.cls ≠ "java/lang/invoke/VarHandle") ∧ (parseMethodDescriptor yL_root.desc).map (fun d => d.parameters.length) = some 3 := ⟨wt 0 (by decide +kernel) rfl, wt 1153 (by decide +kernel) rfl, by decide +kernel, by decide +kernel⟩
theorem csL_root : Cond.static yL_root ∈ WT := wt 1152 (by decide +kernel) rfl
theorem ceX11_root : jCe yX11_root mX11_root 1 := ⟨wt 9 (by decide +kernel) rfl, wt 1694 (by decide +kernel) rfl, by decide +kernel, by decide +kernel⟩
theorem cvX11_root : Cond.instanceMethod yX11_root ∈ WT ∧ Cond.selects yX11_root.cls yX11_root yX11_root ∈ WT ∧ vwCl[9]? = some (yX11_root.cls, TX11, 31) := ⟨wt 1692 (by decide +kernel) rfl, wt 1693 (by decide +kernel) rfl, rfl⟩
theorem ceL_kind : Cond.initialized yL_kind.cls ∈ WT ∧ Cond.codeWith yL_kind (jM.cc mL_kind) (jM.nL mL_kind) (jM.ret mL_kind) (jM.hh mL_kind) ∈ WT ∧ (yL_kind.cls ≠ "java/lang/invoke/MethodHandle" ∧ yL_kind.cls ≠ "java/lang/invoke/VarHandle") ∧ (parseMethodDescriptor yL_kind.desc).map (fun d => d.parameters.length) = some 3 := ⟨wt 0 (by decide +kernel) rfl, wt 1160 (by decide +kernel) rfl, by decide +kernel, by decide +kernel⟩
theorem csL_kind : Cond.static yL_kind ∈ WT := wt 1159 (by decide +kernel) rfl
theorem ceX11_kind : jCe yX11_kind mX11_kind 1 := ⟨wt 9 (by decide +kernel) rfl, wt 1702 (by decide +kernel) rfl, by decide +kernel, by decide +kernel⟩
theorem cvX11_kind : Cond.instanceMethod yX11_kind ∈ WT ∧ Cond.selects yX11_kind.cls yX11_kind yX11_kind ∈ WT ∧ vwCl[9]? = some (yX11_kind.cls, TX11, 31) := ⟨wt 1700 (by decide +kernel) rfl, wt 1701 (by decide +kernel) rfl, rfl⟩
theorem ceL_inversion : Cond.initialized yL_inversion.cls ∈ WT ∧ Cond.codeWith yL_inversion (jM.cc mL_inversion) (jM.nL mL_inversion) (jM.ret mL_inversion) (jM.hh mL_inversion) ∈ WT ∧ (yL_inversion.cls ≠ "java/lang/invoke/MethodHandle" ∧ yL_inversion.cls ≠ "java/lang/invoke/VarHandle") ∧ (parseMethodDescriptor yL_inversion.desc).map (fun d => d.parameters.length) = some 3 := ⟨wt 0 (by decide +kernel) rfl, wt 1167 (by decide +kernel) rfl, by decide +kernel, by decide +kernel⟩
theorem csL_inversion : Cond.static yL_inversion ∈ WT := wt 1166 (by decide +kernel) rfl
theorem ceX11_inversion : jCe yX11_inversion mX11_inversion 1 := ⟨wt 9 (by decide +kernel) rfl, wt 1706 (by decide +kernel) rfl, by decide +kernel, by decide +kernel⟩
theorem cvX11_inversion : Cond.instanceMethod yX11_inversion ∈ WT ∧ Cond.selects yX11_inversion.cls yX11_inversion yX11_inversion ∈ WT ∧ vwCl[9]? = some (yX11_inversion.cls, TX11, 31) := ⟨wt 1704 (by decide +kernel) rfl, wt 1705 (by decide +kernel) rfl, rfl⟩
theorem ceX9_faults : jCe yX9_faults mX9_faults 0 := ⟨wt 1 (by decide +kernel) rfl, wt 324 (by decide +kernel) rfl, by decide +kernel, by decide +kernel⟩
theorem cvX9_faults : Cond.instanceMethod yX9_faults ∈ WT ∧ Cond.selects yX9_faults.cls yX9_faults yX9_faults ∈ WT ∧ vwCl[7]? = some (yX9_faults.cls, TX9, 12) := ⟨wt 322 (by decide +kernel) rfl, wt 323 (by decide +kernel) rfl, rfl⟩
theorem ceX11_faults : jCe yX11_faults mX11_faults 0 := ⟨wt 9 (by decide +kernel) rfl, wt 1710 (by decide +kernel) rfl, by decide +kernel, by decide +kernel⟩
theorem cvX11_faults : Cond.instanceMethod yX11_faults ∈ WT ∧ Cond.selects yX11_faults.cls yX11_faults yX11_faults ∈ WT ∧ vwCl[9]? = some (yX11_faults.cls, TX11, 31) := ⟨wt 1708 (by decide +kernel) rfl, wt 1709 (by decide +kernel) rfl, rfl⟩
theorem ceL_kindOfFault : Cond.initialized yL_kindOfFault.cls ∈ WT ∧ Cond.codeWith yL_kindOfFault (jM.cc mL_kindOfFault) (jM.nL mL_kindOfFault) (jM.ret mL_kindOfFault) (jM.hh mL_kindOfFault) ∈ WT ∧ (yL_kindOfFault.cls ≠ "java/lang/invoke/MethodHandle" ∧ yL_kindOfFault.cls ≠ "java/lang/invoke/VarHandle") ∧ (parseMethodDescriptor yL_kindOfFault.desc).map (fun d => d.parameters.length) = some 3 := ⟨wt 0 (by decide +kernel) rfl, wt 1174 (by decide +kernel) rfl, by decide +kernel, by decide +kernel⟩
theorem csL_kindOfFault : Cond.static yL_kindOfFault ∈ WT := wt 1173 (by decide +kernel) rfl
theorem ceX11_kindOfFault : jCe yX11_kindOfFault mX11_kindOfFault 1 := ⟨wt 9 (by decide +kernel) rfl, wt 1734 (by decide +kernel) rfl, by decide +kernel, by decide +kernel⟩
theorem cvX11_kindOfFault : Cond.instanceMethod yX11_kindOfFault ∈ WT ∧ Cond.selects yX11_kindOfFault.cls yX11_kindOfFault yX11_kindOfFault ∈ WT ∧ vwCl[9]? = some (yX11_kindOfFault.cls, TX11, 31) := ⟨wt 1732 (by decide +kernel) rfl, wt 1733 (by decide +kernel) rfl, rfl⟩
theorem ceL_tickOfFault : Cond.initialized yL_tickOfFault.cls ∈ WT ∧ Cond.codeWith yL_tickOfFault (jM.cc mL_tickOfFault) (jM.nL mL_tickOfFault) (jM.ret mL_tickOfFault) (jM.hh mL_tickOfFault) ∈ WT ∧ (yL_tickOfFault.cls ≠ "java/lang/invoke/MethodHandle" ∧ yL_tickOfFault.cls ≠ "java/lang/invoke/VarHandle") ∧ (parseMethodDescriptor yL_tickOfFault.desc).map (fun d => d.parameters.length) = some 3 := ⟨wt 0 (by decide +kernel) rfl, wt 1187 (by decide +kernel) rfl, by decide +kernel, by decide +kernel⟩
theorem csL_tickOfFault : Cond.static yL_tickOfFault ∈ WT := wt 1186 (by decide +kernel) rfl
theorem ceX11_tickOfFault : jCe yX11_tickOfFault mX11_tickOfFault 1 := ⟨wt 9 (by decide +kernel) rfl, wt 1742 (by decide +kernel) rfl, by decide +kernel, by decide +kernel⟩
theorem cvX11_tickOfFault : Cond.instanceMethod yX11_tickOfFault ∈ WT ∧ Cond.selects yX11_tickOfFault.cls yX11_tickOfFault yX11_tickOfFault ∈ WT ∧ vwCl[9]? = some (yX11_tickOfFault.cls, TX11, 31) := ⟨wt 1740 (by decide +kernel) rfl, wt 1741 (by decide +kernel) rfl, rfl⟩
theorem ceL_partsOfFault : Cond.initialized yL_partsOfFault.cls ∈ WT ∧ Cond.codeWith yL_partsOfFault (jM.cc mL_partsOfFault) (jM.nL mL_partsOfFault) (jM.ret mL_partsOfFault) (jM.hh mL_partsOfFault) ∈ WT ∧ (yL_partsOfFault.cls ≠ "java/lang/invoke/MethodHandle" ∧ yL_partsOfFault.cls ≠ "java/lang/invoke/VarHandle") ∧ (parseMethodDescriptor yL_partsOfFault.desc).map (fun d => d.parameters.length) = some 3 := ⟨wt 0 (by decide +kernel) rfl, wt 1194 (by decide +kernel) rfl, by decide +kernel, by decide +kernel⟩
theorem csL_partsOfFault : Cond.static yL_partsOfFault ∈ WT := wt 1193 (by decide +kernel) rfl
theorem ceX11_partsOfFault : jCe yX11_partsOfFault mX11_partsOfFault 1 := ⟨wt 9 (by decide +kernel) rfl, wt 1746 (by decide +kernel) rfl, by decide +kernel, by decide +kernel⟩
theorem cvX11_partsOfFault : Cond.instanceMethod yX11_partsOfFault ∈ WT ∧ Cond.selects yX11_partsOfFault.cls yX11_partsOfFault yX11_partsOfFault ∈ WT ∧ vwCl[9]? = some (yX11_partsOfFault.cls, TX11, 31) := ⟨wt 1744 (by decide +kernel) rfl, wt 1745 (by decide +kernel) rfl, rfl⟩
theorem ceL_faultsIfUp : Cond.initialized yL_faultsIfUp.cls ∈ WT ∧ Cond.codeWith yL_faultsIfUp (jM.cc mL_faultsIfUp) (jM.nL mL_faultsIfUp) (jM.ret mL_faultsIfUp) (jM.hh mL_faultsIfUp) ∈ WT ∧ (yL_faultsIfUp.cls ≠ "java/lang/invoke/MethodHandle" ∧ yL_faultsIfUp.cls ≠ "java/lang/invoke/VarHandle") ∧ (parseMethodDescriptor yL_faultsIfUp.desc).map (fun d => d.parameters.length) = some 4 := ⟨wt 0 (by decide +kernel) rfl, wt 1201 (by decide +kernel) rfl, by decide +kernel, by decide +kernel⟩
theorem csL_faultsIfUp : Cond.static yL_faultsIfUp ∈ WT := wt 1200 (by decide +kernel) rfl
theorem ceX11_faultsIfUp : jCe yX11_faultsIfUp mX11_faultsIfUp 2 := ⟨wt 9 (by decide +kernel) rfl, wt 1750 (by decide +kernel) rfl, by decide +kernel, by decide +kernel⟩
theorem cvX11_faultsIfUp : Cond.instanceMethod yX11_faultsIfUp ∈ WT ∧ Cond.selects yX11_faultsIfUp.cls yX11_faultsIfUp yX11_faultsIfUp ∈ WT ∧ vwCl[9]? = some (yX11_faultsIfUp.cls, TX11, 31) := ⟨wt 1748 (by decide +kernel) rfl, wt 1749 (by decide +kernel) rfl, rfl⟩
theorem ceX11_bars : jCe yX11_bars mX11_bars 0 := ⟨wt 9 (by decide +kernel) rfl, wt 1754 (by decide +kernel) rfl, by decide +kernel, by decide +kernel⟩
theorem cvX11_bars : Cond.instanceMethod yX11_bars ∈ WT ∧ Cond.selects yX11_bars.cls yX11_bars yX11_bars ∈ WT ∧ vwCl[9]? = some (yX11_bars.cls, TX11, 31) := ⟨wt 1752 (by decide +kernel) rfl, wt 1753 (by decide +kernel) rfl, rfl⟩
theorem ceL_widthOf : Cond.initialized yL_widthOf.cls ∈ WT ∧ Cond.codeWith yL_widthOf (jM.cc mL_widthOf) (jM.nL mL_widthOf) (jM.ret mL_widthOf) (jM.hh mL_widthOf) ∈ WT ∧ (yL_widthOf.cls ≠ "java/lang/invoke/MethodHandle" ∧ yL_widthOf.cls ≠ "java/lang/invoke/VarHandle") ∧ (parseMethodDescriptor yL_widthOf.desc).map (fun d => d.parameters.length) = some 3 := ⟨wt 0 (by decide +kernel) rfl, wt 1210 (by decide +kernel) rfl, by decide +kernel, by decide +kernel⟩
theorem csL_widthOf : Cond.static yL_widthOf ∈ WT := wt 1209 (by decide +kernel) rfl
theorem ceX11_widthOf : jCe yX11_widthOf mX11_widthOf 1 := ⟨wt 9 (by decide +kernel) rfl, wt 1762 (by decide +kernel) rfl, by decide +kernel, by decide +kernel⟩
theorem cvX11_widthOf : Cond.instanceMethod yX11_widthOf ∈ WT ∧ Cond.selects yX11_widthOf.cls yX11_widthOf yX11_widthOf ∈ WT ∧ vwCl[9]? = some (yX11_widthOf.cls, TX11, 31) := ⟨wt 1760 (by decide +kernel) rfl, wt 1761 (by decide +kernel) rfl, rfl⟩
theorem ceL_lines : Cond.initialized yL_lines.cls ∈ WT ∧ Cond.codeWith yL_lines (jM.cc mL_lines) (jM.nL mL_lines) (jM.ret mL_lines) (jM.hh mL_lines) ∈ WT ∧ (yL_lines.cls ≠ "java/lang/invoke/MethodHandle" ∧ yL_lines.cls ≠ "java/lang/invoke/VarHandle") ∧ (parseMethodDescriptor yL_lines.desc).map (fun d => d.parameters.length) = some 3 := ⟨wt 0 (by decide +kernel) rfl, wt 1217 (by decide +kernel) rfl, by decide +kernel, by decide +kernel⟩
theorem csL_lines : Cond.static yL_lines ∈ WT := wt 1216 (by decide +kernel) rfl
theorem ceX11_lines : jCe yX11_lines mX11_lines 1 := ⟨wt 9 (by decide +kernel) rfl, wt 1770 (by decide +kernel) rfl, by decide +kernel, by decide +kernel⟩
theorem cvX11_lines : Cond.instanceMethod yX11_lines ∈ WT ∧ Cond.selects yX11_lines.cls yX11_lines yX11_lines ∈ WT ∧ vwCl[9]? = some (yX11_lines.cls, TX11, 31) := ⟨wt 1768 (by decide +kernel) rfl, wt 1769 (by decide +kernel) rfl, rfl⟩
theorem ceL_lineOf : Cond.initialized yL_lineOf.cls ∈ WT ∧ Cond.codeWith yL_lineOf (jM.cc mL_lineOf) (jM.nL mL_lineOf) (jM.ret mL_lineOf) (jM.hh mL_lineOf) ∈ WT ∧ (yL_lineOf.cls ≠ "java/lang/invoke/MethodHandle" ∧ yL_lineOf.cls ≠ "java/lang/invoke/VarHandle") ∧ (parseMethodDescriptor yL_lineOf.desc).map (fun d => d.parameters.length) = some 4 := ⟨wt 0 (by decide +kernel) rfl, wt 1228 (by decide +kernel) rfl, by decide +kernel, by decide +kernel⟩
theorem csL_lineOf : Cond.static yL_lineOf ∈ WT := wt 1227 (by decide +kernel) rfl
theorem ceX11_lineOf : jCe yX11_lineOf mX11_lineOf 2 := ⟨wt 9 (by decide +kernel) rfl, wt 1782 (by decide +kernel) rfl, by decide +kernel, by decide +kernel⟩
theorem cvX11_lineOf : Cond.instanceMethod yX11_lineOf ∈ WT ∧ Cond.selects yX11_lineOf.cls yX11_lineOf yX11_lineOf ∈ WT ∧ vwCl[9]? = some (yX11_lineOf.cls, TX11, 31) := ⟨wt 1780 (by decide +kernel) rfl, wt 1781 (by decide +kernel) rfl, rfl⟩
theorem ceL_costOf : Cond.initialized yL_costOf.cls ∈ WT ∧ Cond.codeWith yL_costOf (jM.cc mL_costOf) (jM.nL mL_costOf) (jM.ret mL_costOf) (jM.hh mL_costOf) ∈ WT ∧ (yL_costOf.cls ≠ "java/lang/invoke/MethodHandle" ∧ yL_costOf.cls ≠ "java/lang/invoke/VarHandle") ∧ (parseMethodDescriptor yL_costOf.desc).map (fun d => d.parameters.length) = some 3 := ⟨wt 0 (by decide +kernel) rfl, wt 1239 (by decide +kernel) rfl, by decide +kernel, by decide +kernel⟩
theorem csL_costOf : Cond.static yL_costOf ∈ WT := wt 1238 (by decide +kernel) rfl
theorem ceX11_costOf : jCe yX11_costOf mX11_costOf 1 := ⟨wt 9 (by decide +kernel) rfl, wt 1786 (by decide +kernel) rfl, by decide +kernel, by decide +kernel⟩
theorem cvX11_costOf : Cond.instanceMethod yX11_costOf ∈ WT ∧ Cond.selects yX11_costOf.cls yX11_costOf yX11_costOf ∈ WT ∧ vwCl[9]? = some (yX11_costOf.cls, TX11, 31) := ⟨wt 1784 (by decide +kernel) rfl, wt 1785 (by decide +kernel) rfl, rfl⟩
theorem ceX9_meanHeight : jCe yX9_meanHeight mX9_meanHeight 0 := ⟨wt 1 (by decide +kernel) rfl, wt 419 (by decide +kernel) rfl, by decide +kernel, by decide +kernel⟩
theorem cvX9_meanHeight : Cond.instanceMethod yX9_meanHeight ∈ WT ∧ Cond.selects yX9_meanHeight.cls yX9_meanHeight yX9_meanHeight ∈ WT ∧ vwCl[7]? = some (yX9_meanHeight.cls, TX9, 12) := ⟨wt 417 (by decide +kernel) rfl, wt 418 (by decide +kernel) rfl, rfl⟩
theorem ceX11_meanHeight : jCe yX11_meanHeight mX11_meanHeight 0 := ⟨wt 9 (by decide +kernel) rfl, wt 1794 (by decide +kernel) rfl, by decide +kernel, by decide +kernel⟩
theorem cvX11_meanHeight : Cond.instanceMethod yX11_meanHeight ∈ WT ∧ Cond.selects yX11_meanHeight.cls yX11_meanHeight yX11_meanHeight ∈ WT ∧ vwCl[9]? = some (yX11_meanHeight.cls, TX11, 31) := ⟨wt 1792 (by decide +kernel) rfl, wt 1793 (by decide +kernel) rfl, rfl⟩
theorem ceX9_digest : jCe yX9_digest mX9_digest 0 := ⟨wt 1 (by decide +kernel) rfl, wt 433 (by decide +kernel) rfl, by decide +kernel, by decide +kernel⟩
theorem cvX9_digest : Cond.instanceMethod yX9_digest ∈ WT ∧ Cond.selects yX9_digest.cls yX9_digest yX9_digest ∈ WT ∧ vwCl[7]? = some (yX9_digest.cls, TX9, 12) := ⟨wt 431 (by decide +kernel) rfl, wt 432 (by decide +kernel) rfl, rfl⟩
theorem ceX11_digest : jCe yX11_digest mX11_digest 0 := ⟨wt 9 (by decide +kernel) rfl, wt 1798 (by decide +kernel) rfl, by decide +kernel, by decide +kernel⟩
theorem cvX11_digest : Cond.instanceMethod yX11_digest ∈ WT ∧ Cond.selects yX11_digest.cls yX11_digest yX11_digest ∈ WT ∧ vwCl[9]? = some (yX11_digest.cls, TX11, 31) := ⟨wt 1796 (by decide +kernel) rfl, wt 1797 (by decide +kernel) rfl, rfl⟩
theorem kX9_3 : Cond.methodLink RX9 3 objectInit ∈ WT ∧ Cond.instanceMethod objectInit ∈ WT ∧ Cond.code objectInit ⟨#[0xb1]⟩ 1 none ∈ WT := ⟨wt 28 (by decide +kernel) rfl, wt 29 (by decide +kernel) rfl, wt 30 (by decide +kernel) rfl⟩
theorem kX9_15 : jLk RX9 15 yX6_init mX6_init 0 := jLk.mk (wt 34 (by decide +kernel) rfl) ceX6_init
theorem kX9_18 : jLk RX9 18 yX0_init mX0_init 0 := jLk.mk (wt 81 (by decide +kernel) rfl) ceX0_init
theorem kX9_25 : jLk RX9 25 yX5_init mX5_init 0 := jLk.mk (wt 114 (by decide +kernel) rfl) ceX5_init
theorem kX9_32 : jLk RX9 32 yX3_init mX3_init 0 := jLk.mk (wt 155 (by decide +kernel) rfl) ceX3_init
theorem kX9_39 : jLk RX9 39 yX1_init mX1_init 0 := jLk.mk (wt 174 (by decide +kernel) rfl) ceX1_init
theorem kX9_46 : jLk RX9 46 yX2_init mX2_init 0 := jLk.mk (wt 190 (by decide +kernel) rfl) ceX2_init
theorem kX9_53 : jLk RX9 53 yX4_init mX4_init 0 := jLk.mk (wt 221 (by decide +kernel) rfl) ceX4_init
theorem kX9_75 : jLk RX9 75 yX9_partAt mX9_partAt 1 := jLk.mk (wt 495 (by decide +kernel) rfl) ceX9_partAt
theorem kX9_79 : jLk RX9 79 yX9_checkPitch mX9_checkPitch 2 := jLk.mk (wt 815 (by decide +kernel) rfl) ceX9_checkPitch
theorem kX9_83 : jLk RX9 83 yX9_checkValue mX9_checkValue 1 := jLk.mk (wt 837 (by decide +kernel) rfl) ceX9_checkValue
theorem kX9_87 : jLk RX9 87 yX9_checkRoom mX9_checkRoom 2 := jLk.mk (wt 844 (by decide +kernel) rfl) ceX9_checkRoom
theorem kX9_91 : jLk RX9 91 yX9_forgetWhatFollows mX9_forgetWhatFollows 0 := jLk.mk (wt 869 (by decide +kernel) rfl) ceX9_forgetWhatFollows
theorem kX9_94 : jLk RX9 94 yX6_append mX6_append 3 := jLk.mk (wt 873 (by decide +kernel) rfl) ceX6_append
theorem kX9_98 : jLk RX9 98 yX6_size mX6_size 0 := jLk.mk (wt 462 (by decide +kernel) rfl) ceX6_size
theorem kX9_109 : jLk RX9 109 yX6_removeLast mX6_removeLast 0 := jLk.mk (wt 910 (by decide +kernel) rfl) ceX6_removeLast
theorem kX9_112 : jLk RX9 112 yX9_partWith mX9_partWith 2 := jLk.mk (wt 921 (by decide +kernel) rfl) ceX9_partWith
theorem kX9_116 : jLk RX9 116 yX9_checkNote mX9_checkNote 2 := jLk.mk (wt 927 (by decide +kernel) rfl) ceX9_checkNote
theorem kX9_119 : jLk RX9 119 yX6_heightAt mX6_heightAt 1 := jLk.mk (wt 471 (by decide +kernel) rfl) ceX6_heightAt
theorem kX9_123 : jLk RX9 123 yX6_givePitch mX6_givePitch 3 := jLk.mk (wt 932 (by decide +kernel) rfl) ceX6_givePitch
theorem kX9_127 : jLk RX9 127 yX9_checkBar mX9_checkBar 1 := jLk.mk (wt 567 (by decide +kernel) rfl) ceX9_checkBar
theorem kX9_135 : jLk RX9 135 yX0_changeMetre mX0_changeMetre 3 := jLk.mk (wt 941 (by decide +kernel) rfl) ceX0_changeMetre
theorem kX9_138 : jLk RX9 138 yX0_lengthAt mX0_lengthAt 1 := jLk.mk (wt 486 (by decide +kernel) rfl) ceX0_lengthAt
theorem kX9_141 : jLk RX9 141 yX9_checkKey mX9_checkKey 1 := jLk.mk (wt 949 (by decide +kernel) rfl) ceX9_checkKey
theorem kX9_144 : jLk RX9 144 yX0_keyAt mX0_keyAt 1 := jLk.mk (wt 673 (by decide +kernel) rfl) ceX0_keyAt
theorem kX9_147 : jLk RX9 147 yX0_changeKey mX0_changeKey 2 := jLk.mk (wt 953 (by decide +kernel) rfl) ceX0_changeKey
theorem kX9_152 : jLk RX9 152 yX6_changeRange mX6_changeRange 2 := jLk.mk (wt 965 (by decide +kernel) rfl) ceX6_changeRange
theorem kX9_155 : jLk RX9 155 yX6_notesOutOfRange mX6_notesOutOfRange 0 := jLk.mk (wt 969 (by decide +kernel) rfl) ceX6_notesOutOfRange
theorem kX9_160 : jLk RX9 160 yX6_changeShift mX6_changeShift 2 := jLk.mk (wt 982 (by decide +kernel) rfl) ceX6_changeShift
theorem kX9_163 : jLk RX9 163 yX6_notesWithoutWrittenPitch mX6_notesWithoutWrittenPitch 0 := jLk.mk (wt 986 (by decide +kernel) rfl) ceX6_notesWithoutWrittenPitch
theorem kX9_166 : jLk RX9 166 yX6_beginAt mX6_beginAt 1 := jLk.mk (wt 470 (by decide +kernel) rfl) ceX6_beginAt
theorem kX9_169 : jLk RX9 169 yX0_barAt mX0_barAt 1 := jLk.mk (wt 472 (by decide +kernel) rfl) ceX0_barAt
theorem kX9_172 : jLk RX9 172 yX6_writtenPlaceAt mX6_writtenPlaceAt 1 := jLk.mk (wt 473 (by decide +kernel) rfl) ceX6_writtenPlaceAt
theorem kX9_175 : jLk RX9 175 yX6_writtenAlterAt mX6_writtenAlterAt 1 := jLk.mk (wt 477 (by decide +kernel) rfl) ceX6_writtenAlterAt
theorem kX9_180 : jLk RX9 180 yX7_alterByKey mX7_alterByKey 2 := jLk.mk (wt 1040 (by decide +kernel) rfl) ceX7_alterByKey
theorem kX9_186 : jLk RX9 186 yX6_keyAsWritten mX6_keyAsWritten 1 := jLk.mk (wt 674 (by decide +kernel) rfl) ceX6_keyAsWritten
theorem kX9_189 : jLk RX9 189 yX0_beginAt mX0_beginAt 1 := jLk.mk (wt 485 (by decide +kernel) rfl) ceX0_beginAt
theorem kX9_190 : jLk RX9 190 yX9_measureAt mX9_measureAt 2 := jLk.mk (wt 491 (by decide +kernel) rfl) ceX9_measureAt
theorem kX9_194 : jLk RX9 194 yX5_size mX5_size 0 := jLk.mk (wt 658 (by decide +kernel) rfl) ceX5_size
theorem kX9_195 : jLk RX9 195 yX9_measureWith mX9_measureWith 3 := jLk.mk (wt 1076 (by decide +kernel) rfl) ceX9_measureWith
theorem kX9_199 : jLk RX9 199 yX5_eventAt mX5_eventAt 1 := jLk.mk (wt 679 (by decide +kernel) rfl) ceX5_eventAt
theorem kX9_202 : jLk RX9 202 yX5_lengthAt mX5_lengthAt 1 := jLk.mk (wt 683 (by decide +kernel) rfl) ceX5_lengthAt
theorem kX9_203 : jLk RX9 203 yX5_tiedAt mX5_tiedAt 1 := jLk.mk (wt 687 (by decide +kernel) rfl) ceX5_tiedAt
theorem kX9_207 : jLk RX9 207 yX5_shownAt mX5_shownAt 1 := jLk.mk (wt 691 (by decide +kernel) rfl) ceX5_shownAt
theorem kX9_210 : jLk RX9 210 yX5_shownAsWrittenAt mX5_shownAsWrittenAt 1 := jLk.mk (wt 695 (by decide +kernel) rfl) ceX5_shownAsWrittenAt
theorem kX9_213 : jLk RX9 213 yX5_beamTotal mX5_beamTotal 0 := jLk.mk (wt 662 (by decide +kernel) rfl) ceX5_beamTotal
theorem kX9_216 : jLk RX9 216 yX5_beamAt mX5_beamAt 1 := jLk.mk (wt 699 (by decide +kernel) rfl) ceX5_beamAt
theorem kX9_219 : jLk RX9 219 yX6_end mX6_end 0 := jLk.mk (wt 401 (by decide +kernel) rfl) ceX6_end
theorem kX9_222 : jLk RX9 222 yX0_ticksBehind mX0_ticksBehind 2 := jLk.mk (wt 666 (by decide +kernel) rfl) ceX0_ticksBehind
theorem kX9_225 : jLk RX9 225 yX9_hear mX9_hear 0 := jLk.mk (wt 282 (by decide +kernel) rfl) ceX9_hear
theorem kX9_228 : jLk RX9 228 yX3_size mX3_size 0 := jLk.mk (wt 317 (by decide +kernel) rfl) ceX3_size
theorem kX9_229 : jLk RX9 229 yX9_checkMoment mX9_checkMoment 1 := jLk.mk (wt 1138 (by decide +kernel) rfl) ceX9_checkMoment
theorem kX9_232 : jLk RX9 232 yX3_tickAt mX3_tickAt 1 := jLk.mk (wt 707 (by decide +kernel) rfl) ceX3_tickAt
theorem kX9_235 : jLk RX9 235 yX3_eventAt mX3_eventAt 2 := jLk.mk (wt 708 (by decide +kernel) rfl) ceX3_eventAt
theorem kX9_237 : jLk RX9 237 yX9_chordAt mX9_chordAt 1 := jLk.mk (wt 709 (by decide +kernel) rfl) ceX9_chordAt
theorem kX9_241 : jLk RX9 241 yX1_rootClass mX1_rootClass 0 := jLk.mk (wt 742 (by decide +kernel) rfl) ceX1_rootClass
theorem kX9_244 : jLk RX9 244 yX1_kindNumber mX1_kindNumber 0 := jLk.mk (wt 746 (by decide +kernel) rfl) ceX1_kindNumber
theorem kX9_247 : jLk RX9 247 yX1_lowestTone mX1_lowestTone 0 := jLk.mk (wt 750 (by decide +kernel) rfl) ceX1_lowestTone
theorem kX9_250 : jLk RX9 250 yX9_searchFaults mX9_searchFaults 0 := jLk.mk (wt 325 (by decide +kernel) rfl) ceX9_searchFaults
theorem kX9_253 : jLk RX9 253 yX2_size mX2_size 0 := jLk.mk (wt 389 (by decide +kernel) rfl) ceX2_size
theorem kX9_254 : jLk RX9 254 yX9_checkFault mX9_checkFault 1 := jLk.mk (wt 1179 (by decide +kernel) rfl) ceX9_checkFault
theorem kX9_257 : jLk RX9 257 yX2_kindAt mX2_kindAt 1 := jLk.mk (wt 758 (by decide +kernel) rfl) ceX2_kindAt
theorem kX9_260 : jLk RX9 260 yX2_tickAt mX2_tickAt 1 := jLk.mk (wt 766 (by decide +kernel) rfl) ceX2_tickAt
theorem kX9_261 : jLk RX9 261 yX2_partsAt mX2_partsAt 1 := jLk.mk (wt 770 (by decide +kernel) rfl) ceX2_partsAt
theorem kX9_264 : jLk RX9 264 yX6_placeAt mX6_placeAt 1 := jLk.mk (wt 1206 (by decide +kernel) rfl) ceX6_placeAt
theorem kX9_267 : jLk RX9 267 yX6_alterAt mX6_alterAt 1 := jLk.mk (wt 1207 (by decide +kernel) rfl) ceX6_alterAt
theorem kX9_270 : jLk RX9 270 yX2_search mX2_search 2 := jLk.mk (wt 329 (by decide +kernel) rfl) ceX2_search
theorem kX9_274 : jLk RX9 274 yX9_lastEnd mX9_lastEnd 0 := jLk.mk (wt 397 (by decide +kernel) rfl) ceX9_lastEnd
theorem kX9_277 : jLk RX9 277 yX0_barsUpTo mX0_barsUpTo 1 := jLk.mk (wt 408 (by decide +kernel) rfl) ceX0_barsUpTo
theorem kX9_280 : jLk RX9 280 yX9_measureWidths mX9_measureWidths 0 := jLk.mk (wt 434 (by decide +kernel) rfl) ceX9_measureWidths
theorem kX9_283 : jLk RX9 283 yX4_widthAt mX4_widthAt 1 := jLk.mk (wt 487 (by decide +kernel) rfl) ceX4_widthAt
theorem kX9_286 : jLk RX9 286 yX9_checkWidth mX9_checkWidth 1 := jLk.mk (wt 1222 (by decide +kernel) rfl) ceX9_checkWidth
theorem kX9_289 : jLk RX9 289 yX9_breakLines mX9_breakLines 1 := jLk.mk (wt 779 (by decide +kernel) rfl) ceX9_breakLines
theorem kX9_292 : jLk RX9 292 yX4_size mX4_size 0 := jLk.mk (wt 797 (by decide +kernel) rfl) ceX4_size
theorem kX9_293 : jLk RX9 293 yX4_lineAt mX4_lineAt 1 := jLk.mk (wt 1233 (by decide +kernel) rfl) ceX4_lineAt
theorem kX9_296 : jLk RX9 296 yX4_leastCost mX4_leastCost 0 := jLk.mk (wt 801 (by decide +kernel) rfl) ceX4_leastCost
theorem kX9_299 : jLk RX9 299 yX6_sumOfHeights mX6_sumOfHeights 0 := jLk.mk (wt 420 (by decide +kernel) rfl) ceX6_sumOfHeights
theorem kX9_302 : jLk RX9 302 yX6_notes mX6_notes 0 := jLk.mk (wt 426 (by decide +kernel) rfl) ceX6_notes
theorem kX9_307 : jLk RX9 307 yX9_mixPart mX9_mixPart 2 := jLk.mk (wt 458 (by decide +kernel) rfl) ceX9_mixPart
theorem kX9_311 : jLk RX9 311 yX9_mixBar mX9_mixBar 2 := jLk.mk (wt 481 (by decide +kernel) rfl) ceX9_mixBar
theorem kX9_315 : jLk RX9 315 yX9_mixMoments mX9_mixMoments 1 := jLk.mk (wt 703 (by decide +kernel) rfl) ceX9_mixMoments
theorem kX9_319 : jLk RX9 319 yX9_mixFaults mX9_mixFaults 1 := jLk.mk (wt 754 (by decide +kernel) rfl) ceX9_mixFaults
theorem kX9_322 : jLk RX9 322 yX9_bars mX9_bars 0 := jLk.mk (wt 774 (by decide +kernel) rfl) ceX9_bars
theorem kX9_325 : jLk RX9 325 yX9_mix mX9_mix 2 := jLk.mk (wt 466 (by decide +kernel) rfl) ceX9_mix
theorem kX9_329 : jLk RX9 329 yX9_mixLines mX9_mixLines 2 := jLk.mk (wt 775 (by decide +kernel) rfl) ceX9_mixLines
theorem kX9_334 : jLk RX9 334 yX9_mixSigns mX9_mixSigns 2 := jLk.mk (wt 675 (by decide +kernel) rfl) ceX9_mixSigns
theorem kX9_338 : jLk RX9 338 yX3_listen mX3_listen 1 := jLk.mk (wt 286 (by decide +kernel) rfl) ceX3_listen
theorem kX9_342 : jLk RX9 342 yX4_measureWidths mX4_measureWidths 2 := jLk.mk (wt 438 (by decide +kernel) rfl) ceX4_measureWidths
theorem kX9_345 : jLk RX9 345 yX4_breakUp mX4_breakUp 2 := jLk.mk (wt 783 (by decide +kernel) rfl) ceX4_breakUp
theorem kX9_348 : Cond.methodLink RX9 348 Lib.Math.max.name ∈ WT ∧ Cond.static Lib.Math.max.name ∈ WT ∧ Cond.initialized "java/lang/Math" ∈ WT ∧ Cond.code Lib.Math.max.name Lib.Math.max.code 2 (some .int) ∈ WT := ⟨wt 405 (by decide +kernel) rfl, wt 406 (by decide +kernel) rfl, wt 20 (by decide +kernel) rfl, wt 407 (by decide +kernel) rfl⟩
theorem kX9_358 : jLk RX9 358 yX6_has mX6_has 1 := jLk.mk (wt 925 (by decide +kernel) rfl) ceX6_has
theorem kX9_363 : jLk RX9 363 yX5_write mX5_write 3 := jLk.mk (wt 571 (by decide +kernel) rfl) ceX5_write
theorem kX9_367 : jLk RX9 367 yX5_has mX5_has 1 := jLk.mk (wt 1080 (by decide +kernel) rfl) ceX5_has
theorem kX9_370 : jLk RX9 370 yX1_tell mX1_tell 3 := jLk.mk (wt 713 (by decide +kernel) rfl) ceX1_tell
theorem kX9_374 : jLk RX9 374 yX3_has mX3_has 1 := jLk.mk (wt 1142 (by decide +kernel) rfl) ceX3_has
theorem kX9_377 : jLk RX9 377 yX2_has mX2_has 1 := jLk.mk (wt 1183 (by decide +kernel) rfl) ceX2_has
theorem kX9_380 : jLk RX9 380 yX9_allEvents mX9_allEvents 0 := jLk.mk (wt 848 (by decide +kernel) rfl) ceX9_allEvents
theorem kX9_383 : jLk RX9 383 yX0_end mX0_end 0 := jLk.mk (wt 852 (by decide +kernel) rfl) ceX0_end
theorem kX9_386 : jLk RX9 386 yX6_isNote mX6_isNote 1 := jLk.mk (wt 930 (by decide +kernel) rfl) ceX6_isNote
theorem kX9_393 : jLk RX9 393 yX7_isPitch mX7_isPitch 2 := jLk.mk (wt 818 (by decide +kernel) rfl) ceX7_isPitch
theorem kX9_399 : jLk RX9 399 yX8_isValue mX8_isValue 1 := jLk.mk (wt 840 (by decide +kernel) rfl) ceX8_isValue
theorem kX0_3 : Cond.methodLink RX0 3 objectInit ∈ WT ∧ Cond.instanceMethod objectInit ∈ WT ∧ Cond.code objectInit ⟨#[0xb1]⟩ 1 none ∈ WT := ⟨wt 84 (by decide +kernel) rfl, wt 29 (by decide +kernel) rfl, wt 30 (by decide +kernel) rfl⟩
theorem kX0_24 : jLk RX0 24 yX0_changeMetre mX0_changeMetre 3 := jLk.mk (wt 85 (by decide +kernel) rfl) ceX0_changeMetre
theorem kX0_28 : jLk RX0 28 yX0_isBar mX0_isBar 1 := jLk.mk (wt 89 (by decide +kernel) rfl) ceX0_isBar
theorem kX0_32 : jLk RX0 32 yX0_beginAt mX0_beginAt 1 := jLk.mk (wt 92 (by decide +kernel) rfl) ceX0_beginAt
theorem kX0_40 : jLk RX0 40 yX0_barAt mX0_barAt 1 := jLk.mk (wt 412 (by decide +kernel) rfl) ceX0_barAt
theorem kX0_43 : jLk RX0 43 yX0_lengthAt mX0_lengthAt 1 := jLk.mk (wt 670 (by decide +kernel) rfl) ceX0_lengthAt
theorem kX0_46 : Cond.methodLink RX0 46 Lib.Math.min.name ∈ WT ∧ Cond.static Lib.Math.min.name ∈ WT ∧ Cond.initialized "java/lang/Math" ∈ WT ∧ Cond.code Lib.Math.min.name Lib.Math.min.code 2 (some .int) ∈ WT := ⟨wt 671 (by decide +kernel) rfl, wt 307 (by decide +kernel) rfl, wt 20 (by decide +kernel) rfl, wt 308 (by decide +kernel) rfl⟩
theorem kX0_52 : Cond.methodLink RX0 52 Lib.Math.max.name ∈ WT ∧ Cond.static Lib.Math.max.name ∈ WT ∧ Cond.initialized "java/lang/Math" ∈ WT ∧ Cond.code Lib.Math.max.name Lib.Math.max.code 2 (some .int) ∈ WT := ⟨wt 672 (by decide +kernel) rfl, wt 406 (by decide +kernel) rfl, wt 20 (by decide +kernel) rfl, wt 407 (by decide +kernel) rfl⟩
theorem kX1_3 : Cond.methodLink RX1 3 objectInit ∈ WT ∧ Cond.instanceMethod objectInit ∈ WT ∧ Cond.code objectInit ⟨#[0xb1]⟩ 1 none ∈ WT := ⟨wt 177 (by decide +kernel) rfl, wt 29 (by decide +kernel) rfl, wt 30 (by decide +kernel) rfl⟩
theorem kX1_21 : jLk RX1 21 yX3_eventAt mX3_eventAt 2 := jLk.mk (wt 717 (by decide +kernel) rfl) ceX3_eventAt
theorem kX1_27 : jLk RX1 27 yX6_heightAt mX6_heightAt 1 := jLk.mk (wt 718 (by decide +kernel) rfl) ceX6_heightAt
theorem kX1_33 : Cond.methodLink RX1 33 Lib.Math.min.name ∈ WT ∧ Cond.static Lib.Math.min.name ∈ WT ∧ Cond.initialized "java/lang/Math" ∈ WT ∧ Cond.code Lib.Math.min.name Lib.Math.min.code 2 (some .int) ∈ WT := ⟨wt 719 (by decide +kernel) rfl, wt 307 (by decide +kernel) rfl, wt 20 (by decide +kernel) rfl, wt 308 (by decide +kernel) rfl⟩
theorem kX1_38 : jLk RX1 38 yX1_forget mX1_forget 0 := jLk.mk (wt 720 (by decide +kernel) rfl) ceX1_forget
theorem kX1_41 : jLk RX1 41 yJ6_bitCount_0f7a4 mJ6_bitCount_0f7a4 1 := jLk.mk (wt 724 (by decide +kernel) rfl) ceJ6_bitCount_0f7a4
theorem kX1_46 : jLk RX1 46 yX1_findRoot mX1_findRoot 2 := jLk.mk (wt 730 (by decide +kernel) rfl) ceX1_findRoot
theorem kX1_50 : jLk RX1 50 yX1_findKind mX1_findKind 3 := jLk.mk (wt 734 (by decide +kernel) rfl) ceX1_findKind
theorem kX2_3 : Cond.methodLink RX2 3 objectInit ∈ WT ∧ Cond.instanceMethod objectInit ∈ WT ∧ Cond.code objectInit ⟨#[0xb1]⟩ 1 none ∈ WT := ⟨wt 193 (by decide +kernel) rfl, wt 29 (by decide +kernel) rfl, wt 30 (by decide +kernel) rfl⟩
theorem kX2_38 : jLk RX2 38 yX2_has mX2_has 1 := jLk.mk (wt 762 (by decide +kernel) rfl) ceX2_has
theorem kX2_42 : jLk RX2 42 yJ7_fill_53178 mJ7_fill_53178 2 := jLk.mk (wt 333 (by decide +kernel) rfl) ceJ7_fill_53178
theorem kX2_48 : jLk RX2 48 yX3_size mX3_size 0 := jLk.mk (wt 334 (by decide +kernel) rfl) ceX3_size
theorem kX2_54 : jLk RX2 54 yX3_tickAt mX3_tickAt 1 := jLk.mk (wt 335 (by decide +kernel) rfl) ceX3_tickAt
theorem kX2_58 : jLk RX2 58 yX2_goOn mX2_goOn 3 := jLk.mk (wt 343 (by decide +kernel) rfl) ceX2_goOn
theorem kX2_62 : jLk RX2 62 yX2_searchParallels mX2_searchParallels 1 := jLk.mk (wt 363 (by decide +kernel) rfl) ceX2_searchParallels
theorem kX2_66 : jLk RX2 66 yX2_searchCrossings mX2_searchCrossings 1 := jLk.mk (wt 374 (by decide +kernel) rfl) ceX2_searchCrossings
theorem kX2_69 : jLk RX2 69 yX3_eventAt mX3_eventAt 2 := jLk.mk (wt 347 (by decide +kernel) rfl) ceX3_eventAt
theorem kX2_73 : jLk RX2 73 yX2_searchNote mX2_searchNote 3 := jLk.mk (wt 378 (by decide +kernel) rfl) ceX2_searchNote
theorem kX2_77 : jLk RX2 77 yX6_heightAt mX6_heightAt 1 := jLk.mk (wt 351 (by decide +kernel) rfl) ceX6_heightAt
theorem kX2_82 : jLk RX2 82 yX6_isNote mX6_isNote 1 := jLk.mk (wt 355 (by decide +kernel) rfl) ceX6_isNote
theorem kX2_85 : jLk RX2 85 yX6_beginAt mX6_beginAt 1 := jLk.mk (wt 359 (by decide +kernel) rfl) ceX6_beginAt
theorem kX2_88 : jLk RX2 88 yJ6_compare_7cf53 mJ6_compare_7cf53 2 := jLk.mk (wt 360 (by decide +kernel) rfl) ceJ6_compare_7cf53
theorem kX2_93 : jLk RX2 93 yJ9_floorMod_7cf53 mJ9_floorMod_7cf53 2 := jLk.mk (wt 367 (by decide +kernel) rfl) ceJ9_floorMod_7cf53
theorem kX2_98 : jLk RX2 98 yX2_add mX2_add 3 := jLk.mk (wt 370 (by decide +kernel) rfl) ceX2_add
theorem kX2_102 : Cond.methodLink RX2 102 Lib.Math.abs.name ∈ WT ∧ Cond.static Lib.Math.abs.name ∈ WT ∧ Cond.initialized "java/lang/Math" ∈ WT ∧ Cond.code Lib.Math.abs.name Lib.Math.abs.code 1 (some .int) ∈ WT := ⟨wt 382 (by decide +kernel) rfl, wt 383 (by decide +kernel) rfl, wt 20 (by decide +kernel) rfl, wt 384 (by decide +kernel) rfl⟩
theorem kX2_105 : jLk RX2 105 yX6_isOutOfRange mX6_isOutOfRange 1 := jLk.mk (wt 385 (by decide +kernel) rfl) ceX6_isOutOfRange
theorem kX3_3 : Cond.methodLink RX3 3 objectInit ∈ WT ∧ Cond.instanceMethod objectInit ∈ WT ∧ Cond.code objectInit ⟨#[0xb1]⟩ 1 none ∈ WT := ⟨wt 158 (by decide +kernel) rfl, wt 29 (by decide +kernel) rfl, wt 30 (by decide +kernel) rfl⟩
theorem kX3_25 : jLk RX3 25 yX3_has mX3_has 1 := jLk.mk (wt 339 (by decide +kernel) rfl) ceX3_has
theorem kX3_29 : jLk RX3 29 yJ7_fill_53178 mJ7_fill_53178 2 := jLk.mk (wt 290 (by decide +kernel) rfl) ceJ7_fill_53178
theorem kX3_35 : jLk RX3 35 yX3_nextBegin mX3_nextBegin 1 := jLk.mk (wt 293 (by decide +kernel) rfl) ceX3_nextBegin
theorem kX3_39 : jLk RX3 39 yX3_eventGoingOn mX3_eventGoingOn 3 := jLk.mk (wt 309 (by decide +kernel) rfl) ceX3_eventGoingOn
theorem kX3_43 : jLk RX3 43 yX6_has mX6_has 1 := jLk.mk (wt 297 (by decide +kernel) rfl) ceX6_has
theorem kX3_46 : jLk RX3 46 yX6_beginAt mX6_beginAt 1 := jLk.mk (wt 301 (by decide +kernel) rfl) ceX6_beginAt
theorem kX3_50 : Cond.methodLink RX3 50 Lib.Math.min.name ∈ WT ∧ Cond.static Lib.Math.min.name ∈ WT ∧ Cond.initialized "java/lang/Math" ∈ WT ∧ Cond.code Lib.Math.min.name Lib.Math.min.code 2 (some .int) ∈ WT := ⟨wt 306 (by decide +kernel) rfl, wt 307 (by decide +kernel) rfl, wt 20 (by decide +kernel) rfl, wt 308 (by decide +kernel) rfl⟩
theorem kX3_56 : jLk RX3 56 yX6_endAt mX6_endAt 1 := jLk.mk (wt 313 (by decide +kernel) rfl) ceX6_endAt
theorem kX4_3 : Cond.methodLink RX4 3 objectInit ∈ WT ∧ Cond.instanceMethod objectInit ∈ WT ∧ Cond.code objectInit ⟨#[0xb1]⟩ 1 none ∈ WT := ⟨wt 224 (by decide +kernel) rfl, wt 29 (by decide +kernel) rfl, wt 30 (by decide +kernel) rfl⟩
theorem kX4_28 : jLk RX4 28 yX0_beginAt mX0_beginAt 1 := jLk.mk (wt 442 (by decide +kernel) rfl) ceX0_beginAt
theorem kX4_34 : jLk RX4 34 yX0_lengthAt mX0_lengthAt 1 := jLk.mk (wt 443 (by decide +kernel) rfl) ceX0_lengthAt
theorem kX4_37 : jLk RX4 37 yX0_keyAt mX0_keyAt 1 := jLk.mk (wt 447 (by decide +kernel) rfl) ceX0_keyAt
theorem kX4_40 : Cond.methodLink RX4 40 Lib.Math.abs.name ∈ WT ∧ Cond.static Lib.Math.abs.name ∈ WT ∧ Cond.initialized "java/lang/Math" ∈ WT ∧ Cond.code Lib.Math.abs.name Lib.Math.abs.code 1 (some .int) ∈ WT := ⟨wt 451 (by decide +kernel) rfl, wt 383 (by decide +kernel) rfl, wt 20 (by decide +kernel) rfl, wt 384 (by decide +kernel) rfl⟩
theorem kX4_45 : jLk RX4 45 yX3_size mX3_size 0 := jLk.mk (wt 452 (by decide +kernel) rfl) ceX3_size
theorem kX4_51 : jLk RX4 51 yX3_tickAt mX3_tickAt 1 := jLk.mk (wt 453 (by decide +kernel) rfl) ceX3_tickAt
theorem kX4_54 : jLk RX4 54 yX4_widthOfGap mX4_widthOfGap 1 := jLk.mk (wt 454 (by decide +kernel) rfl) ceX4_widthOfGap
theorem kX4_57 : Cond.methodLink RX4 57 Lib.Math.min.name ∈ WT ∧ Cond.static Lib.Math.min.name ∈ WT ∧ Cond.initialized "java/lang/Math" ∈ WT ∧ Cond.code Lib.Math.min.name Lib.Math.min.code 2 (some .int) ∈ WT := ⟨wt 787 (by decide +kernel) rfl, wt 307 (by decide +kernel) rfl, wt 20 (by decide +kernel) rfl, wt 308 (by decide +kernel) rfl⟩
theorem kX4_61 : Cond.methodLink RX4 61 Lib.Math.max.name ∈ WT ∧ Cond.static Lib.Math.max.name ∈ WT ∧ Cond.initialized "java/lang/Math" ∈ WT ∧ Cond.code Lib.Math.max.name Lib.Math.max.code 2 (some .int) ∈ WT := ⟨wt 788 (by decide +kernel) rfl, wt 406 (by decide +kernel) rfl, wt 20 (by decide +kernel) rfl, wt 407 (by decide +kernel) rfl⟩
theorem kX4_64 : jLk RX4 64 yX4_chooseLine mX4_chooseLine 3 := jLk.mk (wt 789 (by decide +kernel) rfl) ceX4_chooseLine
theorem kX4_68 : jLk RX4 68 yX4_numberLines mX4_numberLines 1 := jLk.mk (wt 793 (by decide +kernel) rfl) ceX4_numberLines
theorem kX5_3 : Cond.methodLink RX5 3 objectInit ∈ WT ∧ Cond.instanceMethod objectInit ∈ WT ∧ Cond.code objectInit ⟨#[0xb1]⟩ 1 none ∈ WT := ⟨wt 117 (by decide +kernel) rfl, wt 29 (by decide +kernel) rfl, wt 30 (by decide +kernel) rfl⟩
theorem kX5_47 : jLk RX5 47 yX5_has mX5_has 1 := jLk.mk (wt 621 (by decide +kernel) rfl) ceX5_has
theorem kX5_51 : jLk RX5 51 yX0_beginAt mX0_beginAt 1 := jLk.mk (wt 575 (by decide +kernel) rfl) ceX0_beginAt
theorem kX5_57 : jLk RX5 57 yX0_lengthAt mX0_lengthAt 1 := jLk.mk (wt 576 (by decide +kernel) rfl) ceX0_lengthAt
theorem kX5_60 : jLk RX5 60 yX6_firstEndingBehind mX6_firstEndingBehind 1 := jLk.mk (wt 577 (by decide +kernel) rfl) ceX6_firstEndingBehind
theorem kX5_65 : jLk RX5 65 yX6_size mX6_size 0 := jLk.mk (wt 582 (by decide +kernel) rfl) ceX6_size
theorem kX5_69 : jLk RX5 69 yX6_beginAt mX6_beginAt 1 := jLk.mk (wt 583 (by decide +kernel) rfl) ceX6_beginAt
theorem kX5_70 : jLk RX5 70 yX6_endAt mX6_endAt 1 := jLk.mk (wt 584 (by decide +kernel) rfl) ceX6_endAt
theorem kX5_73 : Cond.methodLink RX5 73 Lib.Math.min.name ∈ WT ∧ Cond.static Lib.Math.min.name ∈ WT ∧ Cond.initialized "java/lang/Math" ∈ WT ∧ Cond.code Lib.Math.min.name Lib.Math.min.code 2 (some .int) ∈ WT := ⟨wt 585 (by decide +kernel) rfl, wt 307 (by decide +kernel) rfl, wt 20 (by decide +kernel) rfl, wt 308 (by decide +kernel) rfl⟩
theorem kX5_79 : Cond.methodLink RX5 79 Lib.Math.max.name ∈ WT ∧ Cond.static Lib.Math.max.name ∈ WT ∧ Cond.initialized "java/lang/Math" ∈ WT ∧ Cond.code Lib.Math.max.name Lib.Math.max.code 2 (some .int) ∈ WT := ⟨wt 586 (by decide +kernel) rfl, wt 406 (by decide +kernel) rfl, wt 20 (by decide +kernel) rfl, wt 407 (by decide +kernel) rfl⟩
theorem kX5_82 : jLk RX5 82 yX5_writeStretch mX5_writeStretch 3 := jLk.mk (wt 587 (by decide +kernel) rfl) ceX5_writeStretch
theorem kX5_86 : jLk RX5 86 yX0_end mX0_end 0 := jLk.mk (wt 600 (by decide +kernel) rfl) ceX0_end
theorem kX5_89 : jLk RX5 89 yX5_markSigns mX5_markSigns 2 := jLk.mk (wt 604 (by decide +kernel) rfl) ceX5_markSigns
theorem kX5_93 : jLk RX5 93 yX0_groupLengthAt mX0_groupLengthAt 1 := jLk.mk (wt 609 (by decide +kernel) rfl) ceX0_groupLengthAt
theorem kX5_96 : jLk RX5 96 yX5_beamSigns mX5_beamSigns 3 := jLk.mk (wt 613 (by decide +kernel) rfl) ceX5_beamSigns
theorem kX5_100 : jLk RX5 100 yX0_keyAt mX0_keyAt 1 := jLk.mk (wt 625 (by decide +kernel) rfl) ceX0_keyAt
theorem kX5_103 : jLk RX5 103 yX5_showAlters mX5_showAlters 2 := jLk.mk (wt 626 (by decide +kernel) rfl) ceX5_showAlters
theorem kX5_106 : jLk RX5 106 yX6_keyAsWritten mX6_keyAsWritten 1 := jLk.mk (wt 648 (by decide +kernel) rfl) ceX6_keyAsWritten
theorem kX5_109 : jLk RX5 109 yX5_showAltersAsWritten mX5_showAltersAsWritten 2 := jLk.mk (wt 652 (by decide +kernel) rfl) ceX5_showAltersAsWritten
theorem kX5_112 : jLk RX5 112 yX8_greatestIn mX8_greatestIn 1 := jLk.mk (wt 591 (by decide +kernel) rfl) ceX8_greatestIn
theorem kX5_117 : jLk RX5 117 yX5_addSign mX5_addSign 3 := jLk.mk (wt 596 (by decide +kernel) rfl) ceX5_addSign
theorem kX5_120 : jLk RX5 120 yX6_isNote mX6_isNote 1 := jLk.mk (wt 608 (by decide +kernel) rfl) ceX6_isNote
theorem kX5_123 : jLk RX5 123 yX5_joinToSignAhead mX5_joinToSignAhead 1 := jLk.mk (wt 617 (by decide +kernel) rfl) ceX5_joinToSignAhead
theorem kX5_127 : jLk RX5 127 yJ7_fill_53178 mJ7_fill_53178 2 := jLk.mk (wt 630 (by decide +kernel) rfl) ceJ7_fill_53178
theorem kX5_133 : jLk RX5 133 yX6_placeAt mX6_placeAt 1 := jLk.mk (wt 631 (by decide +kernel) rfl) ceX6_placeAt
theorem kX5_136 : jLk RX5 136 yX6_alterAt mX6_alterAt 1 := jLk.mk (wt 635 (by decide +kernel) rfl) ceX6_alterAt
theorem kX5_139 : jLk RX5 139 yX5_alterToShow mX5_alterToShow 3 := jLk.mk (wt 639 (by decide +kernel) rfl) ceX5_alterToShow
theorem kX5_143 : jLk RX5 143 yX6_writtenPlaceAt mX6_writtenPlaceAt 1 := jLk.mk (wt 656 (by decide +kernel) rfl) ceX6_writtenPlaceAt
theorem kX5_146 : jLk RX5 146 yX6_writtenAlterAt mX6_writtenAlterAt 1 := jLk.mk (wt 657 (by decide +kernel) rfl) ceX6_writtenAlterAt
theorem kX5_149 : jLk RX5 149 yX7_alterByKey mX7_alterByKey 2 := jLk.mk (wt 643 (by decide +kernel) rfl) ceX7_alterByKey
theorem kX6_3 : Cond.methodLink RX6 3 objectInit ∈ WT ∧ Cond.instanceMethod objectInit ∈ WT ∧ Cond.code objectInit ⟨#[0xb1]⟩ 1 none ∈ WT := ⟨wt 37 (by decide +kernel) rfl, wt 29 (by decide +kernel) rfl, wt 30 (by decide +kernel) rfl⟩
theorem kX6_46 : jLk RX6 46 yX6_givePitch mX6_givePitch 3 := jLk.mk (wt 877 (by decide +kernel) rfl) ceX6_givePitch
theorem kX6_50 : jLk RX6 50 yX6_has mX6_has 1 := jLk.mk (wt 305 (by decide +kernel) rfl) ceX6_has
theorem kX6_54 : jLk RX6 54 yX7_plainHeight mX7_plainHeight 1 := jLk.mk (wt 881 (by decide +kernel) rfl) ceX7_plainHeight
theorem kX6_60 : jLk RX6 60 yX6_writeForInstrument mX6_writeForInstrument 1 := jLk.mk (wt 890 (by decide +kernel) rfl) ceX6_writeForInstrument
theorem kX6_70 : jLk RX6 70 yX7_isPitch mX7_isPitch 2 := jLk.mk (wt 894 (by decide +kernel) rfl) ceX7_isPitch
theorem kX6_74 : jLk RX6 74 yX6_endAt mX6_endAt 1 := jLk.mk (wt 581 (by decide +kernel) rfl) ceX6_endAt
theorem kX6_77 : jLk RX6 77 yX6_isNote mX6_isNote 1 := jLk.mk (wt 424 (by decide +kernel) rfl) ceX6_isNote
theorem kX6_80 : jLk RX6 80 yX6_isOutOfRange mX6_isOutOfRange 1 := jLk.mk (wt 973 (by decide +kernel) rfl) ceX6_isOutOfRange
theorem kX6_83 : jLk RX6 83 yX6_heightAt mX6_heightAt 1 := jLk.mk (wt 425 (by decide +kernel) rfl) ceX6_heightAt
theorem kX7_9 : jLk RX7 9 yJ9_floorMod_7cf53 mJ9_floorMod_7cf53 2 := jLk.mk (wt 884 (by decide +kernel) rfl) ceJ9_floorMod_7cf53
theorem kX7_21 : jLk RX7 21 yJ9_floorDiv_7cf53 mJ9_floorDiv_7cf53 2 := jLk.mk (wt 887 (by decide +kernel) rfl) ceJ9_floorDiv_7cf53
theorem kL_7 : jLk RL 7 yX9_addNote mX9_addNote 4 := jLk.mk (wt 811 (by decide +kernel) rfl) ceX9_addNote
theorem kL_19 : jLk RL 19 yX9_addRest mX9_addRest 2 := jLk.mk (wt 898 (by decide +kernel) rfl) ceX9_addRest
theorem kL_23 : jLk RL 23 yX9_takeLast mX9_takeLast 1 := jLk.mk (wt 905 (by decide +kernel) rfl) ceX9_takeLast
theorem kL_27 : jLk RL 27 yX9_setPitch mX9_setPitch 4 := jLk.mk (wt 917 (by decide +kernel) rfl) ceX9_setPitch
theorem kL_30 : jLk RL 30 yX9_setMetre mX9_setMetre 3 := jLk.mk (wt 936 (by decide +kernel) rfl) ceX9_setMetre
theorem kL_34 : jLk RL 34 yX9_setKey mX9_setKey 2 := jLk.mk (wt 945 (by decide +kernel) rfl) ceX9_setKey
theorem kL_37 : jLk RL 37 yX9_setRange mX9_setRange 3 := jLk.mk (wt 960 (by decide +kernel) rfl) ceX9_setRange
theorem kL_40 : jLk RL 40 yX9_setShift mX9_setShift 3 := jLk.mk (wt 977 (by decide +kernel) rfl) ceX9_setShift
theorem kL_43 : jLk RL 43 yX9_events mX9_events 1 := jLk.mk (wt 993 (by decide +kernel) rfl) ceX9_events
theorem kL_46 : jLk RL 46 yX9_beginOf mX9_beginOf 2 := jLk.mk (wt 1000 (by decide +kernel) rfl) ceX9_beginOf
theorem kL_49 : jLk RL 49 yX9_heightOf mX9_heightOf 2 := jLk.mk (wt 1007 (by decide +kernel) rfl) ceX9_heightOf
theorem kL_52 : jLk RL 52 yX9_barOf mX9_barOf 2 := jLk.mk (wt 1014 (by decide +kernel) rfl) ceX9_barOf
theorem kL_55 : jLk RL 55 yX9_writtenPlace mX9_writtenPlace 2 := jLk.mk (wt 1021 (by decide +kernel) rfl) ceX9_writtenPlace
theorem kL_58 : jLk RL 58 yX9_writtenAlter mX9_writtenAlter 2 := jLk.mk (wt 1028 (by decide +kernel) rfl) ceX9_writtenAlter
theorem kL_61 : jLk RL 61 yX9_alterIn mX9_alterIn 2 := jLk.mk (wt 1035 (by decide +kernel) rfl) ceX9_alterIn
theorem kL_64 : jLk RL 64 yX9_writtenKey mX9_writtenKey 2 := jLk.mk (wt 1044 (by decide +kernel) rfl) ceX9_writtenKey
theorem kL_67 : jLk RL 67 yX9_beginOfBar mX9_beginOfBar 1 := jLk.mk (wt 1051 (by decide +kernel) rfl) ceX9_beginOfBar
theorem kL_70 : jLk RL 70 yX9_lengthOfBar mX9_lengthOfBar 1 := jLk.mk (wt 1058 (by decide +kernel) rfl) ceX9_lengthOfBar
theorem kL_73 : jLk RL 73 yX9_signs mX9_signs 2 := jLk.mk (wt 1065 (by decide +kernel) rfl) ceX9_signs
theorem kL_76 : jLk RL 76 yX9_eventOf mX9_eventOf 3 := jLk.mk (wt 1072 (by decide +kernel) rfl) ceX9_eventOf
theorem kL_79 : jLk RL 79 yX9_lengthOf mX9_lengthOf 3 := jLk.mk (wt 1085 (by decide +kernel) rfl) ceX9_lengthOf
theorem kL_82 : jLk RL 82 yX9_isTied mX9_isTied 3 := jLk.mk (wt 1092 (by decide +kernel) rfl) ceX9_isTied
theorem kL_86 : jLk RL 86 yX9_shown mX9_shown 3 := jLk.mk (wt 1099 (by decide +kernel) rfl) ceX9_shown
theorem kL_89 : jLk RL 89 yX9_shownWritten mX9_shownWritten 3 := jLk.mk (wt 1106 (by decide +kernel) rfl) ceX9_shownWritten
theorem kL_92 : jLk RL 92 yX9_beams mX9_beams 2 := jLk.mk (wt 1113 (by decide +kernel) rfl) ceX9_beams
theorem kL_95 : jLk RL 95 yX9_beamOf mX9_beamOf 3 := jLk.mk (wt 1120 (by decide +kernel) rfl) ceX9_beamOf
theorem kL_98 : jLk RL 98 yX9_missing mX9_missing 2 := jLk.mk (wt 1127 (by decide +kernel) rfl) ceX9_missing
theorem kL_101 : jLk RL 101 yX9_tickOf mX9_tickOf 1 := jLk.mk (wt 1134 (by decide +kernel) rfl) ceX9_tickOf
theorem kL_104 : jLk RL 104 yX9_sounds mX9_sounds 2 := jLk.mk (wt 1147 (by decide +kernel) rfl) ceX9_sounds
theorem kL_107 : jLk RL 107 yX9_root mX9_root 1 := jLk.mk (wt 1154 (by decide +kernel) rfl) ceX9_root
theorem kL_110 : jLk RL 110 yX9_kind mX9_kind 1 := jLk.mk (wt 1161 (by decide +kernel) rfl) ceX9_kind
theorem kL_113 : jLk RL 113 yX9_inversion mX9_inversion 1 := jLk.mk (wt 1168 (by decide +kernel) rfl) ceX9_inversion
theorem kL_116 : jLk RL 116 yX9_kindOfFault mX9_kindOfFault 1 := jLk.mk (wt 1175 (by decide +kernel) rfl) ceX9_kindOfFault
theorem kL_119 : jLk RL 119 yX9_tickOfFault mX9_tickOfFault 1 := jLk.mk (wt 1188 (by decide +kernel) rfl) ceX9_tickOfFault
theorem kL_122 : jLk RL 122 yX9_partsOfFault mX9_partsOfFault 1 := jLk.mk (wt 1195 (by decide +kernel) rfl) ceX9_partsOfFault
theorem kL_125 : jLk RL 125 yX9_faultsIfUp mX9_faultsIfUp 2 := jLk.mk (wt 1202 (by decide +kernel) rfl) ceX9_faultsIfUp
theorem kL_128 : jLk RL 128 yX9_widthOf mX9_widthOf 1 := jLk.mk (wt 1211 (by decide +kernel) rfl) ceX9_widthOf
theorem kL_131 : jLk RL 131 yX9_lines mX9_lines 1 := jLk.mk (wt 1218 (by decide +kernel) rfl) ceX9_lines
theorem kL_134 : jLk RL 134 yX9_lineOf mX9_lineOf 2 := jLk.mk (wt 1229 (by decide +kernel) rfl) ceX9_lineOf
theorem kL_137 : jLk RL 137 yX9_costOf mX9_costOf 1 := jLk.mk (wt 1240 (by decide +kernel) rfl) ceX9_costOf
theorem kL_140 : jLk RL 140 yX9_init mX9_init 0 := jLk.mk (wt 25 (by decide +kernel) rfl) ceX9_init
theorem kL_143 : jLk RL 143 yX11_init mX11_init 0 := jLk.mk (wt 1246 (by decide +kernel) rfl) ceX11_init
theorem kL_144 : Cond.methodLink RL 144 yL_addNote ∈ WT := wt 805 (by decide +kernel) rfl
theorem kL_149 : jLk RL 149 yX11_addNote mX11_addNote 4 := jLk.mk (wt 1393 (by decide +kernel) rfl) ceX11_addNote
theorem kL_150 : jLk RL 150 yX11_thrown mX11_thrown 0 := jLk.mk (wt 1389 (by decide +kernel) rfl) ceX11_thrown
theorem kL_154 : Cond.methodLink RL 154 yL_addRest ∈ WT := wt 895 (by decide +kernel) rfl
theorem kL_157 : jLk RL 157 yX11_addRest mX11_addRest 2 := jLk.mk (wt 1454 (by decide +kernel) rfl) ceX11_addRest
theorem kL_158 : Cond.methodLink RL 158 yL_takeLast ∈ WT := wt 902 (by decide +kernel) rfl
theorem kL_161 : jLk RL 161 yX11_takeLast mX11_takeLast 1 := jLk.mk (wt 1458 (by decide +kernel) rfl) ceX11_takeLast
theorem kL_162 : Cond.methodLink RL 162 yL_setPitch ∈ WT := wt 914 (by decide +kernel) rfl
theorem kL_164 : jLk RL 164 yX11_setPitch mX11_setPitch 4 := jLk.mk (wt 1462 (by decide +kernel) rfl) ceX11_setPitch
theorem kL_165 : Cond.methodLink RL 165 yL_setMetre ∈ WT := wt 933 (by decide +kernel) rfl
theorem kL_168 : jLk RL 168 yX11_setMetre mX11_setMetre 3 := jLk.mk (wt 1485 (by decide +kernel) rfl) ceX11_setMetre
theorem kL_169 : Cond.methodLink RL 169 yL_setKey ∈ WT := wt 942 (by decide +kernel) rfl
theorem kL_171 : jLk RL 171 yX11_setKey mX11_setKey 2 := jLk.mk (wt 1492 (by decide +kernel) rfl) ceX11_setKey
theorem kL_172 : Cond.methodLink RL 172 yL_setRange ∈ WT := wt 957 (by decide +kernel) rfl
theorem kL_174 : jLk RL 174 yX11_setRange mX11_setRange 3 := jLk.mk (wt 1496 (by decide +kernel) rfl) ceX11_setRange
theorem kL_175 : Cond.methodLink RL 175 yL_setShift ∈ WT := wt 974 (by decide +kernel) rfl
theorem kL_177 : jLk RL 177 yX11_setShift mX11_setShift 3 := jLk.mk (wt 1505 (by decide +kernel) rfl) ceX11_setShift
theorem kL_178 : Cond.methodLink RL 178 yL_events ∈ WT := wt 990 (by decide +kernel) rfl
theorem kL_180 : jLk RL 180 yX11_events mX11_events 1 := jLk.mk (wt 1523 (by decide +kernel) rfl) ceX11_events
theorem kL_181 : Cond.methodLink RL 181 yL_beginOf ∈ WT := wt 997 (by decide +kernel) rfl
theorem kL_183 : jLk RL 183 yX11_beginOf mX11_beginOf 2 := jLk.mk (wt 1527 (by decide +kernel) rfl) ceX11_beginOf
theorem kL_184 : Cond.methodLink RL 184 yL_heightOf ∈ WT := wt 1004 (by decide +kernel) rfl
theorem kL_186 : jLk RL 186 yX11_heightOf mX11_heightOf 2 := jLk.mk (wt 1531 (by decide +kernel) rfl) ceX11_heightOf
theorem kL_187 : Cond.methodLink RL 187 yL_barOf ∈ WT := wt 1011 (by decide +kernel) rfl
theorem kL_189 : jLk RL 189 yX11_barOf mX11_barOf 2 := jLk.mk (wt 1539 (by decide +kernel) rfl) ceX11_barOf
theorem kL_190 : Cond.methodLink RL 190 yL_writtenPlace ∈ WT := wt 1018 (by decide +kernel) rfl
theorem kL_192 : jLk RL 192 yX11_writtenPlace mX11_writtenPlace 2 := jLk.mk (wt 1547 (by decide +kernel) rfl) ceX11_writtenPlace
theorem kL_193 : Cond.methodLink RL 193 yL_writtenAlter ∈ WT := wt 1025 (by decide +kernel) rfl
theorem kL_195 : jLk RL 195 yX11_writtenAlter mX11_writtenAlter 2 := jLk.mk (wt 1556 (by decide +kernel) rfl) ceX11_writtenAlter
theorem kL_196 : Cond.methodLink RL 196 yL_alterIn ∈ WT := wt 1032 (by decide +kernel) rfl
theorem kL_198 : jLk RL 198 yX11_alterIn mX11_alterIn 2 := jLk.mk (wt 1565 (by decide +kernel) rfl) ceX11_alterIn
theorem kL_199 : Cond.methodLink RL 199 yL_writtenKey ∈ WT := wt 1041 (by decide +kernel) rfl
theorem kL_201 : jLk RL 201 yX11_writtenKey mX11_writtenKey 2 := jLk.mk (wt 1575 (by decide +kernel) rfl) ceX11_writtenKey
theorem kL_202 : Cond.methodLink RL 202 yL_beginOfBar ∈ WT := wt 1048 (by decide +kernel) rfl
theorem kL_204 : jLk RL 204 yX11_beginOfBar mX11_beginOfBar 1 := jLk.mk (wt 1583 (by decide +kernel) rfl) ceX11_beginOfBar
theorem kL_205 : Cond.methodLink RL 205 yL_lengthOfBar ∈ WT := wt 1055 (by decide +kernel) rfl
theorem kL_207 : jLk RL 207 yX11_lengthOfBar mX11_lengthOfBar 1 := jLk.mk (wt 1587 (by decide +kernel) rfl) ceX11_lengthOfBar
theorem kL_208 : Cond.methodLink RL 208 yL_signs ∈ WT := wt 1062 (by decide +kernel) rfl
theorem kL_210 : jLk RL 210 yX11_signs mX11_signs 2 := jLk.mk (wt 1591 (by decide +kernel) rfl) ceX11_signs
theorem kL_211 : Cond.methodLink RL 211 yL_eventOf ∈ WT := wt 1069 (by decide +kernel) rfl
theorem kL_213 : jLk RL 213 yX11_eventOf mX11_eventOf 3 := jLk.mk (wt 1618 (by decide +kernel) rfl) ceX11_eventOf
theorem kL_214 : Cond.methodLink RL 214 yL_lengthOf ∈ WT := wt 1082 (by decide +kernel) rfl
theorem kL_216 : jLk RL 216 yX11_lengthOf mX11_lengthOf 3 := jLk.mk (wt 1626 (by decide +kernel) rfl) ceX11_lengthOf
theorem kL_217 : Cond.methodLink RL 217 yL_isTied ∈ WT := wt 1089 (by decide +kernel) rfl
theorem kL_219 : jLk RL 219 yX11_isTied mX11_isTied 3 := jLk.mk (wt 1630 (by decide +kernel) rfl) ceX11_isTied
theorem kL_220 : Cond.methodLink RL 220 yL_shown ∈ WT := wt 1096 (by decide +kernel) rfl
theorem kL_222 : jLk RL 222 yX11_shown mX11_shown 3 := jLk.mk (wt 1634 (by decide +kernel) rfl) ceX11_shown
theorem kL_223 : Cond.methodLink RL 223 yL_shownWritten ∈ WT := wt 1103 (by decide +kernel) rfl
theorem kL_225 : jLk RL 225 yX11_shownWritten mX11_shownWritten 3 := jLk.mk (wt 1638 (by decide +kernel) rfl) ceX11_shownWritten
theorem kL_226 : Cond.methodLink RL 226 yL_beams ∈ WT := wt 1110 (by decide +kernel) rfl
theorem kL_228 : jLk RL 228 yX11_beams mX11_beams 2 := jLk.mk (wt 1642 (by decide +kernel) rfl) ceX11_beams
theorem kL_229 : Cond.methodLink RL 229 yL_beamOf ∈ WT := wt 1117 (by decide +kernel) rfl
theorem kL_231 : jLk RL 231 yX11_beamOf mX11_beamOf 3 := jLk.mk (wt 1646 (by decide +kernel) rfl) ceX11_beamOf
theorem kL_232 : Cond.methodLink RL 232 yL_missing ∈ WT := wt 1124 (by decide +kernel) rfl
theorem kL_234 : jLk RL 234 yX11_missing mX11_missing 2 := jLk.mk (wt 1650 (by decide +kernel) rfl) ceX11_missing
theorem kL_235 : jLk RL 235 yX9_moments mX9_moments 0 := jLk.mk (wt 278 (by decide +kernel) rfl) ceX9_moments
theorem kL_238 : jLk RL 238 yX11_moments mX11_moments 0 := jLk.mk (wt 1658 (by decide +kernel) rfl) ceX11_moments
theorem kL_239 : Cond.methodLink RL 239 yL_tickOf ∈ WT := wt 1131 (by decide +kernel) rfl
theorem kL_241 : jLk RL 241 yX11_tickOf mX11_tickOf 1 := jLk.mk (wt 1675 (by decide +kernel) rfl) ceX11_tickOf
theorem kL_242 : Cond.methodLink RL 242 yL_sounds ∈ WT := wt 1144 (by decide +kernel) rfl
theorem kL_244 : jLk RL 244 yX11_sounds mX11_sounds 2 := jLk.mk (wt 1683 (by decide +kernel) rfl) ceX11_sounds
theorem kL_245 : Cond.methodLink RL 245 yL_root ∈ WT := wt 1151 (by decide +kernel) rfl
theorem kL_247 : jLk RL 247 yX11_root mX11_root 1 := jLk.mk (wt 1691 (by decide +kernel) rfl) ceX11_root
theorem kL_248 : Cond.methodLink RL 248 yL_kind ∈ WT := wt 1158 (by decide +kernel) rfl
theorem kL_250 : jLk RL 250 yX11_kind mX11_kind 1 := jLk.mk (wt 1699 (by decide +kernel) rfl) ceX11_kind
theorem kL_251 : Cond.methodLink RL 251 yL_inversion ∈ WT := wt 1165 (by decide +kernel) rfl
theorem kL_253 : jLk RL 253 yX11_inversion mX11_inversion 1 := jLk.mk (wt 1703 (by decide +kernel) rfl) ceX11_inversion
theorem kL_254 : jLk RL 254 yX9_faults mX9_faults 0 := jLk.mk (wt 321 (by decide +kernel) rfl) ceX9_faults
theorem kL_257 : jLk RL 257 yX11_faults mX11_faults 0 := jLk.mk (wt 1707 (by decide +kernel) rfl) ceX11_faults
theorem kL_258 : Cond.methodLink RL 258 yL_kindOfFault ∈ WT := wt 1172 (by decide +kernel) rfl
theorem kL_260 : jLk RL 260 yX11_kindOfFault mX11_kindOfFault 1 := jLk.mk (wt 1731 (by decide +kernel) rfl) ceX11_kindOfFault
theorem kL_261 : Cond.methodLink RL 261 yL_tickOfFault ∈ WT := wt 1185 (by decide +kernel) rfl
theorem kL_263 : jLk RL 263 yX11_tickOfFault mX11_tickOfFault 1 := jLk.mk (wt 1739 (by decide +kernel) rfl) ceX11_tickOfFault
theorem kL_264 : Cond.methodLink RL 264 yL_partsOfFault ∈ WT := wt 1192 (by decide +kernel) rfl
theorem kL_266 : jLk RL 266 yX11_partsOfFault mX11_partsOfFault 1 := jLk.mk (wt 1743 (by decide +kernel) rfl) ceX11_partsOfFault
theorem kL_267 : Cond.methodLink RL 267 yL_faultsIfUp ∈ WT := wt 1199 (by decide +kernel) rfl
theorem kL_269 : jLk RL 269 yX11_faultsIfUp mX11_faultsIfUp 2 := jLk.mk (wt 1747 (by decide +kernel) rfl) ceX11_faultsIfUp
theorem kL_270 : jLk RL 270 yX9_bars mX9_bars 0 := jLk.mk (wt 393 (by decide +kernel) rfl) ceX9_bars
theorem kL_273 : jLk RL 273 yX11_bars mX11_bars 0 := jLk.mk (wt 1751 (by decide +kernel) rfl) ceX11_bars
theorem kL_274 : Cond.methodLink RL 274 yL_widthOf ∈ WT := wt 1208 (by decide +kernel) rfl
theorem kL_276 : jLk RL 276 yX11_widthOf mX11_widthOf 1 := jLk.mk (wt 1759 (by decide +kernel) rfl) ceX11_widthOf
theorem kL_277 : Cond.methodLink RL 277 yL_lines ∈ WT := wt 1215 (by decide +kernel) rfl
theorem kL_279 : jLk RL 279 yX11_lines mX11_lines 1 := jLk.mk (wt 1767 (by decide +kernel) rfl) ceX11_lines
theorem kL_280 : Cond.methodLink RL 280 yL_lineOf ∈ WT := wt 1226 (by decide +kernel) rfl
theorem kL_282 : jLk RL 282 yX11_lineOf mX11_lineOf 2 := jLk.mk (wt 1779 (by decide +kernel) rfl) ceX11_lineOf
theorem kL_283 : Cond.methodLink RL 283 yL_costOf ∈ WT := wt 1237 (by decide +kernel) rfl
theorem kL_285 : jLk RL 285 yX11_costOf mX11_costOf 1 := jLk.mk (wt 1783 (by decide +kernel) rfl) ceX11_costOf
theorem kL_286 : jLk RL 286 yX9_meanHeight mX9_meanHeight 0 := jLk.mk (wt 416 (by decide +kernel) rfl) ceX9_meanHeight
theorem kL_290 : jLk RL 290 yX11_meanHeight mX11_meanHeight 0 := jLk.mk (wt 1791 (by decide +kernel) rfl) ceX11_meanHeight
theorem kL_291 : jLk RL 291 yX9_digest mX9_digest 0 := jLk.mk (wt 430 (by decide +kernel) rfl) ceX9_digest
theorem kL_295 : jLk RL 295 yX11_digest mX11_digest 0 := jLk.mk (wt 1795 (by decide +kernel) rfl) ceX11_digest
theorem kX11_1 : jLk RX11 1 yJ9_floorDiv_7cf53 mJ9_floorDiv_7cf53 2 := jLk.mk (wt 1481 (by decide +kernel) rfl) ceJ9_floorDiv_7cf53
theorem kX11_13 : jLk RX11 13 yJ9_floorMod_7cf53 mJ9_floorMod_7cf53 2 := jLk.mk (wt 1484 (by decide +kernel) rfl) ceJ9_floorMod_7cf53
theorem kX11_16 : Cond.methodLink RX11 16 objectInit ∈ WT ∧ Cond.instanceMethod objectInit ∈ WT ∧ Cond.code objectInit ⟨#[0xb1]⟩ 1 none ∈ WT := ⟨wt 1249 (by decide +kernel) rfl, wt 29 (by decide +kernel) rfl, wt 30 (by decide +kernel) rfl⟩
theorem kX11_80 : jLkN RX11 80 yX10_init RX11 mX10_init 0 := ⟨by decide +kernel, ceX10_init⟩
theorem kX11_81 : jLk RX11 81 yJ7_fill_53178 mJ7_fill_53178 2 := jLk.mk (wt 1294 (by decide +kernel) rfl) ceJ7_fill_53178
theorem kX11_91 : jLk RX11 91 yX11_is mX11_is 3 := jLk.mk (wt 1400 (by decide +kernel) rfl) ceX11_is
theorem kX11_95 : jLk RX11 95 yX11_isPart mX11_isPart 1 := jLk.mk (wt 1397 (by decide +kernel) rfl) ceX11_isPart
theorem kX11_105 : jLk RX11 105 yX11_length mX11_length 1 := jLk.mk (wt 1431 (by decide +kernel) rfl) ceX11_length
theorem kX11_109 : jLk RX11 109 yX10_end mX10_end 0 := jLk.mk (wt 1419 (by decide +kernel) rfl) ceX10_end
theorem kX11_112 : jLk RX11 112 yX11_begin mX11_begin 1 := jLk.mk (wt 1427 (by decide +kernel) rfl) ceX11_begin
theorem kX11_115 : jLk RX11 115 yX11_refuse mX11_refuse 1 := jLk.mk (wt 1403 (by decide +kernel) rfl) ceX11_refuse
theorem kX11_118 : jLk RX11 118 yX10_add mX10_add 3 := jLk.mk (wt 1435 (by decide +kernel) rfl) ceX10_add
theorem kX11_122 : jLk RX11 122 yX11_isPitch mX11_isPitch 2 := jLk.mk (wt 1407 (by decide +kernel) rfl) ceX11_isPitch
theorem kX11_126 : jLk RX11 126 yX11_isValue mX11_isValue 1 := jLk.mk (wt 1410 (by decide +kernel) rfl) ceX11_isValue
theorem kX11_129 : jLk RX11 129 yX11_add mX11_add 4 := jLk.mk (wt 1415 (by decide +kernel) rfl) ceX11_add
theorem kX11_134 : jLk RX11 134 yX11_isEvent mX11_isEvent 2 := jLk.mk (wt 1466 (by decide +kernel) rfl) ceX11_isEvent
theorem kX11_137 : jLk RX11 137 yX10_isNote mX10_isNote 1 := jLk.mk (wt 1470 (by decide +kernel) rfl) ceX10_isNote
theorem kX11_140 : jLk RX11 140 yX10_height mX10_height 1 := jLk.mk (wt 1474 (by decide +kernel) rfl) ceX10_height
theorem kX11_149 : jLk RX11 149 yX11_isBar mX11_isBar 1 := jLk.mk (wt 1489 (by decide +kernel) rfl) ceX11_isBar
theorem kX11_158 : jLk RX11 158 yX10_isOut mX10_isOut 1 := jLk.mk (wt 1500 (by decide +kernel) rfl) ceX10_isOut
theorem kX11_167 : jLk RX11 167 yX10_isWritten mX10_isWritten 1 := jLk.mk (wt 1509 (by decide +kernel) rfl) ceX10_isWritten
theorem kX11_172 : jLk RX11 172 yX11_heightNow mX11_heightNow 2 := jLk.mk (wt 1535 (by decide +kernel) rfl) ceX11_heightNow
theorem kX11_175 : jLk RX11 175 yX11_barAt mX11_barAt 1 := jLk.mk (wt 1543 (by decide +kernel) rfl) ceX11_barAt
theorem kX11_178 : jLk RX11 178 yX10_writtenPlace mX10_writtenPlace 1 := jLk.mk (wt 1555 (by decide +kernel) rfl) ceX10_writtenPlace
theorem kX11_181 : jLk RX11 181 yX10_writtenAlter mX10_writtenAlter 1 := jLk.mk (wt 1564 (by decide +kernel) rfl) ceX10_writtenAlter
theorem kX11_184 : jLk RX11 184 yX11_writtenPlaceNow mX11_writtenPlaceNow 2 := jLk.mk (wt 1551 (by decide +kernel) rfl) ceX11_writtenPlaceNow
theorem kX11_187 : jLk RX11 187 yX11_writtenAlterNow mX11_writtenAlterNow 2 := jLk.mk (wt 1560 (by decide +kernel) rfl) ceX11_writtenAlterNow
theorem kX11_190 : Cond.methodLink RX11 190 Lib.Math.abs.name ∈ WT ∧ Cond.static Lib.Math.abs.name ∈ WT ∧ Cond.initialized "java/lang/Math" ∈ WT ∧ Cond.code Lib.Math.abs.name Lib.Math.abs.code 1 (some .int) ∈ WT := ⟨wt 1572 (by decide +kernel) rfl, wt 383 (by decide +kernel) rfl, wt 20 (by decide +kernel) rfl, wt 384 (by decide +kernel) rfl⟩
theorem kX11_196 : jLk RX11 196 yX11_altered mX11_altered 2 := jLk.mk (wt 1569 (by decide +kernel) rfl) ceX11_altered
theorem kX11_199 : jLk RX11 199 yX11_keyWritten mX11_keyWritten 2 := jLk.mk (wt 1579 (by decide +kernel) rfl) ceX11_keyWritten
theorem kX11_205 : Cond.methodLink RX11 205 Lib.Math.max.name ∈ WT ∧ Cond.static Lib.Math.max.name ∈ WT ∧ Cond.initialized "java/lang/Math" ∈ WT ∧ Cond.code Lib.Math.max.name Lib.Math.max.code 2 (some .int) ∈ WT := ⟨wt 1603 (by decide +kernel) rfl, wt 406 (by decide +kernel) rfl, wt 20 (by decide +kernel) rfl, wt 407 (by decide +kernel) rfl⟩
theorem kX11_208 : jLk RX11 208 yX10_endOf mX10_endOf 1 := jLk.mk (wt 1604 (by decide +kernel) rfl) ceX10_endOf
theorem kX11_211 : Cond.methodLink RX11 211 Lib.Math.min.name ∈ WT ∧ Cond.static Lib.Math.min.name ∈ WT ∧ Cond.initialized "java/lang/Math" ∈ WT ∧ Cond.code Lib.Math.min.name Lib.Math.min.code 2 (some .int) ∈ WT := ⟨wt 1605 (by decide +kernel) rfl, wt 307 (by decide +kernel) rfl, wt 20 (by decide +kernel) rfl, wt 308 (by decide +kernel) rfl⟩
theorem kX11_214 : jLk RX11 214 yX11_show mX11_show 4 := jLk.mk (wt 1606 (by decide +kernel) rfl) ceX11_show
theorem kX11_218 : jLk RX11 218 yX11_beam mX11_beam 3 := jLk.mk (wt 1610 (by decide +kernel) rfl) ceX11_beam
theorem kX11_224 : jLk RX11 224 yX11_isShort mX11_isShort 2 := jLk.mk (wt 1614 (by decide +kernel) rfl) ceX11_isShort
theorem kX11_227 : jLk RX11 227 yX11_lay mX11_lay 2 := jLk.mk (wt 1599 (by decide +kernel) rfl) ceX11_lay
theorem kX11_231 : jLk RX11 231 yX11_has mX11_has 2 := jLk.mk (wt 1595 (by decide +kernel) rfl) ceX11_has
theorem kX11_234 : jLk RX11 234 yX11_has_ mX11_has_ 3 := jLk.mk (wt 1622 (by decide +kernel) rfl) ceX11_has_
theorem kX11_236 : jLk RX11 236 yX11_missingNow mX11_missingNow 2 := jLk.mk (wt 1654 (by decide +kernel) rfl) ceX11_missingNow
theorem kX11_245 : jLk RX11 245 yX11_beginWalk mX11_beginWalk 0 := jLk.mk (wt 1666 (by decide +kernel) rfl) ceX11_beginWalk
theorem kX11_248 : jLk RX11 248 yX11_walk mX11_walk 0 := jLk.mk (wt 1670 (by decide +kernel) rfl) ceX11_walk
theorem kX11_252 : jLk RX11 252 yX11_momentsNow mX11_momentsNow 0 := jLk.mk (wt 1662 (by decide +kernel) rfl) ceX11_momentsNow
theorem kX11_255 : jLk RX11 255 yX11_walkTo mX11_walkTo 1 := jLk.mk (wt 1679 (by decide +kernel) rfl) ceX11_walkTo
theorem kX11_258 : jLk RX11 258 yX11_soundsNow mX11_soundsNow 1 := jLk.mk (wt 1687 (by decide +kernel) rfl) ceX11_soundsNow
theorem kX11_270 : jLk RX11 270 yX11_findChord mX11_findChord 0 := jLk.mk (wt 1695 (by decide +kernel) rfl) ceX11_findChord
theorem kX11_288 : jLk RX11 288 yX11_blameParallels mX11_blameParallels 2 := jLk.mk (wt 1715 (by decide +kernel) rfl) ceX11_blameParallels
theorem kX11_291 : jLk RX11 291 yX11_begins mX11_begins 1 := jLk.mk (wt 1719 (by decide +kernel) rfl) ceX11_begins
theorem kX11_294 : jLk RX11 294 yX11_blame mX11_blame 2 := jLk.mk (wt 1723 (by decide +kernel) rfl) ceX11_blame
theorem kX11_297 : jLk RX11 297 yX11_blamePart mX11_blamePart 1 := jLk.mk (wt 1727 (by decide +kernel) rfl) ceX11_blamePart
theorem kX11_301 : jLk RX11 301 yX11_countFaults mX11_countFaults 1 := jLk.mk (wt 1711 (by decide +kernel) rfl) ceX11_countFaults
theorem kX11_304 : jLk RX11 304 yX11_hasFault mX11_hasFault 1 := jLk.mk (wt 1735 (by decide +kernel) rfl) ceX11_hasFault
theorem kX11_307 : jLk RX11 307 yX11_barsNow mX11_barsNow 0 := jLk.mk (wt 1755 (by decide +kernel) rfl) ceX11_barsNow
theorem kX11_310 : jLk RX11 310 yX11_width mX11_width 1 := jLk.mk (wt 1763 (by decide +kernel) rfl) ceX11_width
theorem kX11_313 : jLk RX11 313 yX11_breakLines mX11_breakLines 1 := jLk.mk (wt 1775 (by decide +kernel) rfl) ceX11_breakLines
theorem kX11_316 : jLk RX11 316 yX11_linesNow mX11_linesNow 1 := jLk.mk (wt 1771 (by decide +kernel) rfl) ceX11_linesNow
theorem kX11_319 : jLk RX11 319 yX11_costNow mX11_costNow 1 := jLk.mk (wt 1787 (by decide +kernel) rfl) ceX11_costNow
theorem kX11_328 : jLk RX11 328 yX11_add_ mX11_add_ 1 := jLk.mk (wt 1800 (by decide +kernel) rfl) ceX11_add_
theorem kX11_332 : jLk RX11 332 yX11_addSigns mX11_addSigns 2 := jLk.mk (wt 1805 (by decide +kernel) rfl) ceX11_addSigns
theorem kX10_3 : Cond.methodLink RX10 3 objectInit ∈ WT ∧ Cond.instanceMethod objectInit ∈ WT ∧ Cond.code objectInit ⟨#[0xb1]⟩ 1 none ∈ WT := ⟨wt 1256 (by decide +kernel) rfl, wt 29 (by decide +kernel) rfl, wt 30 (by decide +kernel) rfl⟩
theorem kX10_34 : jLk RX10 34 yX10_endOf mX10_endOf 1 := jLk.mk (wt 1423 (by decide +kernel) rfl) ceX10_endOf
theorem kX10_38 : jLk RX10 38 yJ7_copyOf_59c91 mJ7_copyOf_59c91 2 := jLk.mk (wt 1439 (by decide +kernel) rfl) ceJ7_copyOf_59c91
theorem kX10_44 : jLk RX10 44 yX10_end mX10_end 0 := jLk.mk (wt 1453 (by decide +kernel) rfl) ceX10_end
theorem kX10_48 : jLkN RX10 48 yX11_base RX11 mX11_base 1 := ⟨by decide +kernel, ceX11_base⟩
theorem kX10_51 : jLk RX10 51 yX10_isNote mX10_isNote 1 := jLk.mk (wt 1504 (by decide +kernel) rfl) ceX10_isNote
theorem kX10_61 : jLk RX10 61 yX10_height mX10_height 1 := jLk.mk (wt 1522 (by decide +kernel) rfl) ceX10_height
theorem kX10_64 : jLk RX10 64 yX10_writtenPlace mX10_writtenPlace 1 := jLk.mk (wt 1513 (by decide +kernel) rfl) ceX10_writtenPlace
theorem kX10_67 : jLkN RX10 67 yX11_is RX11 mX11_is 3 := ⟨by decide +kernel, ceX11_is⟩
theorem kX10_71 : jLk RX10 71 yX10_writtenAlter mX10_writtenAlter 1 := jLk.mk (wt 1518 (by decide +kernel) rfl) ceX10_writtenAlter
theorem kJ7_304 : Cond.methodLink RJ7 304 Lib.Math.min.name ∈ WT ∧ Cond.static Lib.Math.min.name ∈ WT ∧ Cond.initialized "java/lang/Math" ∈ WT ∧ Cond.code Lib.Math.min.name Lib.Math.min.code 2 (some .int) ∈ WT := ⟨wt 1449 (by decide +kernel) rfl, wt 307 (by decide +kernel) rfl, wt 20 (by decide +kernel) rfl, wt 308 (by decide +kernel) rfl⟩
theorem fX9_11 : jFl RX9 11 7 0 := ⟨RX9, TX9, 12, rfl, by decide, wt 241 (by decide +kernel) rfl, inX9⟩
theorem fX9_19 : jFl RX9 19 7 1 := ⟨RX9, TX9, 12, rfl, by decide, wt 242 (by decide +kernel) rfl, inX9⟩
theorem fX9_26 : jFl RX9 26 7 2 := ⟨RX9, TX9, 12, rfl, by decide, wt 243 (by decide +kernel) rfl, inX9⟩
theorem fX9_33 : jFl RX9 33 7 3 := ⟨RX9, TX9, 12, rfl, by decide, wt 244 (by decide +kernel) rfl, inX9⟩
theorem fX9_40 : jFl RX9 40 7 4 := ⟨RX9, TX9, 12, rfl, by decide, wt 245 (by decide +kernel) rfl, inX9⟩
theorem fX9_47 : jFl RX9 47 7 5 := ⟨RX9, TX9, 12, rfl, by decide, wt 246 (by decide +kernel) rfl, inX9⟩
theorem fX9_54 : jFl RX9 54 7 6 := ⟨RX9, TX9, 12, rfl, by decide, wt 247 (by decide +kernel) rfl, inX9⟩
theorem fX9_58 : jFl RX9 58 7 7 := ⟨RX9, TX9, 12, rfl, by decide, wt 248 (by decide +kernel) rfl, inX9⟩
theorem fX9_62 : jFl RX9 62 7 8 := ⟨RX9, TX9, 12, rfl, by decide, wt 249 (by decide +kernel) rfl, inX9⟩
theorem fX9_65 : jFl RX9 65 7 9 := ⟨RX9, TX9, 12, rfl, by decide, wt 250 (by decide +kernel) rfl, inX9⟩
theorem fX9_68 : jFl RX9 68 7 10 := ⟨RX9, TX9, 12, rfl, by decide, wt 251 (by decide +kernel) rfl, inX9⟩
theorem fX9_72 : jFl RX9 72 7 11 := ⟨RX9, TX9, 12, rfl, by decide, wt 252 (by decide +kernel) rfl, inX9⟩
theorem fX0_9 : jFl RX0 9 0 0 := ⟨RX0, TX0, 5, rfl, by decide, wt 96 (by decide +kernel) rfl, inX0⟩
theorem fX0_15 : jFl RX0 15 0 1 := ⟨RX0, TX0, 5, rfl, by decide, wt 97 (by decide +kernel) rfl, inX0⟩
theorem fX0_18 : jFl RX0 18 0 2 := ⟨RX0, TX0, 5, rfl, by decide, wt 98 (by decide +kernel) rfl, inX0⟩
theorem fX0_21 : jFl RX0 21 0 3 := ⟨RX0, TX0, 5, rfl, by decide, wt 99 (by decide +kernel) rfl, inX0⟩
theorem fX0_36 : jFl RX0 36 0 4 := ⟨RX0, TX0, 5, rfl, by decide, wt 100 (by decide +kernel) rfl, inX0⟩
theorem fX1_9 : jFl RX1 9 1 0 := ⟨RX1, TX1, 3, rfl, by decide, wt 178 (by decide +kernel) rfl, inX1⟩
theorem fX1_15 : jFl RX1 15 1 1 := ⟨RX1, TX1, 3, rfl, by decide, wt 179 (by decide +kernel) rfl, inX1⟩
theorem fX1_18 : jFl RX1 18 1 2 := ⟨RX1, TX1, 3, rfl, by decide, wt 180 (by decide +kernel) rfl, inX1⟩
theorem fX2_9 : jFl RX2 9 2 0 := ⟨RX2, TX2, 8, rfl, by decide, wt 194 (by decide +kernel) rfl, inX2⟩
theorem fX2_15 : jFl RX2 15 2 1 := ⟨RX2, TX2, 8, rfl, by decide, wt 195 (by decide +kernel) rfl, inX2⟩
theorem fX2_18 : jFl RX2 18 2 2 := ⟨RX2, TX2, 8, rfl, by decide, wt 196 (by decide +kernel) rfl, inX2⟩
theorem fX2_21 : jFl RX2 21 2 3 := ⟨RX2, TX2, 8, rfl, by decide, wt 197 (by decide +kernel) rfl, inX2⟩
theorem fX2_24 : jFl RX2 24 2 4 := ⟨RX2, TX2, 8, rfl, by decide, wt 198 (by decide +kernel) rfl, inX2⟩
theorem fX2_27 : jFl RX2 27 2 5 := ⟨RX2, TX2, 8, rfl, by decide, wt 199 (by decide +kernel) rfl, inX2⟩
theorem fX2_31 : jFl RX2 31 2 6 := ⟨RX2, TX2, 8, rfl, by decide, wt 200 (by decide +kernel) rfl, inX2⟩
theorem fX2_34 : jFl RX2 34 2 7 := ⟨RX2, TX2, 8, rfl, by decide, wt 201 (by decide +kernel) rfl, inX2⟩
theorem fX3_9 : jFl RX3 9 3 0 := ⟨RX3, TX3, 4, rfl, by decide, wt 159 (by decide +kernel) rfl, inX3⟩
theorem fX3_15 : jFl RX3 15 3 1 := ⟨RX3, TX3, 4, rfl, by decide, wt 160 (by decide +kernel) rfl, inX3⟩
theorem fX3_18 : jFl RX3 18 3 2 := ⟨RX3, TX3, 4, rfl, by decide, wt 161 (by decide +kernel) rfl, inX3⟩
theorem fX3_21 : jFl RX3 21 3 3 := ⟨RX3, TX3, 4, rfl, by decide, wt 162 (by decide +kernel) rfl, inX3⟩
theorem fX4_9 : jFl RX4 9 4 0 := ⟨RX4, TX4, 5, rfl, by decide, wt 225 (by decide +kernel) rfl, inX4⟩
theorem fX4_15 : jFl RX4 15 4 1 := ⟨RX4, TX4, 5, rfl, by decide, wt 226 (by decide +kernel) rfl, inX4⟩
theorem fX4_18 : jFl RX4 18 4 2 := ⟨RX4, TX4, 5, rfl, by decide, wt 227 (by decide +kernel) rfl, inX4⟩
theorem fX4_21 : jFl RX4 21 4 3 := ⟨RX4, TX4, 5, rfl, by decide, wt 228 (by decide +kernel) rfl, inX4⟩
theorem fX4_24 : jFl RX4 24 4 4 := ⟨RX4, TX4, 5, rfl, by decide, wt 229 (by decide +kernel) rfl, inX4⟩
theorem fX5_9 : jFl RX5 9 5 0 := ⟨RX5, TX5, 11, rfl, by decide, wt 118 (by decide +kernel) rfl, inX5⟩
theorem fX5_15 : jFl RX5 15 5 1 := ⟨RX5, TX5, 11, rfl, by decide, wt 119 (by decide +kernel) rfl, inX5⟩
theorem fX5_18 : jFl RX5 18 5 2 := ⟨RX5, TX5, 11, rfl, by decide, wt 120 (by decide +kernel) rfl, inX5⟩
theorem fX5_21 : jFl RX5 21 5 3 := ⟨RX5, TX5, 11, rfl, by decide, wt 121 (by decide +kernel) rfl, inX5⟩
theorem fX5_25 : jFl RX5 25 5 4 := ⟨RX5, TX5, 11, rfl, by decide, wt 122 (by decide +kernel) rfl, inX5⟩
theorem fX5_28 : jFl RX5 28 5 5 := ⟨RX5, TX5, 11, rfl, by decide, wt 123 (by decide +kernel) rfl, inX5⟩
theorem fX5_31 : jFl RX5 31 5 6 := ⟨RX5, TX5, 11, rfl, by decide, wt 124 (by decide +kernel) rfl, inX5⟩
theorem fX5_34 : jFl RX5 34 5 7 := ⟨RX5, TX5, 11, rfl, by decide, wt 125 (by decide +kernel) rfl, inX5⟩
theorem fX5_37 : jFl RX5 37 5 8 := ⟨RX5, TX5, 11, rfl, by decide, wt 126 (by decide +kernel) rfl, inX5⟩
theorem fX5_40 : jFl RX5 40 5 9 := ⟨RX5, TX5, 11, rfl, by decide, wt 127 (by decide +kernel) rfl, inX5⟩
theorem fX5_44 : jFl RX5 44 5 10 := ⟨RX5, TX5, 11, rfl, by decide, wt 128 (by decide +kernel) rfl, inX5⟩
theorem fX6_9 : jFl RX6 9 6 0 := ⟨RX6, TX6, 13, rfl, by decide, wt 38 (by decide +kernel) rfl, inX6⟩
theorem fX6_15 : jFl RX6 15 6 1 := ⟨RX6, TX6, 13, rfl, by decide, wt 39 (by decide +kernel) rfl, inX6⟩
theorem fX6_18 : jFl RX6 18 6 2 := ⟨RX6, TX6, 13, rfl, by decide, wt 40 (by decide +kernel) rfl, inX6⟩
theorem fX6_21 : jFl RX6 21 6 3 := ⟨RX6, TX6, 13, rfl, by decide, wt 41 (by decide +kernel) rfl, inX6⟩
theorem fX6_24 : jFl RX6 24 6 4 := ⟨RX6, TX6, 13, rfl, by decide, wt 42 (by decide +kernel) rfl, inX6⟩
theorem fX6_27 : jFl RX6 27 6 5 := ⟨RX6, TX6, 13, rfl, by decide, wt 43 (by decide +kernel) rfl, inX6⟩
theorem fX6_30 : jFl RX6 30 6 6 := ⟨RX6, TX6, 13, rfl, by decide, wt 44 (by decide +kernel) rfl, inX6⟩
theorem fX6_33 : jFl RX6 33 6 9 := ⟨RX6, TX6, 13, rfl, by decide, wt 47 (by decide +kernel) rfl, inX6⟩
theorem fX6_37 : jFl RX6 37 6 10 := ⟨RX6, TX6, 13, rfl, by decide, wt 48 (by decide +kernel) rfl, inX6⟩
theorem fX6_40 : jFl RX6 40 6 7 := ⟨RX6, TX6, 13, rfl, by decide, wt 45 (by decide +kernel) rfl, inX6⟩
theorem fX6_43 : jFl RX6 43 6 8 := ⟨RX6, TX6, 13, rfl, by decide, wt 46 (by decide +kernel) rfl, inX6⟩
theorem fX6_64 : jFl RX6 64 6 11 := ⟨RX6, TX6, 13, rfl, by decide, wt 49 (by decide +kernel) rfl, inX6⟩
theorem fX6_67 : jFl RX6 67 6 12 := ⟨RX6, TX6, 13, rfl, by decide, wt 50 (by decide +kernel) rfl, inX6⟩
theorem fX11_24 : jFl RX11 24 9 1 := ⟨RX11, TX11, 31, rfl, by decide, wt 1296 (by decide +kernel) rfl, inX11⟩
theorem fX11_28 : jFl RX11 28 9 2 := ⟨RX11, TX11, 31, rfl, by decide, wt 1297 (by decide +kernel) rfl, inX11⟩
theorem fX11_31 : jFl RX11 31 9 3 := ⟨RX11, TX11, 31, rfl, by decide, wt 1298 (by decide +kernel) rfl, inX11⟩
theorem fX11_34 : jFl RX11 34 9 4 := ⟨RX11, TX11, 31, rfl, by decide, wt 1299 (by decide +kernel) rfl, inX11⟩
theorem fX11_37 : jFl RX11 37 9 7 := ⟨RX11, TX11, 31, rfl, by decide, wt 1302 (by decide +kernel) rfl, inX11⟩
theorem fX11_40 : jFl RX11 40 9 8 := ⟨RX11, TX11, 31, rfl, by decide, wt 1303 (by decide +kernel) rfl, inX11⟩
theorem fX11_43 : jFl RX11 43 9 9 := ⟨RX11, TX11, 31, rfl, by decide, wt 1304 (by decide +kernel) rfl, inX11⟩
theorem fX11_46 : jFl RX11 46 9 10 := ⟨RX11, TX11, 31, rfl, by decide, wt 1305 (by decide +kernel) rfl, inX11⟩
theorem fX11_50 : jFl RX11 50 9 11 := ⟨RX11, TX11, 31, rfl, by decide, wt 1306 (by decide +kernel) rfl, inX11⟩
theorem fX11_53 : jFl RX11 53 9 12 := ⟨RX11, TX11, 31, rfl, by decide, wt 1307 (by decide +kernel) rfl, inX11⟩
theorem fX11_56 : jFl RX11 56 9 13 := ⟨RX11, TX11, 31, rfl, by decide, wt 1308 (by decide +kernel) rfl, inX11⟩
theorem fX11_59 : jFl RX11 59 9 14 := ⟨RX11, TX11, 31, rfl, by decide, wt 1309 (by decide +kernel) rfl, inX11⟩
theorem fX11_62 : jFl RX11 62 9 16 := ⟨RX11, TX11, 31, rfl, by decide, wt 1311 (by decide +kernel) rfl, inX11⟩
theorem fX11_65 : jFl RX11 65 9 17 := ⟨RX11, TX11, 31, rfl, by decide, wt 1312 (by decide +kernel) rfl, inX11⟩
theorem fX11_68 : jFl RX11 68 9 18 := ⟨RX11, TX11, 31, rfl, by decide, wt 1313 (by decide +kernel) rfl, inX11⟩
theorem fX11_71 : jFl RX11 71 9 27 := ⟨RX11, TX11, 31, rfl, by decide, wt 1322 (by decide +kernel) rfl, inX11⟩
theorem fX11_74 : jFl RX11 74 9 28 := ⟨RX11, TX11, 31, rfl, by decide, wt 1323 (by decide +kernel) rfl, inX11⟩
theorem fX11_77 : jFl RX11 77 9 29 := ⟨RX11, TX11, 31, rfl, by decide, wt 1324 (by decide +kernel) rfl, inX11⟩
theorem fX11_87 : jFl RX11 87 9 0 := ⟨RX11, TX11, 31, rfl, by decide, wt 1295 (by decide +kernel) rfl, inX11⟩
theorem fX11_99 : jFlN RX11 RX11 99 8 0 := ⟨RX10, TX10, 9, rfl, by decide, by decide +kernel, inX10⟩
theorem fX11_132 : jFlN RX11 RX11 132 8 2 := ⟨RX10, TX10, 9, rfl, by decide, by decide +kernel, inX10⟩
theorem fX11_143 : jFlN RX11 RX11 143 8 3 := ⟨RX10, TX10, 9, rfl, by decide, by decide +kernel, inX10⟩
theorem fX11_146 : jFlN RX11 RX11 146 8 4 := ⟨RX10, TX10, 9, rfl, by decide, by decide +kernel, inX10⟩
theorem fX11_152 : jFlN RX11 RX11 152 8 5 := ⟨RX10, TX10, 9, rfl, by decide, by decide +kernel, inX10⟩
theorem fX11_155 : jFlN RX11 RX11 155 8 6 := ⟨RX10, TX10, 9, rfl, by decide, by decide +kernel, inX10⟩
theorem fX11_161 : jFlN RX11 RX11 161 8 7 := ⟨RX10, TX10, 9, rfl, by decide, by decide +kernel, inX10⟩
theorem fX11_164 : jFlN RX11 RX11 164 8 8 := ⟨RX10, TX10, 9, rfl, by decide, by decide +kernel, inX10⟩
theorem fX11_170 : jFlN RX11 RX11 170 8 1 := ⟨RX10, TX10, 9, rfl, by decide, by decide +kernel, inX10⟩
theorem fX11_202 : jFl RX11 202 9 5 := ⟨RX11, TX11, 31, rfl, by decide, wt 1300 (by decide +kernel) rfl, inX11⟩
theorem fX11_221 : jFl RX11 221 9 6 := ⟨RX11, TX11, 31, rfl, by decide, wt 1301 (by decide +kernel) rfl, inX11⟩
theorem fX11_239 : jFl RX11 239 9 15 := ⟨RX11, TX11, 31, rfl, by decide, wt 1310 (by decide +kernel) rfl, inX11⟩
theorem fX11_261 : jFl RX11 261 9 19 := ⟨RX11, TX11, 31, rfl, by decide, wt 1314 (by decide +kernel) rfl, inX11⟩
theorem fX11_264 : jFl RX11 264 9 20 := ⟨RX11, TX11, 31, rfl, by decide, wt 1315 (by decide +kernel) rfl, inX11⟩
theorem fX11_267 : jFl RX11 267 9 21 := ⟨RX11, TX11, 31, rfl, by decide, wt 1316 (by decide +kernel) rfl, inX11⟩
theorem fX11_273 : jFl RX11 273 9 23 := ⟨RX11, TX11, 31, rfl, by decide, wt 1318 (by decide +kernel) rfl, inX11⟩
theorem fX11_276 : jFl RX11 276 9 22 := ⟨RX11, TX11, 31, rfl, by decide, wt 1317 (by decide +kernel) rfl, inX11⟩
theorem fX11_279 : jFl RX11 279 9 24 := ⟨RX11, TX11, 31, rfl, by decide, wt 1319 (by decide +kernel) rfl, inX11⟩
theorem fX11_282 : jFl RX11 282 9 25 := ⟨RX11, TX11, 31, rfl, by decide, wt 1320 (by decide +kernel) rfl, inX11⟩
theorem fX11_285 : jFl RX11 285 9 26 := ⟨RX11, TX11, 31, rfl, by decide, wt 1321 (by decide +kernel) rfl, inX11⟩
theorem fX11_322 : jFl RX11 322 9 30 := ⟨RX11, TX11, 31, rfl, by decide, wt 1325 (by decide +kernel) rfl, inX11⟩
theorem fX10_9 : jFl RX10 9 8 1 := ⟨RX10, TX10, 9, rfl, by decide, wt 1259 (by decide +kernel) rfl, inX10⟩
theorem fX10_15 : jFl RX10 15 8 2 := ⟨RX10, TX10, 9, rfl, by decide, wt 1261 (by decide +kernel) rfl, inX10⟩
theorem fX10_18 : jFl RX10 18 8 3 := ⟨RX10, TX10, 9, rfl, by decide, wt 1263 (by decide +kernel) rfl, inX10⟩
theorem fX10_21 : jFl RX10 21 8 4 := ⟨RX10, TX10, 9, rfl, by decide, wt 1265 (by decide +kernel) rfl, inX10⟩
theorem fX10_24 : jFl RX10 24 8 5 := ⟨RX10, TX10, 9, rfl, by decide, wt 1267 (by decide +kernel) rfl, inX10⟩
theorem fX10_28 : jFl RX10 28 8 6 := ⟨RX10, TX10, 9, rfl, by decide, wt 1269 (by decide +kernel) rfl, inX10⟩
theorem fX10_31 : jFl RX10 31 8 0 := ⟨RX10, TX10, 9, rfl, by decide, wt 1257 (by decide +kernel) rfl, inX10⟩
theorem fX10_55 : jFl RX10 55 8 7 := ⟨RX10, TX10, 9, rfl, by decide, wt 1271 (by decide +kernel) rfl, inX10⟩
theorem fX10_58 : jFl RX10 58 8 8 := ⟨RX10, TX10, 9, rfl, by decide, wt 1273 (by decide +kernel) rfl, inX10⟩
theorem fX1_54 : Cond.fieldLink RX1 54 RX1 "SECOND_TONES" "[I" ∈ WT := wt 738 (by decide +kernel) rfl
theorem fX1_58 : Cond.fieldLink RX1 58 RX1 "THIRD_TONES" "[I" ∈ WT := wt 740 (by decide +kernel) rfl
theorem fX7_15 : Cond.fieldLink RX7 15 RX7 "HEIGHTS" "[I" ∈ WT := wt 885 (by decide +kernel) rfl
theorem fX7_24 : Cond.fieldLink RX7 24 RX7 "TURNS_AS_SHARP" "[I" ∈ WT := wt 646 (by decide +kernel) rfl
theorem fX8_7 : Cond.fieldLink RX8 7 RX8 "FALLING" "[I" ∈ WT := wt 594 (by decide +kernel) rfl
theorem fX11_7 : Cond.fieldLink RX11 7 RX11 "STEPS" "[I" ∈ WT := wt 1482 (by decide +kernel) rfl
theorem fX11_102 : Cond.fieldLink RX11 102 RX11 "VALUES" "[I" ∈ WT := wt 1413 (by decide +kernel) rfl
theorem fX11_193 : Cond.fieldLink RX11 193 RX11 "SHARPS" "[I" ∈ WT := wt 1573 (by decide +kernel) rfl
theorem nX9_9 : jNe RX9 9 6 13 [.null, .null, .null, .null, .null, .null, .null, .int 0, .int 0, .int 0, .int 0, .int 0, .int 0] := ⟨RX6, TX6, tyX6, rfl, inX6, tyX6_ok, wt 31 (by decide +kernel) rfl, wt 33 (by decide +kernel) rfl, wt 2 (by decide +kernel) rfl, by decide +kernel⟩
theorem nX9_16 : jNe RX9 16 0 5 [.null, .null, .null, .null, .int 0] := ⟨RX0, TX0, tyX0, rfl, inX0, tyX0_ok, wt 79 (by decide +kernel) rfl, wt 80 (by decide +kernel) rfl, wt 3 (by decide +kernel) rfl, by decide +kernel⟩
theorem nX9_23 : jNe RX9 23 5 11 [.null, .null, .null, .null, .null, .null, .null, .null, .null, .int 0, .int 0] := ⟨RX5, TX5, tyX5, rfl, inX5, tyX5_ok, wt 112 (by decide +kernel) rfl, wt 113 (by decide +kernel) rfl, wt 4 (by decide +kernel) rfl, by decide +kernel⟩
theorem nX9_30 : jNe RX9 30 3 4 [.null, .null, .null, .int 0] := ⟨RX3, TX3, tyX3, rfl, inX3, tyX3_ok, wt 153 (by decide +kernel) rfl, wt 154 (by decide +kernel) rfl, wt 5 (by decide +kernel) rfl, by decide +kernel⟩
theorem nX9_37 : jNe RX9 37 1 3 [.int 0, .int 0, .int 0] := ⟨RX1, TX1, tyX1, rfl, inX1, tyX1_ok, wt 172 (by decide +kernel) rfl, wt 173 (by decide +kernel) rfl, wt 6 (by decide +kernel) rfl, by decide +kernel⟩
theorem nX9_44 : jNe RX9 44 2 8 [.null, .null, .null, .null, .null, .null, .null, .int 0] := ⟨RX2, TX2, tyX2, rfl, inX2, tyX2_ok, wt 188 (by decide +kernel) rfl, wt 189 (by decide +kernel) rfl, wt 7 (by decide +kernel) rfl, by decide +kernel⟩
theorem nX9_51 : jNe RX9 51 4 5 [.null, .null, .null, .null, .int 0] := ⟨RX4, TX4, tyX4, rfl, inX4, tyX4_ok, wt 219 (by decide +kernel) rfl, wt 220 (by decide +kernel) rfl, wt 8 (by decide +kernel) rfl, by decide +kernel⟩
theorem nX9_102 : jThr "java/lang/IllegalStateException" 106 102 := ⟨wt 853 (by decide +kernel) rfl, wt 19 (by decide +kernel) rfl, by decide +kernel, by decide +kernel, by decide +kernel⟩
theorem nX9_130 : jThr "java/lang/IllegalArgumentException" 134 130 := ⟨wt 821 (by decide +kernel) rfl, wt 17 (by decide +kernel) rfl, by decide +kernel, by decide +kernel, by decide +kernel⟩
theorem nX9_353 : jThr "java/lang/IndexOutOfBoundsException" 357 353 := ⟨wt 499 (by decide +kernel) rfl, wt 15 (by decide +kernel) rfl, by decide +kernel, by decide +kernel, by decide +kernel⟩
theorem nL_8 : jNe RL 8 7 12 [.null, .null, .null, .null, .null, .null, .null, .int 0, .int 0, .int 0, .int 0, .int 0] := ⟨RX9, TX9, tyX9, rfl, inX9, tyX9_ok, wt 23 (by decide +kernel) rfl, wt 24 (by decide +kernel) rfl, wt 1 (by decide +kernel) rfl, by decide +kernel⟩
theorem nL_141 : jNe RL 141 9 31 [.int 0, .null, .null, .null, .null, .int 0, .int 0, .null, .null, .null, .null, .null, .null, .null, .null, .int 0, .null, .null, .null, .int 0, .int 0, .int 0, .int 0, .int 0, .int 0, .int 0, .int 0, .null, .null, .null, .long 0] := ⟨RX11, TX11, tyX11, rfl, inX11, tyX11_ok, wt 1244 (by decide +kernel) rfl, wt 1245 (by decide +kernel) rfl, wt 9 (by decide +kernel) rfl, by decide +kernel⟩
theorem nX11_22 : jNe RX11 22 8 9 [.int 0, .null, .null, .null, .null, .int 0, .int 0, .int 0, .int 0] := ⟨RX10, TX10, tyX10, rfl, inX10, tyX10_ok, wt 1250 (by decide +kernel) rfl, wt 1252 (by decide +kernel) rfl, wt 10 (by decide +kernel) rfl, by decide +kernel⟩
theorem acI : Cond.arrayClass .int ∈ WT := wt 78 (by decide +kernel) rfl
theorem acZ : Cond.arrayClass .boolean ∈ WT := wt 152 (by decide +kernel) rfl
theorem acL : Cond.arrayClass .long ∈ WT := wt 1809 (by decide +kernel) rfl
theorem vX9_305 : Cond.constantLong RX9 305 (2467) ∈ WT := wt 457 (by decide +kernel) rfl
theorem vX9_332 : Cond.constantLong RX9 332 (31) ∈ WT := wt 469 (by decide +kernel) rfl
theorem vX11_244 : Cond.constant RX11 244 (2147483647) ∈ WT := wt 1674 (by decide +kernel) rfl
theorem vX11_326 : Cond.constantLong RX11 326 (31) ∈ WT := wt 1804 (by decide +kernel) rfl
theorem vX11_330 : Cond.constantLong RX11 330 (2467) ∈ WT := wt 1799 (by decide +kernel) rfl
theorem vJ6_265 : Cond.constant RJ6 265 (1431655765) ∈ WT := wt 727 (by decide +kernel) rfl
theorem vJ6_266 : Cond.constant RJ6 266 (858993459) ∈ WT := wt 728 (by decide +kernel) rfl
theorem vJ6_267 : Cond.constant RJ6 267 (252645135) ∈ WT := wt 729 (by decide +kernel) rfl
end
section
/-! rows over whole numbers: every int of the frame is 'Int32.ofInt z' -/
abbrev I32 (z : Int) : Int32 := Int32.ofInt z
abbrev vI (z : Int) : Value := .int (Int32.ofInt z)
abbrev vL (z : Int) : Value := .long (Int64.ofInt z)
abbrev rg (z : Int) : Prop := -2147483648 ≤ z ∧ z < 2147483648
theorem I_toInt {z : Int} (h : rg z) : (Int32.ofInt z).toInt = z := Int32.toInt_ofInt_of_le h.1 h.2
theorem I_lt {a b : Int} (ha : rg a) (hb : rg b) : Int32.ofInt a < Int32.ofInt b ↔ a < b := by rw [Int32.lt_iff_toInt_lt, I_toInt ha, I_toInt hb]
theorem I_le {a b : Int} (ha : rg a) (hb : rg b) : Int32.ofInt a ≤ Int32.ofInt b ↔ a ≤ b := by rw [Int32.le_iff_toInt_le, I_toInt ha, I_toInt hb]
theorem I_eq {a b : Int} (ha : rg a) (hb : rg b) : Int32.ofInt a = Int32.ofInt b ↔ a = b := by rw [← Int32.toInt_inj, I_toInt ha, I_toInt hb]
theorem I_clamp {z : Int} (h : rg z) : (Int32.ofInt z).toNatClampNeg = z.toNat := Int32.toNatClampNeg_ofInt_of_le h.1 h.2
theorem I_of (x : Int32) : ∃ z : Int, rg z ∧ x = Int32.ofInt z := ⟨x.toInt, ⟨by have := x.le_toInt; omega, by have := x.toInt_lt; omega⟩, (Int32.ofInt_toInt x).symm⟩
theorem I_0 : (0 : Int32) = Int32.ofInt 0 := rfl
theorem I_div {a b : Int} (ha : rg a) (hb : rg b) (h0 : b ≠ -1) : Int32.ofInt a / Int32.ofInt b = Int32.ofInt (a.tdiv b) := by
  apply Int32.toInt_inj.mp
  have hb1 : Int32.ofInt b ≠ -1 := by
    intro e
    have : (Int32.ofInt b).toInt = (-1 : Int32).toInt := by rw [e]
    rw [I_toInt hb] at this
    exact h0 this
  rw [Int32.toInt_div_of_ne_right _ _ hb1, I_toInt ha, I_toInt hb]
  symm
  apply I_toInt
  have hn : (a.tdiv b).natAbs ≤ a.natAbs := by rw [Int.natAbs_tdiv]; exact Nat.div_le_self _ _
  by_cases hm : a = -2147483648
  · by_cases hb2 : b = 0
    · subst hb2; simp [rg]
    · by_cases hb3 : b = 1
      · subst hb3; rw [Int.tdiv_one]; exact ha
      · have h2 : 2 ≤ b.natAbs := by omega
        have hn2 : (a.tdiv b).natAbs ≤ a.natAbs / 2 := by rw [Int.natAbs_tdiv]; exact Nat.div_le_div_left h2 (by decide)
        have h3 : a.natAbs / 2 ≤ 1073741824 := by rw [hm]; decide
        constructor <;> omega
  · have h1 := ha.1
    have h2 := ha.2
    constructor <;> omega
theorem I_vpin {z : Int} {n : Nat} (h : 0 ≤ z ∧ z < n) (hn : n < 2147483648) : vp_in (Int32.ofInt z) n := by
  have hr : rg z := ⟨by omega, by omega⟩
  rw [vp_in_iff, I_toInt hr]
  exact h
theorem I_long {z : Int} (h : rg z) : (Int32.ofInt z).toInt64 = Int64.ofInt z := by
  have e : Int32.minValue.toInt = -2147483648 := by decide
  have e2 : Int32.maxValue.toInt = 2147483647 := by decide
  exact Int32.toInt64_ofInt (by rw [e]; exact h.1) (by rw [e2]; have := h.2; omega)
def upI (F : Int → Int) (k x : Int) : Int → Int := fun j => if j = k then x else F j
theorem upI_s (F : Int → Int) (k x : Int) : upI F k x k = x := by simp [upI]
theorem upI_n {F : Int → Int} {k x j : Int} (h : j ≠ k) : upI F k x j = F j := by simp [upI, h]
/-- arrays by whole numbers -/
abbrev ai (G : jG) (n : Nat) (F : Int → Int) : va_E := aI G n (fun j => Int32.ofInt (F (j : Int)))
abbrev az (G : jG) (n : Nat) (F : Int → Int) : va_E := aZ G n (fun j => Int32.ofInt (F (j : Int)))
def lk (l : List Int) (z : Int) : Int := l.getD z.toNat 0
section JI
variable {l : Launch} {G : jG} {M : jM} {QF : jF} {ck sk pc : Nat} {L L' : List (Nat × Value)} {st : List Value} {h : jH}
theorem J_iadd {x y : Int} (hd : decode M.cc pc = .ok (.iadd, 1)) (k : J l G M QF ck sk (pc + 1) L (vI (x + y) :: st) h) : J l G M QF ck sk pc L (vI y :: vI x :: st) h := j_iadd hd (by rw [← Int32.ofInt_add]; exact k)
theorem J_isub {x y : Int} (hd : decode M.cc pc = .ok (.isub, 1)) (k : J l G M QF ck sk (pc + 1) L (vI (x - y) :: st) h) : J l G M QF ck sk pc L (vI y :: vI x :: st) h := j_isub hd (by rw [← Int32.ofInt_sub]; exact k)
theorem J_imul {x y : Int} (hd : decode M.cc pc = .ok (.imul, 1)) (k : J l G M QF ck sk (pc + 1) L (vI (x * y) :: st) h) : J l G M QF ck sk pc L (vI y :: vI x :: st) h := j_imul hd (by rw [← Int32.ofInt_mul]; exact k)
theorem J_ineg {x : Int} (hd : decode M.cc pc = .ok (.ineg, 1)) (k : J l G M QF ck sk (pc + 1) L (vI (-x) :: st) h) : J l G M QF ck sk pc L (vI x :: st) h := j_ineg hd (by rw [← Int32.ofInt_neg]; exact k)
theorem J_idiv {x y : Int} (hd : decode M.cc pc = .ok (.idiv, 1)) (k : J l G M QF ck sk (pc + 1) L (vI (x.tdiv y) :: st) h) (hx : rg x ∧ rg y ∧ y ≠ 0 ∧ y ≠ -1 := by omega) : J l G M QF ck sk pc L (vI y :: vI x :: st) h :=
  j_idiv hd (by rw [I_0, I_eq hx.2.1 (by decide)]; exact hx.2.2.1) (by rw [I_div hx.1 hx.2.1 hx.2.2.2]; exact k)
theorem J_irem {x y : Int} (hd : decode M.cc pc = .ok (.irem, 1)) (k : J l G M QF ck sk (pc + 1) L (vI (x.tmod y) :: st) h) (hx : rg x ∧ rg y ∧ y ≠ 0 ∧ y ≠ -1 := by omega) : J l G M QF ck sk pc L (vI y :: vI x :: st) h :=
  j_irem hd (by rw [I_0, I_eq hx.2.1 (by decide)]; exact hx.2.2.1) (by
    rw [I_div hx.1 hx.2.1 hx.2.2.2, ← Int32.ofInt_mul, ← Int32.ofInt_sub]
    have e : x - x.tdiv y * y = x.tmod y := by
      have := Int.tmod_def x y
      rw [this, Int.mul_comm]
    rw [e]; exact k)
theorem J_i2l {x : Int} (hd : decode M.cc pc = .ok (.i2l, 1)) (k : J l G M QF ck sk (pc + 1) L (vL x :: st) h) (hx : rg x := by omega) : J l G M QF ck sk pc L (vI x :: st) h := j_i2l hd (by rw [I_long hx]; exact k)
theorem J_ladd {x y : Int} (hd : decode M.cc pc = .ok (.ladd, 1)) (k : J l G M QF ck sk (pc + 1) L (vL (x + y) :: st) h) : J l G M QF ck sk pc L (vL y :: vL x :: st) h := j_ladd hd (by rw [← Int64.ofInt_add]; exact k)
theorem J_lmul {x y : Int} (hd : decode M.cc pc = .ok (.lmul, 1)) (k : J l G M QF ck sk (pc + 1) L (vL (x * y) :: st) h) : J l G M QF ck sk pc L (vL y :: vL x :: st) h := j_lmul hd (by rw [← Int64.ofInt_mul]; exact k)
theorem J_iconst {n : Int} (hd : decode M.cc pc = .ok (.iconst n, 1)) (k : J l G M QF ck sk (pc + 1) L (vI n :: st) h) : J l G M QF ck sk pc L st h := j_iconst _ hd rfl k
theorem J_bipush {n : Int} (hd : decode M.cc pc = .ok (.bipush n, 2)) (hv : (Int8.ofInt n).toInt32 = Int32.ofInt n) (k : J l G M QF ck sk (pc + 2) L (vI n :: st) h) : J l G M QF ck sk pc L st h := j_bipush _ hd hv k
theorem J_sipush {n : Int} (hd : decode M.cc pc = .ok (.sipush n, 3)) (hv : (Int16.ofInt n).toInt32 = Int32.ofInt n) (k : J l G M QF ck sk (pc + 3) L (vI n :: st) h) : J l G M QF ck sk pc L st h := j_sipush _ hd hv k
theorem J_iinc {i : Nat} {n x : Int} (hd : decode M.cc pc = .ok (.iinc i n, 3)) (hg : jget L i = some (vI x)) (hn : Nat.blt i M.nL = true) (hp : jput L i (vI (x + n)) = L') (k : J l G M QF ck sk (pc + 3) L' st h) : J l G M QF ck sk pc L st h := j_iinc _ hd hg (by rw [← Int32.ofInt_add]) hn hp k
/-- the number on the top, said otherwise -/
theorem J_top {x : Int} (y : Int) (k : J l G M QF ck sk pc L (vI y :: st) h) (e : x = y := by omega) : J l G M QF ck sk pc L (vI x :: st) h := by rw [e]; exact k
theorem J_if_eq {x : Int} {off : Int} (tgt : Nat) (hd : decode M.cc pc = .ok (.ifCond .eq off, 3)) (ht : (pc : Int) + off = (tgt : Int)) (kt : x = 0 → J l G M QF ck sk tgt L st h) (kf : ¬ x = 0 → J l G M QF ck sk (pc + 3) L st h) (hx : rg x := by omega) : J l G M QF ck sk pc L (vI x :: st) h := j_if_eq tgt hd ht (fun q => kt ((I_eq hx (by decide : rg 0)).mp q)) (fun q => kf (fun z => q ((I_eq hx (by decide : rg 0)).mpr z)))
theorem J_icmp_eq {x y : Int} {off : Int} (tgt : Nat) (hd : decode M.cc pc = .ok (.if_icmp .eq off, 3)) (ht : (pc : Int) + off = (tgt : Int)) (kt : x = y → J l G M QF ck sk tgt L st h) (kf : ¬ x = y → J l G M QF ck sk (pc + 3) L st h) (hx : rg x ∧ rg y := by omega) : J l G M QF ck sk pc L (vI y :: vI x :: st) h := j_icmp_eq tgt hd ht (fun q => kt ((I_eq hx.1 hx.2).mp q)) (fun q => kf (fun z => q ((I_eq hx.1 hx.2).mpr z)))
theorem J_if_ne {x : Int} {off : Int} (tgt : Nat) (hd : decode M.cc pc = .ok (.ifCond .ne off, 3)) (ht : (pc : Int) + off = (tgt : Int)) (kt : ¬ x = 0 → J l G M QF ck sk tgt L st h) (kf : x = 0 → J l G M QF ck sk (pc + 3) L st h) (hx : rg x := by omega) : J l G M QF ck sk pc L (vI x :: st) h := j_if_ne tgt hd ht (fun q => kt (fun z => q ((I_eq hx (by decide : rg 0)).mpr z))) (fun q => kf ((I_eq hx (by decide : rg 0)).mp q))
theorem J_icmp_ne {x y : Int} {off : Int} (tgt : Nat) (hd : decode M.cc pc = .ok (.if_icmp .ne off, 3)) (ht : (pc : Int) + off = (tgt : Int)) (kt : ¬ x = y → J l G M QF ck sk tgt L st h) (kf : x = y → J l G M QF ck sk (pc + 3) L st h) (hx : rg x ∧ rg y := by omega) : J l G M QF ck sk pc L (vI y :: vI x :: st) h := j_icmp_ne tgt hd ht (fun q => kt (fun z => q ((I_eq hx.1 hx.2).mpr z))) (fun q => kf ((I_eq hx.1 hx.2).mp q))
theorem J_if_lt {x : Int} {off : Int} (tgt : Nat) (hd : decode M.cc pc = .ok (.ifCond .lt off, 3)) (ht : (pc : Int) + off = (tgt : Int)) (kt : x < 0 → J l G M QF ck sk tgt L st h) (kf : 0 ≤ x → J l G M QF ck sk (pc + 3) L st h) (hx : rg x := by omega) : J l G M QF ck sk pc L (vI x :: st) h := j_if_lt tgt hd ht (fun q => kt ((I_lt hx (by decide : rg 0)).mp q)) (fun q => kf (Int.not_lt.mp (fun z => q ((I_lt hx (by decide : rg 0)).mpr z))))
theorem J_icmp_lt {x y : Int} {off : Int} (tgt : Nat) (hd : decode M.cc pc = .ok (.if_icmp .lt off, 3)) (ht : (pc : Int) + off = (tgt : Int)) (kt : x < y → J l G M QF ck sk tgt L st h) (kf : y ≤ x → J l G M QF ck sk (pc + 3) L st h) (hx : rg x ∧ rg y := by omega) : J l G M QF ck sk pc L (vI y :: vI x :: st) h := j_icmp_lt tgt hd ht (fun q => kt ((I_lt hx.1 hx.2).mp q)) (fun q => kf (Int.not_lt.mp (fun z => q ((I_lt hx.1 hx.2).mpr z))))
theorem J_if_ge {x : Int} {off : Int} (tgt : Nat) (hd : decode M.cc pc = .ok (.ifCond .ge off, 3)) (ht : (pc : Int) + off = (tgt : Int)) (kt : 0 ≤ x → J l G M QF ck sk tgt L st h) (kf : x < 0 → J l G M QF ck sk (pc + 3) L st h) (hx : rg x := by omega) : J l G M QF ck sk pc L (vI x :: st) h := j_if_ge tgt hd ht (fun q => kt ((I_le (by decide : rg 0) hx).mp q)) (fun q => kf (Int.not_le.mp (fun z => q ((I_le (by decide : rg 0) hx).mpr z))))
theorem J_icmp_ge {x y : Int} {off : Int} (tgt : Nat) (hd : decode M.cc pc = .ok (.if_icmp .ge off, 3)) (ht : (pc : Int) + off = (tgt : Int)) (kt : y ≤ x → J l G M QF ck sk tgt L st h) (kf : x < y → J l G M QF ck sk (pc + 3) L st h) (hx : rg x ∧ rg y := by omega) : J l G M QF ck sk pc L (vI y :: vI x :: st) h := j_icmp_ge tgt hd ht (fun q => kt ((I_le hx.2 hx.1).mp q)) (fun q => kf (Int.not_le.mp (fun z => q ((I_le hx.2 hx.1).mpr z))))
theorem J_if_gt {x : Int} {off : Int} (tgt : Nat) (hd : decode M.cc pc = .ok (.ifCond .gt off, 3)) (ht : (pc : Int) + off = (tgt : Int)) (kt : 0 < x → J l G M QF ck sk tgt L st h) (kf : x ≤ 0 → J l G M QF ck sk (pc + 3) L st h) (hx : rg x := by omega) : J l G M QF ck sk pc L (vI x :: st) h := j_if_gt tgt hd ht (fun q => kt ((I_lt (by decide : rg 0) hx).mp q)) (fun q => kf (Int.not_lt.mp (fun z => q ((I_lt (by decide : rg 0) hx).mpr z))))
theorem J_icmp_gt {x y : Int} {off : Int} (tgt : Nat) (hd : decode M.cc pc = .ok (.if_icmp .gt off, 3)) (ht : (pc : Int) + off = (tgt : Int)) (kt : y < x → J l G M QF ck sk tgt L st h) (kf : x ≤ y → J l G M QF ck sk (pc + 3) L st h) (hx : rg x ∧ rg y := by omega) : J l G M QF ck sk pc L (vI y :: vI x :: st) h := j_icmp_gt tgt hd ht (fun q => kt ((I_lt hx.2 hx.1).mp q)) (fun q => kf (Int.not_lt.mp (fun z => q ((I_lt hx.2 hx.1).mpr z))))
theorem J_if_le {x : Int} {off : Int} (tgt : Nat) (hd : decode M.cc pc = .ok (.ifCond .le off, 3)) (ht : (pc : Int) + off = (tgt : Int)) (kt : x ≤ 0 → J l G M QF ck sk tgt L st h) (kf : 0 < x → J l G M QF ck sk (pc + 3) L st h) (hx : rg x := by omega) : J l G M QF ck sk pc L (vI x :: st) h := j_if_le tgt hd ht (fun q => kt ((I_le hx (by decide : rg 0)).mp q)) (fun q => kf (Int.not_le.mp (fun z => q ((I_le hx (by decide : rg 0)).mpr z))))
theorem J_icmp_le {x y : Int} {off : Int} (tgt : Nat) (hd : decode M.cc pc = .ok (.if_icmp .le off, 3)) (ht : (pc : Int) + off = (tgt : Int)) (kt : x ≤ y → J l G M QF ck sk tgt L st h) (kf : y < x → J l G M QF ck sk (pc + 3) L st h) (hx : rg x ∧ rg y := by omega) : J l G M QF ck sk pc L (vI y :: vI x :: st) h := j_icmp_le tgt hd ht (fun q => kt ((I_le hx.1 hx.2).mp q)) (fun q => kf (Int.not_le.mp (fun z => q ((I_le hx.1 hx.2).mpr z))))
theorem J_iald {a n : Nat} {F : Int → Int} {z : Int} (hd : decode M.cc pc = .ok (.iaload, 1)) (ha : h a = some (ai G n F)) (kk : J l G M QF ck sk (pc + 1) L (vI (F z) :: st) h) (hz : 0 ≤ z ∧ z < (n : Int) ∧ n < 2147483648 := by omega) : J l G M QF ck sk pc L (vI z :: .ref a :: st) h := by
  refine j_iald hd ha (I_vpin ⟨hz.1, hz.2.1⟩ hz.2.2) ?_
  rw [I_clamp ⟨by omega, by omega⟩, Int.toNat_of_nonneg hz.1]
  exact kk
theorem J_zald {a n : Nat} {F : Int → Int} {z : Int} (hd : decode M.cc pc = .ok (.baload, 1)) (ha : h a = some (az G n F)) (kk : J l G M QF ck sk (pc + 1) L (vI (F z) :: st) h) (hz : 0 ≤ z ∧ z < (n : Int) ∧ n < 2147483648 := by omega) : J l G M QF ck sk pc L (vI z :: .ref a :: st) h := by
  refine j_zald hd ha (I_vpin ⟨hz.1, hz.2.1⟩ hz.2.2) ?_
  rw [I_clamp ⟨by omega, by omega⟩, Int.toNat_of_nonneg hz.1]
  exact kk
theorem upd_I (F : Int → Int) {z x : Int} (hz : 0 ≤ z) : upd (fun j : Nat => Int32.ofInt (F (j : Int))) z.toNat (Int32.ofInt x) = fun j : Nat => Int32.ofInt (upI F z x (j : Int)) := by
  funext j
  by_cases e : j = z.toNat
  · subst e
    have e1 : ((z.toNat : Nat) : Int) = z := Int.toNat_of_nonneg hz
    simp [upd, upI, e1]
  · have e1 : ¬ ((j : Int) = z) := by omega
    simp [upd, upI, e, e1]
theorem J_iast {a n : Nat} {F : Int → Int} {z x : Int} (hd : decode M.cc pc = .ok (.iastore, 1)) (ha : h a = some (ai G n F)) (kk : J l G M QF ck sk (pc + 1) L st (hset h a (ai G n (upI F z x)))) (hz : 0 ≤ z ∧ z < (n : Int) ∧ n < 2147483648 := by omega) : J l G M QF ck sk pc L (vI x :: vI z :: .ref a :: st) h := by
  refine j_iast hd ha (I_vpin ⟨hz.1, hz.2.1⟩ hz.2.2) ?_
  rw [I_clamp ⟨by omega, by omega⟩, upd_I F hz.1]
  exact kk
theorem J_zast {a n : Nat} {F : Int → Int} {z x : Int} (hd : decode M.cc pc = .ok (.bastore, 1)) (ha : h a = some (az G n F)) (kk : J l G M QF ck sk (pc + 1) L st (hset h a (az G n (upI F z x)))) (hx : x = 0 ∨ x = 1 := by omega) (hz : 0 ≤ z ∧ z < (n : Int) ∧ n < 2147483648 := by omega) : J l G M QF ck sk pc L (vI x :: vI z :: .ref a :: st) h := by
  refine j_zast hd ha (I_vpin ⟨hz.1, hz.2.1⟩ hz.2.2) ?_
  have e : vp_nar .boolean (Int32.ofInt x) = Int32.ofInt x := by rcases hx with e | e <;> subst e <;> rfl
  rw [I_clamp ⟨by omega, by omega⟩, e, upd_I F hz.1]
  exact kk
theorem jIs_I (l : List Int) (z : Int) : jIs (l.map Int32.ofInt) z.toNat = Int32.ofInt (lk l z) := by
  unfold jIs lk
  by_cases h : z.toNat < l.length
  · simp [List.getD, h]
  · simp [List.getD, Nat.le_of_not_lt h]
theorem J_siald (k : Nat) {C n : String} {N : Nat} {f : List Int32} {z : Int} (l0 : List Int) (hst : jSt[k]? = some (C, n, N, f)) (hf : f = l0.map Int32.ofInt) (hd : decode M.cc pc = .ok (.iaload, 1)) (kk : J l G M QF ck sk (pc + 1) L (vI (lk l0 z) :: st) h) (hz : 0 ≤ z ∧ z < (N : Int) ∧ N < 2147483648 := by omega) : J l G M QF ck sk pc L (vI z :: .ref (jSa G k) :: st) h := by
  refine j_siald k hst (I_vpin ⟨hz.1, hz.2.1⟩ hz.2.2) hd ?_
  rw [I_clamp ⟨by omega, by omega⟩, hf, jIs_I]
  exact kk
theorem J_alen {a n : Nat} {F : Int → Int} (hd : decode M.cc pc = .ok (.arraylength, 1)) (ha : h a = some (ai G n F)) (kk : J l G M QF ck sk (pc + 1) L (vI n :: st) h) : J l G M QF ck sk pc L (.ref a :: st) h := j_alen 0 _ hd ha rfl (Int32.ofInt_eq_ofNat).symm kk
theorem J_alenq {a n : Nat} {F : Nat → Option Nat} (t : Nat) {ty : FieldType} (hd : decode M.cc pc = .ok (.arraylength, 1)) (ha : h a = some (aR G t n F)) (ht : (jT G)[t]? = some (G.2.1 t, ty)) (kk : J l G M QF ck sk (pc + 1) L (vI n :: st) h) : J l G M QF ck sk pc L (.ref a :: st) h := j_alen t _ hd ha ht (Int32.ofInt_eq_ofNat).symm kk
theorem J_qald {a n v : Nat} {F : Nat → Option Nat} {z : Int} (hd : decode M.cc pc = .ok (.aaload, 1)) (ha : h a = some (aR G 3 n F)) (hv : F z.toNat = some v) (kk : J l G M QF ck sk (pc + 1) L (.ref v :: st) h) (hz : 0 ≤ z ∧ z < (n : Int) ∧ n < 2147483648 := by omega) : J l G M QF ck sk pc L (vI z :: .ref a :: st) h := by
  refine j_qaldP hd ha (I_vpin ⟨hz.1, hz.2.1⟩ hz.2.2) ?_
  rw [I_clamp ⟨by omega, by omega⟩, hv]
  exact kk
theorem J_qaldM {a n v : Nat} {F : Nat → Option Nat} {z : Int} (hd : decode M.cc pc = .ok (.aaload, 1)) (ha : h a = some (aR G 4 n F)) (hv : F z.toNat = some v) (kk : J l G M QF ck sk (pc + 1) L (.ref v :: st) h) (hz : 0 ≤ z ∧ z < (n : Int) ∧ n < 2147483648 := by omega) : J l G M QF ck sk pc L (vI z :: .ref a :: st) h := by
  refine j_qaldM hd ha (I_vpin ⟨hz.1, hz.2.1⟩ hz.2.2) ?_
  rw [I_clamp ⟨by omega, by omega⟩, hv]
  exact kk
theorem J_mmax {idx : Nat} {x y : Int} (hw : Cond.methodLink M.own idx Lib.Math.max.name ∈ WT ∧ Cond.static Lib.Math.max.name ∈ WT ∧ Cond.initialized "java/lang/Math" ∈ WT ∧ Cond.code Lib.Math.max.name Lib.Math.max.code 2 (some .int) ∈ WT) (hfr : Nat.ble 1 M.room.frames = true) (hlo : Nat.ble ((st.map fun v => v.category).sum + 13) M.room.locals = true)
    (hd : decode M.cc pc = .ok (.invokestatic idx, 3)) (kk : J l G M QF ck sk (pc + 3) L (vI (max x y) :: st) h) (hx : rg x ∧ rg y := by omega) : J l G M QF ck sk pc L (vI y :: vI x :: st) h := by
  refine j_mmax hw hfr hlo hd ?_
  have e : (if Int32.ofInt x < Int32.ofInt y then Int32.ofInt y else Int32.ofInt x) = Int32.ofInt (max x y) := by
    by_cases c : x < y
    · rw [if_pos ((I_lt hx.1 hx.2).mpr c), Int.max_eq_right (by omega)]
    · rw [if_neg (fun z => c ((I_lt hx.1 hx.2).mp z)), Int.max_eq_left (by omega)]
  rw [e]; exact kk
theorem J_mmin {idx : Nat} {x y : Int} (hw : Cond.methodLink M.own idx Lib.Math.min.name ∈ WT ∧ Cond.static Lib.Math.min.name ∈ WT ∧ Cond.initialized "java/lang/Math" ∈ WT ∧ Cond.code Lib.Math.min.name Lib.Math.min.code 2 (some .int) ∈ WT) (hfr : Nat.ble 1 M.room.frames = true) (hlo : Nat.ble ((st.map fun v => v.category).sum + 13) M.room.locals = true)
    (hd : decode M.cc pc = .ok (.invokestatic idx, 3)) (kk : J l G M QF ck sk (pc + 3) L (vI (min x y) :: st) h) (hx : rg x ∧ rg y := by omega) : J l G M QF ck sk pc L (vI y :: vI x :: st) h := by
  refine j_mmin hw hfr hlo hd ?_
  have e : (if Int32.ofInt y < Int32.ofInt x then Int32.ofInt y else Int32.ofInt x) = Int32.ofInt (min x y) := by
    by_cases c : y < x
    · rw [if_pos ((I_lt hx.2 hx.1).mpr c), Int.min_eq_right (by omega)]
    · rw [if_neg (fun z => c ((I_lt hx.2 hx.1).mp z)), Int.min_eq_left (by omega)]
  rw [e]; exact kk
theorem J_mabs {idx : Nat} {x : Int} (hw : Cond.methodLink M.own idx Lib.Math.abs.name ∈ WT ∧ Cond.static Lib.Math.abs.name ∈ WT ∧ Cond.initialized "java/lang/Math" ∈ WT ∧ Cond.code Lib.Math.abs.name Lib.Math.abs.code 1 (some .int) ∈ WT) (hfr : Nat.ble 1 M.room.frames = true) (hlo : Nat.ble ((st.map fun v => v.category).sum + 13) M.room.locals = true)
    (hd : decode M.cc pc = .ok (.invokestatic idx, 3)) (kk : J l G M QF ck sk (pc + 3) L (vI (x.natAbs : Int) :: st) h) (hx : rg x := by omega) : J l G M QF ck sk pc L (vI x :: st) h := by
  refine j_mabs hw hfr hlo hd ?_
  have e : (if 0 ≤ Int32.ofInt x then Int32.ofInt x else 0 - Int32.ofInt x) = Int32.ofInt (x.natAbs : Int) := by
    by_cases c : 0 ≤ x
    · rw [I_0, if_pos ((I_le (by decide) hx).mpr c)]
      congr 1; omega
    · rw [I_0, if_neg (fun z => c ((I_le (by decide) hx).mp z)), ← Int32.ofInt_sub]
      congr 1; omega
  rw [e]; exact kk
end JI
/-- a contract that says the result outright -/
abbrev jE (r : jO) (h0 : jH) : jO → jH → Prop := fun r' h' => r' = r ∧ h' = h0
abbrev oI (z : Int) : jO := .inl (some (vI z))
abbrev oN : jO := .inl none
abbrev oR (a : Nat) : jO := .inl (some (.ref a))
abbrev bI (c : Prop) [Decidable c] : Int := if c then 1 else 0
section JV
variable {l : Launch} {G : jG} {M M' : jM} {QF : jF} {ck sk pc : Nat} {L L' : List (Nat × Value)} {st rest : List Value} {h h1 : jH} {v : Option Value}
/-- a call that returns v and leaves h1 -/
theorem J_callV {y : MethodName} {As : List Value} {a ci n idx : Nat} {fs : List Value} {T : u_T} {N : Nat} (V : jLk M.own idx y M' n) (V2 : Cond.instanceMethod y ∈ WT ∧ Cond.selects y.cls y y ∈ WT ∧ vwCl[ci]? = some (y.cls, T, N)) (ha : h a = some (.inr (ci, fs)))
    (C : jC l G y M' (.ref a :: As) h (jE (.inl v) h1)) (hh : M'.hh = []) (hst : st = As.reverse ++ .ref a :: rest) (hn : As.length = n) (hrm : jRm M M' = true) (hrest : Nat.ble (rest.map fun v => v.category).sum 8 = true) (hd : decode M.cc pc = .ok (.invokevirtual idx, 3))
    (hck : M'.room.cells = 0) (hsk : M'.room.slots = 0) (kk : J l G M QF ck sk (pc + 3) L (v.toList ++ rest) h1) : J l G M QF ck sk pc L st h :=
  j_callV (ck' := ck) (sk' := sk) V V2 ha C hh hst hn hrm hrest hd (by omega) (by omega) (fun v' h' hp => by obtain ⟨e1, e2⟩ := hp; cases e1; subst e2; exact kk) (fun E h' hp => by cases hp.1)
theorem J_callS {y : MethodName} {As : List Value} {n idx : Nat} (V : jLk M.own idx y M' n) (V2 : Cond.static y ∈ WT)
    (C : jC l G y M' As h (jE (.inl v) h1)) (hh : M'.hh = []) (hst : st = As.reverse ++ rest) (hn : As.length = n) (hrm : jRm M M' = true) (hrest : Nat.ble (rest.map fun v => v.category).sum 8 = true) (hd : decode M.cc pc = .ok (.invokestatic idx, 3))
    (hck : M'.room.cells = 0) (hsk : M'.room.slots = 0) (kk : J l G M QF ck sk (pc + 3) L (v.toList ++ rest) h1) : J l G M QF ck sk pc L st h :=
  j_callS (ck' := ck) (sk' := sk) V V2 C hh hst hn hrm hrest hd (by omega) (by omega) (fun v' h' hp => by obtain ⟨e1, e2⟩ := hp; cases e1; subst e2; exact kk) (fun E h' hp => by cases hp.1)
theorem J_callSN {y : MethodName} {host : String} {As : List Value} {n idx : Nat} (V : jLkN M.own idx y host M' n) (V2 : Cond.static y ∈ WT)
    (C : jC l G y M' As h (jE (.inl v) h1)) (hh : M'.hh = []) (hst : st = As.reverse ++ rest) (hn : As.length = n) (hrm : jRm M M' = true) (hrest : Nat.ble (rest.map fun v => v.category).sum 8 = true) (hd : decode M.cc pc = .ok (.invokestatic idx, 3))
    (hck : M'.room.cells = 0) (hsk : M'.room.slots = 0) (kk : J l G M QF ck sk (pc + 3) L (v.toList ++ rest) h1) : J l G M QF ck sk pc L st h :=
  j_callSN (ck' := ck) (sk' := sk) V V2 C (fun E h' hp => by cases hp.1) hh hst hn hrm hrest hd (by omega) (by omega) (fun v' h' hp => by obtain ⟨e1, e2⟩ := hp; cases e1; subst e2; exact kk)
end JV
end
section
/-! objects with their arrays -/
/-- what an object holds: its numbers by field, its arrays by field -/
abbrev OS : Type := (Nat → Int) × (Nat → Int → Int)
def oU (p : OS) (k : Nat) (x : Int) : OS := (fun j => if j = k then x else p.1 j, p.2)
def oA (p : OS) (k : Nat) (F : Int → Int) : OS := (p.1, fun j => if j = k then F else p.2 j)
theorem oU_s (p : OS) (k : Nat) (x : Int) : (oU p k x).1 k = x := by simp [oU]
theorem oU_n {p : OS} {k j : Nat} {x : Int} (h : j ≠ k) : (oU p k x).1 j = p.1 j := by simp [oU, h]
theorem oA_s (p : OS) (k : Nat) (F : Int → Int) : (oA p k F).2 k = F := by simp [oA]
theorem oA_n {p : OS} {k j : Nat} {F : Int → Int} (h : j ≠ k) : (oA p k F).2 j = p.2 j := by simp [oA, h]
abbrev oO : Type := (Nat → Nat) → OS → Nat × List Value
abbrev oC : Type := Nat → (Int → Int) → va_E
/-- an object at a, its arrays at q k for the fields k of A -/
def At (o : oO) (ca : oC) (A : Nat → Bool) (h : jH) (a : Nat) (q : Nat → Nat) (p : OS) : Prop :=
  h a = some (.inr (o q p)) ∧ (∀ k, A k = true → h (q k) = some (ca k (p.2 k))) ∧ (∀ k, A k = true → q k ≠ a) ∧ ∀ i j, A i = true → A j = true → q i = q j → i = j
/-- where it lies -/
def ft (A : Nat → Bool) (a : Nat) (q : Nat → Nat) : Nat → Prop := fun b => b = a ∨ ∃ k, A k = true ∧ b = q k
/-- only S may have changed -/
def Fr (S : Nat → Prop) (h h' : jH) : Prop := ∀ b, ¬ S b → h' b = h b
theorem Fr.rf {S : Nat → Prop} {h : jH} : Fr S h h := fun _ _ => rfl
theorem Fr.tr {S : Nat → Prop} {h h1 h2 : jH} (a : Fr S h h1) (b : Fr S h1 h2) : Fr S h h2 := fun x hx => (b x hx).trans (a x hx)
theorem Fr.mono {S T : Nat → Prop} {h h1 : jH} (a : Fr S h h1) (hST : ∀ b, S b → T b) : Fr T h h1 := fun x hx => a x (fun z => hx (hST x z))
theorem Fr.set {S : Nat → Prop} {h : jH} {a : Nat} {e : va_E} (ha : S a) : Fr S h (hset h a e) := fun b hb => hset_n (fun z => hb (z ▸ ha))
theorem At.keep {o : oO} {ca : oC} {A : Nat → Bool} {h h' : jH} {a : Nat} {q : Nat → Nat} {p : OS} {S : Nat → Prop} (hP : At o ca A h a q p) (hF : Fr S h h') (hd : ∀ b, ft A a q b → ¬ S b) : At o ca A h' a q p := by
  obtain ⟨h1, h2, h3, h4⟩ := hP
  exact ⟨(hF a (hd a (Or.inl rfl))).trans h1, fun k hk => (hF _ (hd _ (Or.inr ⟨k, hk, rfl⟩))).trans (h2 k hk), h3, h4⟩
theorem At.arrw {o : oO} {ca : oC} {A : Nat → Bool} {h : jH} {a : Nat} {q : Nat → Nat} {p : OS} (hP : At o ca A h a q p) {k : Nat} (hk : A k = true) (F : Int → Int) (ho : o q (oA p k F) = o q p) : At o ca A (hset h (q k) (ca k F)) a q (oA p k F) := by
  obtain ⟨h1, h2, h3, h4⟩ := hP
  refine ⟨?_, fun j hj => ?_, h3, h4⟩
  · rw [hset_n (Ne.symm (h3 k hk)), h1, ho]
  · by_cases e : j = k
    · subst e
      rw [hset_s, oA_s]
    · rw [hset_n (fun z => e (h4 j k hj hk z)), oA_n e]
      exact h2 j hj
theorem At.objw {o : oO} {ca : oC} {A : Nat → Bool} {h : jH} {a : Nat} {q : Nat → Nat} {p : OS} (hP : At o ca A h a q p) (k : Nat) (x : Int) : At o ca A (hset h a (.inr (o q (oU p k x)))) a q (oU p k x) := by
  obtain ⟨h1, h2, h3, h4⟩ := hP
  exact ⟨hset_s _ _ _, fun j hj => by rw [hset_n (h3 j hj)]; exact h2 j hj, h3, h4⟩
abbrev jW (r : jO) (P : jH → Prop) : jO → jH → Prop := fun r' h' => r' = r ∧ P h'
theorem oIe {x y : Int} (e : x = y) : oI x = oI y := by rw [e]
section JA
variable {l : Launch} {G : jG} {M M' : jM} {QF : jF} {ck sk pc : Nat} {L L' : List (Nat × Value)} {st rest : List Value} {h h1 : jH} {v : Option Value}
  {o : oO} {ca : oC} {A : Nat → Bool} {a : Nat} {q : Nat → Nat} {p : OS}
theorem J_iastA (k : Nat) {n : Nat} {z x : Int} (hP : At o ca A h a q p) (hk : A k = true) (hca : ∀ F, ca k F = ai G n F) (ho : ∀ F, o q (oA p k F) = o q p) (hd : decode M.cc pc = .ok (.iastore, 1))
    (kk : ∀ h', At o ca A h' a q (oA p k (upI (p.2 k) z x)) → Fr (ft A a q) h h' → J l G M QF ck sk (pc + 1) L st h') (hz : 0 ≤ z ∧ z < (n : Int) ∧ n < 2147483648 := by omega) : J l G M QF ck sk pc L (vI x :: vI z :: .ref (q k) :: st) h := by
  have h1 := hP.2.1 k hk
  rw [hca] at h1
  refine J_iast hd h1 ?_ hz
  have h2 := hP.arrw hk (upI (p.2 k) z x) (ho _)
  rw [hca] at h2
  exact kk _ h2 (Fr.set (Or.inr ⟨k, hk, rfl⟩))
theorem J_zastA (k : Nat) {n : Nat} {z x : Int} (hP : At o ca A h a q p) (hk : A k = true) (hca : ∀ F, ca k F = az G n F) (ho : ∀ F, o q (oA p k F) = o q p) (hd : decode M.cc pc = .ok (.bastore, 1))
    (kk : ∀ h', At o ca A h' a q (oA p k (upI (p.2 k) z x)) → Fr (ft A a q) h h' → J l G M QF ck sk (pc + 1) L st h') (hx : x = 0 ∨ x = 1 := by omega) (hz : 0 ≤ z ∧ z < (n : Int) ∧ n < 2147483648 := by omega) : J l G M QF ck sk pc L (vI x :: vI z :: .ref (q k) :: st) h := by
  have h1 := hP.2.1 k hk
  rw [hca] at h1
  refine J_zast hd h1 ?_ hx hz
  have h2 := hP.arrw hk (upI (p.2 k) z x) (ho _)
  rw [hca] at h2
  exact kk _ h2 (Fr.set (Or.inr ⟨k, hk, rfl⟩))
theorem J_putA {idx k : Nat} {x : Int} (hP : At o ca A h a q p) (F : jFl M.own idx (o q p).1 k) (Y : jTy (o q p).1 k .int false) (hd : decode M.cc pc = .ok (.putfield idx, 3)) (hl0 : Nat.blt k (o q p).2.length = true) (ho : o q (oU p k x) = ((o q p).1, (o q p).2.set k (vI x)))
    (kk : ∀ h', At o ca A h' a q (oU p k x) → Fr (ft A a q) h h' → J l G M QF ck sk (pc + 3) L st h') : J l G M QF ck sk pc L (vI x :: .ref a :: st) h := by
  refine j_put F Y hd hP.1 rfl rfl hl0 rfl ?_
  have h2 := hP.objw k x
  rw [ho] at h2
  exact kk _ h2 (Fr.set (Or.inl rfl))
theorem J_putZA {idx k : Nat} {x : Int} (hP : At o ca A h a q p) (F : jFl M.own idx (o q p).1 k) (Y : jTy (o q p).1 k .boolean false) (hd : decode M.cc pc = .ok (.putfield idx, 3)) (hx : narrow .boolean (vI x) = vI x ∧ fits .boolean (vI x) = true) (hl0 : Nat.blt k (o q p).2.length = true) (ho : o q (oU p k x) = ((o q p).1, (o q p).2.set k (vI x)))
    (kk : ∀ h', At o ca A h' a q (oU p k x) → Fr (ft A a q) h h' → J l G M QF ck sk (pc + 3) L st h') : J l G M QF ck sk pc L (vI x :: .ref a :: st) h := by
  refine j_put F Y hd hP.1 hx.1 hx.2 hl0 rfl ?_
  have h2 := hP.objw k x
  rw [ho] at h2
  exact kk _ h2 (Fr.set (Or.inl rfl))
theorem J_putNA {host : String} {idx k : Nat} {x : Int} (hP : At o ca A h a q p) (F : jFlN M.own host idx (o q p).1 k) (Y : jTy (o q p).1 k .int false) (hd : decode M.cc pc = .ok (.putfield idx, 3)) (hl0 : Nat.blt k (o q p).2.length = true) (ho : o q (oU p k x) = ((o q p).1, (o q p).2.set k (vI x)))
    (kk : ∀ h', At o ca A h' a q (oU p k x) → Fr (ft A a q) h h' → J l G M QF ck sk (pc + 3) L st h') : J l G M QF ck sk pc L (vI x :: .ref a :: st) h := by
  refine j_putN F Y hd hP.1 rfl rfl hl0 rfl ?_
  have h2 := hP.objw k x
  rw [ho] at h2
  exact kk _ h2 (Fr.set (Or.inl rfl))
theorem J_salen (k : Nat) {C n : String} {N : Nat} {f : List Int32} (hst : jSt[k]? = some (C, n, N, f)) (hd : decode M.cc pc = .ok (.arraylength, 1)) (kk : J l G M QF ck sk (pc + 1) L (vI N :: st) h) : J l G M QF ck sk pc L (.ref (jSa G k) :: st) h := by
  intro p e s m args below meth c H locs cells slots ls S hR hS hl hc hs
  exact va_tlen S.1 S.2.1 (S.2.2.2.2.2.2.2.2.2.2.1 k _ hst).2 hS (Int32.ofInt_eq_ofNat).symm hd (kk p e s m args below meth c H locs cells slots ls S hR hS hl hc hs)
theorem J_callV1 {w : Value} {y : MethodName} {As : List Value} {a ci n idx : Nat} {fs : List Value} {T : u_T} {N : Nat} (V : jLk M.own idx y M' n) (V2 : Cond.instanceMethod y ∈ WT ∧ Cond.selects y.cls y y ∈ WT ∧ vwCl[ci]? = some (y.cls, T, N)) (ha : h a = some (.inr (ci, fs)))
    (C : jC l G y M' (.ref a :: As) h (jE (.inl (some w)) h1)) (hh : M'.hh = []) (hst : st = As.reverse ++ .ref a :: rest) (hn : As.length = n) (hrm : jRm M M' = true) (hrest : Nat.ble (rest.map fun v => v.category).sum 8 = true) (hd : decode M.cc pc = .ok (.invokevirtual idx, 3))
    (hck : M'.room.cells = 0) (hsk : M'.room.slots = 0) (kk : J l G M QF ck sk (pc + 3) L (w :: rest) h1) : J l G M QF ck sk pc L st h :=
  J_callV V V2 ha C hh hst hn hrm hrest hd hck hsk kk
theorem J_callV0 {y : MethodName} {As : List Value} {a ci n idx : Nat} {fs : List Value} {T : u_T} {N : Nat} (V : jLk M.own idx y M' n) (V2 : Cond.instanceMethod y ∈ WT ∧ Cond.selects y.cls y y ∈ WT ∧ vwCl[ci]? = some (y.cls, T, N)) (ha : h a = some (.inr (ci, fs)))
    (C : jC l G y M' (.ref a :: As) h (jE (.inl none) h1)) (hh : M'.hh = []) (hst : st = As.reverse ++ .ref a :: rest) (hn : As.length = n) (hrm : jRm M M' = true) (hrest : Nat.ble (rest.map fun v => v.category).sum 8 = true) (hd : decode M.cc pc = .ok (.invokevirtual idx, 3))
    (hck : M'.room.cells = 0) (hsk : M'.room.slots = 0) (kk : J l G M QF ck sk (pc + 3) L rest h1) : J l G M QF ck sk pc L st h :=
  J_callV V V2 ha C hh hst hn hrm hrest hd hck hsk kk
theorem J_callS1 {w : Value} {y : MethodName} {As : List Value} {n idx : Nat} (V : jLk M.own idx y M' n) (V2 : Cond.static y ∈ WT)
    (C : jC l G y M' As h (jE (.inl (some w)) h1)) (hh : M'.hh = []) (hst : st = As.reverse ++ rest) (hn : As.length = n) (hrm : jRm M M' = true) (hrest : Nat.ble (rest.map fun v => v.category).sum 8 = true) (hd : decode M.cc pc = .ok (.invokestatic idx, 3))
    (hck : M'.room.cells = 0) (hsk : M'.room.slots = 0) (kk : J l G M QF ck sk (pc + 3) L (w :: rest) h1) : J l G M QF ck sk pc L st h :=
  J_callS V V2 C hh hst hn hrm hrest hd hck hsk kk
theorem J_callS0 {y : MethodName} {As : List Value} {n idx : Nat} (V : jLk M.own idx y M' n) (V2 : Cond.static y ∈ WT)
    (C : jC l G y M' As h (jE (.inl none) h1)) (hh : M'.hh = []) (hst : st = As.reverse ++ rest) (hn : As.length = n) (hrm : jRm M M' = true) (hrest : Nat.ble (rest.map fun v => v.category).sum 8 = true) (hd : decode M.cc pc = .ok (.invokestatic idx, 3))
    (hck : M'.room.cells = 0) (hsk : M'.room.slots = 0) (kk : J l G M QF ck sk (pc + 3) L rest h1) : J l G M QF ck sk pc L st h :=
  J_callS V V2 C hh hst hn hrm hrest hd hck hsk kk
theorem J_callSN1 {w : Value} {y : MethodName} {host : String} {As : List Value} {n idx : Nat} (V : jLkN M.own idx y host M' n) (V2 : Cond.static y ∈ WT)
    (C : jC l G y M' As h (jE (.inl (some w)) h1)) (hh : M'.hh = []) (hst : st = As.reverse ++ rest) (hn : As.length = n) (hrm : jRm M M' = true) (hrest : Nat.ble (rest.map fun v => v.category).sum 8 = true) (hd : decode M.cc pc = .ok (.invokestatic idx, 3))
    (hck : M'.room.cells = 0) (hsk : M'.room.slots = 0) (kk : J l G M QF ck sk (pc + 3) L (w :: rest) h1) : J l G M QF ck sk pc L st h :=
  J_callSN V V2 C hh hst hn hrm hrest hd hck hsk kk
/-- a call that writes: it returns w, and leaves a heap with P -/
theorem J_callVW {P : jH → Prop} {y : MethodName} {As : List Value} {a ci n idx : Nat} {fs : List Value} {T : u_T} {N : Nat} (V : jLk M.own idx y M' n) (V2 : Cond.instanceMethod y ∈ WT ∧ Cond.selects y.cls y y ∈ WT ∧ vwCl[ci]? = some (y.cls, T, N)) (ha : h a = some (.inr (ci, fs)))
    (C : jC l G y M' (.ref a :: As) h (jW (.inl v) P)) (hh : M'.hh = []) (hst : st = As.reverse ++ .ref a :: rest) (hn : As.length = n) (hrm : jRm M M' = true) (hrest : Nat.ble (rest.map fun v => v.category).sum 8 = true) (hd : decode M.cc pc = .ok (.invokevirtual idx, 3))
    (hck : M'.room.cells = 0) (hsk : M'.room.slots = 0) (kk : ∀ h', P h' → J l G M QF ck sk (pc + 3) L (v.toList ++ rest) h') : J l G M QF ck sk pc L st h :=
  j_callV (ck' := ck) (sk' := sk) V V2 ha C hh hst hn hrm hrest hd (by omega) (by omega) (fun v' h' hp => by obtain ⟨e1, e2⟩ := hp; cases e1; exact kk _ e2) (fun E h' hp => by cases hp.1)
end JA
end
