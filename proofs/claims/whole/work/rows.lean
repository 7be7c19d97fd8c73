section
/-! ===== BEGIN words of one list among another's, by their places ===== -/
theorem goodIn_r {big : List Cond} (ws : List Cond) (ps : List Nat) (hp : ws = ps.filterMap (fun i => big[i]?)) (h : ws.all goodWord = true) : GoodIn big ws := by
  intro w hw
  have h1 := List.all_eq_true.mp h w hw
  rw [hp] at hw
  obtain ⟨i, -, hi⟩ := List.mem_filterMap.mp hw
  have hm : w ∈ big := by first | exact List.mem_of_getElem? hi | exact List.getElem?_mem hi
  exact ⟨hm, good_of_word h1⟩
theorem goodIn_app {big a b : List Cond} (ha : GoodIn big a) (hb : GoodIn big b) : GoodIn big (a ++ b) := fun w h => (List.mem_append.mp h).elim (ha w) (hb w)
theorem goodIn_ca {big a b : List Cond} {c : Cond} (ha : GoodIn big (c :: a)) (hb : GoodIn big b) : GoodIn big (c :: (a ++ b)) := fun w h => (List.mem_cons.mp h).elim (fun e => ha w (List.mem_cons.mpr (Or.inl e))) (fun h => (List.mem_append.mp h).elim (fun h => ha w (List.mem_cons.mpr (Or.inr h))) (hb w))
theorem goodIn_sub {big ws : List Cond} (hm : ∀ w ∈ ws, w ∈ big) (h : ws.all goodWord = true) : GoodIn big ws := fun w hw => ⟨hm w hw, good_of_word (List.all_eq_true.mp h w hw)⟩
/-! ===== END ===== -/

/-! ===== BEGIN exceptions that leave a method, and their catching by the caller (launches without stack traces) ===== -/
section VXA
/-! The laws vx_back, vx_callV, vx_callS, vx_callSW, vx_throw0, vx_throwS follow proofs of the library, with one case more: JvmDerived/Free/Laws.lean (Back.of_free), Shelf42/LK1.lean (callV, callS), Shelf/KitTraced.lean (throwNew0V, throwNewS). -/
/-- where a method has thrown q: the class by its name, the cell, what was written, the world -/
def vx_T (XC : String → State → State → Prop) (st : State) (q : Addr) (t : State) (mc ms : Nat) (free : Addr → Prop) : Prop :=
  ∃ (E : String) (ce : Cell) (L : List Loc), XC E st t ∧ t.heap[q]? = some ce ∧ ce.vm = .none ∧ st.vm.findClass E = some ce.cls ∧ st.WarmedH t.vm ∧ st.sameButNew ({ t with vm := st.vm } : State) L mc ms ∧ ∀ z ∈ L, free z.base
def vx_Q (Qc : Array Value → State → Outcome → State → Prop) (XC : String → State → State → Prop) (mc ms : Nat) (free : Addr → Prop) : Array Value → State → Outcome → State → Prop := fun a st o t =>
  (Qc a st o t ∧ ∃ L, FrameEnd st o t L mc ms ∧ ∀ q ∈ L, free q.base) ∨ ∃ q, o = .threw q ∧ vx_T XC st q t mc ms free
/-- a callee that returns or throws -/
def vx_Met (l : Launch) (y : MethodName) (ws : List Cond) (rm : Room) (Pc : Array Value → State → Prop) (Qc : Array Value → State → Outcome → State → Prop) (XC : String → State → State → Prop) (mc ms : Nat) (free : Addr → Prop) : Prop :=
  MetFree l y (headSpec ws rm) Pc (fun _ _ _ _ _ => True) (vx_Q Qc XC mc ms free)
def vx_Post (XC : String → State → State → Prop) (mc ms : Nat) (free : Addr → Prop) : Pt → Array Value → Addr → Pt → Prop := fun A a q B =>
  ∃ (g : JFrame) (mk : MethodId) (t : State) (L : List Loc) (E : String) (ce : Cell), B.U.heap = t.heap ∧ B.U.vm = t.vm ∧ XC E (A.U.calling g mk a) t ∧ t.heap[q]? = some ce ∧ ce.vm = .none ∧ A.U.vm.findClass E = some ce.cls ∧ B.locs = A.locs ++ L ∧ (∀ z ∈ L, free z.base) ∧ B.cells = A.cells + mc ∧ B.slots = A.slots + ms
def vx_Back (l : Launch) (R : Room) (p : Program) (e : Env) (below : List Frame) (s : State) (sargs : Array Value) (y : MethodName) (len W9 : Nat)
    (Pre : Pt → Array Value → Prop) (Post : Pt → Array Value → Option Value → Pt → Prop) (PostX : Pt → Array Value → Addr → Pt → Prop) : Prop :=
  ∀ (m : MethodId) (meth : Method) (c : Code) (A : Pt) (g : JFrame) (ig : Instr) (mk : MethodId) (a : Array Value),
    Stand p l e R s m sargs below meth c A.U A.locs A.cells A.slots → g.method = m → g.locals.size = c.maxLocals → decode c.code g.pc = .ok (ig, len) →
    2 * g.monitorRoom + (g.stack.map fun v => v.category).sum ≤ W9 → A.U.methodNamed? y = some mk → Pre A a →
    (∃ (v : Option Value) (B : Pt), Stand p l e R s m sargs below meth c B.U B.locs B.cells B.slots ∧ Post A a v B ∧
      Steps p.tables e below (doInvoke e (A.U.setTop g) [] mk a).1 (B.U.setTop { g with pc := g.pc + len, stack := v.toList ++ g.stack })) ∨
    (∃ (q : Addr) (B : Pt), Stand p l e R s m sargs below meth c B.U B.locs B.cells B.slots ∧ PostX A a q B ∧
      Steps p.tables e below (doInvoke e (A.U.setTop g) [] mk a).1 ((B.U.setTop g).pushFrame (.throwing q)))
section Payer
variable {l : Launch} {R : Room} {p : Program} {e : Env} {below : List Frame} {s : State} {sargs : Array Value} {y : MethodName} {len W9 : Nat}
theorem vx_back {ws : List Cond} {rm : Room} {Pc : Array Value → State → Prop} {Qc : Array Value → State → Outcome → State → Prop} {XC : String → State → State → Prop} {mc ms : Nat} {free : Addr → Prop} {bytes : ByteArray} {maxL : Nat} {ret : Option FieldType}
    (hM : vx_Met l y ws rm Pc Qc XC mc ms free) (hblind : FrameBlind Pc) (hrc : rm.cells = mc) (hrs : rm.slots = ms)
    (hframes : rm.frames + 1 ≤ R.frames) (hlocals : W9 + (maxL + 11) + rm.locals ≤ R.locals)
    (hws : ∀ w ∈ ws, ∀ a' U, s.WarmedH U.vm → w.before a' U = true) (hcode : Cond.code y bytes maxL ret ∈ ws) (hinit : ∀ a' U, s.WarmedH U.vm → (Cond.initialized y.cls).before a' U = true) :
    vx_Back l R p e below s sargs y len W9 (PreOf R mc ms Pc) (PostOf Qc mc ms free) (vx_Post XC mc ms free) := by
  intro m meth c A g ig mk a X hg hsize hdg hW hn hp
  have h1 : (headSpec ws rm).pre.before a A.U = true := atoms_intro fun w hw => hws w hw _ _ X.warmed
  have h2 : (Cond.code y bytes maxL ret).before a A.U = true := hws _ hcode _ _ X.warmed
  have h3 : (Cond.initialized y.cls).before a A.U = true := hinit _ _ X.warmed
  have h4 : A.cells + (headSpec ws rm).room.cells ≤ R.cells := by rw [show (headSpec ws rm).room.cells = mc from hrc]; exact hp.1
  have h5 : A.slots + (headSpec ws rm).room.slots ≤ R.slots := by rw [show (headSpec ws rm).room.slots = ms from hrs]; exact hp.2.1
  have hPc : Pc a (A.U.calling g mk a) := hblind _ _ _ _ hp.2.2
  obtain ⟨U, Ls, c0, s0⟩ := A
  dsimp only [Pt.U, Pt.locs, Pt.cells, Pt.slots] at h1 h2 h3 h4 h5 X hn hPc ⊢
  obtain ⟨methY, cY, hmY, hcY, -, hlY, -, -, -, -⟩ := Cond.code_spec hn h2
  obtain ⟨kY, hkY, -⟩ := className_of_methodNamed hn
  have hinitY : kY.init = .initialized := Cond.initialized_spec (findClass_of_methodNamed hn) hkY h3
  have h : At U g.method c below := by rw [hg]; exact X.here
  have hlocals9 : W9 + (maxL + 11) + (headSpec ws rm).room.locals ≤ R.locals := hlocals
  have happ : (headSpec ws rm).appliesLoose y e.platform (U.calling g mk a) = true :=
    Spec.appliesLoose_calling (g := g) h hdg hn hkY hinitY
      (X.room_calling (g := g) (R' := (headSpec ws rm).room) hsize hmY hcY hframes (by rw [hlY]; omega) h4 h5) h1
  obtain ⟨mid, hmid⟩ := h.above
  have hfr : (U.setTop g).frames = (.java g :: mid) ++ below := by rw [State.frames_setTop' g h.top, hmid]; rfl
  obtain ⟨o, s₂, hsteps, -, hend, hq⟩ := Steps.callFree hM p X.admits X.cas X.clock (acts := []) hfr happ hPc trivial
  have hq' : vx_Q Qc XC mc ms free a (U.calling g mk a) o s₂ := hq
  rw [State.frames_setTop' g h.top] at hend
  obtain ⟨g₀, hg0⟩ := Option.isSome_iff_exists.mp h.top
  obtain ⟨r, hr⟩ := State.topJava?_eq_some.mp hg0
  have hr' : (({ U with heap := s₂.heap, slotsUsed := s₂.slotsUsed } : State).setVm s₂.vm).frames = .java g₀ :: r := hr
  rcases hq' with ⟨hqc, L, hfe, hL⟩ | ⟨q, rfl, E, ce, L, hx, hce, hcv, hcl, hW₂, hsm, hL⟩
  · obtain ⟨⟨v, rfl⟩, hW₂, e2, q2, q3, q4, q5, q6⟩ := id hfe
    have e3 : s₂ = ({ (U.calling g mk a).setFrames s₂.frames with heap := s₂.heap, slotsUsed := s₂.slotsUsed } : State).setVm s₂.vm := by
      have : s₂ = ({ s₂ with vm := (U.calling g mk a).vm } : State).setVm s₂.vm := rfl
      rw [e2] at this
      exact this
    obtain ⟨c₂, i₂, len₂, hc₂, hd₂, hf₂⟩ := hend
    have hW' : U.WarmedH s₂.vm := hW₂
    have hcc : c₂ = c := by
      have h1 : s₂.code? g.method = U.code? g.method := by
        rw [State.code?_eq, State.code?_eq, hW'.alike.method?]
      exact Option.some.inj (hc₂.symm.trans (h1.trans h.code))
    subst hcc
    have hlen : len₂ = len := by rw [hdg] at hd₂; cases hd₂; rfl
    subst hlen
    have hs₂ : s₂ = (({ U with heap := s₂.heap, slotsUsed := s₂.slotsUsed } : State).setVm s₂.vm).setTop { g with pc := g.pc + len₂, stack := v.toList ++ g.stack } := by
      refine e3.trans ?_
      rw [hf₂, State.calling_eq h.top, State.setFrames_setFrames, State.setTop_of_frames _ hr', hr]
      rfl
    have hsame : U.sameButNew ({ U with heap := s₂.heap, slotsUsed := s₂.slotsUsed } : State) L mc ms := by
      refine ⟨?_, q2, q3, q4, q5, q6⟩
      obtain ⟨t, ht, -⟩ := State.frames_cons hr
      show ({ U with heap := s₂.heap, slotsUsed := s₂.slotsUsed } : State) = { U.setFrames U.frames with heap := s₂.heap, slotsUsed := s₂.slotsUsed }
      rw [State.setFrames_self ht]
    subst hg
    refine Or.inl ⟨v, ⟨(({ U with heap := s₂.heap, slotsUsed := s₂.slotsUsed } : State).setVm s₂.vm), Ls ++ L, c0 + mc, s0 + ms⟩,
      ⟨X.admits, X.cas, X.clock, X.frames, X.room, X.hears, X.method, X.code, (X.here.setHeapUsed s₂.heap s₂.slotsUsed).setVm hW'.alike, X.tail, State.WarmedH.trans X.warmed hW', X.limits, X.bytes, X.same.trans (hsame.setVm s.vm)⟩,
      ⟨g, mk, s₂, L, rfl, rfl, hqc, rfl, hL, rfl, rfl⟩, ?_⟩
    show Steps p.tables e below _ ((({ U with heap := s₂.heap, slotsUsed := s₂.slotsUsed } : State).setVm s₂.vm).setTop { g with pc := g.pc + len₂, stack := v.toList ++ g.stack })
    rw [← hs₂]
    exact hsteps
  · obtain ⟨e2, q2, q3, q4, q5, q6⟩ := id hsm
    have e3 : s₂ = ({ (U.calling g mk a).setFrames s₂.frames with heap := s₂.heap, slotsUsed := s₂.slotsUsed } : State).setVm s₂.vm := by
      have : s₂ = ({ s₂ with vm := (U.calling g mk a).vm } : State).setVm s₂.vm := rfl
      rw [e2] at this
      exact this
    have hf₂ : s₂.frames = .throwing q :: .java g :: U.frames.tail := hend
    have hW' : U.WarmedH s₂.vm := hW₂
    have hs₂ : s₂ = ((({ U with heap := s₂.heap, slotsUsed := s₂.slotsUsed } : State).setVm s₂.vm).setTop g).pushFrame (.throwing q) := by
      refine e3.trans ?_
      rw [hf₂, State.calling_eq h.top, State.setFrames_setFrames, State.pushFrame, State.frames_setTop _ hr', State.setTop_of_frames _ hr', State.setFrames_setFrames, hr]
      rfl
    have hsame : U.sameButNew ({ U with heap := s₂.heap, slotsUsed := s₂.slotsUsed } : State) L mc ms := by
      refine ⟨?_, q2, q3, q4, q5, q6⟩
      obtain ⟨t, ht, -⟩ := State.frames_cons hr
      show ({ U with heap := s₂.heap, slotsUsed := s₂.slotsUsed } : State) = { U.setFrames U.frames with heap := s₂.heap, slotsUsed := s₂.slotsUsed }
      rw [State.setFrames_self ht]
    subst hg
    refine Or.inr ⟨q, ⟨(({ U with heap := s₂.heap, slotsUsed := s₂.slotsUsed } : State).setVm s₂.vm), Ls ++ L, c0 + mc, s0 + ms⟩,
      ⟨X.admits, X.cas, X.clock, X.frames, X.room, X.hears, X.method, X.code, (X.here.setHeapUsed s₂.heap s₂.slotsUsed).setVm hW'.alike, X.tail, State.WarmedH.trans X.warmed hW', X.limits, X.bytes, X.same.trans (hsame.setVm s.vm)⟩,
      ⟨g, mk, s₂, L, E, ce, rfl, rfl, hx, hce, hcv, hcl, rfl, hL, rfl, rfl⟩, ?_⟩
    show Steps p.tables e below _ (((({ U with heap := s₂.heap, slotsUsed := s₂.slotsUsed } : State).setVm s₂.vm).setTop g).pushFrame (.throwing q))
    rw [← hs₂]
    exact hsteps
end Payer
section Calls
variable {p : Program} {l : Launch} {e : Env} {R : Room} {s : State} {m : MethodId} {args : Array Value} {below : List Frame} {meth : Method} {c : Code} {T : State} {locs : List Loc} {cells slots : Nat}
theorem vx_callV (X : Stand p l e R s m args below meth c T locs cells slots) (hexec : p.tables.exec = Jvm.exec) {own C : String} {index : Nat} {y : MethodName} {bytes : ByteArray} {maxL : Nat} {ret : Option FieldType}
    (hown : s.vm.findClass own = some m.cls) (hlink : (Cond.methodLink own index y).before args s = true) (hinst : (Cond.instanceMethod y).before args s = true) (hsel : (Cond.selects C y y).before args s = true)
    (hcode : (Cond.code y bytes maxL ret).before args s = true) (hy : y.cls ≠ "java/lang/invoke/MethodHandle" ∧ y.cls ≠ "java/lang/invoke/VarHandle")
    {W9 : Nat} {Pre : Pt → Array Value → Prop} {Post : Pt → Array Value → Option Value → Pt → Prop} {PostX : Pt → Array Value → Addr → Pt → Prop} (hK : vx_Back l R p e below s args y 3 W9 Pre Post PostX)
    {b : Addr} {cellB : Cell} (hcell : T.heap[b]? = some cellB) (hobj : cellB.vm.isStatics = false) (hcls : s.vm.findClass C = some cellB.cls)
    {g : JFrame} (hg : g.method = m) (hsize : g.locals.size = c.maxLocals) {argsL rest : List Value} (hlen : ∀ sig, parseMethodDescriptor y.desc = some sig → argsL.length = sig.parameters.length)
    (hstack : g.stack = argsL.reverse ++ .ref b :: rest) (hW : 2 * g.monitorRoom + (rest.map fun v => v.category).sum ≤ W9) (hdg : decode c.code g.pc = .ok (.invokevirtual index, 3))
    (hpre : ∀ vm₁, s.WarmedH vm₁ → Pre ⟨T.setVm vm₁, locs, cells, slots⟩ (Value.ref b :: argsL).toArray) :
    (∃ (v : Option Value) (vm₁ : Vm) (B : Pt), s.WarmedH vm₁ ∧ Stand p l e R s m args below meth c B.U B.locs B.cells B.slots ∧ Post ⟨T.setVm vm₁, locs, cells, slots⟩ (Value.ref b :: argsL).toArray v B ∧
      ∀ target, Steps p.tables e below (B.U.setTop { g with pc := g.pc + 3, stack := v.toList ++ rest }) target → Steps p.tables e below (T.setTop g) target) ∨
    (∃ (q : Addr) (vm₁ : Vm) (B : Pt), s.WarmedH vm₁ ∧ Stand p l e R s m args below meth c B.U B.locs B.cells B.slots ∧ PostX ⟨T.setVm vm₁, locs, cells, slots⟩ (Value.ref b :: argsL).toArray q B ∧
      Steps p.tables e below (T.setTop g) ((B.U.setTop { g with stack := rest }).pushFrame (.throwing q))) := by
  obtain ⟨mk, methM, hnamed, hmethM, hstM, habM⟩ := Cond.instanceMethod_spec hinst
  obtain ⟨methM', cM, hmethM', -, -, -, -, -, -, hsigM⟩ := Cond.code_spec hnamed hcode
  cases hmethM.symm.trans hmethM'
  obtain ⟨c2, r2, m2, q1, q2, q3, q4, kP, hkP, hkPi⟩ := Cond.selects_spec hsel
  cases hcls.symm.trans q1
  cases (State.methodFound?_of_named hnamed hy).symm.trans q2
  cases hnamed.symm.trans q3
  have hselP : selectMethod e.platform s.vm cellB.cls mk = .method mk := by rw [Launch.admits_selectMethod X.admits]; exact q4
  obtain ⟨vm₁, X₁, hstep₁⟩ := X.invokevirtual hexec hown hlink hnamed hmethM hstM hkP hkPi hy (a := b) (cell := cellB) hcell
    (fun z h => by rw [h] at hobj; cases hobj) hselP hmethM habM hkP hkPi (g := g) hg (argsL := argsL) (rest := rest) (hlen _ hsigM) hstack hdg
  rcases hK m meth c ⟨T.setVm vm₁, locs, cells, slots⟩ { g with stack := rest } (.invokevirtual index) mk (Value.ref b :: argsL).toArray X₁ hg hsize hdg hW (X₁.named hnamed) (hpre vm₁ X₁.warmed) with ⟨v, B, X', hpost, hsteps⟩ | ⟨q, B, X', hpost, hsteps⟩
  · exact Or.inl ⟨v, vm₁, B, X₁.warmed, X', hpost, fun target h => hstep₁ _ fun acts => by rw [doInvoke_state]; exact hsteps.trans h⟩
  · exact Or.inr ⟨q, vm₁, B, X₁.warmed, X', hpost, hstep₁ _ fun acts => by rw [doInvoke_state]; exact hsteps⟩
theorem vx_callS (X : Stand p l e R s m args below meth c T locs cells slots) (hexec : p.tables.exec = Jvm.exec) {own : String} {index : Nat} {y : MethodName} {bytes : ByteArray} {maxL : Nat} {ret : Option FieldType}
    (hown : s.vm.findClass own = some m.cls) (hlink : (Cond.methodLink own index y).before args s = true) (hstat : (Cond.static y).before args s = true) (hinit : (Cond.initialized y.cls).before args s = true)
    (hcode : (Cond.code y bytes maxL ret).before args s = true) (hy : y.cls ≠ "java/lang/invoke/MethodHandle" ∧ y.cls ≠ "java/lang/invoke/VarHandle")
    {W9 : Nat} {Pre : Pt → Array Value → Prop} {Post : Pt → Array Value → Option Value → Pt → Prop} {PostX : Pt → Array Value → Addr → Pt → Prop} (hK : vx_Back l R p e below s args y 3 W9 Pre Post PostX)
    {g : JFrame} (hg : g.method = m) (hsize : g.locals.size = c.maxLocals) {argsL rest : List Value} (hlen : ∀ sig, parseMethodDescriptor y.desc = some sig → argsL.length = sig.parameters.length)
    (hstack : g.stack = argsL.reverse ++ rest) (hW : 2 * g.monitorRoom + (rest.map fun v => v.category).sum ≤ W9) (hdg : decode c.code g.pc = .ok (.invokestatic index, 3))
    (hpre : ∀ vm₁, s.WarmedH vm₁ → Pre ⟨T.setVm vm₁, locs, cells, slots⟩ argsL.toArray) :
    (∃ (v : Option Value) (vm₁ : Vm) (B : Pt), s.WarmedH vm₁ ∧ Stand p l e R s m args below meth c B.U B.locs B.cells B.slots ∧ Post ⟨T.setVm vm₁, locs, cells, slots⟩ argsL.toArray v B ∧
      ∀ target, Steps p.tables e below (B.U.setTop { g with pc := g.pc + 3, stack := v.toList ++ rest }) target → Steps p.tables e below (T.setTop g) target) ∨
    (∃ (q : Addr) (vm₁ : Vm) (B : Pt), s.WarmedH vm₁ ∧ Stand p l e R s m args below meth c B.U B.locs B.cells B.slots ∧ PostX ⟨T.setVm vm₁, locs, cells, slots⟩ argsL.toArray q B ∧
      Steps p.tables e below (T.setTop g) ((B.U.setTop { g with stack := rest }).pushFrame (.throwing q))) := by
  obtain ⟨mk, hnamed⟩ := Cond.code_named hcode
  obtain ⟨methM, cM, hmethM, -, -, -, -, -, -, hsigM⟩ := Cond.code_spec hnamed hcode
  have hstatic : methM.isStatic = true := Cond.static_spec hnamed hmethM hstat
  obtain ⟨kP, hkP, -⟩ := className_of_methodNamed hnamed
  have hinitP : kP.init = .initialized := Cond.initialized_spec (findClass_of_methodNamed hnamed) hkP hinit
  obtain ⟨vm₁, X₁, hstep₁⟩ := X.invokestatic hexec hown hlink hnamed hmethM hstatic hkP hinitP hy (g := g) hg (argsL := argsL) (rest := rest) (hlen _ hsigM) hstack hdg
  rcases hK m meth c ⟨T.setVm vm₁, locs, cells, slots⟩ { g with stack := rest } (.invokestatic index) mk argsL.toArray X₁ hg hsize hdg hW (X₁.named hnamed) (hpre vm₁ X₁.warmed) with ⟨v, B, X', hpost, hsteps⟩ | ⟨q, B, X', hpost, hsteps⟩
  · exact Or.inl ⟨v, vm₁, B, X₁.warmed, X', hpost, fun target h => hstep₁ _ fun acts => by rw [doInvoke_state]; exact hsteps.trans h⟩
  · exact Or.inr ⟨q, vm₁, B, X₁.warmed, X', hpost, hstep₁ _ fun acts => by rw [doInvoke_state]; exact hsteps⟩
end Calls
theorem vx_cls {s : State} {T : State} {vm₁ : Vm} {E : String} {k : ClassId} (hW : s.WarmedH vm₁) (h : (T.setVm vm₁).vm.findClass E = some k) : s.vm.findClass E = some k := by
  have h1 : vm₁.findClass E = some k := h
  rw [hW.alike.findClass] at h1
  exact h1
/-- the method's frame g, with q thrown over it -/
def vx_W (p : Program) (l : Launch) (e : Env) (R : Room) (s : State) (m : MethodId) (args : Array Value) (below : List Frame) (meth : Method) (c : Code) (H : Heap) (locs : List Loc) (cells slots : Nat) (Q : State → Prop) (g : JFrame) (q : Addr) : Prop :=
  ∀ T : State, T.heap = H → Stand p l e R s m args below meth c T locs cells slots → ∃ t, Steps p.tables e below ((T.setTop g).pushFrame (.throwing q)) t ∧ Q t
def vx_Run (p : Program) (l : Launch) (e : Env) (R : Room) (s : State) (m : MethodId) (args : Array Value) (below : List Frame) (meth : Method) (c : Code) (H : Heap) (locs : List Loc) (cells slots mc ms : Nat) (g : JFrame) (rest : List Value) (Qa : State → Outcome → State → Prop) (XC : String → State → State → Prop) (free : Addr → Prop) : Prop :=
  ∀ T : State, T.heap = H → Stand p l e R s m args below meth c T locs cells slots →
    (∃ (v : Option Value) (st₀ t T' : State) (L : List Loc), st₀.heap = H ∧ Stand p l e R s m args below meth c T' (locs ++ L) (cells + mc) (slots + ms) ∧ (∀ q ∈ L, free q.base) ∧ T'.heap = t.heap ∧ T'.vm = t.vm ∧ Qa st₀ (.returned v) t ∧
      Goes p e below T g T' { g with pc := g.pc + 3, stack := v.toList ++ rest }) ∨
    (∃ (q : Addr) (st₀ t T' : State) (L : List Loc) (E : String) (ce : Cell), st₀.heap = H ∧ Stand p l e R s m args below meth c T' (locs ++ L) (cells + mc) (slots + ms) ∧ (∀ z ∈ L, free z.base) ∧ T'.heap = t.heap ∧ T'.vm = t.vm ∧ XC E st₀ t ∧ t.heap[q]? = some ce ∧ ce.vm = .none ∧ s.vm.findClass E = some ce.cls ∧
      Steps p.tables e below (T.setTop g) ((T'.setTop { g with stack := rest }).pushFrame (.throwing q)))
def vx_X {S : Type} (px : S → Prop) (B : String → S → State → Prop) (A : Nat → Prop) : String → State → State → Prop := fun E st t => ∃ u : S, px u ∧ B E u t ∧ va_F A st t
section Runs
variable {p : Program} {l : Launch} {e : Env} {R : Room} {s : State} {m : MethodId} {args : Array Value} {below : List Frame} {meth : Method} {c : Code} {H : Heap} {locs : List Loc} {cells slots : Nat}
variable {y : MethodName} {bytes cc : ByteArray} {maxL nL mc ms n index : Nat} {ret : Option FieldType} {ws : List Cond} {rm : Room} {Pc : Array Value → State → Prop} {Qc : Array Value → State → Outcome → State → Prop} {XC : String → State → State → Prop} {free : Addr → Prop} {Ts : List Cond} {own C : String} {b : Addr} {As rest : List Value} {g : JFrame}
theorem vx_callBack (cb : CallB R s args own index y bytes maxL ret ws rm mc ms n) (hM : vx_Met l y ws rm Pc Qc XC mc ms free) (hbl : FrameBlind Pc) : vx_Back l R p e below s args y 3 8 (PreOf R mc ms Pc) (PostOf Qc mc ms free) (vx_Post XC mc ms free) := by
  obtain ⟨hrc, hrs, hfr, hlo, hws, hcw, -, hini, -⟩ := cb
  exact vx_back (bytes := bytes) (maxL := maxL) (ret := ret) hM hbl hrc hrs hfr hlo hws hcw (fun a' U hW => word_at hW (Or.inl (by first | rfl | simp [Cond.onTables, Cond.keeps, Cond.steady])) hini)
theorem vx_runV (S : CallFix p m c cc nL s args Ts own) (hM : vx_Met l y ws rm Pc Qc XC mc ms free) (cw : CallW R s args own C index y bytes maxL ret ws rm mc ms n) (hp : PreV s H C b Pc As)
    (hg : g.method = m) (hn : As.length = n) (hsize : g.locals.size = nL) (hstack : g.stack = As.reverse ++ .ref b :: rest) (hW : 2 * g.monitorRoom + (rest.map fun v => v.category).sum ≤ 8) (hdg : decode cc g.pc = .ok (.invokevirtual index, 3)) (hf : cells + mc ≤ R.cells ∧ slots + ms ≤ R.slots) :
    vx_Run p l e R s m args below meth c H locs cells slots mc ms g rest (Qc (Value.ref b :: As).toArray) XC free := by
  have hK : vx_Back l R p e below s args y 3 8 (PreOf R mc ms Pc) (PostOf Qc mc ms free) (vx_Post XC mc ms free) := vx_callBack cw.1 hM hp.1
  obtain ⟨⟨-, -, -, -, -, -, hcode, -, hy, hlen, hl⟩, hin, hse⟩ := cw
  obtain ⟨hx, hb, hml, ho, -⟩ := S
  obtain ⟨-, ⟨cellB, hcB, hoB, hclB⟩, hPc⟩ := hp
  intro T hT X
  rcases vx_callV X hx (C := C) (bytes := bytes) (maxL := maxL) (ret := ret) ho hl hin hse hcode hy hK (by rw [hT]; exact hcB) hoB hclB hg (hsize.trans hml.symm) (argsL := As) (rest := rest) (fun sig h => hn.trans (hlen sig h)) hstack hW (by rw [hb]; exact hdg)
    (fun vm₁ hW₁ => ⟨hf.1, hf.2, hPc (T.setVm vm₁) hT hW₁⟩) with ⟨v, vm₁, ⟨U', l2, c2, s2⟩, hW₁, X', ⟨g', mk, t, L, e1, e2, hq, h1, hL, h2, h3⟩, st⟩ | ⟨q, vm₁, ⟨U', l2, c2, s2⟩, hW₁, X', ⟨g', mk, t, L, E, ce, e1, e2, hq, hce, hcv, hcl, h1, hL, h2, h3⟩, st⟩
  · dsimp only [Pt.U, Pt.locs, Pt.cells, Pt.slots] at X' e1 e2 h1 h2 h3 st
    subst h1; subst h2; subst h3
    exact Or.inl ⟨v, (T.setVm vm₁).calling g' mk (Value.ref b :: As).toArray, t, U', L, hT, X', hL, e1, e2, hq, st⟩
  · dsimp only [Pt.U, Pt.locs, Pt.cells, Pt.slots] at X' e1 e2 h1 h2 h3 st hcl
    subst h1; subst h2; subst h3
    exact Or.inr ⟨q, (T.setVm vm₁).calling g' mk (Value.ref b :: As).toArray, t, U', L, E, ce, hT, X', hL, e1, e2, hq, hce, hcv, vx_cls hW₁ hcl, st⟩
theorem vx_runS (S : CallFix p m c cc nL s args Ts own) (hM : vx_Met l y ws rm Pc Qc XC mc ms free) (cw : CallB R s args own index y bytes maxL ret ws rm mc ms n ∧ (Cond.static y).before args s = true) (hp : PreS s H Pc As)
    (hg : g.method = m) (hn : As.length = n) (hsize : g.locals.size = nL) (hstack : g.stack = As.reverse ++ rest) (hW : 2 * g.monitorRoom + (rest.map fun v => v.category).sum ≤ 8) (hdg : decode cc g.pc = .ok (.invokestatic index, 3)) (hf : cells + mc ≤ R.cells ∧ slots + ms ≤ R.slots) :
    vx_Run p l e R s m args below meth c H locs cells slots mc ms g rest (Qc As.toArray) XC free := by
  have hK : vx_Back l R p e below s args y 3 8 (PreOf R mc ms Pc) (PostOf Qc mc ms free) (vx_Post XC mc ms free) := vx_callBack cw.1 hM hp.1
  obtain ⟨⟨-, -, -, -, -, -, hcode, hini, hy, hlen, hl⟩, hstt⟩ := cw
  obtain ⟨hx, hb, hml, ho, -⟩ := S
  intro T hT X
  rcases vx_callS X hx (bytes := bytes) (maxL := maxL) (ret := ret) ho hl hstt hini hcode hy hK hg (hsize.trans hml.symm) (argsL := As) (rest := rest) (fun sig h => hn.trans (hlen sig h)) hstack hW (by rw [hb]; exact hdg)
    (fun vm₁ hW₁ => ⟨hf.1, hf.2, hp.2 (T.setVm vm₁) hT hW₁⟩) with ⟨v, vm₁, ⟨U', l2, c2, s2⟩, hW₁, X', ⟨g', mk, t, L, e1, e2, hq, h1, hL, h2, h3⟩, st⟩ | ⟨q, vm₁, ⟨U', l2, c2, s2⟩, hW₁, X', ⟨g', mk, t, L, E, ce, e1, e2, hq, hce, hcv, hcl, h1, hL, h2, h3⟩, st⟩
  · dsimp only [Pt.U, Pt.locs, Pt.cells, Pt.slots] at X' e1 e2 h1 h2 h3 st
    subst h1; subst h2; subst h3
    exact Or.inl ⟨v, (T.setVm vm₁).calling g' mk As.toArray, t, U', L, hT, X', hL, e1, e2, hq, st⟩
  · dsimp only [Pt.U, Pt.locs, Pt.cells, Pt.slots] at X' e1 e2 h1 h2 h3 st hcl
    subst h1; subst h2; subst h3
    exact Or.inr ⟨q, (T.setVm vm₁).calling g' mk As.toArray, t, U', L, E, ce, hT, X', hL, e1, e2, hq, hce, hcv, vx_cls hW₁ hcl, st⟩
end Runs
section Rows
variable {p : Program} {l : Launch} {e : Env} {R : Room} {s : State} {m : MethodId} {args : Array Value} {below : List Frame} {meth : Method} {c : Code} {H : Heap} {locs : List Loc} {cells slots : Nat} {Q : State → Prop}
variable {mc ms : Nat} {free : Addr → Prop} {A0 A1 : Nat → Prop} {H0 : Heap} {a : Array Value} {pc : Nat} {ls : Array Slot} {st0 rest : List Value}
theorem vx_keep {st₀ t T' : State} {L : List Loc} (h0 : st₀.heap = H) (e1 : T'.heap = t.heap) (hS : va_S A0 H0 H locs) (hA : ∀ q, q < H.size → A1 q → A0 q) (hf : ∀ q, free q → A0 q) (hL : ∀ q ∈ L, free q.base) (hF : va_F A1 st₀ t) :
    H.size ≤ T'.heap.size ∧ (∀ q : Nat, q < H.size → ¬ A1 q → T'.heap[q]? = H[q]?) ∧ va_S A0 H0 T'.heap (locs ++ L) := by
  obtain ⟨hz, hk⟩ := hF
  rw [h0] at hz hk
  exact ⟨by rw [e1]; exact hz, fun q h1 h2 => by rw [e1]; exact hk q h1 h2,
    ⟨Nat.le_trans hS.1 (by rw [e1]; exact hz), fun q h1 h2 => by rw [e1, hk q (Nat.lt_of_lt_of_le h1 hS.1) (fun z => h2 (hA q (Nat.lt_of_lt_of_le h1 hS.1) z))]; exact hS.2.1 q h1 h2, fun q hq => by
      rcases List.mem_append.mp hq with h | h
      · exact hS.2.2 q h
      · exact hf _ (hL q h)⟩⟩
theorem vx_calli {S SX : Type} {post : Int32 → S → Prop} {px : SX → Prop} {B : S → State → Prop} {BX : String → SX → State → Prop} {AX : Nat → Prop} (hr : vx_Run p l e R s m args below meth c H locs cells slots mc ms (F0 m pc ls st0) rest (va_Qi post B A1 a) (vx_X px BX AX) free) (hS : va_S A0 H0 H locs) (hA : ∀ q, q < H.size → A1 q → A0 q) (hf : ∀ q, free q → A0 q) (hAX : ∀ q, q < H.size → AX q → A0 q)
    (kx : ∀ (E : String) (ce : Cell) (q9 : Addr) (u : SX) (t : State) (H1 : Heap) (locs1 : List Loc), t.heap = H1 → s.vm.Alike t.vm → px u → BX E u t → H.size ≤ H1.size → (∀ q : Nat, q < H.size → ¬ AX q → H1[q]? = H[q]?) → va_S A0 H0 H1 locs1 → H1[q9]? = some ce → ce.vm = .none → s.vm.findClass E = some ce.cls → vx_W p l e R s m args below meth c H1 locs1 (cells + mc) (slots + ms) Q (F0 m pc ls rest) q9)
    (kk : ∀ (r : Int32) (u : S) (t : State) (H1 : Heap) (locs1 : List Loc), t.heap = H1 → s.vm.Alike t.vm → post r u → B u t → H.size ≤ H1.size → (∀ q : Nat, q < H.size → ¬ A1 q → H1[q]? = H[q]?) → va_S A0 H0 H1 locs1 → W p l e R s m args below meth c H1 locs1 (cells + mc) (slots + ms) Q (F0 m (pc + 3) ls (.int r :: rest))) : W p l e R s m args below meth c H locs cells slots Q (F0 m pc ls st0) := by
  intro T hT X
  rcases hr T hT X with ⟨v, st₀, t, T', L, h0, X', hL, e1, e2, ⟨⟨r, u, hv, hp, hb⟩, hF⟩, st⟩ | ⟨q, st₀, t, T', L, E, ce, h0, X', hL, e1, e2, ⟨u, hp, hb, hF⟩, hce, hcv, hcl, st⟩
  · cases hv
    obtain ⟨k1, k2, k3⟩ := vx_keep h0 e1 hS hA hf hL hF
    obtain ⟨t2, a1, b1⟩ := kk r u t T'.heap (locs ++ L) e1.symm (by rw [← e2]; exact X'.warmed.alike) hp hb k1 k2 k3 T' rfl X'
    exact ⟨t2, st t2 a1, b1⟩
  · obtain ⟨k1, k2, k3⟩ := vx_keep h0 e1 hS hAX hf hL hF
    obtain ⟨t2, a1, b1⟩ := kx E ce q u t T'.heap (locs ++ L) e1.symm (by rw [← e2]; exact X'.warmed.alike) hp hb k1 k2 k3 (by rw [e1]; exact hce) hcv hcl T' rfl X'
    exact ⟨t2, st.trans a1, b1⟩
theorem vx_calll {S SX : Type} {post : Int64 → S → Prop} {px : SX → Prop} {B : S → State → Prop} {BX : String → SX → State → Prop} {AX : Nat → Prop} (hr : vx_Run p l e R s m args below meth c H locs cells slots mc ms (F0 m pc ls st0) rest (va_Ql post B A1 a) (vx_X px BX AX) free) (hS : va_S A0 H0 H locs) (hA : ∀ q, q < H.size → A1 q → A0 q) (hf : ∀ q, free q → A0 q) (hAX : ∀ q, q < H.size → AX q → A0 q)
    (kx : ∀ (E : String) (ce : Cell) (q9 : Addr) (u : SX) (t : State) (H1 : Heap) (locs1 : List Loc), t.heap = H1 → s.vm.Alike t.vm → px u → BX E u t → H.size ≤ H1.size → (∀ q : Nat, q < H.size → ¬ AX q → H1[q]? = H[q]?) → va_S A0 H0 H1 locs1 → H1[q9]? = some ce → ce.vm = .none → s.vm.findClass E = some ce.cls → vx_W p l e R s m args below meth c H1 locs1 (cells + mc) (slots + ms) Q (F0 m pc ls rest) q9)
    (kk : ∀ (r : Int64) (u : S) (t : State) (H1 : Heap) (locs1 : List Loc), t.heap = H1 → s.vm.Alike t.vm → post r u → B u t → H.size ≤ H1.size → (∀ q : Nat, q < H.size → ¬ A1 q → H1[q]? = H[q]?) → va_S A0 H0 H1 locs1 → W p l e R s m args below meth c H1 locs1 (cells + mc) (slots + ms) Q (F0 m (pc + 3) ls (.long r :: rest))) : W p l e R s m args below meth c H locs cells slots Q (F0 m pc ls st0) := by
  intro T hT X
  rcases hr T hT X with ⟨v, st₀, t, T', L, h0, X', hL, e1, e2, ⟨⟨r, u, hv, hp, hb⟩, hF⟩, st⟩ | ⟨q, st₀, t, T', L, E, ce, h0, X', hL, e1, e2, ⟨u, hp, hb, hF⟩, hce, hcv, hcl, st⟩
  · cases hv
    obtain ⟨k1, k2, k3⟩ := vx_keep h0 e1 hS hA hf hL hF
    obtain ⟨t2, a1, b1⟩ := kk r u t T'.heap (locs ++ L) e1.symm (by rw [← e2]; exact X'.warmed.alike) hp hb k1 k2 k3 T' rfl X'
    exact ⟨t2, st t2 a1, b1⟩
  · obtain ⟨k1, k2, k3⟩ := vx_keep h0 e1 hS hAX hf hL hF
    obtain ⟨t2, a1, b1⟩ := kx E ce q u t T'.heap (locs ++ L) e1.symm (by rw [← e2]; exact X'.warmed.alike) hp hb k1 k2 k3 (by rw [e1]; exact hce) hcv hcl T' rfl X'
    exact ⟨t2, st.trans a1, b1⟩
theorem vx_callf {S SX : Type} {post : UInt32 → S → Prop} {px : SX → Prop} {B : S → State → Prop} {BX : String → SX → State → Prop} {AX : Nat → Prop} (hr : vx_Run p l e R s m args below meth c H locs cells slots mc ms (F0 m pc ls st0) rest (va_Qf post B A1 a) (vx_X px BX AX) free) (hS : va_S A0 H0 H locs) (hA : ∀ q, q < H.size → A1 q → A0 q) (hf : ∀ q, free q → A0 q) (hAX : ∀ q, q < H.size → AX q → A0 q)
    (kx : ∀ (E : String) (ce : Cell) (q9 : Addr) (u : SX) (t : State) (H1 : Heap) (locs1 : List Loc), t.heap = H1 → s.vm.Alike t.vm → px u → BX E u t → H.size ≤ H1.size → (∀ q : Nat, q < H.size → ¬ AX q → H1[q]? = H[q]?) → va_S A0 H0 H1 locs1 → H1[q9]? = some ce → ce.vm = .none → s.vm.findClass E = some ce.cls → vx_W p l e R s m args below meth c H1 locs1 (cells + mc) (slots + ms) Q (F0 m pc ls rest) q9)
    (kk : ∀ (r : UInt32) (u : S) (t : State) (H1 : Heap) (locs1 : List Loc), t.heap = H1 → s.vm.Alike t.vm → post r u → B u t → H.size ≤ H1.size → (∀ q : Nat, q < H.size → ¬ A1 q → H1[q]? = H[q]?) → va_S A0 H0 H1 locs1 → W p l e R s m args below meth c H1 locs1 (cells + mc) (slots + ms) Q (F0 m (pc + 3) ls (.float r :: rest))) : W p l e R s m args below meth c H locs cells slots Q (F0 m pc ls st0) := by
  intro T hT X
  rcases hr T hT X with ⟨v, st₀, t, T', L, h0, X', hL, e1, e2, ⟨⟨r, u, hv, hp, hb⟩, hF⟩, st⟩ | ⟨q, st₀, t, T', L, E, ce, h0, X', hL, e1, e2, ⟨u, hp, hb, hF⟩, hce, hcv, hcl, st⟩
  · cases hv
    obtain ⟨k1, k2, k3⟩ := vx_keep h0 e1 hS hA hf hL hF
    obtain ⟨t2, a1, b1⟩ := kk r u t T'.heap (locs ++ L) e1.symm (by rw [← e2]; exact X'.warmed.alike) hp hb k1 k2 k3 T' rfl X'
    exact ⟨t2, st t2 a1, b1⟩
  · obtain ⟨k1, k2, k3⟩ := vx_keep h0 e1 hS hAX hf hL hF
    obtain ⟨t2, a1, b1⟩ := kx E ce q u t T'.heap (locs ++ L) e1.symm (by rw [← e2]; exact X'.warmed.alike) hp hb k1 k2 k3 (by rw [e1]; exact hce) hcv hcl T' rfl X'
    exact ⟨t2, st.trans a1, b1⟩
theorem vx_calld {S SX : Type} {post : UInt64 → S → Prop} {px : SX → Prop} {B : S → State → Prop} {BX : String → SX → State → Prop} {AX : Nat → Prop} (hr : vx_Run p l e R s m args below meth c H locs cells slots mc ms (F0 m pc ls st0) rest (va_Qd post B A1 a) (vx_X px BX AX) free) (hS : va_S A0 H0 H locs) (hA : ∀ q, q < H.size → A1 q → A0 q) (hf : ∀ q, free q → A0 q) (hAX : ∀ q, q < H.size → AX q → A0 q)
    (kx : ∀ (E : String) (ce : Cell) (q9 : Addr) (u : SX) (t : State) (H1 : Heap) (locs1 : List Loc), t.heap = H1 → s.vm.Alike t.vm → px u → BX E u t → H.size ≤ H1.size → (∀ q : Nat, q < H.size → ¬ AX q → H1[q]? = H[q]?) → va_S A0 H0 H1 locs1 → H1[q9]? = some ce → ce.vm = .none → s.vm.findClass E = some ce.cls → vx_W p l e R s m args below meth c H1 locs1 (cells + mc) (slots + ms) Q (F0 m pc ls rest) q9)
    (kk : ∀ (r : UInt64) (u : S) (t : State) (H1 : Heap) (locs1 : List Loc), t.heap = H1 → s.vm.Alike t.vm → post r u → B u t → H.size ≤ H1.size → (∀ q : Nat, q < H.size → ¬ A1 q → H1[q]? = H[q]?) → va_S A0 H0 H1 locs1 → W p l e R s m args below meth c H1 locs1 (cells + mc) (slots + ms) Q (F0 m (pc + 3) ls (.double r :: rest))) : W p l e R s m args below meth c H locs cells slots Q (F0 m pc ls st0) := by
  intro T hT X
  rcases hr T hT X with ⟨v, st₀, t, T', L, h0, X', hL, e1, e2, ⟨⟨r, u, hv, hp, hb⟩, hF⟩, st⟩ | ⟨q, st₀, t, T', L, E, ce, h0, X', hL, e1, e2, ⟨u, hp, hb, hF⟩, hce, hcv, hcl, st⟩
  · cases hv
    obtain ⟨k1, k2, k3⟩ := vx_keep h0 e1 hS hA hf hL hF
    obtain ⟨t2, a1, b1⟩ := kk r u t T'.heap (locs ++ L) e1.symm (by rw [← e2]; exact X'.warmed.alike) hp hb k1 k2 k3 T' rfl X'
    exact ⟨t2, st t2 a1, b1⟩
  · obtain ⟨k1, k2, k3⟩ := vx_keep h0 e1 hS hAX hf hL hF
    obtain ⟨t2, a1, b1⟩ := kx E ce q u t T'.heap (locs ++ L) e1.symm (by rw [← e2]; exact X'.warmed.alike) hp hb k1 k2 k3 (by rw [e1]; exact hce) hcv hcl T' rfl X'
    exact ⟨t2, st.trans a1, b1⟩
theorem vx_callv {S SX : Type} {post : S → Prop} {px : SX → Prop} {B : S → State → Prop} {BX : String → SX → State → Prop} {AX : Nat → Prop} (hr : vx_Run p l e R s m args below meth c H locs cells slots mc ms (F0 m pc ls st0) rest (va_Qv post B A1 a) (vx_X px BX AX) free) (hS : va_S A0 H0 H locs) (hA : ∀ q, q < H.size → A1 q → A0 q) (hf : ∀ q, free q → A0 q) (hAX : ∀ q, q < H.size → AX q → A0 q)
    (kx : ∀ (E : String) (ce : Cell) (q9 : Addr) (u : SX) (t : State) (H1 : Heap) (locs1 : List Loc), t.heap = H1 → s.vm.Alike t.vm → px u → BX E u t → H.size ≤ H1.size → (∀ q : Nat, q < H.size → ¬ AX q → H1[q]? = H[q]?) → va_S A0 H0 H1 locs1 → H1[q9]? = some ce → ce.vm = .none → s.vm.findClass E = some ce.cls → vx_W p l e R s m args below meth c H1 locs1 (cells + mc) (slots + ms) Q (F0 m pc ls rest) q9)
    (kk : ∀ (u : S) (t : State) (H1 : Heap) (locs1 : List Loc), t.heap = H1 → s.vm.Alike t.vm → post u → B u t → H.size ≤ H1.size → (∀ q : Nat, q < H.size → ¬ A1 q → H1[q]? = H[q]?) → va_S A0 H0 H1 locs1 → W p l e R s m args below meth c H1 locs1 (cells + mc) (slots + ms) Q (F0 m (pc + 3) ls (rest))) : W p l e R s m args below meth c H locs cells slots Q (F0 m pc ls st0) := by
  intro T hT X
  rcases hr T hT X with ⟨v, st₀, t, T', L, h0, X', hL, e1, e2, ⟨⟨u, hv, hp, hb⟩, hF⟩, st⟩ | ⟨q, st₀, t, T', L, E, ce, h0, X', hL, e1, e2, ⟨u, hp, hb, hF⟩, hce, hcv, hcl, st⟩
  · cases hv
    obtain ⟨k1, k2, k3⟩ := vx_keep h0 e1 hS hA hf hL hF
    obtain ⟨t2, a1, b1⟩ := kk u t T'.heap (locs ++ L) e1.symm (by rw [← e2]; exact X'.warmed.alike) hp hb k1 k2 k3 T' rfl X'
    exact ⟨t2, st t2 a1, b1⟩
  · obtain ⟨k1, k2, k3⟩ := vx_keep h0 e1 hS hAX hf hL hF
    obtain ⟨t2, a1, b1⟩ := kx E ce q u t T'.heap (locs ++ L) e1.symm (by rw [← e2]; exact X'.warmed.alike) hp hb k1 k2 k3 (by rw [e1]; exact hce) hcv hcl T' rfl X'
    exact ⟨t2, st.trans a1, b1⟩
/-- caught by the row x of this method's table; the rows ahead don't take it -/
theorem vx_catch {own name : String} {E : String} {ce : Cell} {q : Addr} (hown : s.vm.findClass own = some m.cls) (pre : List ExceptionTableEntry) (x : ExceptionTableEntry) (suf : List ExceptionTableEntry) (hsplit : c.exceptionTable.toList = pre ++ x :: suf)
    (hpass : ∀ z ∈ pre, covers z pc = false ∨ (z.catchType ≠ 0 ∧ ∃ nm : String, (Cond.classLink own z.catchType nm).before args s = true ∧ va_Nc E nm s)) (hx : covers x pc = true) (h0 : x.catchType ≠ 0)
    (hlink : (Cond.classLink own x.catchType name).before args s = true) (hcast : (Cond.castable E name).before args s = true) (hcell : H[q]? = some ce) (hv : ce.vm = .none) (hcl : s.vm.findClass E = some ce.cls)
    (kk : W p l e R s m args below meth c H locs cells slots Q (F0 m x.handlerPc ls [.ref q])) : vx_W p l e R s m args below meth c H locs cells slots Q (F0 m pc ls rest) q := by
  intro T hT X
  have hpl : e.platform.magicAccessors = ({} : Platform).magicAccessors := by rw [X.admits.platform]
  obtain ⟨c3, c4, hc3, hc4, hasg⟩ := Cond.castable_spec hcast
  cases Option.some.inj (hc3.symm.trans hcl)
  obtain ⟨c5, hc5, hcl5⟩ := Cond.classLink_spec hown hlink e.platform hpl
  cases Option.some.inj (hc4.symm.trans hc5)
  obtain ⟨vm', X', st⟩ := X.thenCaughtThrough q (g := F0 m pc ls rest) rfl (Steps.refl _) (by rw [hT]; exact hcell) (by rw [hv]; rfl) (by obtain ⟨k9, h9, -⟩ := Vm.findClass_spec hcl; exact ⟨k9, h9⟩) pre x suf hsplit
    (fun z hz => by
      rcases hpass z hz with h | ⟨hz0, nm, hl1, hn1⟩
      · exact Or.inl h
      · obtain ⟨c6, hc6, hcl6⟩ := Cond.classLink_spec hown hl1 e.platform hpl
        obtain ⟨a8, b8, h1, h2, h3⟩ := hn1
        cases Option.some.inj (h1.symm.trans hcl)
        cases Option.some.inj (h2.symm.trans hc6)
        exact Or.inr ⟨hz0, _, hcl6, h3⟩) hx (Or.inr ⟨h0, c4, hcl5, hasg⟩)
  obtain ⟨t, a1, b1⟩ := kk (T.setVm vm') hT X'
  exact ⟨t, st.trans a1, b1⟩
end Rows
section Ends
variable {p : Program} {l : Launch} {e : Env} {R : Room} {s : State} {m : MethodId} {args : Array Value} {below : List Frame} {meth : Method} {c : Code} {H : Heap} {locs : List Loc} {cells slots : Nat} {Q : State → Prop}
variable {mc ms : Nat} {free : Addr → Prop} {A0 A1 : Nat → Prop} {H0 : Heap} {a : Array Value} {ls : Array Slot} {st0 rest : List Value}
variable {Qc : Array Value → State → Outcome → State → Prop} {XC : String → State → State → Prop}
/-- what a body that may throw owes at its end -/
def vx_MQ (below : List Frame) (Qc : Array Value → State → Outcome → State → Prop) (XC : String → State → State → Prop) (a : Array Value) (s : State) (mc ms : Nat) (free : Addr → Prop) : State → Prop := fun t =>
  ∃ o, t.status = .running ∧ Ended t below o ∧ vx_Q Qc XC mc ms free a s o t
theorem vx_ret {g : JFrame} {mc ms : Nat} (k : W p l e R s m args below meth c H locs cells slots (MQ below Qc args s mc ms free) g) : W p l e R s m args below meth c H locs cells slots (vx_MQ below Qc XC args s mc ms free) g := by
  intro T hT X
  obtain ⟨t, a1, o, b1, b2, b3, b4⟩ := k T hT X
  exact ⟨t, a1, o, b1, b2, Or.inl ⟨b3, b4⟩⟩
/-- not caught here: it goes on to the caller -/
theorem vx_widen {g : JFrame} {q : Addr} {k n : Nat} (h1 : cells ≤ k) (h2 : slots ≤ n) (kk : vx_W p l e R s m args below meth c H locs k n Q g q) : vx_W p l e R s m args below meth c H locs cells slots Q g q := fun T hT X => kk T hT (stand_widen X h1 h2)
theorem vx_out {pc : Nat} {E : String} {ce : Cell} {q : Addr} {mc ms : Nat} (hout : ∀ x ∈ c.exceptionTable.toList, covers x pc = false) (hlocks : meth.locks = false) (hcell : H[q]? = some ce) (hv : ce.vm = .none) (hcl : s.vm.findClass E = some ce.cls)
    (hx : ∀ t : State, t.heap = H → s.vm.Alike t.vm → XC E s t) (hf : ∀ z ∈ locs, free z.base) (hc : cells ≤ mc) (hs : slots ≤ ms) :
    vx_W p l e R s m args below meth c H locs cells slots (vx_MQ below Qc XC args s mc ms free) (F0 m pc ls rest) q := by
  intro T hT X
  obtain ⟨st1, hrun, hend, hW, hsm⟩ := X.leaveThrown q (g := F0 m pc ls rest) rfl rfl rfl hout hlocks
  have hcell9 : (T.setFrames (.throwing q :: below)).heap[q]? = some ce := by
    show T.heap[q]? = some ce
    rw [hT]; exact hcell
  exact ⟨_, st1, .threw q, hrun, hend, Or.inr ⟨q, rfl, E, ce, locs, hx _ hT hW.alike, hcell9, hv, hcl, hW, hsm.mono hc hs, hf⟩⟩
theorem vx_frame {U : State} {k n : Nat} (h : s.sameButNew ({ U with vm := s.vm } : State) locs k n) : s.heap.size ≤ U.heap.size ∧ ∀ q : Nat, q < s.heap.size → (∀ z ∈ locs, z.base ≠ q) → U.heap[q]? = s.heap[q]? := by
  obtain ⟨-, h2, -, -, -, h6⟩ := h
  refine ⟨h2, fun q hq hz => ?_⟩
  obtain ⟨c9, e1, e2, e3, e4⟩ := h6 q _ (Array.getElem?_eq_getElem hq)
  have hs : c9.slots = (s.heap[q]).slots := Array.ext_getElem? fun i => e4 i fun hm => hz _ hm rfl
  have h9 : c9 = s.heap[q] := by
    rw [hs] at e2
    exact e2
  have e5 : U.heap[q]? = some c9 := e1
  rw [e5, h9, Array.getElem?_eq_getElem hq]
/-- the words of a throw but the four that speak of the heap -/
def vx_no (w : Cond) : Bool := decide (w ≠ .isRef (.static Bundle.tN "UNASSIGNED_STACK" Bundle.steD)) && decide (w ≠ .isRef (.static Bundle.tN "SUPPRESSED_SENTINEL" Bundle.listD)) && decide (w ≠ .laysStatic Bundle.tN "UNASSIGNED_STACK" Bundle.steD) && decide (w ≠ .laysStatic Bundle.tN "SUPPRESSED_SENTINEL" Bundle.listD)
def vx_at0 (own : String) (ic : Nat) (X : String) (names : List String) : List Cond := (Bundle.ownAtoms0 own ic X names).filter vx_no
def vx_atS (own : String) (ic : Nat) (X : String) (names : List String) : List Cond := (Bundle.ownAtoms own ic X names).filter vx_no
/-- a word that the tables alone decide, or a good one -/
def vx_ot (w : Cond) : Bool := w.onTables || goodWord w
theorem vx_ot_at {args a' : Array Value} {s U : State} {w : Cond} (hW : s.WarmedH U.vm) (hvm : s.vm = U.vm) (hg : vx_ot w = true) (h : w.before args s = true) : w.before a' U = true := by
  simp only [vx_ot, Bool.or_eq_true] at hg
  rcases hg with hg | hg
  · exact va_tabs hg hvm h
  · exact word_at hW (good_of_word hg) h
/-- a list's words: the good ones out of the method's own list, the others by premises of their own -/
theorem vx_hat {args : Array Value} {s : State} {L B : List Cond} (h1 : ∀ w ∈ L.filter goodWord, w.before args s = true) (h2 : ∀ w ∈ L.filter (fun w => !goodWord w), w ∈ B) (h3 : ∀ w ∈ B, w.before args s = true) : ∀ w ∈ L, w.before args s = true := by
  intro w hw
  by_cases g : goodWord w = true
  · exact h1 w (List.mem_filter.mpr ⟨hw, g⟩)
  · refine h3 w (h2 w (List.mem_filter.mpr ⟨hw, ?_⟩))
    show (!goodWord w) = true
    cases hgw : goodWord w
    · rfl
    · exact absurd hgw g
theorem vx_c {args : Array Value} {s : State} {w : Cond} {B : List Cond} (h : w.before args s = true) (t : ∀ w ∈ B, w.before args s = true) : ∀ w' ∈ w :: B, w'.before args s = true := fun w' h' => (List.mem_cons.mp h').elim (fun e => by rw [e]; exact h) (t w')
theorem vx_n {args : Array Value} {s : State} : ∀ w ∈ ([] : List Cond), w.before args s = true := fun _ h => nomatch h
theorem vx_own {args : Array Value} {s : State} {L : List Cond} (h1 : ∀ w ∈ L.filter vx_no, w.before args s = true)
    (hU : (Cond.isRef (.static Bundle.tN "UNASSIGNED_STACK" Bundle.steD)).before args s = true) (hN : (Cond.isRef (.static Bundle.tN "SUPPRESSED_SENTINEL" Bundle.listD)).before args s = true)
    (lU : (Cond.laysStatic Bundle.tN "UNASSIGNED_STACK" Bundle.steD).before args s = true) (lN : (Cond.laysStatic Bundle.tN "SUPPRESSED_SENTINEL" Bundle.listD).before args s = true) : ∀ w ∈ L, w.before args s = true := by
  intro w hw
  by_cases e1 : w = .isRef (.static Bundle.tN "UNASSIGNED_STACK" Bundle.steD)
  · rw [e1]; exact hU
  · by_cases e2 : w = .isRef (.static Bundle.tN "SUPPRESSED_SENTINEL" Bundle.listD)
    · rw [e2]; exact hN
    · by_cases e3 : w = .laysStatic Bundle.tN "UNASSIGNED_STACK" Bundle.steD
      · rw [e3]; exact lU
      · by_cases e4 : w = .laysStatic Bundle.tN "SUPPRESSED_SENTINEL" Bundle.listD
        · rw [e4]; exact lN
        · exact h1 w (List.mem_filter.mpr ⟨hw, by unfold vx_no; rw [decide_eq_true e1, decide_eq_true e2, decide_eq_true e3, decide_eq_true e4]; rfl⟩)
/-- where a static field lies, its class's statics cell in H -/
def vx_L (C n d : String) (A : Nat → Prop) (U : State) (H : Heap) : Prop := ∃ (c : ClassId) (k : Class) (i : Nat) (f : Field) (a : Nat) (cell : Cell), U.vm.findClass C = some c ∧ U.fieldFound? C n d = some (c, k, i, f) ∧ f.isStatic = true ∧ k.statics = some a ∧ H[a]? = some cell ∧ cell.vm.isStatics = true ∧ cell.cls = c ∧ f.slot < cell.slots.size ∧ k.staticTypes[f.slot]? = some f.type ∧ ¬ A a
theorem vx_L.moved {C n d : String} {A : Nat → Prop} {u U : State} {H : Heap} (hvm : u.vm.Alike U.vm) (h : vx_L C n d A u H) : vx_L C n d A U H := by
  obtain ⟨c, k, i, f, a, cell, h1, h2, h3, h4, h5, h6, h7, h8, h9, h10⟩ := h
  obtain ⟨k', hi', he⟩ := State.fieldFound?_setVm hvm h2
  exact ⟨c, k', i, f, a, cell, by rw [hvm.findClass]; exact h1, hi', h3, by rw [he]; exact h4, h5, h6, h7, h8, by rw [he]; exact h9, h10⟩
theorem vx_L.kept {C n d : String} {A : Nat → Prop} {U : State} {H H1 : Heap} (h : vx_L C n d A U H) (hq : ∀ a : Nat, a < H.size → ¬ A a → H1[a]? = H[a]?) : vx_L C n d A U H1 := by
  obtain ⟨c, k, i, f, a, cell, h1, h2, h3, h4, h5, h6, h7, h8, h9, h10⟩ := h
  exact ⟨c, k, i, f, a, cell, h1, h2, h3, h4, by rw [hq a (Array.getElem?_eq_some_iff.mp h5).1 h10]; exact h5, h6, h7, h8, h9, h10⟩
theorem vx_L.narrow {C n d : String} {A B : Nat → Prop} {U : State} {H : Heap} (h : vx_L C n d A U H) (hAB : ∀ q, B q → A q) : vx_L C n d B U H := by
  obtain ⟨c, k, i, f, a, cell, h1, h2, h3, h4, h5, h6, h7, h8, h9, h10⟩ := h
  exact ⟨c, k, i, f, a, cell, h1, h2, h3, h4, h5, h6, h7, h8, h9, fun z => h10 (hAB _ z)⟩
theorem vx_L.word {C n d : String} {A : Nat → Prop} {s : State} {args : Array Value} (h : vx_L C n d A s s.heap) : (Cond.laysStatic C n d).before args s = true := by
  obtain ⟨c, k, i, f, a, cell, h1, h2, h3, h4, h5, h6, h7, h8, h9, -⟩ := h
  show (Cond.laysStatic C n d).holds args s none s [] = true
  exact Cond.laysStatic_of h1 h2 h3 h4 h5 h6 h7 h8 h9
/-- .. and what it holds: null or some reference -/
def vx_Zq (C n d : String) (A : Nat → Prop) (U : State) (H : Heap) : Prop := va_Zq C n d A U H ∧ vx_L C n d A U H
theorem vx_Zq.moved {C n d : String} {A : Nat → Prop} {u U : State} {H : Heap} (hvm : u.vm.Alike U.vm) (h : vx_Zq C n d A u H) : vx_Zq C n d A U H := ⟨va_Zq.moved hvm h.1, vx_L.moved hvm h.2⟩
theorem vx_Zq.kept {C n d : String} {A : Nat → Prop} {U : State} {H H1 : Heap} (h : vx_Zq C n d A U H) (hq : ∀ a : Nat, a < H.size → ¬ A a → H1[a]? = H[a]?) : vx_Zq C n d A U H1 := ⟨va_Zq.kept h.1 hq, vx_L.kept h.2 hq⟩
theorem vx_Zq.narrow {C n d : String} {A B : Nat → Prop} {U : State} {H : Heap} (h : vx_Zq C n d A U H) (hAB : ∀ q, B q → A q) : vx_Zq C n d B U H := ⟨va_Zq.narrow h.1 hAB, vx_L.narrow h.2 hAB⟩
theorem vx_Zqof {args : Array Value} {s : State} {C n d : String} {A : Nat → Prop} (hl : (Cond.laysStatic C n d).before args s = true) (hini : (Cond.initialized C).before args s = true) (h : (Cond.isRef (.static C n d)).before args s = true) (hA : ∀ a : Nat, a < s.heap.size → ¬ A a) : vx_Zq C n d A s s.heap := by
  refine ⟨va_Zqof hl hini h hA, ?_⟩
  obtain ⟨c, k, i, f, a, cell, h1, h2, h3, h4, h5, h6, h7, h8, h9⟩ := Cond.laysStatic_spec hl
  exact ⟨c, k, i, f, a, cell, h1, h2, h3, h4, h5, h6, h7, h8, h9, hA a (Array.getElem?_eq_some_iff.mp h5).1⟩
theorem vx_isRef {C n d : String} {v : Value} {A : Nat → Prop} {s : State} {args : Array Value} (h : va_Z C n d v A s s.heap) (hv : v.isRef = true) : (Cond.isRef (.static C n d)).before args s = true := by
  obtain ⟨cf, kf, fi, f, a, cell, h1, h2, h3, h4, h5, h6, h7, -⟩ := h
  have he : (Term.static C n d).eval args s none [] s = some v := by
    simp [Term.eval, State.fieldNamed?, h1, h2, h4, h5, h6, h7]
  simp only [Cond.before, Cond.holds, Cond.value, he]
  cases v <;> simp_all [Value.isRef]
theorem vx_isRefq {C n d : String} {A : Nat → Prop} {s : State} {args : Array Value} (h : va_Zq C n d A s s.heap) : (Cond.isRef (.static C n d)).before args s = true := by
  rcases h with h | ⟨t, h⟩
  · exact vx_isRef h rfl
  · exact vx_isRef h rfl
/-- the same frame, seen from here: as if the method were called anew in this heap -/
theorem vx_rebase {T : State} (X : Stand p l e R s m args below meth c T locs cells slots) {R' : Room} (hf : R'.frames ≤ R.frames) (hl : R'.locals ≤ R.locals) (hc : cells + R'.cells ≤ R.cells) (hs : slots + R'.slots ≤ R.slots) :
    Stand p l e R' ((T.setVm s.vm).setFrames (.invoking m args :: below)) m args below meth c T [] 0 0 := by
  have htop : (T.setVm s.vm).topJava?.isSome := X.here.top
  have hF : ((T.setVm s.vm).setFrames (.invoking m args :: below)).frames = .invoking m args :: below := State.frames_setFrames _ (State.cur_lt_of_top htop)
  obtain ⟨g₀, hg0⟩ := Option.isSome_iff_exists.mp htop
  obtain ⟨r, hr⟩ := State.topJava?_eq_some.mp hg0
  have hl9 : e.platform.stackLimits (T.setVm s.vm).me = e.platform.stackLimits s.me := X.limits
  have hb9 : (T.setVm s.vm).me.stackBytes = s.me.stackBytes := X.bytes
  refine ⟨X.admits, X.cas, X.clock, hF, ?_, X.hears, X.method, X.code, X.here, X.tail, X.warmed, ?_, ?_, ?_⟩
  · have h := X.room
    have hU : ((T.setVm s.vm).setFrames (.invoking m args :: below)).localsInUse = s.localsInUse := by
      rw [State.localsInUse_invoking hF (meth := meth) (c := c) X.method X.code, State.localsInUse_invoking X.frames X.method X.code]
    simp only [State.hasRoom, Bool.and_eq_true, decide_eq_true_eq] at h ⊢
    obtain ⟨⟨⟨⟨h1, h2, h3, h4, h5, h6⟩, h7⟩, h8⟩, h9⟩ := h
    rw [X.frames, List.length_cons] at h2 h3
    have q1 := X.heapSize
    have q2 := X.used
    simp only [hF, hU, List.length_cons, State.stackLimits_setFrames, State.stackBytes_setFrames, hl9, hb9]
    refine ⟨⟨⟨⟨by omega, by omega, by omega, by omega, by omega, h6⟩, ?_⟩, ?_⟩, X.book⟩
    · show T.heap.size + R'.cells ≤ e.platform.maxCells
      omega
    · show T.slotsUsed + R'.slots ≤ e.platform.maxSlots
      omega
  · rw [State.stackLimits_setFrames]; rfl
  · rw [State.stackBytes_setFrames]; rfl
  · refine ⟨?_, Nat.le_refl _, Nat.le_refl _, ?_, ?_, fun a c9 h9 => ⟨c9, h9, rfl, rfl, fun _ _ => rfl⟩⟩
    · obtain ⟨t, ht, -⟩ := State.frames_cons hr
      show T.setVm s.vm = { ((T.setVm s.vm).setFrames (.invoking m args :: below)).setFrames (T.setVm s.vm).frames with heap := T.heap, slotsUsed := T.slotsUsed }
      rw [State.setFrames_setFrames, State.setFrames_self ht]
      rfl
    · show T.slotsUsed = T.slotsUsed + ((T.heap.toList.drop T.heap.size).map (·.slots.size)).sum
      rw [List.drop_eq_nil_of_le (Nat.le_of_eq Array.length_toList)]
      rfl
    · show ((T.heap.toList.drop T.heap.size).map (·.slots.size)).sum ≤ 0
      rw [List.drop_eq_nil_of_le (Nat.le_of_eq Array.length_toList)]
      exact Nat.le_refl _
/-- 'throw new E()': new; dup; invokespecial; athrow -/
theorem vx_throw0 {cc : ByteArray} {pc : Nat} (hexec : p.tables.exec = Jvm.exec) (hb : c.code = cc) (hl : l.stackTraces = false) {own cls : String} {names : List String} {ik ic mc ms : Nat} {A : Nat → Prop}
    (hown : s.vm.findClass own = some m.cls) (hcls : Bundle.fit cls = true) (hnames : ∀ n ∈ names, Bundle.fit n = true)
    (hk : (Cond.classLink own ik cls).before args s = true) (hini : (Cond.initialized cls).before args s = true) (hat : ∀ w ∈ vx_at0 own ic cls names, w.before args s = true)
    (hgood : ∀ w ∈ Cond.classLink own ik cls :: Cond.initialized cls :: vx_at0 own ic cls names, vx_ot w = true)
    (hU : vx_Zq Bundle.tN "UNASSIGNED_STACK" Bundle.steD A s s.heap) (hN : vx_Zq Bundle.tN "SUPPRESSED_SENTINEL" Bundle.listD A s s.heap) (hS : va_S A s.heap H locs) (hsize : ls.size = c.maxLocals)
    (d0 : decode cc pc = .ok (.new ik, 3)) (d3 : decode cc (pc + 3) = .ok (.dup, 1)) (d4 : decode cc (pc + 4) = .ok (.invokespecial ic, 3)) (d7 : decode cc (pc + 7) = .ok (.athrow, 1))
    (hout : ∀ x ∈ c.exceptionTable.toList, covers x (pc + 7) = false)
    (hRframes : names.length + 3 < R.frames) (hRlocals : (rest.map fun v => v.category).sum + (13 * (names.length + 1) + 42) ≤ R.locals) (hRcells : cells + 1 ≤ R.cells) (hRslots : slots + 6 ≤ R.slots) (hlocks : meth.locks = false)
    (hx : ∀ t : State, s.vm.Alike t.vm → H.size ≤ t.heap.size → (∀ q : Nat, q < H.size → t.heap[q]? = H[q]?) → XC cls s t)
    (hf : ∀ z ∈ locs, free z.base) (hc : cells + 1 ≤ mc) (hs : slots + 6 ≤ ms) :
    W p l e R s m args below meth c H locs cells slots (vx_MQ below Qc XC args s mc ms free) (F0 m pc ls rest) := by
  intro T hT X
  have htr : e.platform.stackTraces = false := (show e.platform.stackTraces = l.stackTraces by rw [X.admits.platform]).trans hl
  have Y := vx_rebase X (R' := { frames := R.frames, locals := R.locals, cells := 1, slots := 6 }) (Nat.le_refl _) (Nat.le_refl _) hRcells hRslots
  obtain ⟨s', hA⟩ : ∃ z, z = (T.setVm s.vm).setFrames (.invoking m args :: below) := ⟨_, rfl⟩
  rw [← hA] at Y
  have hvm : s'.vm = s.vm := by rw [hA]; rfl
  have hhp : s'.heap = H := by rw [hA]; exact hT
  have hW0 : s.WarmedH s'.vm := by rw [hvm]; exact State.WarmedH.refl s
  have hat' : ∀ w ∈ vx_at0 own ic cls names, w.before args s' = true := fun w hw => vx_ot_at hW0 hvm.symm (hgood w (List.mem_cons_of_mem _ (List.mem_cons_of_mem _ hw))) (hat w hw)
  have hk' : (Cond.classLink own ik cls).before args s' = true := vx_ot_at hW0 hvm.symm (hgood _ List.mem_cons_self) hk
  have hini' : (Cond.initialized cls).before args s' = true := vx_ot_at hW0 hvm.symm (hgood _ (List.mem_cons_of_mem _ List.mem_cons_self)) hini
  have hU' : vx_Zq Bundle.tN "UNASSIGNED_STACK" Bundle.steD A s' s'.heap := by rw [hhp]; exact vx_Zq.moved hW0.alike (hU.kept hS.2.1)
  have hN' : vx_Zq Bundle.tN "SUPPRESSED_SENTINEL" Bundle.listD A s' s'.heap := by rw [hhp]; exact vx_Zq.moved hW0.alike (hN.kept hS.2.1)
  have h : ∀ w ∈ Bundle.ownAtoms0 own ic cls names, w.before args s' = true := vx_own hat' (vx_isRefq hU'.1) (vx_isRefq hN'.1) hU'.2.word hN'.2.word
  have hown' : s'.vm.findClass own = some m.cls := by rw [hvm]; exact hown
  have hins : (Cond.instantiable cls 6).before args s' = true := h _ (by simp [Bundle.ownAtoms0])
  obtain ⟨vm₁, cX, kX, hfX, hkX, -, -, X₁, st1⟩ := Y.newCold hexec (own := own) (C := cls) (index := ik) (n := 6) hown' hk' hins hini'
    (g := F0 m pc ls rest) rfl (by rw [hb]; exact d0) (Nat.le_refl _) (Nat.le_refl _)
  generalize hT1 : (T.setVm vm₁).pushCell { cls := cX, slots := kX.instanceTypes.map defaultValue, vm := .none } = T1 at X₁ st1
  have hcat : (Value.ref T.heap.size).category = 1 := rfl
  have hcellA : T1.heap[T.heap.size]? = some (freshCell cX kX) := by rw [← hT1]; exact State.heap_pushCell_size _ _
  have d3' : decode c.code (pc + 3) = .ok (.dup, 1) := by rw [hb]; exact d3
  obtain ⟨U, hsteps, hrun, hend, hW, hsame, ce, hce, hO⟩ := X₁.ctorThrow0 hexec htr (own := own) (cls := cls) (names := names) (ic := ic) hown' hcls hnames h (fun x hx => nomatch hx) hfX hkX hcellA (by rw [hhp, hT]; exact Nat.le_refl _)
    (g := { method := m, pc := pc + 4, locals := ls, stack := .ref T.heap.size :: .ref T.heap.size :: rest, locked := none }) rfl hsize rfl rfl (rest := rest) rfl
    (by rw [hb]; exact d4) (by rw [hb]; exact d7) hout hRframes (by simp only [List.map_cons, List.sum_cons, hcat]; omega) hlocks
  obtain ⟨f1, f2⟩ := vx_frame hsame
  rw [hhp] at f1 f2
  have hWs : s.WarmedH U.vm := State.WarmedH.trans hW0 hW
  have hcl : s.vm.findClass cls = some ce.cls := by
    have h9 := hO.cls
    rw [hvm] at h9
    exact h9
  have hall : s.sameButNew ({ U with vm := s.vm } : State) locs mc ms := by
    subst hA
    obtain ⟨e1, e2⟩ := hsame
    rw [State.setFrames_setFrames] at e1
    have h2 : (T.setVm s.vm).sameButNew ({ U with vm := s.vm } : State) [] (0 + 1) (0 + 6) := ⟨e1, e2⟩
    have h3 := X.same.trans h2
    rw [List.append_nil] at h3
    exact h3.mono hc hs
  refine ⟨U, ?_, .threw T.heap.size, hrun, hend, Or.inr ⟨T.heap.size, rfl, cls, ce, locs, hx U hWs.alike f1 (fun q hq => f2 q hq (fun z hz => nomatch hz)), hce, hO.vm, hcl, hWs, hall, hf⟩⟩
  refine st1 _ ?_
  show Steps p.tables e below (T1.setTop { method := m, pc := pc + 3, locals := ls, stack := .ref T.heap.size :: rest, locked := none }) _
  jvm_step X₁.here [X₁.here.top, hexec, d3', Value.category]
  exact hsteps
/-- 'throw new E("text")': new; dup; ldc; invokespecial; athrow -/
theorem vx_throwS {cc : ByteArray} {pc : Nat} (hexec : p.tables.exec = Jvm.exec) (hb : c.code = cc) (hl : l.stackTraces = false) {own cls text : String} {names : List String} {ik is ic mc ms sa : Nat} {A : Nat → Prop}
    (hown : s.vm.findClass own = some m.cls) (hcls : Bundle.fit cls = true) (hnames : ∀ n ∈ names, Bundle.fit n = true)
    (hk : (Cond.classLink own ik cls).before args s = true) (hini : (Cond.initialized cls).before args s = true) (hstr : vk_R own is text sa s) (hat : ∀ w ∈ vx_atS own ic cls names, w.before args s = true)
    (hgood : ∀ w ∈ Cond.classLink own ik cls :: Cond.initialized cls :: vx_atS own ic cls names, vx_ot w = true)
    (hU : vx_Zq Bundle.tN "UNASSIGNED_STACK" Bundle.steD A s s.heap) (hN : vx_Zq Bundle.tN "SUPPRESSED_SENTINEL" Bundle.listD A s s.heap) (hS : va_S A s.heap H locs) (hsize : ls.size = c.maxLocals)
    (d0 : decode cc pc = .ok (.new ik, 3)) (d3 : decode cc (pc + 3) = .ok (.dup, 1)) (d4 : decode cc (pc + 4) = .ok (.ldc is, 2)) (d6 : decode cc (pc + 6) = .ok (.invokespecial ic, 3)) (d9 : decode cc (pc + 9) = .ok (.athrow, 1))
    (hout : ∀ x ∈ c.exceptionTable.toList, covers x (pc + 9) = false)
    (hRframes : names.length + 3 < R.frames) (hRlocals : (rest.map fun v => v.category).sum + (13 * (names.length + 1) + 43) ≤ R.locals) (hRcells : cells + 1 ≤ R.cells) (hRslots : slots + 6 ≤ R.slots) (hlocks : meth.locks = false)
    (hx : ∀ t : State, s.vm.Alike t.vm → H.size ≤ t.heap.size → (∀ q : Nat, q < H.size → t.heap[q]? = H[q]?) → XC cls s t)
    (hf : ∀ z ∈ locs, free z.base) (hc : cells + 1 ≤ mc) (hs : slots + 6 ≤ ms) :
    W p l e R s m args below meth c H locs cells slots (vx_MQ below Qc XC args s mc ms free) (F0 m pc ls rest) := by
  intro T hT X
  have htr : e.platform.stackTraces = false := (show e.platform.stackTraces = l.stackTraces by rw [X.admits.platform]).trans hl
  have Y := vx_rebase X (R' := { frames := R.frames, locals := R.locals, cells := 1, slots := 6 }) (Nat.le_refl _) (Nat.le_refl _) hRcells hRslots
  obtain ⟨s', hA⟩ : ∃ z, z = (T.setVm s.vm).setFrames (.invoking m args :: below) := ⟨_, rfl⟩
  rw [← hA] at Y
  have hvm : s'.vm = s.vm := by rw [hA]; rfl
  have hhp : s'.heap = H := by rw [hA]; exact hT
  have hW0 : s.WarmedH s'.vm := by rw [hvm]; exact State.WarmedH.refl s
  have hat' : ∀ w ∈ vx_atS own ic cls names, w.before args s' = true := fun w hw => vx_ot_at hW0 hvm.symm (hgood w (List.mem_cons_of_mem _ (List.mem_cons_of_mem _ hw))) (hat w hw)
  have hk' : (Cond.classLink own ik cls).before args s' = true := vx_ot_at hW0 hvm.symm (hgood _ List.mem_cons_self) hk
  have hini' : (Cond.initialized cls).before args s' = true := vx_ot_at hW0 hvm.symm (hgood _ (List.mem_cons_of_mem _ List.mem_cons_self)) hini
  have hU' : vx_Zq Bundle.tN "UNASSIGNED_STACK" Bundle.steD A s' s'.heap := by rw [hhp]; exact vx_Zq.moved hW0.alike (hU.kept hS.2.1)
  have hN' : vx_Zq Bundle.tN "SUPPRESSED_SENTINEL" Bundle.listD A s' s'.heap := by rw [hhp]; exact vx_Zq.moved hW0.alike (hN.kept hS.2.1)
  have h : ∀ w ∈ Bundle.ownAtoms own ic cls names, w.before args s' = true := vx_own hat' (vx_isRefq hU'.1) (vx_isRefq hN'.1) hU'.2.word hN'.2.word
  have hown' : s'.vm.findClass own = some m.cls := by rw [hvm]; exact hown
  have hins : (Cond.instantiable cls 6).before args s' = true := h _ (by simp [Bundle.ownAtoms])
  obtain ⟨vm₁, cX, kX, hfX, hkX, -, -, X₁, st1⟩ := Y.newCold hexec (own := own) (C := cls) (index := ik) (n := 6) hown' hk' hins hini'
    (g := F0 m pc ls rest) rfl (by rw [hb]; exact d0) (Nat.le_refl _) (Nat.le_refl _)
  generalize hT1 : (T.setVm vm₁).pushCell { cls := cX, slots := kX.instanceTypes.map defaultValue, vm := .none } = T1 at X₁ st1
  have hcat : (Value.ref T.heap.size).category = 1 := rfl
  have hcellA : T1.heap[T.heap.size]? = some (freshCell cX kX) := by rw [← hT1]; exact State.heap_pushCell_size _ _
  have d3' : decode c.code (pc + 3) = .ok (.dup, 1) := by rw [hb]; exact d3
  have d4' : decode c.code (pc + 4) = .ok (.ldc is, 2) := by rw [hb]; exact d4
  have hstr' : vk_R own is text sa s' := vk_R.warm hW0 hstr
  obtain ⟨U, hsteps, hrun, hend, hW, hsame, ce, hce, hO⟩ := X₁.ctorThrowS hexec htr (own := own) (cls := cls) (names := names) (ic := ic) hown' hcls hnames h (fun x hx => nomatch hx) hfX hkX hcellA (by rw [hhp, hT]; exact Nat.le_refl _) (msg := .ref sa) rfl
    (g := { method := m, pc := pc + 6, locals := ls, stack := .ref sa :: .ref T.heap.size :: .ref T.heap.size :: rest, locked := none }) rfl hsize rfl rfl (rest := rest) rfl
    (by rw [hb]; exact d6) (by rw [hb]; exact d9) hout hRframes (by simp only [List.map_cons, List.sum_cons, hcat]; omega) hlocks
  obtain ⟨f1, f2⟩ := vx_frame hsame
  rw [hhp] at f1 f2
  have hWs : s.WarmedH U.vm := State.WarmedH.trans hW0 hW
  have hcl : s.vm.findClass cls = some ce.cls := by
    have h9 := hO.cls
    rw [hvm] at h9
    exact h9
  have hall : s.sameButNew ({ U with vm := s.vm } : State) locs mc ms := by
    subst hA
    obtain ⟨e1, e2⟩ := hsame
    rw [State.setFrames_setFrames] at e1
    have h2 : (T.setVm s.vm).sameButNew ({ U with vm := s.vm } : State) [] (0 + 1) (0 + 6) := ⟨e1, e2⟩
    have h3 := X.same.trans h2
    rw [List.append_nil] at h3
    exact h3.mono hc hs
  refine ⟨U, ?_, .threw T.heap.size, hrun, hend, Or.inr ⟨T.heap.size, rfl, cls, ce, locs, hx U hWs.alike f1 (fun q hq => f2 q hq (fun z hz => nomatch hz)), hce, hO.vm, hcl, hWs, hall, hf⟩⟩
  refine st1 _ ?_
  show Steps p.tables e below (T1.setTop { method := m, pc := pc + 3, locals := ls, stack := .ref T.heap.size :: rest, locked := none }) _
  jvm_step X₁.here [X₁.here.top, hexec, d3', Value.category]
  exact X₁.ldcString hexec (own := own) (text := text) (index := is) (a := sa) hown' hstr'.1 hstr'.2
    (g := { method := m, pc := pc + 4, locals := ls, stack := .ref T.heap.size :: .ref T.heap.size :: rest, locked := none }) rfl d4' _ hsteps
/-- 'throw new E("text")', the text by a wide index -/
theorem vx_throwSW {cc : ByteArray} {pc : Nat} (hexec : p.tables.exec = Jvm.exec) (hb : c.code = cc) (hl : l.stackTraces = false) {own cls text : String} {names : List String} {ik is ic mc ms sa : Nat} {A : Nat → Prop}
    (hown : s.vm.findClass own = some m.cls) (hcls : Bundle.fit cls = true) (hnames : ∀ n ∈ names, Bundle.fit n = true)
    (hk : (Cond.classLink own ik cls).before args s = true) (hini : (Cond.initialized cls).before args s = true) (hstr : vk_R own is text sa s) (hat : ∀ w ∈ vx_atS own ic cls names, w.before args s = true)
    (hgood : ∀ w ∈ Cond.classLink own ik cls :: Cond.initialized cls :: vx_atS own ic cls names, vx_ot w = true)
    (hU : vx_Zq Bundle.tN "UNASSIGNED_STACK" Bundle.steD A s s.heap) (hN : vx_Zq Bundle.tN "SUPPRESSED_SENTINEL" Bundle.listD A s s.heap) (hS : va_S A s.heap H locs) (hsize : ls.size = c.maxLocals)
    (d0 : decode cc pc = .ok (.new ik, 3)) (d3 : decode cc (pc + 3) = .ok (.dup, 1)) (d4 : decode cc (pc + 4) = .ok (.ldc_w is, 3)) (d7 : decode cc (pc + 7) = .ok (.invokespecial ic, 3)) (d10 : decode cc (pc + 10) = .ok (.athrow, 1))
    (hout : ∀ x ∈ c.exceptionTable.toList, covers x (pc + 10) = false)
    (hRframes : names.length + 3 < R.frames) (hRlocals : (rest.map fun v => v.category).sum + (13 * (names.length + 1) + 43) ≤ R.locals) (hRcells : cells + 1 ≤ R.cells) (hRslots : slots + 6 ≤ R.slots) (hlocks : meth.locks = false)
    (hx : ∀ t : State, s.vm.Alike t.vm → H.size ≤ t.heap.size → (∀ q : Nat, q < H.size → t.heap[q]? = H[q]?) → XC cls s t)
    (hf : ∀ z ∈ locs, free z.base) (hc : cells + 1 ≤ mc) (hs : slots + 6 ≤ ms) :
    W p l e R s m args below meth c H locs cells slots (vx_MQ below Qc XC args s mc ms free) (F0 m pc ls rest) := by
  intro T hT X
  have htr : e.platform.stackTraces = false := (show e.platform.stackTraces = l.stackTraces by rw [X.admits.platform]).trans hl
  have Y := vx_rebase X (R' := { frames := R.frames, locals := R.locals, cells := 1, slots := 6 }) (Nat.le_refl _) (Nat.le_refl _) hRcells hRslots
  obtain ⟨s', hA⟩ : ∃ z, z = (T.setVm s.vm).setFrames (.invoking m args :: below) := ⟨_, rfl⟩
  rw [← hA] at Y
  have hvm : s'.vm = s.vm := by rw [hA]; rfl
  have hhp : s'.heap = H := by rw [hA]; exact hT
  have hW0 : s.WarmedH s'.vm := by rw [hvm]; exact State.WarmedH.refl s
  have hat' : ∀ w ∈ vx_atS own ic cls names, w.before args s' = true := fun w hw => vx_ot_at hW0 hvm.symm (hgood w (List.mem_cons_of_mem _ (List.mem_cons_of_mem _ hw))) (hat w hw)
  have hk' : (Cond.classLink own ik cls).before args s' = true := vx_ot_at hW0 hvm.symm (hgood _ List.mem_cons_self) hk
  have hini' : (Cond.initialized cls).before args s' = true := vx_ot_at hW0 hvm.symm (hgood _ (List.mem_cons_of_mem _ List.mem_cons_self)) hini
  have hU' : vx_Zq Bundle.tN "UNASSIGNED_STACK" Bundle.steD A s' s'.heap := by rw [hhp]; exact vx_Zq.moved hW0.alike (hU.kept hS.2.1)
  have hN' : vx_Zq Bundle.tN "SUPPRESSED_SENTINEL" Bundle.listD A s' s'.heap := by rw [hhp]; exact vx_Zq.moved hW0.alike (hN.kept hS.2.1)
  have h : ∀ w ∈ Bundle.ownAtoms own ic cls names, w.before args s' = true := vx_own hat' (vx_isRefq hU'.1) (vx_isRefq hN'.1) hU'.2.word hN'.2.word
  have hown' : s'.vm.findClass own = some m.cls := by rw [hvm]; exact hown
  have hins : (Cond.instantiable cls 6).before args s' = true := h _ (by simp [Bundle.ownAtoms])
  obtain ⟨vm₁, cX, kX, hfX, hkX, -, -, X₁, st1⟩ := Y.newCold hexec (own := own) (C := cls) (index := ik) (n := 6) hown' hk' hins hini'
    (g := F0 m pc ls rest) rfl (by rw [hb]; exact d0) (Nat.le_refl _) (Nat.le_refl _)
  generalize hT1 : (T.setVm vm₁).pushCell { cls := cX, slots := kX.instanceTypes.map defaultValue, vm := .none } = T1 at X₁ st1
  have hcat : (Value.ref T.heap.size).category = 1 := rfl
  have hcellA : T1.heap[T.heap.size]? = some (freshCell cX kX) := by rw [← hT1]; exact State.heap_pushCell_size _ _
  have d3' : decode c.code (pc + 3) = .ok (.dup, 1) := by rw [hb]; exact d3
  have d4' : decode c.code (pc + 4) = .ok (.ldc_w is, 3) := by rw [hb]; exact d4
  have hstr' : vk_R own is text sa s' := vk_R.warm hW0 hstr
  obtain ⟨U, hsteps, hrun, hend, hW, hsame, ce, hce, hO⟩ := X₁.ctorThrowS hexec htr (own := own) (cls := cls) (names := names) (ic := ic) hown' hcls hnames h (fun x hx => nomatch hx) hfX hkX hcellA (by rw [hhp, hT]; exact Nat.le_refl _) (msg := .ref sa) rfl
    (g := { method := m, pc := pc + 7, locals := ls, stack := .ref sa :: .ref T.heap.size :: .ref T.heap.size :: rest, locked := none }) rfl hsize rfl rfl (rest := rest) rfl
    (by rw [hb]; exact d7) (by rw [hb]; exact d10) hout hRframes (by simp only [List.map_cons, List.sum_cons, hcat]; omega) hlocks
  obtain ⟨f1, f2⟩ := vx_frame hsame
  rw [hhp] at f1 f2
  have hWs : s.WarmedH U.vm := State.WarmedH.trans hW0 hW
  have hcl : s.vm.findClass cls = some ce.cls := by
    have h9 := hO.cls
    rw [hvm] at h9
    exact h9
  have hall : s.sameButNew ({ U with vm := s.vm } : State) locs mc ms := by
    subst hA
    obtain ⟨e1, e2⟩ := hsame
    rw [State.setFrames_setFrames] at e1
    have h2 : (T.setVm s.vm).sameButNew ({ U with vm := s.vm } : State) [] (0 + 1) (0 + 6) := ⟨e1, e2⟩
    have h3 := X.same.trans h2
    rw [List.append_nil] at h3
    exact h3.mono hc hs
  refine ⟨U, ?_, .threw T.heap.size, hrun, hend, Or.inr ⟨T.heap.size, rfl, cls, ce, locs, hx U hWs.alike f1 (fun q hq => f2 q hq (fun z hz => nomatch hz)), hce, hO.vm, hcl, hWs, hall, hf⟩⟩
  refine st1 _ ?_
  show Steps p.tables e below (T1.setTop { method := m, pc := pc + 3, locals := ls, stack := .ref T.heap.size :: rest, locked := none }) _
  jvm_step X₁.here [X₁.here.top, hexec, d3', Value.category]
  exact X₁.ldcStringW hexec (own := own) (text := text) (index := is) (a := sa) hown' hstr'.1 hstr'.2
    (g := { method := m, pc := pc + 4, locals := ls, stack := .ref T.heap.size :: .ref T.heap.size :: rest, locked := none }) rfl d4' _ hsteps
end Ends
section Bodies
variable {l : Launch}
theorem vx_ofW {y : MethodName} {ws ws' : List Cond} {rm : Room} {Pc : Array Value → State → Prop} {Qc : Array Value → State → Outcome → State → Prop} {XC : String → State → State → Prop} {mc ms : Nat} {free : Addr → Prop} {cc : ByteArray} {maxL : Nat} {ret : Option FieldType}
    (hy : plainName y.cls = true) (hw : ws = Cond.code y cc maxL ret :: ws')
    (body : ∀ p e s m args below meth c s₁, BodyLoose p l y (headSpec ws rm) cc maxL ret e s m args below meth c s₁ → c.maxLocals = maxL → (∀ x ∈ c.exceptionTable.toList, False) → Pc args s →
      W p l e (headSpec ws rm).room s m args below meth c s.heap [] 0 0 (vx_MQ below Qc XC args s mc ms free) (entryFrame m args maxL)) : vx_Met l y ws rm Pc Qc XC mc ms free := by
  refine MetFree.of_bodyS (code := cc) (maxLocals := maxL) (ret := ret) hy ?_ ?_
  · intro args s m h hn
    obtain ⟨meth, c, h1, h2, h3, h4, h5, h6, -, -⟩ := Cond.code_spec hn (atoms_spec (ws := ws) h _ (by rw [hw]; exact List.mem_cons_self))
    exact ⟨meth, c, h1, h2, h3, h4, h5, h6⟩
  · intro p e s m args below meth c s₁ B hml hP _
    have hh0 : s₁.heap = s.heap := by rw [B.state]; rfl
    have ht : ∀ x ∈ c.exceptionTable.toList, False := by
      obtain ⟨meth9, c9, h1, h2, -, -, -, -, h7, -⟩ := Cond.code_spec B.named (atoms_spec (ws := ws) B.pre _ (by rw [hw]; exact List.mem_cons_self))
      cases Option.some.inj (h1.symm.trans B.method)
      cases Option.some.inj (h2.symm.trans (Stand.of_body B).code)
      intro x hx
      rw [Array.isEmpty_iff.mp h7] at hx
      cases hx
    obtain ⟨t, a1, o, b1, b2, b3⟩ := body p e s m args below meth c s₁ B hml ht hP s₁ hh0 (Stand.of_body B)
    exact ⟨t, o, a1, b1, b2, b3⟩
/-- the table of a body with handlers -/
theorem vx_table {p : Program} {x y : MethodName} {S : Spec} {cc bytes : ByteArray} {maxL maxL' : Nat} {ret ret' : Option FieldType} {e : Env} {s s₁ : State} {m : MethodId} {args : Array Value} {below : List Frame} {meth : Method} {c : Code} {hh : List (Nat × Nat × Nat × Nat)}
    (B : BodyLoose p l y S cc maxL ret e s m args below meth c s₁) (h : (Cond.codeWith y bytes maxL' ret' hh).before args s = true) : c.exceptionTable.toList = tableOf hh := by
  obtain ⟨m9, meth9, c9, hn9, h1, h2, -, -, h6, -⟩ := Cond.codeWith_spec h
  cases Option.some.inj (hn9.symm.trans B.named)
  cases Option.some.inj (h1.symm.trans B.method)
  cases Option.some.inj (h2.symm.trans (Stand.of_body B).code)
  rw [← h6, table_eq]
end Bodies
end VXA
/-! ===== END ===== -/
/-! ===== BEGIN a static call of a method with an exception table ===== -/
section VXS
variable {p : Program} {l : Launch} {e : Env} {R : Room} {s : State} {m : MethodId} {args : Array Value} {below : List Frame} {meth : Method} {c : Code} {T : State} {H : Heap} {locs : List Loc} {cells slots : Nat}
abbrev vx_CSW (R : Room) (s : State) (args : Array Value) (own : String) (index : Nat) (y : MethodName) (bytes : ByteArray) (maxL : Nat) (ret : Option FieldType) (hh : List (Nat × Nat × Nat × Nat)) (ws : List Cond) (rm : Room) (mc ms n : Nat) : Prop :=
  (rm.cells = mc ∧ rm.slots = ms ∧ rm.frames + 1 ≤ R.frames ∧ 8 + (maxL + 11) + rm.locals ≤ R.locals ∧ (∀ w ∈ ws, ∀ (a' : Array Value) (U : State), s.WarmedH U.vm → w.before a' U = true) ∧ Cond.codeWith y bytes maxL ret hh ∈ ws) ∧
  (Cond.codeWith y bytes maxL ret hh).before args s = true ∧ (Cond.initialized y.cls).before args s = true ∧ (y.cls ≠ "java/lang/invoke/MethodHandle" ∧ y.cls ≠ "java/lang/invoke/VarHandle") ∧
  (∀ sig, parseMethodDescriptor y.desc = some sig → n = sig.parameters.length) ∧ (Cond.methodLink own index y).before args s = true ∧ (Cond.static y).before args s = true
theorem vx_cwSW {own : String} {index maxL mc ms : Nat} {y : MethodName} {bytes : ByteArray} {ret : Option FieldType} {hh : List (Nat × Nat × Nat × Nat)} {Ts ws ws' : List Cond} {rm : Room} (n : Nat) (ht : ∀ w ∈ Ts, w.before args s = true) (hT : GoodIn Ts (va_wsS own index y ws)) (hw : ws = Cond.codeWith y bytes maxL ret hh :: ws') (hrc : rm.cells = mc) (hrs : rm.slots = ms)
    (hd : y.cls ≠ "java/lang/invoke/MethodHandle" ∧ y.cls ≠ "java/lang/invoke/VarHandle" ∧ (parseMethodDescriptor y.desc).map (fun d => d.parameters.length) = some n) (hR : rm.frames + 1 ≤ R.frames ∧ 8 + (maxL + 11) + rm.locals ≤ R.locals) :
    vx_CSW R s args own index y bytes maxL ret hh ws rm mc ms n := by
  have ok : ∀ w ∈ va_wsS own index y ws, w.before args s = true := fun w h => ht w (hT w h).1
  have hG : GoodIn Ts ws := fun w h => hT w (by unfold va_wsS; exact List.mem_append_right _ h)
  have hc : Cond.codeWith y bytes maxL ret hh ∈ ws := by rw [hw]; exact List.mem_cons_self
  refine ⟨⟨hrc, hrs, hR.1, hR.2, pay_in ht hG, hc⟩, ht _ (hG _ hc).1, ok _ (by simp [va_wsS]), ⟨hd.1, hd.2.1⟩, fun sig h => ?_, ok _ (by simp [va_wsS]), ok _ (by simp [va_wsS])⟩
  have h2 := hd.2.2
  rw [h] at h2
  exact (Option.some.inj h2).symm
theorem vx_callSW (X : Stand p l e R s m args below meth c T locs cells slots) (hexec : p.tables.exec = Jvm.exec) {own : String} {index : Nat} {y : MethodName} {bytes : ByteArray} {maxL : Nat} {ret : Option FieldType} {hh : List (Nat × Nat × Nat × Nat)}
    (hown : s.vm.findClass own = some m.cls) (hlink : (Cond.methodLink own index y).before args s = true) (hstat : (Cond.static y).before args s = true) (hinit : (Cond.initialized y.cls).before args s = true)
    (hcode : (Cond.codeWith y bytes maxL ret hh).before args s = true) (hy : y.cls ≠ "java/lang/invoke/MethodHandle" ∧ y.cls ≠ "java/lang/invoke/VarHandle")
    {W9 : Nat} {Pre : Pt → Array Value → Prop} {Post : Pt → Array Value → Option Value → Pt → Prop} (hK : Back l R p e below s args y 3 W9 Pre Post)
    {g : JFrame} (hg : g.method = m) (hsize : g.locals.size = c.maxLocals) {argsL rest : List Value} (hlen : ∀ sig, parseMethodDescriptor y.desc = some sig → argsL.length = sig.parameters.length)
    (hstack : g.stack = argsL.reverse ++ rest) (hW : 2 * g.monitorRoom + (rest.map fun v => v.category).sum ≤ W9) (hdg : decode c.code g.pc = .ok (.invokestatic index, 3))
    (hpre : ∀ vm₁, s.WarmedH vm₁ → Pre ⟨T.setVm vm₁, locs, cells, slots⟩ argsL.toArray) :
    ∃ (v : Option Value) (vm₁ : Vm) (B : Pt), s.WarmedH vm₁ ∧ Stand p l e R s m args below meth c B.U B.locs B.cells B.slots ∧ Post ⟨T.setVm vm₁, locs, cells, slots⟩ argsL.toArray v B ∧
      ∀ target, Steps p.tables e below (B.U.setTop { g with pc := g.pc + 3, stack := v.toList ++ rest }) target → Steps p.tables e below (T.setTop g) target := by
  obtain ⟨mk, methM, cM, hnamed, hmethM, -, -, -, -, -, -, hsigM⟩ := Cond.codeWith_spec hcode
  have hstatic : methM.isStatic = true := Cond.static_spec hnamed hmethM hstat
  obtain ⟨kP, hkP, -⟩ := className_of_methodNamed hnamed
  have hinitP : kP.init = .initialized := Cond.initialized_spec (findClass_of_methodNamed hnamed) hkP hinit
  obtain ⟨vm₁, X₁, hstep₁⟩ := X.invokestatic hexec hown hlink hnamed hmethM hstatic hkP hinitP hy (g := g) hg (argsL := argsL) (rest := rest) (hlen _ hsigM) hstack hdg
  obtain ⟨v, B, X', hpost, hsteps⟩ := hK m meth c ⟨T.setVm vm₁, locs, cells, slots⟩ { g with stack := rest } (.invokestatic index) mk argsL.toArray X₁ hg hsize hdg hW (X₁.named hnamed) (hpre vm₁ X₁.warmed)
  exact ⟨v, vm₁, B, X₁.warmed, X', hpost, fun target h => hstep₁ _ fun acts => by rw [doInvoke_state]; exact hsteps.trans h⟩
theorem vx_runSW {y : MethodName} {bytes cc : ByteArray} {maxL nL mc ms n index : Nat} {ret : Option FieldType} {hh : List (Nat × Nat × Nat × Nat)} {ws : List Cond} {rm : Room} {Pc : Array Value → State → Prop} {Qc : Array Value → State → Outcome → State → Prop} {free : Addr → Prop} {Ts : List Cond} {own : String} {As rest : List Value} {g : JFrame}
    (S : CallFix p m c cc nL s args Ts own) (hM : Met l y ws rm Pc Qc mc ms free) (cw : vx_CSW R s args own index y bytes maxL ret hh ws rm mc ms n) (hp : PreS s H Pc As)
    (hg : g.method = m) (hn : As.length = n) (hsize : g.locals.size = nL) (hstack : g.stack = As.reverse ++ rest) (hW : 2 * g.monitorRoom + (rest.map fun v => v.category).sum ≤ 8) (hdg : decode cc g.pc = .ok (.invokestatic index, 3)) (hf : cells + mc ≤ R.cells ∧ slots + ms ≤ R.slots) :
    va_Run p l e R s m args below meth c H locs cells slots mc ms g rest (Qc As.toArray) (free) := by
  obtain ⟨⟨hrc, hrs, hfr, hlo, hws, hcw⟩, hcode, hini, hy, hlen, hl, hstt⟩ := cw
  have hK : Back l R p e below s args y 3 8 (PreOf R mc ms Pc) (PostOf Qc mc ms free) := va_backW (hh := hh) (bytes := bytes) (maxL := maxL) (ret := ret) hM hp.1 hrc hrs hfr hlo hws hcw (fun a' U hW => word_at hW (Or.inl (by first | rfl | simp [Cond.onTables, Cond.keeps, Cond.steady])) hini)
  obtain ⟨hx, hb, hml, ho, -⟩ := S
  intro T hT X
  obtain ⟨v, vm₁, ⟨U', l2, c2, s2⟩, hW₁, X', ⟨g', mk, t, L, e1, e2, hq, h1, hL, h2, h3⟩, st⟩ := vx_callSW X hx (hh := hh) (bytes := bytes) (maxL := maxL) (ret := ret) ho hl hstt hini hcode hy hK hg (hsize.trans hml.symm) (argsL := As) (rest := rest) (fun sig h => hn.trans (hlen sig h)) hstack hW (by rw [hb]; exact hdg)
    (fun vm₁ hW₁ => ⟨hf.1, hf.2, hp.2 (T.setVm vm₁) hT hW₁⟩)
  dsimp only [Pt.U, Pt.locs, Pt.cells, Pt.slots] at X' e1 e2 h1 h2 h3 st
  subst h1; subst h2; subst h3
  exact ⟨v, (T.setVm vm₁).calling g' mk As.toArray, t, U', L, hT, X', hL, e1, e2, hq, st⟩
/-- not caught here, past rows that name other classes: it goes on to the caller -/
theorem vx_outP {p : Program} {l : Launch} {e : Env} {R : Room} {s : State} {m : MethodId} {args : Array Value} {below : List Frame} {meth : Method} {c : Code} {H : Heap} {locs : List Loc} {cells slots : Nat} {free : Addr → Prop} {ls : Array Slot} {rest : List Value} {Qc : Array Value → State → Outcome → State → Prop} {XC : String → State → State → Prop}
    {pc : Nat} {own E : String} {ce : Cell} {q : Addr} {mc ms : Nat} (hown : s.vm.findClass own = some m.cls) (hlocks : meth.locks = false)
    (hpass : ∀ z ∈ c.exceptionTable.toList, covers z pc = false ∨ (z.catchType ≠ 0 ∧ ∃ nm : String, (Cond.classLink own z.catchType nm).before args s = true ∧ va_Nc E nm s)) (hcell : H[q]? = some ce) (hv : ce.vm = .none) (hcl : s.vm.findClass E = some ce.cls)
    (hx : ∀ t : State, t.heap = H → s.vm.Alike t.vm → XC E s t) (hf : ∀ z ∈ locs, free z.base) (hc : cells ≤ mc) (hs : slots ≤ ms) :
    vx_W p l e R s m args below meth c H locs cells slots (vx_MQ below Qc XC args s mc ms free) (F0 m pc ls rest) q := by
  intro T hT X
  have hpl : e.platform.magicAccessors = ({} : Platform).magicAccessors := by rw [X.admits.platform]
  obtain ⟨vm', hW', X', st⟩ := X.outThrough hlocks q (g := F0 m pc ls rest) rfl rfl rfl (cell := ce) (by rw [hT]; exact hcell) (by rw [hv]; rfl)
    (by obtain ⟨k9, h9, -⟩ := Vm.findClass_spec hcl; exact ⟨k9, h9⟩) (fun z hz => by
      rcases hpass z hz with h | ⟨hz0, nm, hl1, hn1⟩
      · exact Or.inl h
      · obtain ⟨c6, hc6, hcl6⟩ := Cond.classLink_spec hown hl1 e.platform hpl
        obtain ⟨a8, b8, h1, h2, h3⟩ := hn1
        cases Option.some.inj (h1.symm.trans hcl)
        cases Option.some.inj (h2.symm.trans hc6)
        exact Or.inr ⟨hz0, _, hcl6, h3⟩)
  obtain ⟨g₀, hfr⟩ := X'.frames_eq
  have hcell9 : ((T.setVm vm').setFrames (.throwing q :: below)).heap[q]? = some ce := by
    show T.heap[q]? = some ce
    rw [hT]; exact hcell
  have hend : Ended ((T.setVm vm').setFrames (.throwing q :: below)) below (.threw q) := State.frames_setFrames _ (State.cur_lt_of_frames hfr)
  refine ⟨(T.setVm vm').setFrames (.throwing q :: below), ?_, .threw q, X'.here.running, hend, Or.inr ⟨q, rfl, E, ce, locs, hx _ hT (X'.ends _).1.alike, hcell9, hv, hcl, (X'.ends _).1, (X'.ends _).2.mono hc hs, hf⟩⟩
  rw [X.pushThrowing_eq]
  exact st
/-- a thing of a world lies in the heap -/
theorem vx_lt {D : va_G} {cl : List vw_C} {ws : va_W} {H1 : Heap} (h : va_P D cl ws H1) {k : Nat} {q : Nat × va_E} (hk : ws[k]? = some q) : q.1 < H1.size := (h k q hk).lt
end VXS
/-! ===== END ===== -/
/-! ===== BEGIN methods with a table of their own: called by a name, returning or throwing ===== -/
section VXH
/-! vx_backW, vx_callVX, vx_callSX, vx_callVW, vx_runVW, vx_runVX, vx_runSX, vx_ofWH follow the same proofs as their sisters above (Free/Laws.lean, Shelf42/LK1.lean); vx_outP calls Shelf42/NT130.lean (outThrough). -/
section
variable {l : Launch} {R : Room} {p : Program} {e : Env} {below : List Frame} {s : State} {sargs : Array Value} {y : MethodName} {len W9 : Nat}
theorem vx_backW {ws : List Cond} {rm : Room} {Pc : Array Value → State → Prop} {Qc : Array Value → State → Outcome → State → Prop} {XC : String → State → State → Prop} {mc ms : Nat} {free : Addr → Prop} {bytes : ByteArray} {maxL : Nat} {ret : Option FieldType} {hh : List (Nat × Nat × Nat × Nat)}
    (hM : vx_Met l y ws rm Pc Qc XC mc ms free) (hblind : FrameBlind Pc) (hrc : rm.cells = mc) (hrs : rm.slots = ms)
    (hframes : rm.frames + 1 ≤ R.frames) (hlocals : W9 + (maxL + 11) + rm.locals ≤ R.locals)
    (hws : ∀ w ∈ ws, ∀ a' U, s.WarmedH U.vm → w.before a' U = true) (hcode : Cond.codeWith y bytes maxL ret hh ∈ ws) (hinit : ∀ a' U, s.WarmedH U.vm → (Cond.initialized y.cls).before a' U = true) :
    vx_Back l R p e below s sargs y len W9 (PreOf R mc ms Pc) (PostOf Qc mc ms free) (vx_Post XC mc ms free) := by
  intro m meth c A g ig mk a X hg hsize hdg hW hn hp
  have h1 : (headSpec ws rm).pre.before a A.U = true := atoms_intro fun w hw => hws w hw _ _ X.warmed
  have h2 : (Cond.codeWith y bytes maxL ret hh).before a A.U = true := hws _ hcode _ _ X.warmed
  have h3 : (Cond.initialized y.cls).before a A.U = true := hinit _ _ X.warmed
  have h4 : A.cells + (headSpec ws rm).room.cells ≤ R.cells := by rw [show (headSpec ws rm).room.cells = mc from hrc]; exact hp.1
  have h5 : A.slots + (headSpec ws rm).room.slots ≤ R.slots := by rw [show (headSpec ws rm).room.slots = ms from hrs]; exact hp.2.1
  have hPc : Pc a (A.U.calling g mk a) := hblind _ _ _ _ hp.2.2
  obtain ⟨U, Ls, c0, s0⟩ := A
  dsimp only [Pt.U, Pt.locs, Pt.cells, Pt.slots] at h1 h2 h3 h4 h5 X hn hPc ⊢
  obtain ⟨m9, methY, cY, hn9, hmY, hcY, -, hlY, -⟩ := Cond.codeWith_spec h2
  cases Option.some.inj (hn9.symm.trans hn)
  obtain ⟨kY, hkY, -⟩ := className_of_methodNamed hn
  have hinitY : kY.init = .initialized := Cond.initialized_spec (findClass_of_methodNamed hn) hkY h3
  have h : At U g.method c below := by rw [hg]; exact X.here
  have hlocals9 : W9 + (maxL + 11) + (headSpec ws rm).room.locals ≤ R.locals := hlocals
  have happ : (headSpec ws rm).appliesLoose y e.platform (U.calling g mk a) = true :=
    Spec.appliesLoose_calling (g := g) h hdg hn hkY hinitY
      (X.room_calling (g := g) (R' := (headSpec ws rm).room) hsize hmY hcY hframes (by rw [hlY]; omega) h4 h5) h1
  obtain ⟨mid, hmid⟩ := h.above
  have hfr : (U.setTop g).frames = (.java g :: mid) ++ below := by rw [State.frames_setTop' g h.top, hmid]; rfl
  obtain ⟨o, s₂, hsteps, -, hend, hq⟩ := Steps.callFree hM p X.admits X.cas X.clock (acts := []) hfr happ hPc trivial
  have hq' : vx_Q Qc XC mc ms free a (U.calling g mk a) o s₂ := hq
  rw [State.frames_setTop' g h.top] at hend
  obtain ⟨g₀, hg0⟩ := Option.isSome_iff_exists.mp h.top
  obtain ⟨r, hr⟩ := State.topJava?_eq_some.mp hg0
  have hr' : (({ U with heap := s₂.heap, slotsUsed := s₂.slotsUsed } : State).setVm s₂.vm).frames = .java g₀ :: r := hr
  rcases hq' with ⟨hqc, L, hfe, hL⟩ | ⟨q, rfl, E, ce, L, hx, hce, hcv, hcl, hW₂, hsm, hL⟩
  · obtain ⟨⟨v, rfl⟩, hW₂, e2, q2, q3, q4, q5, q6⟩ := id hfe
    have e3 : s₂ = ({ (U.calling g mk a).setFrames s₂.frames with heap := s₂.heap, slotsUsed := s₂.slotsUsed } : State).setVm s₂.vm := by
      have : s₂ = ({ s₂ with vm := (U.calling g mk a).vm } : State).setVm s₂.vm := rfl
      rw [e2] at this
      exact this
    obtain ⟨c₂, i₂, len₂, hc₂, hd₂, hf₂⟩ := hend
    have hW' : U.WarmedH s₂.vm := hW₂
    have hcc : c₂ = c := by
      have h1 : s₂.code? g.method = U.code? g.method := by
        rw [State.code?_eq, State.code?_eq, hW'.alike.method?]
      exact Option.some.inj (hc₂.symm.trans (h1.trans h.code))
    subst hcc
    have hlen : len₂ = len := by rw [hdg] at hd₂; cases hd₂; rfl
    subst hlen
    have hs₂ : s₂ = (({ U with heap := s₂.heap, slotsUsed := s₂.slotsUsed } : State).setVm s₂.vm).setTop { g with pc := g.pc + len₂, stack := v.toList ++ g.stack } := by
      refine e3.trans ?_
      rw [hf₂, State.calling_eq h.top, State.setFrames_setFrames, State.setTop_of_frames _ hr', hr]
      rfl
    have hsame : U.sameButNew ({ U with heap := s₂.heap, slotsUsed := s₂.slotsUsed } : State) L mc ms := by
      refine ⟨?_, q2, q3, q4, q5, q6⟩
      obtain ⟨t, ht, -⟩ := State.frames_cons hr
      show ({ U with heap := s₂.heap, slotsUsed := s₂.slotsUsed } : State) = { U.setFrames U.frames with heap := s₂.heap, slotsUsed := s₂.slotsUsed }
      rw [State.setFrames_self ht]
    subst hg
    refine Or.inl ⟨v, ⟨(({ U with heap := s₂.heap, slotsUsed := s₂.slotsUsed } : State).setVm s₂.vm), Ls ++ L, c0 + mc, s0 + ms⟩,
      ⟨X.admits, X.cas, X.clock, X.frames, X.room, X.hears, X.method, X.code, (X.here.setHeapUsed s₂.heap s₂.slotsUsed).setVm hW'.alike, X.tail, State.WarmedH.trans X.warmed hW', X.limits, X.bytes, X.same.trans (hsame.setVm s.vm)⟩,
      ⟨g, mk, s₂, L, rfl, rfl, hqc, rfl, hL, rfl, rfl⟩, ?_⟩
    show Steps p.tables e below _ ((({ U with heap := s₂.heap, slotsUsed := s₂.slotsUsed } : State).setVm s₂.vm).setTop { g with pc := g.pc + len₂, stack := v.toList ++ g.stack })
    rw [← hs₂]
    exact hsteps
  · obtain ⟨e2, q2, q3, q4, q5, q6⟩ := id hsm
    have e3 : s₂ = ({ (U.calling g mk a).setFrames s₂.frames with heap := s₂.heap, slotsUsed := s₂.slotsUsed } : State).setVm s₂.vm := by
      have : s₂ = ({ s₂ with vm := (U.calling g mk a).vm } : State).setVm s₂.vm := rfl
      rw [e2] at this
      exact this
    have hf₂ : s₂.frames = .throwing q :: .java g :: U.frames.tail := hend
    have hW' : U.WarmedH s₂.vm := hW₂
    have hs₂ : s₂ = ((({ U with heap := s₂.heap, slotsUsed := s₂.slotsUsed } : State).setVm s₂.vm).setTop g).pushFrame (.throwing q) := by
      refine e3.trans ?_
      rw [hf₂, State.calling_eq h.top, State.setFrames_setFrames, State.pushFrame, State.frames_setTop _ hr', State.setTop_of_frames _ hr', State.setFrames_setFrames, hr]
      rfl
    have hsame : U.sameButNew ({ U with heap := s₂.heap, slotsUsed := s₂.slotsUsed } : State) L mc ms := by
      refine ⟨?_, q2, q3, q4, q5, q6⟩
      obtain ⟨t, ht, -⟩ := State.frames_cons hr
      show ({ U with heap := s₂.heap, slotsUsed := s₂.slotsUsed } : State) = { U.setFrames U.frames with heap := s₂.heap, slotsUsed := s₂.slotsUsed }
      rw [State.setFrames_self ht]
    subst hg
    refine Or.inr ⟨q, ⟨(({ U with heap := s₂.heap, slotsUsed := s₂.slotsUsed } : State).setVm s₂.vm), Ls ++ L, c0 + mc, s0 + ms⟩,
      ⟨X.admits, X.cas, X.clock, X.frames, X.room, X.hears, X.method, X.code, (X.here.setHeapUsed s₂.heap s₂.slotsUsed).setVm hW'.alike, X.tail, State.WarmedH.trans X.warmed hW', X.limits, X.bytes, X.same.trans (hsame.setVm s.vm)⟩,
      ⟨g, mk, s₂, L, E, ce, rfl, rfl, hx, hce, hcv, hcl, rfl, hL, rfl, rfl⟩, ?_⟩
    show Steps p.tables e below _ (((({ U with heap := s₂.heap, slotsUsed := s₂.slotsUsed } : State).setVm s₂.vm).setTop g).pushFrame (.throwing q))
    rw [← hs₂]
    exact hsteps
end
variable {p : Program} {l : Launch} {e : Env} {R : Room} {s : State} {m : MethodId} {args : Array Value} {below : List Frame} {meth : Method} {c : Code} {T : State} {H : Heap} {locs : List Loc} {cells slots : Nat}
theorem vx_callVX (X : Stand p l e R s m args below meth c T locs cells slots) (hexec : p.tables.exec = Jvm.exec) {own C : String} {index : Nat} {y : MethodName} {bytes : ByteArray} {maxL : Nat} {ret : Option FieldType} {hh : List (Nat × Nat × Nat × Nat)}
    (hown : s.vm.findClass own = some m.cls) (hlink : (Cond.methodLink own index y).before args s = true) (hinst : (Cond.instanceMethod y).before args s = true) (hsel : (Cond.selects C y y).before args s = true)
    (hcode : (Cond.codeWith y bytes maxL ret hh).before args s = true) (hy : y.cls ≠ "java/lang/invoke/MethodHandle" ∧ y.cls ≠ "java/lang/invoke/VarHandle")
    {W9 : Nat} {Pre : Pt → Array Value → Prop} {Post : Pt → Array Value → Option Value → Pt → Prop} {PostX : Pt → Array Value → Addr → Pt → Prop} (hK : vx_Back l R p e below s args y 3 W9 Pre Post PostX)
    {b : Addr} {cellB : Cell} (hcell : T.heap[b]? = some cellB) (hobj : cellB.vm.isStatics = false) (hcls : s.vm.findClass C = some cellB.cls)
    {g : JFrame} (hg : g.method = m) (hsize : g.locals.size = c.maxLocals) {argsL rest : List Value} (hlen : ∀ sig, parseMethodDescriptor y.desc = some sig → argsL.length = sig.parameters.length)
    (hstack : g.stack = argsL.reverse ++ .ref b :: rest) (hW : 2 * g.monitorRoom + (rest.map fun v => v.category).sum ≤ W9) (hdg : decode c.code g.pc = .ok (.invokevirtual index, 3))
    (hpre : ∀ vm₁, s.WarmedH vm₁ → Pre ⟨T.setVm vm₁, locs, cells, slots⟩ (Value.ref b :: argsL).toArray) :
    (∃ (v : Option Value) (vm₁ : Vm) (B : Pt), s.WarmedH vm₁ ∧ Stand p l e R s m args below meth c B.U B.locs B.cells B.slots ∧ Post ⟨T.setVm vm₁, locs, cells, slots⟩ (Value.ref b :: argsL).toArray v B ∧
      ∀ target, Steps p.tables e below (B.U.setTop { g with pc := g.pc + 3, stack := v.toList ++ rest }) target → Steps p.tables e below (T.setTop g) target) ∨
    (∃ (q : Addr) (vm₁ : Vm) (B : Pt), s.WarmedH vm₁ ∧ Stand p l e R s m args below meth c B.U B.locs B.cells B.slots ∧ PostX ⟨T.setVm vm₁, locs, cells, slots⟩ (Value.ref b :: argsL).toArray q B ∧
      Steps p.tables e below (T.setTop g) ((B.U.setTop { g with stack := rest }).pushFrame (.throwing q))) := by
  obtain ⟨mk, methM, hnamed, hmethM, hstM, habM⟩ := Cond.instanceMethod_spec hinst
  obtain ⟨m8, methM', cM, hn8, hmethM', -, -, -, -, -, -, hsigM⟩ := Cond.codeWith_spec hcode
  cases Option.some.inj (hn8.symm.trans hnamed)
  cases hmethM.symm.trans hmethM'
  obtain ⟨c2, r2, m2, q1, q2, q3, q4, kP, hkP, hkPi⟩ := Cond.selects_spec hsel
  cases hcls.symm.trans q1
  cases (State.methodFound?_of_named hnamed hy).symm.trans q2
  cases hnamed.symm.trans q3
  have hselP : selectMethod e.platform s.vm cellB.cls mk = .method mk := by rw [Launch.admits_selectMethod X.admits]; exact q4
  obtain ⟨vm₁, X₁, hstep₁⟩ := X.invokevirtual hexec hown hlink hnamed hmethM hstM hkP hkPi hy (a := b) (cell := cellB) hcell
    (fun z h => by rw [h] at hobj; cases hobj) hselP hmethM habM hkP hkPi (g := g) hg (argsL := argsL) (rest := rest) (hlen _ hsigM) hstack hdg
  rcases hK m meth c ⟨T.setVm vm₁, locs, cells, slots⟩ { g with stack := rest } (.invokevirtual index) mk (Value.ref b :: argsL).toArray X₁ hg hsize hdg hW (X₁.named hnamed) (hpre vm₁ X₁.warmed) with ⟨v, B, X', hpost, hsteps⟩ | ⟨q, B, X', hpost, hsteps⟩
  · exact Or.inl ⟨v, vm₁, B, X₁.warmed, X', hpost, fun target h => hstep₁ _ fun acts => by rw [doInvoke_state]; exact hsteps.trans h⟩
  · exact Or.inr ⟨q, vm₁, B, X₁.warmed, X', hpost, hstep₁ _ fun acts => by rw [doInvoke_state]; exact hsteps⟩
theorem vx_callSX (X : Stand p l e R s m args below meth c T locs cells slots) (hexec : p.tables.exec = Jvm.exec) {own : String} {index : Nat} {y : MethodName} {bytes : ByteArray} {maxL : Nat} {ret : Option FieldType} {hh : List (Nat × Nat × Nat × Nat)}
    (hown : s.vm.findClass own = some m.cls) (hlink : (Cond.methodLink own index y).before args s = true) (hstat : (Cond.static y).before args s = true) (hinit : (Cond.initialized y.cls).before args s = true)
    (hcode : (Cond.codeWith y bytes maxL ret hh).before args s = true) (hy : y.cls ≠ "java/lang/invoke/MethodHandle" ∧ y.cls ≠ "java/lang/invoke/VarHandle")
    {W9 : Nat} {Pre : Pt → Array Value → Prop} {Post : Pt → Array Value → Option Value → Pt → Prop} {PostX : Pt → Array Value → Addr → Pt → Prop} (hK : vx_Back l R p e below s args y 3 W9 Pre Post PostX)
    {g : JFrame} (hg : g.method = m) (hsize : g.locals.size = c.maxLocals) {argsL rest : List Value} (hlen : ∀ sig, parseMethodDescriptor y.desc = some sig → argsL.length = sig.parameters.length)
    (hstack : g.stack = argsL.reverse ++ rest) (hW : 2 * g.monitorRoom + (rest.map fun v => v.category).sum ≤ W9) (hdg : decode c.code g.pc = .ok (.invokestatic index, 3))
    (hpre : ∀ vm₁, s.WarmedH vm₁ → Pre ⟨T.setVm vm₁, locs, cells, slots⟩ argsL.toArray) :
    (∃ (v : Option Value) (vm₁ : Vm) (B : Pt), s.WarmedH vm₁ ∧ Stand p l e R s m args below meth c B.U B.locs B.cells B.slots ∧ Post ⟨T.setVm vm₁, locs, cells, slots⟩ argsL.toArray v B ∧
      ∀ target, Steps p.tables e below (B.U.setTop { g with pc := g.pc + 3, stack := v.toList ++ rest }) target → Steps p.tables e below (T.setTop g) target) ∨
    (∃ (q : Addr) (vm₁ : Vm) (B : Pt), s.WarmedH vm₁ ∧ Stand p l e R s m args below meth c B.U B.locs B.cells B.slots ∧ PostX ⟨T.setVm vm₁, locs, cells, slots⟩ argsL.toArray q B ∧
      Steps p.tables e below (T.setTop g) ((B.U.setTop { g with stack := rest }).pushFrame (.throwing q))) := by
  obtain ⟨mk, methM, cM, hnamed, hmethM, -, -, -, -, -, -, hsigM⟩ := Cond.codeWith_spec hcode
  have hstatic : methM.isStatic = true := Cond.static_spec hnamed hmethM hstat
  obtain ⟨kP, hkP, -⟩ := className_of_methodNamed hnamed
  have hinitP : kP.init = .initialized := Cond.initialized_spec (findClass_of_methodNamed hnamed) hkP hinit
  obtain ⟨vm₁, X₁, hstep₁⟩ := X.invokestatic hexec hown hlink hnamed hmethM hstatic hkP hinitP hy (g := g) hg (argsL := argsL) (rest := rest) (hlen _ hsigM) hstack hdg
  rcases hK m meth c ⟨T.setVm vm₁, locs, cells, slots⟩ { g with stack := rest } (.invokestatic index) mk argsL.toArray X₁ hg hsize hdg hW (X₁.named hnamed) (hpre vm₁ X₁.warmed) with ⟨v, B, X', hpost, hsteps⟩ | ⟨q, B, X', hpost, hsteps⟩
  · exact Or.inl ⟨v, vm₁, B, X₁.warmed, X', hpost, fun target h => hstep₁ _ fun acts => by rw [doInvoke_state]; exact hsteps.trans h⟩
  · exact Or.inr ⟨q, vm₁, B, X₁.warmed, X', hpost, hstep₁ _ fun acts => by rw [doInvoke_state]; exact hsteps⟩
theorem vx_callVW (X : Stand p l e R s m args below meth c T locs cells slots) (hexec : p.tables.exec = Jvm.exec) {own C : String} {index : Nat} {y : MethodName} {bytes : ByteArray} {maxL : Nat} {ret : Option FieldType} {hh : List (Nat × Nat × Nat × Nat)}
    (hown : s.vm.findClass own = some m.cls) (hlink : (Cond.methodLink own index y).before args s = true) (hinst : (Cond.instanceMethod y).before args s = true) (hsel : (Cond.selects C y y).before args s = true)
    (hcode : (Cond.codeWith y bytes maxL ret hh).before args s = true) (hy : y.cls ≠ "java/lang/invoke/MethodHandle" ∧ y.cls ≠ "java/lang/invoke/VarHandle")
    {W9 : Nat} {Pre : Pt → Array Value → Prop} {Post : Pt → Array Value → Option Value → Pt → Prop} (hK : Back l R p e below s args y 3 W9 Pre Post)
    {b : Addr} {cellB : Cell} (hcell : T.heap[b]? = some cellB) (hobj : cellB.vm.isStatics = false) (hcls : s.vm.findClass C = some cellB.cls)
    {g : JFrame} (hg : g.method = m) (hsize : g.locals.size = c.maxLocals) {argsL rest : List Value} (hlen : ∀ sig, parseMethodDescriptor y.desc = some sig → argsL.length = sig.parameters.length)
    (hstack : g.stack = argsL.reverse ++ .ref b :: rest) (hW : 2 * g.monitorRoom + (rest.map fun v => v.category).sum ≤ W9) (hdg : decode c.code g.pc = .ok (.invokevirtual index, 3))
    (hpre : ∀ vm₁, s.WarmedH vm₁ → Pre ⟨T.setVm vm₁, locs, cells, slots⟩ (Value.ref b :: argsL).toArray) :
    ∃ (v : Option Value) (vm₁ : Vm) (B : Pt), s.WarmedH vm₁ ∧ Stand p l e R s m args below meth c B.U B.locs B.cells B.slots ∧ Post ⟨T.setVm vm₁, locs, cells, slots⟩ (Value.ref b :: argsL).toArray v B ∧
      ∀ target, Steps p.tables e below (B.U.setTop { g with pc := g.pc + 3, stack := v.toList ++ rest }) target → Steps p.tables e below (T.setTop g) target := by
  obtain ⟨mk, methM, hnamed, hmethM, hstM, habM⟩ := Cond.instanceMethod_spec hinst
  obtain ⟨m8, methM', cM, hn8, hmethM', -, -, -, -, -, -, hsigM⟩ := Cond.codeWith_spec hcode
  cases Option.some.inj (hn8.symm.trans hnamed)
  cases hmethM.symm.trans hmethM'
  obtain ⟨c2, r2, m2, q1, q2, q3, q4, kP, hkP, hkPi⟩ := Cond.selects_spec hsel
  cases hcls.symm.trans q1
  cases (State.methodFound?_of_named hnamed hy).symm.trans q2
  cases hnamed.symm.trans q3
  have hselP : selectMethod e.platform s.vm cellB.cls mk = .method mk := by rw [Launch.admits_selectMethod X.admits]; exact q4
  obtain ⟨vm₁, X₁, hstep₁⟩ := X.invokevirtual hexec hown hlink hnamed hmethM hstM hkP hkPi hy (a := b) (cell := cellB) hcell
    (fun z h => by rw [h] at hobj; cases hobj) hselP hmethM habM hkP hkPi (g := g) hg (argsL := argsL) (rest := rest) (hlen _ hsigM) hstack hdg
  obtain ⟨v, B, X', hpost, hsteps⟩ := hK m meth c ⟨T.setVm vm₁, locs, cells, slots⟩ { g with stack := rest } (.invokevirtual index) mk (Value.ref b :: argsL).toArray X₁ hg hsize hdg hW (X₁.named hnamed) (hpre vm₁ X₁.warmed)
  exact ⟨v, vm₁, B, X₁.warmed, X', hpost, fun target h => hstep₁ _ fun acts => by rw [doInvoke_state]; exact hsteps.trans h⟩
abbrev vx_CVW (R : Room) (s : State) (args : Array Value) (own C : String) (index : Nat) (y : MethodName) (bytes : ByteArray) (maxL : Nat) (ret : Option FieldType) (hh : List (Nat × Nat × Nat × Nat)) (ws : List Cond) (rm : Room) (mc ms n : Nat) : Prop :=
  (rm.cells = mc ∧ rm.slots = ms ∧ rm.frames + 1 ≤ R.frames ∧ 8 + (maxL + 11) + rm.locals ≤ R.locals ∧ (∀ w ∈ ws, ∀ (a' : Array Value) (U : State), s.WarmedH U.vm → w.before a' U = true) ∧ Cond.codeWith y bytes maxL ret hh ∈ ws) ∧
  (Cond.codeWith y bytes maxL ret hh).before args s = true ∧ (Cond.initialized y.cls).before args s = true ∧ (y.cls ≠ "java/lang/invoke/MethodHandle" ∧ y.cls ≠ "java/lang/invoke/VarHandle") ∧
  (∀ sig, parseMethodDescriptor y.desc = some sig → n = sig.parameters.length) ∧ (Cond.methodLink own index y).before args s = true ∧ (Cond.instanceMethod y).before args s = true ∧ (Cond.selects C y y).before args s = true
theorem vx_cwVW {own C : String} {index maxL mc ms : Nat} {y : MethodName} {bytes : ByteArray} {ret : Option FieldType} {hh : List (Nat × Nat × Nat × Nat)} {Ts ws ws' : List Cond} {rm : Room} (n : Nat) (ht : ∀ w ∈ Ts, w.before args s = true) (hT : GoodIn Ts (wsV own index C y ws)) (hw : ws = Cond.codeWith y bytes maxL ret hh :: ws') (hrc : rm.cells = mc) (hrs : rm.slots = ms)
    (hd : y.cls = C ∧ y.cls ≠ "java/lang/invoke/MethodHandle" ∧ y.cls ≠ "java/lang/invoke/VarHandle" ∧ (parseMethodDescriptor y.desc).map (fun d => d.parameters.length) = some n) (hR : rm.frames + 1 ≤ R.frames ∧ 8 + (maxL + 11) + rm.locals ≤ R.locals) :
    vx_CVW R s args own C index y bytes maxL ret hh ws rm mc ms n := by
  obtain ⟨hC, hd⟩ := hd
  subst hC
  have ok : ∀ w ∈ wsV own index y.cls y ws, w.before args s = true := fun w h => ht w (hT w h).1
  have hG : GoodIn Ts ws := fun w h => hT w (by unfold wsV; exact List.mem_append_right _ h)
  have hc : Cond.codeWith y bytes maxL ret hh ∈ ws := by rw [hw]; exact List.mem_cons_self
  refine ⟨⟨hrc, hrs, hR.1, hR.2, pay_in ht hG, hc⟩, ht _ (hG _ hc).1, ok _ (by simp [wsV]), ⟨hd.1, hd.2.1⟩, fun sig h => ?_, ok _ (by simp [wsV]), ok _ (by simp [wsV]), ok _ (by simp [wsV])⟩
  have h2 := hd.2.2
  rw [h] at h2
  exact (Option.some.inj h2).symm
theorem vx_runVW {y : MethodName} {bytes cc : ByteArray} {maxL nL mc ms n index : Nat} {ret : Option FieldType} {hh : List (Nat × Nat × Nat × Nat)} {ws : List Cond} {rm : Room} {Pc : Array Value → State → Prop} {Qc : Array Value → State → Outcome → State → Prop} {free : Addr → Prop} {Ts : List Cond} {own C : String} {b : Addr} {As rest : List Value} {g : JFrame}
    (S : CallFix p m c cc nL s args Ts own) (hM : Met l y ws rm Pc Qc mc ms free) (cw : vx_CVW R s args own C index y bytes maxL ret hh ws rm mc ms n) (hp : PreV s H C b Pc As)
    (hg : g.method = m) (hn : As.length = n) (hsize : g.locals.size = nL) (hstack : g.stack = As.reverse ++ .ref b :: rest) (hW : 2 * g.monitorRoom + (rest.map fun v => v.category).sum ≤ 8) (hdg : decode cc g.pc = .ok (.invokevirtual index, 3)) (hf : cells + mc ≤ R.cells ∧ slots + ms ≤ R.slots) :
    va_Run p l e R s m args below meth c H locs cells slots mc ms g rest (Qc (Value.ref b :: As).toArray) free := by
  obtain ⟨⟨hrc, hrs, hfr, hlo, hws, hcw⟩, hcode, hini, hy, hlen, hl, hin, hse⟩ := cw
  have hK : Back l R p e below s args y 3 8 (PreOf R mc ms Pc) (PostOf Qc mc ms free) := va_backW (hh := hh) (bytes := bytes) (maxL := maxL) (ret := ret) hM hp.1 hrc hrs hfr hlo hws hcw (fun a' U hW => word_at hW (Or.inl (by first | rfl | simp [Cond.onTables, Cond.keeps, Cond.steady])) hini)
  obtain ⟨hx, hb, hml, ho, -⟩ := S
  obtain ⟨-, ⟨cellB, hcB, hoB, hclB⟩, hPc⟩ := hp
  intro T hT X
  obtain ⟨v, vm₁, ⟨U', l2, c2, s2⟩, hW₁, X', ⟨g', mk, t, L, e1, e2, hq, h1, hL, h2, h3⟩, st⟩ := vx_callVW X hx (C := C) (hh := hh) (bytes := bytes) (maxL := maxL) (ret := ret) ho hl hin hse hcode hy hK (by rw [hT]; exact hcB) hoB hclB hg (hsize.trans hml.symm) (argsL := As) (rest := rest) (fun sig h => hn.trans (hlen sig h)) hstack hW (by rw [hb]; exact hdg)
    (fun vm₁ hW₁ => ⟨hf.1, hf.2, hPc (T.setVm vm₁) hT hW₁⟩)
  dsimp only [Pt.U, Pt.locs, Pt.cells, Pt.slots] at X' e1 e2 h1 h2 h3 st
  subst h1; subst h2; subst h3
  exact ⟨v, (T.setVm vm₁).calling g' mk (Value.ref b :: As).toArray, t, U', L, hT, X', hL, e1, e2, hq, st⟩
section
variable {y : MethodName} {bytes cc : ByteArray} {maxL nL mc ms n index : Nat} {ret : Option FieldType} {ws : List Cond} {rm : Room} {Pc : Array Value → State → Prop} {Qc : Array Value → State → Outcome → State → Prop} {XC : String → State → State → Prop} {free : Addr → Prop} {Ts : List Cond} {own C : String} {b : Addr} {As rest : List Value} {g : JFrame}
theorem vx_runVX {hh : List (Nat × Nat × Nat × Nat)} (S : CallFix p m c cc nL s args Ts own) (hM : vx_Met l y ws rm Pc Qc XC mc ms free) (cw : vx_CVW R s args own C index y bytes maxL ret hh ws rm mc ms n) (hp : PreV s H C b Pc As)
    (hg : g.method = m) (hn : As.length = n) (hsize : g.locals.size = nL) (hstack : g.stack = As.reverse ++ .ref b :: rest) (hW : 2 * g.monitorRoom + (rest.map fun v => v.category).sum ≤ 8) (hdg : decode cc g.pc = .ok (.invokevirtual index, 3)) (hf : cells + mc ≤ R.cells ∧ slots + ms ≤ R.slots) :
    vx_Run p l e R s m args below meth c H locs cells slots mc ms g rest (Qc (Value.ref b :: As).toArray) XC free := by
  obtain ⟨⟨hrc, hrs, hfr, hlo, hws, hcw⟩, hcode, hini, hy, hlen, hl, hin, hse⟩ := cw
  have hK : vx_Back l R p e below s args y 3 8 (PreOf R mc ms Pc) (PostOf Qc mc ms free) (vx_Post XC mc ms free) := vx_backW (hh := hh) (bytes := bytes) (maxL := maxL) (ret := ret) hM hp.1 hrc hrs hfr hlo hws hcw (fun a' U hW => word_at hW (Or.inl (by first | rfl | simp [Cond.onTables, Cond.keeps, Cond.steady])) hini)
  obtain ⟨hx, hb, hml, ho, -⟩ := S
  obtain ⟨-, ⟨cellB, hcB, hoB, hclB⟩, hPc⟩ := hp
  intro T hT X
  rcases vx_callVX X hx (C := C) (hh := hh) (bytes := bytes) (maxL := maxL) (ret := ret) ho hl hin hse hcode hy hK (by rw [hT]; exact hcB) hoB hclB hg (hsize.trans hml.symm) (argsL := As) (rest := rest) (fun sig h => hn.trans (hlen sig h)) hstack hW (by rw [hb]; exact hdg)
    (fun vm₁ hW₁ => ⟨hf.1, hf.2, hPc (T.setVm vm₁) hT hW₁⟩) with ⟨v, vm₁, ⟨U', l2, c2, s2⟩, hW₁, X', ⟨g', mk, t, L, e1, e2, hq, h1, hL, h2, h3⟩, st⟩ | ⟨q, vm₁, ⟨U', l2, c2, s2⟩, hW₁, X', ⟨g', mk, t, L, E, ce, e1, e2, hq, hce, hcv, hcl, h1, hL, h2, h3⟩, st⟩
  · dsimp only [Pt.U, Pt.locs, Pt.cells, Pt.slots] at X' e1 e2 h1 h2 h3 st
    subst h1; subst h2; subst h3
    exact Or.inl ⟨v, (T.setVm vm₁).calling g' mk (Value.ref b :: As).toArray, t, U', L, hT, X', hL, e1, e2, hq, st⟩
  · dsimp only [Pt.U, Pt.locs, Pt.cells, Pt.slots] at X' e1 e2 h1 h2 h3 st hcl
    subst h1; subst h2; subst h3
    exact Or.inr ⟨q, (T.setVm vm₁).calling g' mk (Value.ref b :: As).toArray, t, U', L, E, ce, hT, X', hL, e1, e2, hq, hce, hcv, vx_cls hW₁ hcl, st⟩
theorem vx_runSX {hh : List (Nat × Nat × Nat × Nat)} (S : CallFix p m c cc nL s args Ts own) (hM : vx_Met l y ws rm Pc Qc XC mc ms free) (cw : vx_CSW R s args own index y bytes maxL ret hh ws rm mc ms n) (hp : PreS s H Pc As)
    (hg : g.method = m) (hn : As.length = n) (hsize : g.locals.size = nL) (hstack : g.stack = As.reverse ++ rest) (hW : 2 * g.monitorRoom + (rest.map fun v => v.category).sum ≤ 8) (hdg : decode cc g.pc = .ok (.invokestatic index, 3)) (hf : cells + mc ≤ R.cells ∧ slots + ms ≤ R.slots) :
    vx_Run p l e R s m args below meth c H locs cells slots mc ms g rest (Qc As.toArray) XC free := by
  obtain ⟨⟨hrc, hrs, hfr, hlo, hws, hcw⟩, hcode, hini, hy, hlen, hl, hstt⟩ := cw
  have hK : vx_Back l R p e below s args y 3 8 (PreOf R mc ms Pc) (PostOf Qc mc ms free) (vx_Post XC mc ms free) := vx_backW (hh := hh) (bytes := bytes) (maxL := maxL) (ret := ret) hM hp.1 hrc hrs hfr hlo hws hcw (fun a' U hW => word_at hW (Or.inl (by first | rfl | simp [Cond.onTables, Cond.keeps, Cond.steady])) hini)
  obtain ⟨hx, hb, hml, ho, -⟩ := S
  intro T hT X
  rcases vx_callSX X hx (hh := hh) (bytes := bytes) (maxL := maxL) (ret := ret) ho hl hstt hini hcode hy hK hg (hsize.trans hml.symm) (argsL := As) (rest := rest) (fun sig h => hn.trans (hlen sig h)) hstack hW (by rw [hb]; exact hdg)
    (fun vm₁ hW₁ => ⟨hf.1, hf.2, hp.2 (T.setVm vm₁) hT hW₁⟩) with ⟨v, vm₁, ⟨U', l2, c2, s2⟩, hW₁, X', ⟨g', mk, t, L, e1, e2, hq, h1, hL, h2, h3⟩, st⟩ | ⟨q, vm₁, ⟨U', l2, c2, s2⟩, hW₁, X', ⟨g', mk, t, L, E, ce, e1, e2, hq, hce, hcv, hcl, h1, hL, h2, h3⟩, st⟩
  · dsimp only [Pt.U, Pt.locs, Pt.cells, Pt.slots] at X' e1 e2 h1 h2 h3 st
    subst h1; subst h2; subst h3
    exact Or.inl ⟨v, (T.setVm vm₁).calling g' mk As.toArray, t, U', L, hT, X', hL, e1, e2, hq, st⟩
  · dsimp only [Pt.U, Pt.locs, Pt.cells, Pt.slots] at X' e1 e2 h1 h2 h3 st hcl
    subst h1; subst h2; subst h3
    exact Or.inr ⟨q, (T.setVm vm₁).calling g' mk As.toArray, t, U', L, E, ce, hT, X', hL, e1, e2, hq, hce, hcv, vx_cls hW₁ hcl, st⟩
end
end VXH
theorem vx_ofWH {l : Launch} {y : MethodName} {ws ws' : List Cond} {rm : Room} {Pc : Array Value → State → Prop} {Qc : Array Value → State → Outcome → State → Prop} {XC : String → State → State → Prop} {mc ms : Nat} {free : Addr → Prop} {cc : ByteArray} {maxL : Nat} {ret : Option FieldType} {hh : List (Nat × Nat × Nat × Nat)}
    (hy : plainName y.cls = true) (hw : ws = Cond.codeWith y cc maxL ret hh :: ws')
    (body : ∀ p e s m args below meth c s₁, BodyLoose p l y (headSpec ws rm) cc maxL ret e s m args below meth c s₁ → c.maxLocals = maxL → Pc args s →
      W p l e (headSpec ws rm).room s m args below meth c s.heap [] 0 0 (vx_MQ below Qc XC args s mc ms free) (entryFrame m args maxL)) : vx_Met l y ws rm Pc Qc XC mc ms free := by
  refine MetFree.of_bodyS (code := cc) (maxLocals := maxL) (ret := ret) hy ?_ ?_
  · intro args s m h hn
    obtain ⟨m9, meth, c, hn9, h1, h2, h3, h4, -, h5, h6, -⟩ := Cond.codeWith_spec (atoms_spec (ws := ws) h _ (by rw [hw]; exact List.mem_cons_self))
    cases hn.symm.trans hn9
    exact ⟨meth, c, h1, h2, h3, h4, h5, h6⟩
  · intro p e s m args below meth c s₁ B hml hP _
    have hh0 : s₁.heap = s.heap := by rw [B.state]; rfl
    obtain ⟨t, a1, o, b1, b2, b3⟩ := body p e s m args below meth c s₁ B hml hP s₁ hh0 (Stand.of_body B)
    exact ⟨t, o, a1, b1, b2, b3⟩
/-! ===== END ===== -/
end
section
-- ===== PART A: goes FIRST, ahead of the names: the tables' words, and 'selects' of the private methods out of them =====
/-- a private method of a class that the tables say can be made, by its rows of tables_1 -/
def lw_okq (q : MethodName × Nat) : Prop := (q.1.cls ≠ "java/lang/invoke/MethodHandle" ∧ q.1.cls ≠ "java/lang/invoke/VarHandle") ∧ Cond.instantiable q.1.cls q.2 ∈ tables_1 ∧ Cond.privateMethod q.1 ∈ tables_1 ∧ Cond.instanceMethod q.1 ∈ tables_1
theorem lw_p0 : lw_okq (⟨"ChoraleDesk", "hear", "()V"⟩, 12) := ⟨⟨by decide +kernel, by decide +kernel⟩, List.mem_of_getElem? (i := 24) (by decide +kernel), List.mem_of_getElem? (i := 283) (by decide +kernel), List.mem_of_getElem? (i := 284) (by decide +kernel)⟩
theorem lw_p1 : lw_okq (⟨"ChoraleDesk$Harmony", "nextBegin", "([LChoraleDesk$Part;)I"⟩, 4) := ⟨⟨by decide +kernel, by decide +kernel⟩, List.mem_of_getElem? (i := 154) (by decide +kernel), List.mem_of_getElem? (i := 294) (by decide +kernel), List.mem_of_getElem? (i := 295) (by decide +kernel)⟩
theorem lw_p2 : lw_okq (⟨"ChoraleDesk$Harmony", "eventGoingOn", "(LChoraleDesk$Part;II)I"⟩, 4) := ⟨⟨by decide +kernel, by decide +kernel⟩, List.mem_of_getElem? (i := 154) (by decide +kernel), List.mem_of_getElem? (i := 310) (by decide +kernel), List.mem_of_getElem? (i := 311) (by decide +kernel)⟩
theorem lw_p3 : lw_okq (⟨"ChoraleDesk", "searchFaults", "()V"⟩, 12) := ⟨⟨by decide +kernel, by decide +kernel⟩, List.mem_of_getElem? (i := 24) (by decide +kernel), List.mem_of_getElem? (i := 326) (by decide +kernel), List.mem_of_getElem? (i := 327) (by decide +kernel)⟩
theorem lw_p4 : lw_okq (⟨"ChoraleDesk$FaultList", "goOn", "([LChoraleDesk$Part;LChoraleDesk$Harmony;I)V"⟩, 8) := ⟨⟨by decide +kernel, by decide +kernel⟩, List.mem_of_getElem? (i := 189) (by decide +kernel), List.mem_of_getElem? (i := 344) (by decide +kernel), List.mem_of_getElem? (i := 345) (by decide +kernel)⟩
theorem lw_p5 : lw_okq (⟨"ChoraleDesk$FaultList", "searchParallels", "(I)V"⟩, 8) := ⟨⟨by decide +kernel, by decide +kernel⟩, List.mem_of_getElem? (i := 189) (by decide +kernel), List.mem_of_getElem? (i := 364) (by decide +kernel), List.mem_of_getElem? (i := 365) (by decide +kernel)⟩
theorem lw_p6 : lw_okq (⟨"ChoraleDesk$FaultList", "add", "(III)V"⟩, 8) := ⟨⟨by decide +kernel, by decide +kernel⟩, List.mem_of_getElem? (i := 189) (by decide +kernel), List.mem_of_getElem? (i := 371) (by decide +kernel), List.mem_of_getElem? (i := 372) (by decide +kernel)⟩
theorem lw_p7 : lw_okq (⟨"ChoraleDesk$FaultList", "searchCrossings", "(I)V"⟩, 8) := ⟨⟨by decide +kernel, by decide +kernel⟩, List.mem_of_getElem? (i := 189) (by decide +kernel), List.mem_of_getElem? (i := 375) (by decide +kernel), List.mem_of_getElem? (i := 376) (by decide +kernel)⟩
theorem lw_p8 : lw_okq (⟨"ChoraleDesk$FaultList", "searchNote", "(LChoraleDesk$Part;II)V"⟩, 8) := ⟨⟨by decide +kernel, by decide +kernel⟩, List.mem_of_getElem? (i := 189) (by decide +kernel), List.mem_of_getElem? (i := 379) (by decide +kernel), List.mem_of_getElem? (i := 380) (by decide +kernel)⟩
theorem lw_p9 : lw_okq (⟨"ChoraleDesk", "lastEnd", "()I"⟩, 12) := ⟨⟨by decide +kernel, by decide +kernel⟩, List.mem_of_getElem? (i := 24) (by decide +kernel), List.mem_of_getElem? (i := 398) (by decide +kernel), List.mem_of_getElem? (i := 399) (by decide +kernel)⟩
theorem lw_p10 : lw_okq (⟨"ChoraleDesk", "measureWidths", "()V"⟩, 12) := ⟨⟨by decide +kernel, by decide +kernel⟩, List.mem_of_getElem? (i := 24) (by decide +kernel), List.mem_of_getElem? (i := 435) (by decide +kernel), List.mem_of_getElem? (i := 436) (by decide +kernel)⟩
theorem lw_p11 : lw_okq (⟨"ChoraleDesk", "mixPart", "(JLChoraleDesk$Part;)J"⟩, 12) := ⟨⟨by decide +kernel, by decide +kernel⟩, List.mem_of_getElem? (i := 24) (by decide +kernel), List.mem_of_getElem? (i := 459) (by decide +kernel), List.mem_of_getElem? (i := 460) (by decide +kernel)⟩
theorem lw_p12 : lw_okq (⟨"ChoraleDesk", "mixBar", "(JI)J"⟩, 12) := ⟨⟨by decide +kernel, by decide +kernel⟩, List.mem_of_getElem? (i := 24) (by decide +kernel), List.mem_of_getElem? (i := 482) (by decide +kernel), List.mem_of_getElem? (i := 483) (by decide +kernel)⟩
theorem lw_p13 : lw_okq (⟨"ChoraleDesk", "measureAt", "(II)LChoraleDesk$Measure;"⟩, 12) := ⟨⟨by decide +kernel, by decide +kernel⟩, List.mem_of_getElem? (i := 24) (by decide +kernel), List.mem_of_getElem? (i := 492) (by decide +kernel), List.mem_of_getElem? (i := 493) (by decide +kernel)⟩
theorem lw_p14 : lw_okq (⟨"ChoraleDesk", "partAt", "(I)LChoraleDesk$Part;"⟩, 12) := ⟨⟨by decide +kernel, by decide +kernel⟩, List.mem_of_getElem? (i := 24) (by decide +kernel), List.mem_of_getElem? (i := 496) (by decide +kernel), List.mem_of_getElem? (i := 497) (by decide +kernel)⟩
theorem lw_p15 : lw_okq (⟨"java/lang/Throwable", "fillInStackTrace", "(I)Ljava/lang/Throwable;"⟩, 6) := ⟨⟨by decide +kernel, by decide +kernel⟩, List.mem_of_getElem? (i := 538) (by decide +kernel), List.mem_of_getElem? (i := 536) (by decide +kernel), List.mem_of_getElem? (i := 537) (by decide +kernel)⟩
def lw_privs_1 : List (MethodName × Nat) := [(⟨"ChoraleDesk", "hear", "()V"⟩, 12), (⟨"ChoraleDesk$Harmony", "nextBegin", "([LChoraleDesk$Part;)I"⟩, 4), (⟨"ChoraleDesk$Harmony", "eventGoingOn", "(LChoraleDesk$Part;II)I"⟩, 4), (⟨"ChoraleDesk", "searchFaults", "()V"⟩, 12), (⟨"ChoraleDesk$FaultList", "goOn", "([LChoraleDesk$Part;LChoraleDesk$Harmony;I)V"⟩, 8), (⟨"ChoraleDesk$FaultList", "searchParallels", "(I)V"⟩, 8), (⟨"ChoraleDesk$FaultList", "add", "(III)V"⟩, 8), (⟨"ChoraleDesk$FaultList", "searchCrossings", "(I)V"⟩, 8), (⟨"ChoraleDesk$FaultList", "searchNote", "(LChoraleDesk$Part;II)V"⟩, 8), (⟨"ChoraleDesk", "lastEnd", "()I"⟩, 12), (⟨"ChoraleDesk", "measureWidths", "()V"⟩, 12), (⟨"ChoraleDesk", "mixPart", "(JLChoraleDesk$Part;)J"⟩, 12), (⟨"ChoraleDesk", "mixBar", "(JI)J"⟩, 12), (⟨"ChoraleDesk", "measureAt", "(II)LChoraleDesk$Measure;"⟩, 12), (⟨"ChoraleDesk", "partAt", "(I)LChoraleDesk$Part;"⟩, 12), (⟨"java/lang/Throwable", "fillInStackTrace", "(I)Ljava/lang/Throwable;"⟩, 6)]
theorem lw_r1 : ∀ q ∈ lw_privs_1, lw_okq q := List.forall_mem_cons.mpr ⟨lw_p0, List.forall_mem_cons.mpr ⟨lw_p1, List.forall_mem_cons.mpr ⟨lw_p2, List.forall_mem_cons.mpr ⟨lw_p3, List.forall_mem_cons.mpr ⟨lw_p4, List.forall_mem_cons.mpr ⟨lw_p5, List.forall_mem_cons.mpr ⟨lw_p6, List.forall_mem_cons.mpr ⟨lw_p7, List.forall_mem_cons.mpr ⟨lw_p8, List.forall_mem_cons.mpr ⟨lw_p9, List.forall_mem_cons.mpr ⟨lw_p10, List.forall_mem_cons.mpr ⟨lw_p11, List.forall_mem_cons.mpr ⟨lw_p12, List.forall_mem_cons.mpr ⟨lw_p13, List.forall_mem_cons.mpr ⟨lw_p14, List.forall_mem_cons.mpr ⟨lw_p15, fun _ h => absurd h List.not_mem_nil⟩⟩⟩⟩⟩⟩⟩⟩⟩⟩⟩⟩⟩⟩⟩⟩
theorem lw_p16 : lw_okq (⟨"ChoraleDesk$Measure", "writeStretch", "(III)V"⟩, 11) := ⟨⟨by decide +kernel, by decide +kernel⟩, List.mem_of_getElem? (i := 113) (by decide +kernel), List.mem_of_getElem? (i := 588) (by decide +kernel), List.mem_of_getElem? (i := 589) (by decide +kernel)⟩
theorem lw_p17 : lw_okq (⟨"ChoraleDesk$Measure", "addSign", "(III)V"⟩, 11) := ⟨⟨by decide +kernel, by decide +kernel⟩, List.mem_of_getElem? (i := 113) (by decide +kernel), List.mem_of_getElem? (i := 597) (by decide +kernel), List.mem_of_getElem? (i := 598) (by decide +kernel)⟩
theorem lw_p18 : lw_okq (⟨"ChoraleDesk$Measure", "markSigns", "(LChoraleDesk$Part;I)V"⟩, 11) := ⟨⟨by decide +kernel, by decide +kernel⟩, List.mem_of_getElem? (i := 113) (by decide +kernel), List.mem_of_getElem? (i := 605) (by decide +kernel), List.mem_of_getElem? (i := 606) (by decide +kernel)⟩
theorem lw_p19 : lw_okq (⟨"ChoraleDesk$Measure", "beamSigns", "(LChoraleDesk$Part;II)V"⟩, 11) := ⟨⟨by decide +kernel, by decide +kernel⟩, List.mem_of_getElem? (i := 113) (by decide +kernel), List.mem_of_getElem? (i := 614) (by decide +kernel), List.mem_of_getElem? (i := 615) (by decide +kernel)⟩
theorem lw_p20 : lw_okq (⟨"ChoraleDesk$Measure", "joinToSignAhead", "(I)V"⟩, 11) := ⟨⟨by decide +kernel, by decide +kernel⟩, List.mem_of_getElem? (i := 113) (by decide +kernel), List.mem_of_getElem? (i := 618) (by decide +kernel), List.mem_of_getElem? (i := 619) (by decide +kernel)⟩
theorem lw_p21 : lw_okq (⟨"ChoraleDesk$Measure", "showAlters", "(LChoraleDesk$Part;I)V"⟩, 11) := ⟨⟨by decide +kernel, by decide +kernel⟩, List.mem_of_getElem? (i := 113) (by decide +kernel), List.mem_of_getElem? (i := 627) (by decide +kernel), List.mem_of_getElem? (i := 628) (by decide +kernel)⟩
theorem lw_p22 : lw_okq (⟨"ChoraleDesk$Measure", "alterToShow", "(III)I"⟩, 11) := ⟨⟨by decide +kernel, by decide +kernel⟩, List.mem_of_getElem? (i := 113) (by decide +kernel), List.mem_of_getElem? (i := 640) (by decide +kernel), List.mem_of_getElem? (i := 641) (by decide +kernel)⟩
theorem lw_p23 : lw_okq (⟨"ChoraleDesk$Measure", "showAltersAsWritten", "(LChoraleDesk$Part;I)V"⟩, 11) := ⟨⟨by decide +kernel, by decide +kernel⟩, List.mem_of_getElem? (i := 113) (by decide +kernel), List.mem_of_getElem? (i := 653) (by decide +kernel), List.mem_of_getElem? (i := 654) (by decide +kernel)⟩
theorem lw_p24 : lw_okq (⟨"ChoraleDesk", "mixSigns", "(JLChoraleDesk$Measure;)J"⟩, 12) := ⟨⟨by decide +kernel, by decide +kernel⟩, List.mem_of_getElem? (i := 24) (by decide +kernel), List.mem_of_getElem? (i := 676) (by decide +kernel), List.mem_of_getElem? (i := 677) (by decide +kernel)⟩
theorem lw_p25 : lw_okq (⟨"ChoraleDesk", "mixMoments", "(J)J"⟩, 12) := ⟨⟨by decide +kernel, by decide +kernel⟩, List.mem_of_getElem? (i := 24) (by decide +kernel), List.mem_of_getElem? (i := 704) (by decide +kernel), List.mem_of_getElem? (i := 705) (by decide +kernel)⟩
theorem lw_p26 : lw_okq (⟨"ChoraleDesk", "chordAt", "(I)LChoraleDesk$Chord;"⟩, 12) := ⟨⟨by decide +kernel, by decide +kernel⟩, List.mem_of_getElem? (i := 24) (by decide +kernel), List.mem_of_getElem? (i := 710) (by decide +kernel), List.mem_of_getElem? (i := 711) (by decide +kernel)⟩
theorem lw_p27 : lw_okq (⟨"ChoraleDesk$Chord", "forget", "()V"⟩, 3) := ⟨⟨by decide +kernel, by decide +kernel⟩, List.mem_of_getElem? (i := 173) (by decide +kernel), List.mem_of_getElem? (i := 721) (by decide +kernel), List.mem_of_getElem? (i := 722) (by decide +kernel)⟩
theorem lw_p28 : lw_okq (⟨"ChoraleDesk$Chord", "findRoot", "(II)V"⟩, 3) := ⟨⟨by decide +kernel, by decide +kernel⟩, List.mem_of_getElem? (i := 173) (by decide +kernel), List.mem_of_getElem? (i := 731) (by decide +kernel), List.mem_of_getElem? (i := 732) (by decide +kernel)⟩
theorem lw_p29 : lw_okq (⟨"ChoraleDesk$Chord", "findKind", "(III)V"⟩, 3) := ⟨⟨by decide +kernel, by decide +kernel⟩, List.mem_of_getElem? (i := 173) (by decide +kernel), List.mem_of_getElem? (i := 735) (by decide +kernel), List.mem_of_getElem? (i := 736) (by decide +kernel)⟩
theorem lw_p30 : lw_okq (⟨"ChoraleDesk", "mixFaults", "(J)J"⟩, 12) := ⟨⟨by decide +kernel, by decide +kernel⟩, List.mem_of_getElem? (i := 24) (by decide +kernel), List.mem_of_getElem? (i := 755) (by decide +kernel), List.mem_of_getElem? (i := 756) (by decide +kernel)⟩
theorem lw_p31 : lw_okq (⟨"ChoraleDesk", "mixLines", "(JI)J"⟩, 12) := ⟨⟨by decide +kernel, by decide +kernel⟩, List.mem_of_getElem? (i := 24) (by decide +kernel), List.mem_of_getElem? (i := 776) (by decide +kernel), List.mem_of_getElem? (i := 777) (by decide +kernel)⟩
def lw_privs_2 : List (MethodName × Nat) := [(⟨"ChoraleDesk$Measure", "writeStretch", "(III)V"⟩, 11), (⟨"ChoraleDesk$Measure", "addSign", "(III)V"⟩, 11), (⟨"ChoraleDesk$Measure", "markSigns", "(LChoraleDesk$Part;I)V"⟩, 11), (⟨"ChoraleDesk$Measure", "beamSigns", "(LChoraleDesk$Part;II)V"⟩, 11), (⟨"ChoraleDesk$Measure", "joinToSignAhead", "(I)V"⟩, 11), (⟨"ChoraleDesk$Measure", "showAlters", "(LChoraleDesk$Part;I)V"⟩, 11), (⟨"ChoraleDesk$Measure", "alterToShow", "(III)I"⟩, 11), (⟨"ChoraleDesk$Measure", "showAltersAsWritten", "(LChoraleDesk$Part;I)V"⟩, 11), (⟨"ChoraleDesk", "mixSigns", "(JLChoraleDesk$Measure;)J"⟩, 12), (⟨"ChoraleDesk", "mixMoments", "(J)J"⟩, 12), (⟨"ChoraleDesk", "chordAt", "(I)LChoraleDesk$Chord;"⟩, 12), (⟨"ChoraleDesk$Chord", "forget", "()V"⟩, 3), (⟨"ChoraleDesk$Chord", "findRoot", "(II)V"⟩, 3), (⟨"ChoraleDesk$Chord", "findKind", "(III)V"⟩, 3), (⟨"ChoraleDesk", "mixFaults", "(J)J"⟩, 12), (⟨"ChoraleDesk", "mixLines", "(JI)J"⟩, 12)]
theorem lw_r2 : ∀ q ∈ lw_privs_2, lw_okq q := List.forall_mem_cons.mpr ⟨lw_p16, List.forall_mem_cons.mpr ⟨lw_p17, List.forall_mem_cons.mpr ⟨lw_p18, List.forall_mem_cons.mpr ⟨lw_p19, List.forall_mem_cons.mpr ⟨lw_p20, List.forall_mem_cons.mpr ⟨lw_p21, List.forall_mem_cons.mpr ⟨lw_p22, List.forall_mem_cons.mpr ⟨lw_p23, List.forall_mem_cons.mpr ⟨lw_p24, List.forall_mem_cons.mpr ⟨lw_p25, List.forall_mem_cons.mpr ⟨lw_p26, List.forall_mem_cons.mpr ⟨lw_p27, List.forall_mem_cons.mpr ⟨lw_p28, List.forall_mem_cons.mpr ⟨lw_p29, List.forall_mem_cons.mpr ⟨lw_p30, List.forall_mem_cons.mpr ⟨lw_p31, fun _ h => absurd h List.not_mem_nil⟩⟩⟩⟩⟩⟩⟩⟩⟩⟩⟩⟩⟩⟩⟩⟩
theorem lw_p32 : lw_okq (⟨"ChoraleDesk", "breakLines", "(I)V"⟩, 12) := ⟨⟨by decide +kernel, by decide +kernel⟩, List.mem_of_getElem? (i := 24) (by decide +kernel), List.mem_of_getElem? (i := 780) (by decide +kernel), List.mem_of_getElem? (i := 781) (by decide +kernel)⟩
theorem lw_p33 : lw_okq (⟨"ChoraleDesk$LineBreaks", "chooseLine", "(III)V"⟩, 5) := ⟨⟨by decide +kernel, by decide +kernel⟩, List.mem_of_getElem? (i := 220) (by decide +kernel), List.mem_of_getElem? (i := 790) (by decide +kernel), List.mem_of_getElem? (i := 791) (by decide +kernel)⟩
theorem lw_p34 : lw_okq (⟨"ChoraleDesk$LineBreaks", "numberLines", "(I)V"⟩, 5) := ⟨⟨by decide +kernel, by decide +kernel⟩, List.mem_of_getElem? (i := 220) (by decide +kernel), List.mem_of_getElem? (i := 794) (by decide +kernel), List.mem_of_getElem? (i := 795) (by decide +kernel)⟩
theorem lw_p35 : lw_okq (⟨"ChoraleDesk", "checkRoom", "(LChoraleDesk$Part;I)V"⟩, 12) := ⟨⟨by decide +kernel, by decide +kernel⟩, List.mem_of_getElem? (i := 24) (by decide +kernel), List.mem_of_getElem? (i := 845) (by decide +kernel), List.mem_of_getElem? (i := 846) (by decide +kernel)⟩
theorem lw_p36 : lw_okq (⟨"ChoraleDesk", "allEvents", "()I"⟩, 12) := ⟨⟨by decide +kernel, by decide +kernel⟩, List.mem_of_getElem? (i := 24) (by decide +kernel), List.mem_of_getElem? (i := 849) (by decide +kernel), List.mem_of_getElem? (i := 850) (by decide +kernel)⟩
theorem lw_p37 : lw_okq (⟨"ChoraleDesk", "forgetWhatFollows", "()V"⟩, 12) := ⟨⟨by decide +kernel, by decide +kernel⟩, List.mem_of_getElem? (i := 24) (by decide +kernel), List.mem_of_getElem? (i := 870) (by decide +kernel), List.mem_of_getElem? (i := 871) (by decide +kernel)⟩
theorem lw_p38 : lw_okq (⟨"ChoraleDesk$Part", "writeForInstrument", "(I)V"⟩, 13) := ⟨⟨by decide +kernel, by decide +kernel⟩, List.mem_of_getElem? (i := 33) (by decide +kernel), List.mem_of_getElem? (i := 891) (by decide +kernel), List.mem_of_getElem? (i := 892) (by decide +kernel)⟩
theorem lw_p39 : lw_okq (⟨"ChoraleDesk", "partWith", "(II)LChoraleDesk$Part;"⟩, 12) := ⟨⟨by decide +kernel, by decide +kernel⟩, List.mem_of_getElem? (i := 24) (by decide +kernel), List.mem_of_getElem? (i := 922) (by decide +kernel), List.mem_of_getElem? (i := 923) (by decide +kernel)⟩
theorem lw_p40 : lw_okq (⟨"ChoraleDesk", "measureWith", "(III)LChoraleDesk$Measure;"⟩, 12) := ⟨⟨by decide +kernel, by decide +kernel⟩, List.mem_of_getElem? (i := 24) (by decide +kernel), List.mem_of_getElem? (i := 1077) (by decide +kernel), List.mem_of_getElem? (i := 1078) (by decide +kernel)⟩
theorem lw_p41 : lw_okq (⟨"ChoraleDesk", "checkMoment", "(I)V"⟩, 12) := ⟨⟨by decide +kernel, by decide +kernel⟩, List.mem_of_getElem? (i := 24) (by decide +kernel), List.mem_of_getElem? (i := 1139) (by decide +kernel), List.mem_of_getElem? (i := 1140) (by decide +kernel)⟩
theorem lw_p42 : lw_okq (⟨"ChoraleDesk", "checkFault", "(I)V"⟩, 12) := ⟨⟨by decide +kernel, by decide +kernel⟩, List.mem_of_getElem? (i := 24) (by decide +kernel), List.mem_of_getElem? (i := 1180) (by decide +kernel), List.mem_of_getElem? (i := 1181) (by decide +kernel)⟩
theorem lw_p43 : lw_okq (⟨"ChoraleDeskModel", "refuse", "(I)I"⟩, 31) := ⟨⟨by decide +kernel, by decide +kernel⟩, List.mem_of_getElem? (i := 1245) (by decide +kernel), List.mem_of_getElem? (i := 1404) (by decide +kernel), List.mem_of_getElem? (i := 1405) (by decide +kernel)⟩
theorem lw_p44 : lw_okq (⟨"ChoraleDeskModel", "add", "(IIII)I"⟩, 31) := ⟨⟨by decide +kernel, by decide +kernel⟩, List.mem_of_getElem? (i := 1245) (by decide +kernel), List.mem_of_getElem? (i := 1416) (by decide +kernel), List.mem_of_getElem? (i := 1417) (by decide +kernel)⟩
theorem lw_p45 : lw_okq (⟨"ChoraleDeskModel", "begin", "(I)I"⟩, 31) := ⟨⟨by decide +kernel, by decide +kernel⟩, List.mem_of_getElem? (i := 1245) (by decide +kernel), List.mem_of_getElem? (i := 1428) (by decide +kernel), List.mem_of_getElem? (i := 1429) (by decide +kernel)⟩
theorem lw_p46 : lw_okq (⟨"ChoraleDeskModel", "length", "(I)I"⟩, 31) := ⟨⟨by decide +kernel, by decide +kernel⟩, List.mem_of_getElem? (i := 1245) (by decide +kernel), List.mem_of_getElem? (i := 1432) (by decide +kernel), List.mem_of_getElem? (i := 1433) (by decide +kernel)⟩
theorem lw_p47 : lw_okq (⟨"ChoraleDeskModel", "isEvent", "(II)Z"⟩, 31) := ⟨⟨by decide +kernel, by decide +kernel⟩, List.mem_of_getElem? (i := 1245) (by decide +kernel), List.mem_of_getElem? (i := 1467) (by decide +kernel), List.mem_of_getElem? (i := 1468) (by decide +kernel)⟩
def lw_privs_3 : List (MethodName × Nat) := [(⟨"ChoraleDesk", "breakLines", "(I)V"⟩, 12), (⟨"ChoraleDesk$LineBreaks", "chooseLine", "(III)V"⟩, 5), (⟨"ChoraleDesk$LineBreaks", "numberLines", "(I)V"⟩, 5), (⟨"ChoraleDesk", "checkRoom", "(LChoraleDesk$Part;I)V"⟩, 12), (⟨"ChoraleDesk", "allEvents", "()I"⟩, 12), (⟨"ChoraleDesk", "forgetWhatFollows", "()V"⟩, 12), (⟨"ChoraleDesk$Part", "writeForInstrument", "(I)V"⟩, 13), (⟨"ChoraleDesk", "partWith", "(II)LChoraleDesk$Part;"⟩, 12), (⟨"ChoraleDesk", "measureWith", "(III)LChoraleDesk$Measure;"⟩, 12), (⟨"ChoraleDesk", "checkMoment", "(I)V"⟩, 12), (⟨"ChoraleDesk", "checkFault", "(I)V"⟩, 12), (⟨"ChoraleDeskModel", "refuse", "(I)I"⟩, 31), (⟨"ChoraleDeskModel", "add", "(IIII)I"⟩, 31), (⟨"ChoraleDeskModel", "begin", "(I)I"⟩, 31), (⟨"ChoraleDeskModel", "length", "(I)I"⟩, 31), (⟨"ChoraleDeskModel", "isEvent", "(II)Z"⟩, 31)]
theorem lw_r3 : ∀ q ∈ lw_privs_3, lw_okq q := List.forall_mem_cons.mpr ⟨lw_p32, List.forall_mem_cons.mpr ⟨lw_p33, List.forall_mem_cons.mpr ⟨lw_p34, List.forall_mem_cons.mpr ⟨lw_p35, List.forall_mem_cons.mpr ⟨lw_p36, List.forall_mem_cons.mpr ⟨lw_p37, List.forall_mem_cons.mpr ⟨lw_p38, List.forall_mem_cons.mpr ⟨lw_p39, List.forall_mem_cons.mpr ⟨lw_p40, List.forall_mem_cons.mpr ⟨lw_p41, List.forall_mem_cons.mpr ⟨lw_p42, List.forall_mem_cons.mpr ⟨lw_p43, List.forall_mem_cons.mpr ⟨lw_p44, List.forall_mem_cons.mpr ⟨lw_p45, List.forall_mem_cons.mpr ⟨lw_p46, List.forall_mem_cons.mpr ⟨lw_p47, fun _ h => absurd h List.not_mem_nil⟩⟩⟩⟩⟩⟩⟩⟩⟩⟩⟩⟩⟩⟩⟩⟩
theorem lw_p48 : lw_okq (⟨"ChoraleDeskModel", "heightNow", "(II)I"⟩, 31) := ⟨⟨by decide +kernel, by decide +kernel⟩, List.mem_of_getElem? (i := 1245) (by decide +kernel), List.mem_of_getElem? (i := 1536) (by decide +kernel), List.mem_of_getElem? (i := 1537) (by decide +kernel)⟩
theorem lw_p49 : lw_okq (⟨"ChoraleDeskModel", "barAt", "(I)I"⟩, 31) := ⟨⟨by decide +kernel, by decide +kernel⟩, List.mem_of_getElem? (i := 1245) (by decide +kernel), List.mem_of_getElem? (i := 1544) (by decide +kernel), List.mem_of_getElem? (i := 1545) (by decide +kernel)⟩
theorem lw_p50 : lw_okq (⟨"ChoraleDeskModel", "writtenPlaceNow", "(II)I"⟩, 31) := ⟨⟨by decide +kernel, by decide +kernel⟩, List.mem_of_getElem? (i := 1245) (by decide +kernel), List.mem_of_getElem? (i := 1552) (by decide +kernel), List.mem_of_getElem? (i := 1553) (by decide +kernel)⟩
theorem lw_p51 : lw_okq (⟨"ChoraleDeskModel", "writtenAlterNow", "(II)I"⟩, 31) := ⟨⟨by decide +kernel, by decide +kernel⟩, List.mem_of_getElem? (i := 1245) (by decide +kernel), List.mem_of_getElem? (i := 1561) (by decide +kernel), List.mem_of_getElem? (i := 1562) (by decide +kernel)⟩
theorem lw_p52 : lw_okq (⟨"ChoraleDeskModel", "keyWritten", "(II)I"⟩, 31) := ⟨⟨by decide +kernel, by decide +kernel⟩, List.mem_of_getElem? (i := 1245) (by decide +kernel), List.mem_of_getElem? (i := 1580) (by decide +kernel), List.mem_of_getElem? (i := 1581) (by decide +kernel)⟩
theorem lw_p53 : lw_okq (⟨"ChoraleDeskModel", "has", "(II)Z"⟩, 31) := ⟨⟨by decide +kernel, by decide +kernel⟩, List.mem_of_getElem? (i := 1245) (by decide +kernel), List.mem_of_getElem? (i := 1596) (by decide +kernel), List.mem_of_getElem? (i := 1597) (by decide +kernel)⟩
theorem lw_p54 : lw_okq (⟨"ChoraleDeskModel", "lay", "(II)V"⟩, 31) := ⟨⟨by decide +kernel, by decide +kernel⟩, List.mem_of_getElem? (i := 1245) (by decide +kernel), List.mem_of_getElem? (i := 1600) (by decide +kernel), List.mem_of_getElem? (i := 1601) (by decide +kernel)⟩
theorem lw_p55 : lw_okq (⟨"ChoraleDeskModel", "show", "(IIZ[I)V"⟩, 31) := ⟨⟨by decide +kernel, by decide +kernel⟩, List.mem_of_getElem? (i := 1245) (by decide +kernel), List.mem_of_getElem? (i := 1607) (by decide +kernel), List.mem_of_getElem? (i := 1608) (by decide +kernel)⟩
theorem lw_p56 : lw_okq (⟨"ChoraleDeskModel", "beam", "(III)V"⟩, 31) := ⟨⟨by decide +kernel, by decide +kernel⟩, List.mem_of_getElem? (i := 1245) (by decide +kernel), List.mem_of_getElem? (i := 1611) (by decide +kernel), List.mem_of_getElem? (i := 1612) (by decide +kernel)⟩
theorem lw_p57 : lw_okq (⟨"ChoraleDeskModel", "isShort", "(II)Z"⟩, 31) := ⟨⟨by decide +kernel, by decide +kernel⟩, List.mem_of_getElem? (i := 1245) (by decide +kernel), List.mem_of_getElem? (i := 1615) (by decide +kernel), List.mem_of_getElem? (i := 1616) (by decide +kernel)⟩
theorem lw_p58 : lw_okq (⟨"ChoraleDeskModel", "has", "(III)Z"⟩, 31) := ⟨⟨by decide +kernel, by decide +kernel⟩, List.mem_of_getElem? (i := 1245) (by decide +kernel), List.mem_of_getElem? (i := 1623) (by decide +kernel), List.mem_of_getElem? (i := 1624) (by decide +kernel)⟩
theorem lw_p59 : lw_okq (⟨"ChoraleDeskModel", "missingNow", "(II)I"⟩, 31) := ⟨⟨by decide +kernel, by decide +kernel⟩, List.mem_of_getElem? (i := 1245) (by decide +kernel), List.mem_of_getElem? (i := 1655) (by decide +kernel), List.mem_of_getElem? (i := 1656) (by decide +kernel)⟩
theorem lw_p60 : lw_okq (⟨"ChoraleDeskModel", "momentsNow", "()I"⟩, 31) := ⟨⟨by decide +kernel, by decide +kernel⟩, List.mem_of_getElem? (i := 1245) (by decide +kernel), List.mem_of_getElem? (i := 1663) (by decide +kernel), List.mem_of_getElem? (i := 1664) (by decide +kernel)⟩
theorem lw_p61 : lw_okq (⟨"ChoraleDeskModel", "beginWalk", "()V"⟩, 31) := ⟨⟨by decide +kernel, by decide +kernel⟩, List.mem_of_getElem? (i := 1245) (by decide +kernel), List.mem_of_getElem? (i := 1667) (by decide +kernel), List.mem_of_getElem? (i := 1668) (by decide +kernel)⟩
theorem lw_p62 : lw_okq (⟨"ChoraleDeskModel", "walk", "()Z"⟩, 31) := ⟨⟨by decide +kernel, by decide +kernel⟩, List.mem_of_getElem? (i := 1245) (by decide +kernel), List.mem_of_getElem? (i := 1671) (by decide +kernel), List.mem_of_getElem? (i := 1672) (by decide +kernel)⟩
theorem lw_p63 : lw_okq (⟨"ChoraleDeskModel", "walkTo", "(I)Z"⟩, 31) := ⟨⟨by decide +kernel, by decide +kernel⟩, List.mem_of_getElem? (i := 1245) (by decide +kernel), List.mem_of_getElem? (i := 1680) (by decide +kernel), List.mem_of_getElem? (i := 1681) (by decide +kernel)⟩
def lw_privs_4 : List (MethodName × Nat) := [(⟨"ChoraleDeskModel", "heightNow", "(II)I"⟩, 31), (⟨"ChoraleDeskModel", "barAt", "(I)I"⟩, 31), (⟨"ChoraleDeskModel", "writtenPlaceNow", "(II)I"⟩, 31), (⟨"ChoraleDeskModel", "writtenAlterNow", "(II)I"⟩, 31), (⟨"ChoraleDeskModel", "keyWritten", "(II)I"⟩, 31), (⟨"ChoraleDeskModel", "has", "(II)Z"⟩, 31), (⟨"ChoraleDeskModel", "lay", "(II)V"⟩, 31), (⟨"ChoraleDeskModel", "show", "(IIZ[I)V"⟩, 31), (⟨"ChoraleDeskModel", "beam", "(III)V"⟩, 31), (⟨"ChoraleDeskModel", "isShort", "(II)Z"⟩, 31), (⟨"ChoraleDeskModel", "has", "(III)Z"⟩, 31), (⟨"ChoraleDeskModel", "missingNow", "(II)I"⟩, 31), (⟨"ChoraleDeskModel", "momentsNow", "()I"⟩, 31), (⟨"ChoraleDeskModel", "beginWalk", "()V"⟩, 31), (⟨"ChoraleDeskModel", "walk", "()Z"⟩, 31), (⟨"ChoraleDeskModel", "walkTo", "(I)Z"⟩, 31)]
theorem lw_r4 : ∀ q ∈ lw_privs_4, lw_okq q := List.forall_mem_cons.mpr ⟨lw_p48, List.forall_mem_cons.mpr ⟨lw_p49, List.forall_mem_cons.mpr ⟨lw_p50, List.forall_mem_cons.mpr ⟨lw_p51, List.forall_mem_cons.mpr ⟨lw_p52, List.forall_mem_cons.mpr ⟨lw_p53, List.forall_mem_cons.mpr ⟨lw_p54, List.forall_mem_cons.mpr ⟨lw_p55, List.forall_mem_cons.mpr ⟨lw_p56, List.forall_mem_cons.mpr ⟨lw_p57, List.forall_mem_cons.mpr ⟨lw_p58, List.forall_mem_cons.mpr ⟨lw_p59, List.forall_mem_cons.mpr ⟨lw_p60, List.forall_mem_cons.mpr ⟨lw_p61, List.forall_mem_cons.mpr ⟨lw_p62, List.forall_mem_cons.mpr ⟨lw_p63, fun _ h => absurd h List.not_mem_nil⟩⟩⟩⟩⟩⟩⟩⟩⟩⟩⟩⟩⟩⟩⟩⟩
theorem lw_p64 : lw_okq (⟨"ChoraleDeskModel", "soundsNow", "(I)I"⟩, 31) := ⟨⟨by decide +kernel, by decide +kernel⟩, List.mem_of_getElem? (i := 1245) (by decide +kernel), List.mem_of_getElem? (i := 1688) (by decide +kernel), List.mem_of_getElem? (i := 1689) (by decide +kernel)⟩
theorem lw_p65 : lw_okq (⟨"ChoraleDeskModel", "findChord", "()V"⟩, 31) := ⟨⟨by decide +kernel, by decide +kernel⟩, List.mem_of_getElem? (i := 1245) (by decide +kernel), List.mem_of_getElem? (i := 1696) (by decide +kernel), List.mem_of_getElem? (i := 1697) (by decide +kernel)⟩
theorem lw_p66 : lw_okq (⟨"ChoraleDeskModel", "countFaults", "(I)I"⟩, 31) := ⟨⟨by decide +kernel, by decide +kernel⟩, List.mem_of_getElem? (i := 1245) (by decide +kernel), List.mem_of_getElem? (i := 1712) (by decide +kernel), List.mem_of_getElem? (i := 1713) (by decide +kernel)⟩
theorem lw_p67 : lw_okq (⟨"ChoraleDeskModel", "blameParallels", "(II)V"⟩, 31) := ⟨⟨by decide +kernel, by decide +kernel⟩, List.mem_of_getElem? (i := 1245) (by decide +kernel), List.mem_of_getElem? (i := 1716) (by decide +kernel), List.mem_of_getElem? (i := 1717) (by decide +kernel)⟩
theorem lw_p68 : lw_okq (⟨"ChoraleDeskModel", "begins", "(I)Z"⟩, 31) := ⟨⟨by decide +kernel, by decide +kernel⟩, List.mem_of_getElem? (i := 1245) (by decide +kernel), List.mem_of_getElem? (i := 1720) (by decide +kernel), List.mem_of_getElem? (i := 1721) (by decide +kernel)⟩
theorem lw_p69 : lw_okq (⟨"ChoraleDeskModel", "blame", "(II)V"⟩, 31) := ⟨⟨by decide +kernel, by decide +kernel⟩, List.mem_of_getElem? (i := 1245) (by decide +kernel), List.mem_of_getElem? (i := 1724) (by decide +kernel), List.mem_of_getElem? (i := 1725) (by decide +kernel)⟩
theorem lw_p70 : lw_okq (⟨"ChoraleDeskModel", "blamePart", "(I)V"⟩, 31) := ⟨⟨by decide +kernel, by decide +kernel⟩, List.mem_of_getElem? (i := 1245) (by decide +kernel), List.mem_of_getElem? (i := 1728) (by decide +kernel), List.mem_of_getElem? (i := 1729) (by decide +kernel)⟩
theorem lw_p71 : lw_okq (⟨"ChoraleDeskModel", "hasFault", "(I)Z"⟩, 31) := ⟨⟨by decide +kernel, by decide +kernel⟩, List.mem_of_getElem? (i := 1245) (by decide +kernel), List.mem_of_getElem? (i := 1736) (by decide +kernel), List.mem_of_getElem? (i := 1737) (by decide +kernel)⟩
theorem lw_p72 : lw_okq (⟨"ChoraleDeskModel", "barsNow", "()I"⟩, 31) := ⟨⟨by decide +kernel, by decide +kernel⟩, List.mem_of_getElem? (i := 1245) (by decide +kernel), List.mem_of_getElem? (i := 1756) (by decide +kernel), List.mem_of_getElem? (i := 1757) (by decide +kernel)⟩
theorem lw_p73 : lw_okq (⟨"ChoraleDeskModel", "width", "(I)I"⟩, 31) := ⟨⟨by decide +kernel, by decide +kernel⟩, List.mem_of_getElem? (i := 1245) (by decide +kernel), List.mem_of_getElem? (i := 1764) (by decide +kernel), List.mem_of_getElem? (i := 1765) (by decide +kernel)⟩
theorem lw_p74 : lw_okq (⟨"ChoraleDeskModel", "linesNow", "(I)I"⟩, 31) := ⟨⟨by decide +kernel, by decide +kernel⟩, List.mem_of_getElem? (i := 1245) (by decide +kernel), List.mem_of_getElem? (i := 1772) (by decide +kernel), List.mem_of_getElem? (i := 1773) (by decide +kernel)⟩
theorem lw_p75 : lw_okq (⟨"ChoraleDeskModel", "breakLines", "(I)I"⟩, 31) := ⟨⟨by decide +kernel, by decide +kernel⟩, List.mem_of_getElem? (i := 1245) (by decide +kernel), List.mem_of_getElem? (i := 1776) (by decide +kernel), List.mem_of_getElem? (i := 1777) (by decide +kernel)⟩
theorem lw_p76 : lw_okq (⟨"ChoraleDeskModel", "costNow", "(I)I"⟩, 31) := ⟨⟨by decide +kernel, by decide +kernel⟩, List.mem_of_getElem? (i := 1245) (by decide +kernel), List.mem_of_getElem? (i := 1788) (by decide +kernel), List.mem_of_getElem? (i := 1789) (by decide +kernel)⟩
theorem lw_p77 : lw_okq (⟨"ChoraleDeskModel", "add", "(I)V"⟩, 31) := ⟨⟨by decide +kernel, by decide +kernel⟩, List.mem_of_getElem? (i := 1245) (by decide +kernel), List.mem_of_getElem? (i := 1801) (by decide +kernel), List.mem_of_getElem? (i := 1802) (by decide +kernel)⟩
theorem lw_p78 : lw_okq (⟨"ChoraleDeskModel", "addSigns", "(II)V"⟩, 31) := ⟨⟨by decide +kernel, by decide +kernel⟩, List.mem_of_getElem? (i := 1245) (by decide +kernel), List.mem_of_getElem? (i := 1806) (by decide +kernel), List.mem_of_getElem? (i := 1807) (by decide +kernel)⟩
def lw_privs_5 : List (MethodName × Nat) := [(⟨"ChoraleDeskModel", "soundsNow", "(I)I"⟩, 31), (⟨"ChoraleDeskModel", "findChord", "()V"⟩, 31), (⟨"ChoraleDeskModel", "countFaults", "(I)I"⟩, 31), (⟨"ChoraleDeskModel", "blameParallels", "(II)V"⟩, 31), (⟨"ChoraleDeskModel", "begins", "(I)Z"⟩, 31), (⟨"ChoraleDeskModel", "blame", "(II)V"⟩, 31), (⟨"ChoraleDeskModel", "blamePart", "(I)V"⟩, 31), (⟨"ChoraleDeskModel", "hasFault", "(I)Z"⟩, 31), (⟨"ChoraleDeskModel", "barsNow", "()I"⟩, 31), (⟨"ChoraleDeskModel", "width", "(I)I"⟩, 31), (⟨"ChoraleDeskModel", "linesNow", "(I)I"⟩, 31), (⟨"ChoraleDeskModel", "breakLines", "(I)I"⟩, 31), (⟨"ChoraleDeskModel", "costNow", "(I)I"⟩, 31), (⟨"ChoraleDeskModel", "add", "(I)V"⟩, 31), (⟨"ChoraleDeskModel", "addSigns", "(II)V"⟩, 31)]
theorem lw_r5 : ∀ q ∈ lw_privs_5, lw_okq q := List.forall_mem_cons.mpr ⟨lw_p64, List.forall_mem_cons.mpr ⟨lw_p65, List.forall_mem_cons.mpr ⟨lw_p66, List.forall_mem_cons.mpr ⟨lw_p67, List.forall_mem_cons.mpr ⟨lw_p68, List.forall_mem_cons.mpr ⟨lw_p69, List.forall_mem_cons.mpr ⟨lw_p70, List.forall_mem_cons.mpr ⟨lw_p71, List.forall_mem_cons.mpr ⟨lw_p72, List.forall_mem_cons.mpr ⟨lw_p73, List.forall_mem_cons.mpr ⟨lw_p74, List.forall_mem_cons.mpr ⟨lw_p75, List.forall_mem_cons.mpr ⟨lw_p76, List.forall_mem_cons.mpr ⟨lw_p77, List.forall_mem_cons.mpr ⟨lw_p78, fun _ h => absurd h List.not_mem_nil⟩⟩⟩⟩⟩⟩⟩⟩⟩⟩⟩⟩⟩⟩⟩
def lw_privs : List (MethodName × Nat) := lw_privs_1 ++ (lw_privs_2 ++ (lw_privs_3 ++ (lw_privs_4 ++ (lw_privs_5))))
def lw_tbl : List Cond := k2_sels lw_privs ++ tables_1
theorem lw_privs_ok : ∀ q ∈ lw_privs, lw_okq q := by
  show ∀ q ∈ lw_privs_1 ++ (lw_privs_2 ++ (lw_privs_3 ++ (lw_privs_4 ++ (lw_privs_5)))), lw_okq q
  exact List.forall_mem_append.mpr ⟨lw_r1, List.forall_mem_append.mpr ⟨lw_r2, List.forall_mem_append.mpr ⟨lw_r3, List.forall_mem_append.mpr ⟨lw_r4, lw_r5⟩⟩⟩⟩
/-- the streams that the claim lets the run draw from -/
abbrev lw_cs : List Choice := [Jvm.Choice.named "NaN.bits"]
theorem lw_bits : nanBits ∈ lw_cs := by first | decide | exact List.mem_cons_self | simp [lw_cs, nanBits]
end
section
def RX0 : String := "ChoraleDesk$Calendar"
def TX0 : u_T := fun k => match k with
  | 0 => ("ChoraleDesk$Calendar", "beats", "[I", true)
  | 1 => ("ChoraleDesk$Calendar", "units", "[I", true)
  | 2 => ("ChoraleDesk$Calendar", "lengths", "[I", true)
  | 3 => ("ChoraleDesk$Calendar", "keys", "[I", true)
  | _ => ("ChoraleDesk$Calendar", "end", "I", false)
def tyX0 : Nat → FieldType := fun k => match k with
  | 0 => .array .int
  | 1 => .array .int
  | 2 => .array .int
  | 3 => .array .int
  | _ => .int
abbrev wsX00 : List Cond := u_ws RX0 TX0 5
theorem nmX0 : ∀ a, a < 5 → ∀ b, b < 5 → a ≠ b → (TX0 a).2.1 ≠ (TX0 b).2.1 := by decide +kernel
theorem tyX0_ok : ∀ k, k < 5 → parseFieldDescriptor (TX0 k).2.2.1 = some (tyX0 k) := by decide +kernel
abbrev cX0_init : ByteArray := prog_2_method_1_code
def yX0_init : MethodName := ⟨RX0, "<init>", "()V"⟩
abbrev cX0_isBar : ByteArray := prog_2_method_2_code
def yX0_isBar : MethodName := ⟨RX0, "isBar", "(I)Z"⟩
abbrev cX0_changeMetre : ByteArray := prog_2_method_3_code
def yX0_changeMetre : MethodName := ⟨RX0, "changeMetre", "(III)V"⟩
abbrev cX0_changeKey : ByteArray := prog_2_method_4_code
def yX0_changeKey : MethodName := ⟨RX0, "changeKey", "(II)V"⟩
abbrev cX0_keyAt : ByteArray := prog_2_method_5_code
def yX0_keyAt : MethodName := ⟨RX0, "keyAt", "(I)I"⟩
abbrev cX0_lengthAt : ByteArray := prog_2_method_6_code
def yX0_lengthAt : MethodName := ⟨RX0, "lengthAt", "(I)I"⟩
abbrev cX0_beginAt : ByteArray := prog_2_method_7_code
def yX0_beginAt : MethodName := ⟨RX0, "beginAt", "(I)I"⟩
abbrev cX0_end : ByteArray := prog_2_method_8_code
def yX0_end : MethodName := ⟨RX0, "end", "()I"⟩
abbrev cX0_barAt : ByteArray := prog_2_method_9_code
def yX0_barAt : MethodName := ⟨RX0, "barAt", "(I)I"⟩
abbrev cX0_barsUpTo : ByteArray := prog_2_method_10_code
def yX0_barsUpTo : MethodName := ⟨RX0, "barsUpTo", "(I)I"⟩
abbrev cX0_ticksBehind : ByteArray := prog_2_method_11_code
def yX0_ticksBehind : MethodName := ⟨RX0, "ticksBehind", "(II)I"⟩
abbrev cX0_groupLengthAt : ByteArray := prog_2_method_12_code
def yX0_groupLengthAt : MethodName := ⟨RX0, "groupLengthAt", "(I)I"⟩
def RX1 : String := "ChoraleDesk$Chord"
def TX1 : u_T := fun k => match k with
  | 0 => ("ChoraleDesk$Chord", "root", "I", false)
  | 1 => ("ChoraleDesk$Chord", "kind", "I", false)
  | _ => ("ChoraleDesk$Chord", "lowest", "I", false)
def tyX1 : Nat → FieldType := fun k => match k with
  | 0 => .int
  | 1 => .int
  | _ => .int
abbrev wsX10 : List Cond := u_ws RX1 TX1 3
theorem nmX1 : ∀ a, a < 3 → ∀ b, b < 3 → a ≠ b → (TX1 a).2.1 ≠ (TX1 b).2.1 := by decide +kernel
theorem tyX1_ok : ∀ k, k < 3 → parseFieldDescriptor (TX1 k).2.2.1 = some (tyX1 k) := by decide +kernel
abbrev cX1_init : ByteArray := prog_3_method_1_code
def yX1_init : MethodName := ⟨RX1, "<init>", "()V"⟩
abbrev cX1_rootClass : ByteArray := prog_3_method_2_code
def yX1_rootClass : MethodName := ⟨RX1, "rootClass", "()I"⟩
abbrev cX1_kindNumber : ByteArray := prog_3_method_3_code
def yX1_kindNumber : MethodName := ⟨RX1, "kindNumber", "()I"⟩
abbrev cX1_lowestTone : ByteArray := prog_3_method_4_code
def yX1_lowestTone : MethodName := ⟨RX1, "lowestTone", "()I"⟩
abbrev cX1_tell : ByteArray := prog_3_method_5_code
def yX1_tell : MethodName := ⟨RX1, "tell", "([LChoraleDesk$Part;LChoraleDesk$Harmony;I)V"⟩
abbrev cX1_forget : ByteArray := prog_3_method_6_code
def yX1_forget : MethodName := ⟨RX1, "forget", "()V"⟩
abbrev cX1_findRoot : ByteArray := prog_3_method_7_code
def yX1_findRoot : MethodName := ⟨RX1, "findRoot", "(II)V"⟩
abbrev cX1_findKind : ByteArray := prog_3_method_8_code
def yX1_findKind : MethodName := ⟨RX1, "findKind", "(III)V"⟩
def RX2 : String := "ChoraleDesk$FaultList"
def TX2 : u_T := fun k => match k with
  | 0 => ("ChoraleDesk$FaultList", "kinds", "[I", true)
  | 1 => ("ChoraleDesk$FaultList", "ticks", "[I", true)
  | 2 => ("ChoraleDesk$FaultList", "partCodes", "[I", true)
  | 3 => ("ChoraleDesk$FaultList", "heightsAhead", "[I", true)
  | 4 => ("ChoraleDesk$FaultList", "heightsNow", "[I", true)
  | 5 => ("ChoraleDesk$FaultList", "begins", "[Z", true)
  | 6 => ("ChoraleDesk$FaultList", "ways", "[I", true)
  | _ => ("ChoraleDesk$FaultList", "count", "I", false)
def tyX2 : Nat → FieldType := fun k => match k with
  | 0 => .array .int
  | 1 => .array .int
  | 2 => .array .int
  | 3 => .array .int
  | 4 => .array .int
  | 5 => .array .boolean
  | 6 => .array .int
  | _ => .int
abbrev wsX20 : List Cond := u_ws RX2 TX2 8
theorem nmX2 : ∀ a, a < 8 → ∀ b, b < 8 → a ≠ b → (TX2 a).2.1 ≠ (TX2 b).2.1 := by decide +kernel
theorem tyX2_ok : ∀ k, k < 8 → parseFieldDescriptor (TX2 k).2.2.1 = some (tyX2 k) := by decide +kernel
abbrev cX2_init : ByteArray := prog_4_method_1_code
def yX2_init : MethodName := ⟨RX2, "<init>", "()V"⟩
abbrev cX2_size : ByteArray := prog_4_method_2_code
def yX2_size : MethodName := ⟨RX2, "size", "()I"⟩
abbrev cX2_has : ByteArray := prog_4_method_3_code
def yX2_has : MethodName := ⟨RX2, "has", "(I)Z"⟩
abbrev cX2_kindAt : ByteArray := prog_4_method_4_code
def yX2_kindAt : MethodName := ⟨RX2, "kindAt", "(I)I"⟩
abbrev cX2_tickAt : ByteArray := prog_4_method_5_code
def yX2_tickAt : MethodName := ⟨RX2, "tickAt", "(I)I"⟩
abbrev cX2_partsAt : ByteArray := prog_4_method_6_code
def yX2_partsAt : MethodName := ⟨RX2, "partsAt", "(I)I"⟩
abbrev cX2_search : ByteArray := prog_4_method_7_code
def yX2_search : MethodName := ⟨RX2, "search", "([LChoraleDesk$Part;LChoraleDesk$Harmony;)V"⟩
abbrev cX2_add : ByteArray := prog_4_method_8_code
def yX2_add : MethodName := ⟨RX2, "add", "(III)V"⟩
abbrev cX2_goOn : ByteArray := prog_4_method_9_code
def yX2_goOn : MethodName := ⟨RX2, "goOn", "([LChoraleDesk$Part;LChoraleDesk$Harmony;I)V"⟩
abbrev cX2_searchParallels : ByteArray := prog_4_method_10_code
def yX2_searchParallels : MethodName := ⟨RX2, "searchParallels", "(I)V"⟩
abbrev cX2_searchCrossings : ByteArray := prog_4_method_11_code
def yX2_searchCrossings : MethodName := ⟨RX2, "searchCrossings", "(I)V"⟩
abbrev cX2_searchNote : ByteArray := prog_4_method_12_code
def yX2_searchNote : MethodName := ⟨RX2, "searchNote", "(LChoraleDesk$Part;II)V"⟩
def RX3 : String := "ChoraleDesk$Harmony"
def TX3 : u_T := fun k => match k with
  | 0 => ("ChoraleDesk$Harmony", "ticks", "[I", true)
  | 1 => ("ChoraleDesk$Harmony", "eventsThen", "[I", true)
  | 2 => ("ChoraleDesk$Harmony", "begun", "[I", true)
  | _ => ("ChoraleDesk$Harmony", "count", "I", false)
def tyX3 : Nat → FieldType := fun k => match k with
  | 0 => .array .int
  | 1 => .array .int
  | 2 => .array .int
  | _ => .int
abbrev wsX30 : List Cond := u_ws RX3 TX3 4
theorem nmX3 : ∀ a, a < 4 → ∀ b, b < 4 → a ≠ b → (TX3 a).2.1 ≠ (TX3 b).2.1 := by decide +kernel
theorem tyX3_ok : ∀ k, k < 4 → parseFieldDescriptor (TX3 k).2.2.1 = some (tyX3 k) := by decide +kernel
abbrev cX3_init : ByteArray := prog_5_method_1_code
def yX3_init : MethodName := ⟨RX3, "<init>", "()V"⟩
abbrev cX3_size : ByteArray := prog_5_method_2_code
def yX3_size : MethodName := ⟨RX3, "size", "()I"⟩
abbrev cX3_has : ByteArray := prog_5_method_3_code
def yX3_has : MethodName := ⟨RX3, "has", "(I)Z"⟩
abbrev cX3_tickAt : ByteArray := prog_5_method_4_code
def yX3_tickAt : MethodName := ⟨RX3, "tickAt", "(I)I"⟩
abbrev cX3_eventAt : ByteArray := prog_5_method_5_code
def yX3_eventAt : MethodName := ⟨RX3, "eventAt", "(II)I"⟩
abbrev cX3_listen : ByteArray := prog_5_method_6_code
def yX3_listen : MethodName := ⟨RX3, "listen", "([LChoraleDesk$Part;)V"⟩
abbrev cX3_nextBegin : ByteArray := prog_5_method_7_code
def yX3_nextBegin : MethodName := ⟨RX3, "nextBegin", "([LChoraleDesk$Part;)I"⟩
abbrev cX3_eventGoingOn : ByteArray := prog_5_method_8_code
def yX3_eventGoingOn : MethodName := ⟨RX3, "eventGoingOn", "(LChoraleDesk$Part;II)I"⟩
def RX4 : String := "ChoraleDesk$LineBreaks"
def TX4 : u_T := fun k => match k with
  | 0 => ("ChoraleDesk$LineBreaks", "widths", "[I", true)
  | 1 => ("ChoraleDesk$LineBreaks", "costs", "[I", true)
  | 2 => ("ChoraleDesk$LineBreaks", "nextLines", "[I", true)
  | 3 => ("ChoraleDesk$LineBreaks", "lineNumbers", "[I", true)
  | _ => ("ChoraleDesk$LineBreaks", "lineCount", "I", false)
def tyX4 : Nat → FieldType := fun k => match k with
  | 0 => .array .int
  | 1 => .array .int
  | 2 => .array .int
  | 3 => .array .int
  | _ => .int
abbrev wsX40 : List Cond := u_ws RX4 TX4 5
theorem nmX4 : ∀ a, a < 5 → ∀ b, b < 5 → a ≠ b → (TX4 a).2.1 ≠ (TX4 b).2.1 := by decide +kernel
theorem tyX4_ok : ∀ k, k < 5 → parseFieldDescriptor (TX4 k).2.2.1 = some (tyX4 k) := by decide +kernel
abbrev cX4_init : ByteArray := prog_6_method_1_code
def yX4_init : MethodName := ⟨RX4, "<init>", "()V"⟩
abbrev cX4_size : ByteArray := prog_6_method_2_code
def yX4_size : MethodName := ⟨RX4, "size", "()I"⟩
abbrev cX4_leastCost : ByteArray := prog_6_method_3_code
def yX4_leastCost : MethodName := ⟨RX4, "leastCost", "()I"⟩
abbrev cX4_widthAt : ByteArray := prog_6_method_4_code
def yX4_widthAt : MethodName := ⟨RX4, "widthAt", "(I)I"⟩
abbrev cX4_lineAt : ByteArray := prog_6_method_5_code
def yX4_lineAt : MethodName := ⟨RX4, "lineAt", "(I)I"⟩
abbrev cX4_measureWidths : ByteArray := prog_6_method_6_code
def yX4_measureWidths : MethodName := ⟨RX4, "measureWidths", "(LChoraleDesk$Calendar;LChoraleDesk$Harmony;)V"⟩
abbrev cX4_widthOfGap : ByteArray := prog_6_method_7_code
def yX4_widthOfGap : MethodName := ⟨RX4, "widthOfGap", "(I)I"⟩
abbrev cX4_breakUp : ByteArray := prog_6_method_8_code
def yX4_breakUp : MethodName := ⟨RX4, "breakUp", "(II)V"⟩
abbrev cX4_chooseLine : ByteArray := prog_6_method_9_code
def yX4_chooseLine : MethodName := ⟨RX4, "chooseLine", "(III)V"⟩
abbrev cX4_numberLines : ByteArray := prog_6_method_10_code
def yX4_numberLines : MethodName := ⟨RX4, "numberLines", "(I)V"⟩
def RX5 : String := "ChoraleDesk$Measure"
def TX5 : u_T := fun k => match k with
  | 0 => ("ChoraleDesk$Measure", "signEvents", "[I", true)
  | 1 => ("ChoraleDesk$Measure", "ticks", "[I", true)
  | 2 => ("ChoraleDesk$Measure", "lengths", "[I", true)
  | 3 => ("ChoraleDesk$Measure", "firstOfNote", "[Z", true)
  | 4 => ("ChoraleDesk$Measure", "tied", "[Z", true)
  | 5 => ("ChoraleDesk$Measure", "shownAlters", "[I", true)
  | 6 => ("ChoraleDesk$Measure", "shownAltersAsWritten", "[I", true)
  | 7 => ("ChoraleDesk$Measure", "beamNumbers", "[I", true)
  | 8 => ("ChoraleDesk$Measure", "altersInForce", "[I", true)
  | 9 => ("ChoraleDesk$Measure", "count", "I", false)
  | _ => ("ChoraleDesk$Measure", "beamCount", "I", false)
def tyX5 : Nat → FieldType := fun k => match k with
  | 0 => .array .int
  | 1 => .array .int
  | 2 => .array .int
  | 3 => .array .boolean
  | 4 => .array .boolean
  | 5 => .array .int
  | 6 => .array .int
  | 7 => .array .int
  | 8 => .array .int
  | 9 => .int
  | _ => .int
abbrev wsX50 : List Cond := u_ws RX5 TX5 11
theorem nmX5 : ∀ a, a < 11 → ∀ b, b < 11 → a ≠ b → (TX5 a).2.1 ≠ (TX5 b).2.1 := by decide +kernel
theorem tyX5_ok : ∀ k, k < 11 → parseFieldDescriptor (TX5 k).2.2.1 = some (tyX5 k) := by decide +kernel
abbrev cX5_init : ByteArray := prog_7_method_1_code
def yX5_init : MethodName := ⟨RX5, "<init>", "()V"⟩
abbrev cX5_size : ByteArray := prog_7_method_2_code
def yX5_size : MethodName := ⟨RX5, "size", "()I"⟩
abbrev cX5_beamTotal : ByteArray := prog_7_method_3_code
def yX5_beamTotal : MethodName := ⟨RX5, "beamTotal", "()I"⟩
abbrev cX5_has : ByteArray := prog_7_method_4_code
def yX5_has : MethodName := ⟨RX5, "has", "(I)Z"⟩
abbrev cX5_eventAt : ByteArray := prog_7_method_5_code
def yX5_eventAt : MethodName := ⟨RX5, "eventAt", "(I)I"⟩
abbrev cX5_lengthAt : ByteArray := prog_7_method_6_code
def yX5_lengthAt : MethodName := ⟨RX5, "lengthAt", "(I)I"⟩
abbrev cX5_tiedAt : ByteArray := prog_7_method_7_code
def yX5_tiedAt : MethodName := ⟨RX5, "tiedAt", "(I)Z"⟩
abbrev cX5_shownAt : ByteArray := prog_7_method_8_code
def yX5_shownAt : MethodName := ⟨RX5, "shownAt", "(I)I"⟩
abbrev cX5_shownAsWrittenAt : ByteArray := prog_7_method_9_code
def yX5_shownAsWrittenAt : MethodName := ⟨RX5, "shownAsWrittenAt", "(I)I"⟩
abbrev cX5_beamAt : ByteArray := prog_7_method_10_code
def yX5_beamAt : MethodName := ⟨RX5, "beamAt", "(I)I"⟩
abbrev cX5_write : ByteArray := prog_7_method_11_code
def yX5_write : MethodName := ⟨RX5, "write", "(LChoraleDesk$Part;LChoraleDesk$Calendar;I)V"⟩
abbrev cX5_writeStretch : ByteArray := prog_7_method_12_code
def yX5_writeStretch : MethodName := ⟨RX5, "writeStretch", "(III)V"⟩
abbrev cX5_addSign : ByteArray := prog_7_method_13_code
def yX5_addSign : MethodName := ⟨RX5, "addSign", "(III)V"⟩
abbrev cX5_markSigns : ByteArray := prog_7_method_14_code
def yX5_markSigns : MethodName := ⟨RX5, "markSigns", "(LChoraleDesk$Part;I)V"⟩
abbrev cX5_beamSigns : ByteArray := prog_7_method_15_code
def yX5_beamSigns : MethodName := ⟨RX5, "beamSigns", "(LChoraleDesk$Part;II)V"⟩
abbrev cX5_joinToSignAhead : ByteArray := prog_7_method_16_code
def yX5_joinToSignAhead : MethodName := ⟨RX5, "joinToSignAhead", "(I)V"⟩
abbrev cX5_showAlters : ByteArray := prog_7_method_17_code
def yX5_showAlters : MethodName := ⟨RX5, "showAlters", "(LChoraleDesk$Part;I)V"⟩
abbrev cX5_showAltersAsWritten : ByteArray := prog_7_method_18_code
def yX5_showAltersAsWritten : MethodName := ⟨RX5, "showAltersAsWritten", "(LChoraleDesk$Part;I)V"⟩
abbrev cX5_alterToShow : ByteArray := prog_7_method_19_code
def yX5_alterToShow : MethodName := ⟨RX5, "alterToShow", "(III)I"⟩
def RX6 : String := "ChoraleDesk$Part"
def TX6 : u_T := fun k => match k with
  | 0 => ("ChoraleDesk$Part", "places", "[I", true)
  | 1 => ("ChoraleDesk$Part", "alters", "[I", true)
  | 2 => ("ChoraleDesk$Part", "heights", "[I", true)
  | 3 => ("ChoraleDesk$Part", "begins", "[I", true)
  | 4 => ("ChoraleDesk$Part", "lengths", "[I", true)
  | 5 => ("ChoraleDesk$Part", "writtenPlaces", "[I", true)
  | 6 => ("ChoraleDesk$Part", "writtenAlters", "[I", true)
  | 7 => ("ChoraleDesk$Part", "count", "I", false)
  | 8 => ("ChoraleDesk$Part", "end", "I", false)
  | 9 => ("ChoraleDesk$Part", "lowest", "I", false)
  | 10 => ("ChoraleDesk$Part", "highest", "I", false)
  | 11 => ("ChoraleDesk$Part", "fifths", "I", false)
  | _ => ("ChoraleDesk$Part", "octaves", "I", false)
def tyX6 : Nat → FieldType := fun k => match k with
  | 0 => .array .int
  | 1 => .array .int
  | 2 => .array .int
  | 3 => .array .int
  | 4 => .array .int
  | 5 => .array .int
  | 6 => .array .int
  | 7 => .int
  | 8 => .int
  | 9 => .int
  | 10 => .int
  | 11 => .int
  | _ => .int
abbrev wsX60 : List Cond := u_ws RX6 TX6 13
theorem nmX6 : ∀ a, a < 13 → ∀ b, b < 13 → a ≠ b → (TX6 a).2.1 ≠ (TX6 b).2.1 := by decide +kernel
theorem tyX6_ok : ∀ k, k < 13 → parseFieldDescriptor (TX6 k).2.2.1 = some (tyX6 k) := by decide +kernel
abbrev cX6_init : ByteArray := prog_8_method_1_code
def yX6_init : MethodName := ⟨RX6, "<init>", "()V"⟩
abbrev cX6_size : ByteArray := prog_8_method_2_code
def yX6_size : MethodName := ⟨RX6, "size", "()I"⟩
abbrev cX6_end : ByteArray := prog_8_method_3_code
def yX6_end : MethodName := ⟨RX6, "end", "()I"⟩
abbrev cX6_has : ByteArray := prog_8_method_4_code
def yX6_has : MethodName := ⟨RX6, "has", "(I)Z"⟩
abbrev cX6_append : ByteArray := prog_8_method_5_code
def yX6_append : MethodName := ⟨RX6, "append", "(III)I"⟩
abbrev cX6_removeLast : ByteArray := prog_8_method_6_code
def yX6_removeLast : MethodName := ⟨RX6, "removeLast", "()I"⟩
abbrev cX6_givePitch : ByteArray := prog_8_method_7_code
def yX6_givePitch : MethodName := ⟨RX6, "givePitch", "(III)V"⟩
abbrev cX6_writeForInstrument : ByteArray := prog_8_method_8_code
def yX6_writeForInstrument : MethodName := ⟨RX6, "writeForInstrument", "(I)V"⟩
abbrev cX6_changeRange : ByteArray := prog_8_method_9_code
def yX6_changeRange : MethodName := ⟨RX6, "changeRange", "(II)V"⟩
abbrev cX6_changeShift : ByteArray := prog_8_method_10_code
def yX6_changeShift : MethodName := ⟨RX6, "changeShift", "(II)V"⟩
abbrev cX6_isNote : ByteArray := prog_8_method_11_code
def yX6_isNote : MethodName := ⟨RX6, "isNote", "(I)Z"⟩
abbrev cX6_placeAt : ByteArray := prog_8_method_12_code
def yX6_placeAt : MethodName := ⟨RX6, "placeAt", "(I)I"⟩
abbrev cX6_alterAt : ByteArray := prog_8_method_13_code
def yX6_alterAt : MethodName := ⟨RX6, "alterAt", "(I)I"⟩
abbrev cX6_heightAt : ByteArray := prog_8_method_14_code
def yX6_heightAt : MethodName := ⟨RX6, "heightAt", "(I)I"⟩
abbrev cX6_beginAt : ByteArray := prog_8_method_15_code
def yX6_beginAt : MethodName := ⟨RX6, "beginAt", "(I)I"⟩
abbrev cX6_endAt : ByteArray := prog_8_method_16_code
def yX6_endAt : MethodName := ⟨RX6, "endAt", "(I)I"⟩
abbrev cX6_firstEndingBehind : ByteArray := prog_8_method_17_code
def yX6_firstEndingBehind : MethodName := ⟨RX6, "firstEndingBehind", "(I)I"⟩
abbrev cX6_isOutOfRange : ByteArray := prog_8_method_18_code
def yX6_isOutOfRange : MethodName := ⟨RX6, "isOutOfRange", "(I)Z"⟩
abbrev cX6_writtenPlaceAt : ByteArray := prog_8_method_19_code
def yX6_writtenPlaceAt : MethodName := ⟨RX6, "writtenPlaceAt", "(I)I"⟩
abbrev cX6_writtenAlterAt : ByteArray := prog_8_method_20_code
def yX6_writtenAlterAt : MethodName := ⟨RX6, "writtenAlterAt", "(I)I"⟩
abbrev cX6_keyAsWritten : ByteArray := prog_8_method_21_code
def yX6_keyAsWritten : MethodName := ⟨RX6, "keyAsWritten", "(I)I"⟩
abbrev cX6_notes : ByteArray := prog_8_method_22_code
def yX6_notes : MethodName := ⟨RX6, "notes", "()I"⟩
abbrev cX6_notesOutOfRange : ByteArray := prog_8_method_23_code
def yX6_notesOutOfRange : MethodName := ⟨RX6, "notesOutOfRange", "()I"⟩
abbrev cX6_notesWithoutWrittenPitch : ByteArray := prog_8_method_24_code
def yX6_notesWithoutWrittenPitch : MethodName := ⟨RX6, "notesWithoutWrittenPitch", "()I"⟩
abbrev cX6_sumOfHeights : ByteArray := prog_8_method_25_code
def yX6_sumOfHeights : MethodName := ⟨RX6, "sumOfHeights", "()I"⟩
def RX7 : String := "ChoraleDesk$Scale"
def TX7 : u_T := fun k => match k with
  | _ => ("", "", "", false)
def tyX7 : Nat → FieldType := fun k => match k with
  | _ => .int
abbrev wsX70 : List Cond := u_ws RX7 TX7 0
theorem nmX7 : ∀ a, a < 0 → ∀ b, b < 0 → a ≠ b → (TX7 a).2.1 ≠ (TX7 b).2.1 := by decide +kernel
theorem tyX7_ok : ∀ k, k < 0 → parseFieldDescriptor (TX7 k).2.2.1 = some (tyX7 k) := by decide +kernel
abbrev cX7_isPitch : ByteArray := prog_9_method_2_code
def yX7_isPitch : MethodName := ⟨RX7, "isPitch", "(II)Z"⟩
abbrev cX7_plainHeight : ByteArray := prog_9_method_3_code
def yX7_plainHeight : MethodName := ⟨RX7, "plainHeight", "(I)I"⟩
abbrev cX7_alterByKey : ByteArray := prog_9_method_4_code
def yX7_alterByKey : MethodName := ⟨RX7, "alterByKey", "(II)I"⟩
def RX8 : String := "ChoraleDesk$Values"
def TX8 : u_T := fun k => match k with
  | _ => ("", "", "", false)
def tyX8 : Nat → FieldType := fun k => match k with
  | _ => .int
abbrev wsX80 : List Cond := u_ws RX8 TX8 0
theorem nmX8 : ∀ a, a < 0 → ∀ b, b < 0 → a ≠ b → (TX8 a).2.1 ≠ (TX8 b).2.1 := by decide +kernel
theorem tyX8_ok : ∀ k, k < 0 → parseFieldDescriptor (TX8 k).2.2.1 = some (tyX8 k) := by decide +kernel
abbrev cX8_isValue : ByteArray := prog_10_method_2_code
def yX8_isValue : MethodName := ⟨RX8, "isValue", "(I)Z"⟩
abbrev cX8_greatestIn : ByteArray := prog_10_method_3_code
def yX8_greatestIn : MethodName := ⟨RX8, "greatestIn", "(I)I"⟩
def RX9 : String := "ChoraleDesk"
def TX9 : u_T := fun k => match k with
  | 0 => ("ChoraleDesk", "parts", "[LChoraleDesk$Part;", true)
  | 1 => ("ChoraleDesk", "calendar", "LChoraleDesk$Calendar;", true)
  | 2 => ("ChoraleDesk", "measure", "LChoraleDesk$Measure;", true)
  | 3 => ("ChoraleDesk", "harmony", "LChoraleDesk$Harmony;", true)
  | 4 => ("ChoraleDesk", "chord", "LChoraleDesk$Chord;", true)
  | 5 => ("ChoraleDesk", "faultList", "LChoraleDesk$FaultList;", true)
  | 6 => ("ChoraleDesk", "breaks", "LChoraleDesk$LineBreaks;", true)
  | 7 => ("ChoraleDesk", "heard", "Z", false)
  | 8 => ("ChoraleDesk", "searched", "Z", false)
  | 9 => ("ChoraleDesk", "widthsKnown", "Z", false)
  | 10 => ("ChoraleDesk", "laidPart", "I", false)
  | _ => ("ChoraleDesk", "laidBar", "I", false)
def tyX9 : Nat → FieldType := fun k => match k with
  | 0 => .array (.object "ChoraleDesk$Part")
  | 1 => .object "ChoraleDesk$Calendar"
  | 2 => .object "ChoraleDesk$Measure"
  | 3 => .object "ChoraleDesk$Harmony"
  | 4 => .object "ChoraleDesk$Chord"
  | 5 => .object "ChoraleDesk$FaultList"
  | 6 => .object "ChoraleDesk$LineBreaks"
  | 7 => .boolean
  | 8 => .boolean
  | 9 => .boolean
  | 10 => .int
  | _ => .int
abbrev wsX90 : List Cond := u_ws RX9 TX9 12
theorem nmX9 : ∀ a, a < 12 → ∀ b, b < 12 → a ≠ b → (TX9 a).2.1 ≠ (TX9 b).2.1 := by decide +kernel
theorem tyX9_ok : ∀ k, k < 12 → parseFieldDescriptor (TX9 k).2.2.1 = some (tyX9 k) := by decide +kernel
abbrev cX9_init : ByteArray := prog_1_method_1_code
def yX9_init : MethodName := ⟨RX9, "<init>", "()V"⟩
abbrev cX9_addNote : ByteArray := prog_1_method_2_code
def yX9_addNote : MethodName := ⟨RX9, "addNote", "(IIII)I"⟩
abbrev cX9_addRest : ByteArray := prog_1_method_3_code
def yX9_addRest : MethodName := ⟨RX9, "addRest", "(II)I"⟩
abbrev cX9_takeLast : ByteArray := prog_1_method_4_code
def yX9_takeLast : MethodName := ⟨RX9, "takeLast", "(I)I"⟩
abbrev cX9_setPitch : ByteArray := prog_1_method_5_code
def yX9_setPitch : MethodName := ⟨RX9, "setPitch", "(IIII)I"⟩
abbrev cX9_setMetre : ByteArray := prog_1_method_6_code
def yX9_setMetre : MethodName := ⟨RX9, "setMetre", "(III)I"⟩
abbrev cX9_setKey : ByteArray := prog_1_method_7_code
def yX9_setKey : MethodName := ⟨RX9, "setKey", "(II)I"⟩
abbrev cX9_setRange : ByteArray := prog_1_method_8_code
def yX9_setRange : MethodName := ⟨RX9, "setRange", "(III)I"⟩
abbrev cX9_setShift : ByteArray := prog_1_method_9_code
def yX9_setShift : MethodName := ⟨RX9, "setShift", "(III)I"⟩
abbrev cX9_events : ByteArray := prog_1_method_10_code
def yX9_events : MethodName := ⟨RX9, "events", "(I)I"⟩
abbrev cX9_beginOf : ByteArray := prog_1_method_11_code
def yX9_beginOf : MethodName := ⟨RX9, "beginOf", "(II)I"⟩
abbrev cX9_heightOf : ByteArray := prog_1_method_12_code
def yX9_heightOf : MethodName := ⟨RX9, "heightOf", "(II)I"⟩
abbrev cX9_barOf : ByteArray := prog_1_method_13_code
def yX9_barOf : MethodName := ⟨RX9, "barOf", "(II)I"⟩
abbrev cX9_writtenPlace : ByteArray := prog_1_method_14_code
def yX9_writtenPlace : MethodName := ⟨RX9, "writtenPlace", "(II)I"⟩
abbrev cX9_writtenAlter : ByteArray := prog_1_method_15_code
def yX9_writtenAlter : MethodName := ⟨RX9, "writtenAlter", "(II)I"⟩
abbrev cX9_alterIn : ByteArray := prog_1_method_16_code
def yX9_alterIn : MethodName := ⟨RX9, "alterIn", "(II)I"⟩
abbrev cX9_writtenKey : ByteArray := prog_1_method_17_code
def yX9_writtenKey : MethodName := ⟨RX9, "writtenKey", "(II)I"⟩
abbrev cX9_beginOfBar : ByteArray := prog_1_method_18_code
def yX9_beginOfBar : MethodName := ⟨RX9, "beginOfBar", "(I)I"⟩
abbrev cX9_lengthOfBar : ByteArray := prog_1_method_19_code
def yX9_lengthOfBar : MethodName := ⟨RX9, "lengthOfBar", "(I)I"⟩
abbrev cX9_signs : ByteArray := prog_1_method_20_code
def yX9_signs : MethodName := ⟨RX9, "signs", "(II)I"⟩
abbrev cX9_eventOf : ByteArray := prog_1_method_21_code
def yX9_eventOf : MethodName := ⟨RX9, "eventOf", "(III)I"⟩
abbrev cX9_lengthOf : ByteArray := prog_1_method_22_code
def yX9_lengthOf : MethodName := ⟨RX9, "lengthOf", "(III)I"⟩
abbrev cX9_isTied : ByteArray := prog_1_method_23_code
def yX9_isTied : MethodName := ⟨RX9, "isTied", "(III)Z"⟩
abbrev cX9_shown : ByteArray := prog_1_method_24_code
def yX9_shown : MethodName := ⟨RX9, "shown", "(III)I"⟩
abbrev cX9_shownWritten : ByteArray := prog_1_method_25_code
def yX9_shownWritten : MethodName := ⟨RX9, "shownWritten", "(III)I"⟩
abbrev cX9_beams : ByteArray := prog_1_method_26_code
def yX9_beams : MethodName := ⟨RX9, "beams", "(II)I"⟩
abbrev cX9_beamOf : ByteArray := prog_1_method_27_code
def yX9_beamOf : MethodName := ⟨RX9, "beamOf", "(III)I"⟩
abbrev cX9_missing : ByteArray := prog_1_method_28_code
def yX9_missing : MethodName := ⟨RX9, "missing", "(II)I"⟩
abbrev cX9_moments : ByteArray := prog_1_method_29_code
def yX9_moments : MethodName := ⟨RX9, "moments", "()I"⟩
abbrev cX9_tickOf : ByteArray := prog_1_method_30_code
def yX9_tickOf : MethodName := ⟨RX9, "tickOf", "(I)I"⟩
abbrev cX9_sounds : ByteArray := prog_1_method_31_code
def yX9_sounds : MethodName := ⟨RX9, "sounds", "(II)I"⟩
abbrev cX9_root : ByteArray := prog_1_method_32_code
def yX9_root : MethodName := ⟨RX9, "root", "(I)I"⟩
abbrev cX9_kind : ByteArray := prog_1_method_33_code
def yX9_kind : MethodName := ⟨RX9, "kind", "(I)I"⟩
abbrev cX9_inversion : ByteArray := prog_1_method_34_code
def yX9_inversion : MethodName := ⟨RX9, "inversion", "(I)I"⟩
abbrev cX9_faults : ByteArray := prog_1_method_35_code
def yX9_faults : MethodName := ⟨RX9, "faults", "()I"⟩
abbrev cX9_kindOfFault : ByteArray := prog_1_method_36_code
def yX9_kindOfFault : MethodName := ⟨RX9, "kindOfFault", "(I)I"⟩
abbrev cX9_tickOfFault : ByteArray := prog_1_method_37_code
def yX9_tickOfFault : MethodName := ⟨RX9, "tickOfFault", "(I)I"⟩
abbrev cX9_partsOfFault : ByteArray := prog_1_method_38_code
def yX9_partsOfFault : MethodName := ⟨RX9, "partsOfFault", "(I)I"⟩
abbrev cX9_faultsIfUp : ByteArray := prog_1_method_39_code
def yX9_faultsIfUp : MethodName := ⟨RX9, "faultsIfUp", "(II)I"⟩
abbrev cX9_bars : ByteArray := prog_1_method_40_code
def yX9_bars : MethodName := ⟨RX9, "bars", "()I"⟩
abbrev cX9_widthOf : ByteArray := prog_1_method_41_code
def yX9_widthOf : MethodName := ⟨RX9, "widthOf", "(I)I"⟩
abbrev cX9_lines : ByteArray := prog_1_method_42_code
def yX9_lines : MethodName := ⟨RX9, "lines", "(I)I"⟩
abbrev cX9_lineOf : ByteArray := prog_1_method_43_code
def yX9_lineOf : MethodName := ⟨RX9, "lineOf", "(II)I"⟩
abbrev cX9_costOf : ByteArray := prog_1_method_44_code
def yX9_costOf : MethodName := ⟨RX9, "costOf", "(I)I"⟩
abbrev cX9_meanHeight : ByteArray := prog_1_method_45_code
def yX9_meanHeight : MethodName := ⟨RX9, "meanHeight", "()D"⟩
abbrev cX9_digest : ByteArray := prog_1_method_46_code
def yX9_digest : MethodName := ⟨RX9, "digest", "()J"⟩
abbrev cX9_mix : ByteArray := prog_1_method_47_code
def yX9_mix : MethodName := ⟨RX9, "mix", "(JJ)J"⟩
abbrev cX9_mixPart : ByteArray := prog_1_method_48_code
def yX9_mixPart : MethodName := ⟨RX9, "mixPart", "(JLChoraleDesk$Part;)J"⟩
abbrev cX9_mixBar : ByteArray := prog_1_method_49_code
def yX9_mixBar : MethodName := ⟨RX9, "mixBar", "(JI)J"⟩
abbrev cX9_mixSigns : ByteArray := prog_1_method_50_code
def yX9_mixSigns : MethodName := ⟨RX9, "mixSigns", "(JLChoraleDesk$Measure;)J"⟩
abbrev cX9_mixMoments : ByteArray := prog_1_method_51_code
def yX9_mixMoments : MethodName := ⟨RX9, "mixMoments", "(J)J"⟩
abbrev cX9_mixFaults : ByteArray := prog_1_method_52_code
def yX9_mixFaults : MethodName := ⟨RX9, "mixFaults", "(J)J"⟩
abbrev cX9_mixLines : ByteArray := prog_1_method_53_code
def yX9_mixLines : MethodName := ⟨RX9, "mixLines", "(JI)J"⟩
abbrev cX9_forgetWhatFollows : ByteArray := prog_1_method_54_code
def yX9_forgetWhatFollows : MethodName := ⟨RX9, "forgetWhatFollows", "()V"⟩
abbrev cX9_hear : ByteArray := prog_1_method_55_code
def yX9_hear : MethodName := ⟨RX9, "hear", "()V"⟩
abbrev cX9_searchFaults : ByteArray := prog_1_method_56_code
def yX9_searchFaults : MethodName := ⟨RX9, "searchFaults", "()V"⟩
abbrev cX9_measureWidths : ByteArray := prog_1_method_57_code
def yX9_measureWidths : MethodName := ⟨RX9, "measureWidths", "()V"⟩
abbrev cX9_breakLines : ByteArray := prog_1_method_58_code
def yX9_breakLines : MethodName := ⟨RX9, "breakLines", "(I)V"⟩
abbrev cX9_lastEnd : ByteArray := prog_1_method_59_code
def yX9_lastEnd : MethodName := ⟨RX9, "lastEnd", "()I"⟩
abbrev cX9_allEvents : ByteArray := prog_1_method_60_code
def yX9_allEvents : MethodName := ⟨RX9, "allEvents", "()I"⟩
abbrev cX9_partAt : ByteArray := prog_1_method_61_code
def yX9_partAt : MethodName := ⟨RX9, "partAt", "(I)LChoraleDesk$Part;"⟩
abbrev cX9_partWith : ByteArray := prog_1_method_62_code
def yX9_partWith : MethodName := ⟨RX9, "partWith", "(II)LChoraleDesk$Part;"⟩
abbrev cX9_measureAt : ByteArray := prog_1_method_63_code
def yX9_measureAt : MethodName := ⟨RX9, "measureAt", "(II)LChoraleDesk$Measure;"⟩
abbrev cX9_measureWith : ByteArray := prog_1_method_64_code
def yX9_measureWith : MethodName := ⟨RX9, "measureWith", "(III)LChoraleDesk$Measure;"⟩
abbrev cX9_chordAt : ByteArray := prog_1_method_65_code
def yX9_chordAt : MethodName := ⟨RX9, "chordAt", "(I)LChoraleDesk$Chord;"⟩
abbrev cX9_checkMoment : ByteArray := prog_1_method_66_code
def yX9_checkMoment : MethodName := ⟨RX9, "checkMoment", "(I)V"⟩
abbrev cX9_checkFault : ByteArray := prog_1_method_67_code
def yX9_checkFault : MethodName := ⟨RX9, "checkFault", "(I)V"⟩
abbrev cX9_checkRoom : ByteArray := prog_1_method_68_code
def yX9_checkRoom : MethodName := ⟨RX9, "checkRoom", "(LChoraleDesk$Part;I)V"⟩
abbrev cX9_checkNote : ByteArray := prog_1_method_69_code
def yX9_checkNote : MethodName := ⟨RX9, "checkNote", "(LChoraleDesk$Part;I)V"⟩
abbrev cX9_checkBar : ByteArray := prog_1_method_70_code
def yX9_checkBar : MethodName := ⟨RX9, "checkBar", "(I)V"⟩
abbrev cX9_checkPitch : ByteArray := prog_1_method_71_code
def yX9_checkPitch : MethodName := ⟨RX9, "checkPitch", "(II)V"⟩
abbrev cX9_checkValue : ByteArray := prog_1_method_72_code
def yX9_checkValue : MethodName := ⟨RX9, "checkValue", "(I)V"⟩
abbrev cX9_checkKey : ByteArray := prog_1_method_73_code
def yX9_checkKey : MethodName := ⟨RX9, "checkKey", "(I)V"⟩
abbrev cX9_checkWidth : ByteArray := prog_1_method_74_code
def yX9_checkWidth : MethodName := ⟨RX9, "checkWidth", "(I)V"⟩
def RX10 : String := "ChoraleDeskModel$Part"
def TX10 : u_T := fun k => match k with
  | 0 => ("ChoraleDeskModel$Part", "many", "I", false)
  | 1 => ("ChoraleDeskModel$Part", "begin", "[I", false)
  | 2 => ("ChoraleDeskModel$Part", "length", "[I", false)
  | 3 => ("ChoraleDeskModel$Part", "place", "[I", false)
  | 4 => ("ChoraleDeskModel$Part", "alter", "[I", false)
  | 5 => ("ChoraleDeskModel$Part", "lowest", "I", false)
  | 6 => ("ChoraleDeskModel$Part", "highest", "I", false)
  | 7 => ("ChoraleDeskModel$Part", "fifths", "I", false)
  | _ => ("ChoraleDeskModel$Part", "octaves", "I", false)
def tyX10 : Nat → FieldType := fun k => match k with
  | 0 => .int
  | 1 => .array .int
  | 2 => .array .int
  | 3 => .array .int
  | 4 => .array .int
  | 5 => .int
  | 6 => .int
  | 7 => .int
  | _ => .int
abbrev wsX100 : List Cond := u_ws RX10 TX10 9
theorem nmX10 : ∀ a, a < 9 → ∀ b, b < 9 → a ≠ b → (TX10 a).2.1 ≠ (TX10 b).2.1 := by decide +kernel
theorem tyX10_ok : ∀ k, k < 9 → parseFieldDescriptor (TX10 k).2.2.1 = some (tyX10 k) := by decide +kernel
abbrev cX10_init : ByteArray := prog_13_method_1_code
def yX10_init : MethodName := ⟨RX10, "<init>", "()V"⟩
abbrev cX10_end : ByteArray := prog_13_method_2_code
def yX10_end : MethodName := ⟨RX10, "end", "()I"⟩
abbrev cX10_endOf : ByteArray := prog_13_method_3_code
def yX10_endOf : MethodName := ⟨RX10, "endOf", "(I)I"⟩
abbrev cX10_add : ByteArray := prog_13_method_4_code
def yX10_add : MethodName := ⟨RX10, "add", "(III)V"⟩
abbrev cX10_isNote : ByteArray := prog_13_method_5_code
def yX10_isNote : MethodName := ⟨RX10, "isNote", "(I)Z"⟩
abbrev cX10_height : ByteArray := prog_13_method_6_code
def yX10_height : MethodName := ⟨RX10, "height", "(I)I"⟩
abbrev cX10_isOut : ByteArray := prog_13_method_7_code
def yX10_isOut : MethodName := ⟨RX10, "isOut", "(I)Z"⟩
abbrev cX10_writtenPlace : ByteArray := prog_13_method_8_code
def yX10_writtenPlace : MethodName := ⟨RX10, "writtenPlace", "(I)I"⟩
abbrev cX10_writtenAlter : ByteArray := prog_13_method_9_code
def yX10_writtenAlter : MethodName := ⟨RX10, "writtenAlter", "(I)I"⟩
abbrev cX10_isWritten : ByteArray := prog_13_method_10_code
def yX10_isWritten : MethodName := ⟨RX10, "isWritten", "(I)Z"⟩
def RX11 : String := "ChoraleDeskModel"
def TX11 : u_T := fun k => match k with
  | 0 => ("ChoraleDeskModel", "thrown", "I", false)
  | 1 => ("ChoraleDeskModel", "parts", "[LChoraleDeskModel$Part;", true)
  | 2 => ("ChoraleDeskModel", "beats", "[I", true)
  | 3 => ("ChoraleDeskModel", "unit", "[I", true)
  | 4 => ("ChoraleDeskModel", "key", "[I", true)
  | 5 => ("ChoraleDeskModel", "laid", "I", false)
  | 6 => ("ChoraleDeskModel", "laidBeams", "I", false)
  | 7 => ("ChoraleDeskModel", "signEvent", "[I", true)
  | 8 => ("ChoraleDeskModel", "signLength", "[I", true)
  | 9 => ("ChoraleDeskModel", "signTick", "[I", true)
  | 10 => ("ChoraleDeskModel", "signTied", "[Z", true)
  | 11 => ("ChoraleDeskModel", "signShown", "[I", true)
  | 12 => ("ChoraleDeskModel", "signWritten", "[I", true)
  | 13 => ("ChoraleDeskModel", "signBeam", "[I", true)
  | 14 => ("ChoraleDeskModel", "force", "[I", true)
  | 15 => ("ChoraleDeskModel", "tick", "I", false)
  | 16 => ("ChoraleDeskModel", "here", "[I", true)
  | 17 => ("ChoraleDeskModel", "next", "[I", true)
  | 18 => ("ChoraleDeskModel", "ahead", "[I", true)
  | 19 => ("ChoraleDeskModel", "chordRoot", "I", false)
  | 20 => ("ChoraleDeskModel", "chordKind", "I", false)
  | 21 => ("ChoraleDeskModel", "chordInversion", "I", false)
  | 22 => ("ChoraleDeskModel", "wanted", "I", false)
  | 23 => ("ChoraleDeskModel", "counted", "I", false)
  | 24 => ("ChoraleDeskModel", "foundKind", "I", false)
  | 25 => ("ChoraleDeskModel", "foundTick", "I", false)
  | 26 => ("ChoraleDeskModel", "foundParts", "I", false)
  | 27 => ("ChoraleDeskModel", "widths", "[I", true)
  | 28 => ("ChoraleDeskModel", "best", "[I", true)
  | 29 => ("ChoraleDeskModel", "end", "[I", true)
  | _ => ("ChoraleDeskModel", "sum", "J", false)
def tyX11 : Nat → FieldType := fun k => match k with
  | 0 => .int
  | 1 => .array (.object "ChoraleDeskModel$Part")
  | 2 => .array .int
  | 3 => .array .int
  | 4 => .array .int
  | 5 => .int
  | 6 => .int
  | 7 => .array .int
  | 8 => .array .int
  | 9 => .array .int
  | 10 => .array .boolean
  | 11 => .array .int
  | 12 => .array .int
  | 13 => .array .int
  | 14 => .array .int
  | 15 => .int
  | 16 => .array .int
  | 17 => .array .int
  | 18 => .array .int
  | 19 => .int
  | 20 => .int
  | 21 => .int
  | 22 => .int
  | 23 => .int
  | 24 => .int
  | 25 => .int
  | 26 => .int
  | 27 => .array .int
  | 28 => .array .int
  | 29 => .array .int
  | _ => .long
abbrev wsX110 : List Cond := u_ws RX11 TX11 31
theorem nmX11 : ∀ a, a < 31 → ∀ b, b < 31 → a ≠ b → (TX11 a).2.1 ≠ (TX11 b).2.1 := by decide +kernel
theorem tyX11_ok : ∀ k, k < 31 → parseFieldDescriptor (TX11 k).2.2.1 = some (tyX11 k) := by decide +kernel
abbrev cX11_base : ByteArray := prog_12_method_1_code
def yX11_base : MethodName := ⟨RX11, "base", "(I)I"⟩
abbrev cX11_is : ByteArray := prog_12_method_2_code
def yX11_is : MethodName := ⟨RX11, "is", "(III)Z"⟩
abbrev cX11_init : ByteArray := prog_12_method_3_code
def yX11_init : MethodName := ⟨RX11, "<init>", "()V"⟩
abbrev cX11_thrown : ByteArray := prog_12_method_4_code
def yX11_thrown : MethodName := ⟨RX11, "thrown", "()I"⟩
abbrev cX11_refuse : ByteArray := prog_12_method_5_code
def yX11_refuse : MethodName := ⟨RX11, "refuse", "(I)I"⟩
abbrev cX11_isPart : ByteArray := prog_12_method_6_code
def yX11_isPart : MethodName := ⟨RX11, "isPart", "(I)Z"⟩
abbrev cX11_isBar : ByteArray := prog_12_method_7_code
def yX11_isBar : MethodName := ⟨RX11, "isBar", "(I)Z"⟩
abbrev cX11_isEvent : ByteArray := prog_12_method_8_code
def yX11_isEvent : MethodName := ⟨RX11, "isEvent", "(II)Z"⟩
abbrev cX11_isPitch : ByteArray := prog_12_method_9_code
def yX11_isPitch : MethodName := ⟨RX11, "isPitch", "(II)Z"⟩
abbrev cX11_isValue : ByteArray := prog_12_method_10_code
def yX11_isValue : MethodName := ⟨RX11, "isValue", "(I)Z"⟩
abbrev cX11_length : ByteArray := prog_12_method_11_code
def yX11_length : MethodName := ⟨RX11, "length", "(I)I"⟩
abbrev cX11_begin : ByteArray := prog_12_method_12_code
def yX11_begin : MethodName := ⟨RX11, "begin", "(I)I"⟩
abbrev cX11_add : ByteArray := prog_12_method_13_code
def yX11_add : MethodName := ⟨RX11, "add", "(IIII)I"⟩
abbrev cX11_addNote : ByteArray := prog_12_method_14_code
def yX11_addNote : MethodName := ⟨RX11, "addNote", "(IIII)I"⟩
abbrev cX11_addRest : ByteArray := prog_12_method_15_code
def yX11_addRest : MethodName := ⟨RX11, "addRest", "(II)I"⟩
abbrev cX11_takeLast : ByteArray := prog_12_method_16_code
def yX11_takeLast : MethodName := ⟨RX11, "takeLast", "(I)I"⟩
abbrev cX11_setPitch : ByteArray := prog_12_method_17_code
def yX11_setPitch : MethodName := ⟨RX11, "setPitch", "(IIII)I"⟩
abbrev cX11_setMetre : ByteArray := prog_12_method_18_code
def yX11_setMetre : MethodName := ⟨RX11, "setMetre", "(III)I"⟩
abbrev cX11_setKey : ByteArray := prog_12_method_19_code
def yX11_setKey : MethodName := ⟨RX11, "setKey", "(II)I"⟩
abbrev cX11_setRange : ByteArray := prog_12_method_20_code
def yX11_setRange : MethodName := ⟨RX11, "setRange", "(III)I"⟩
abbrev cX11_setShift : ByteArray := prog_12_method_21_code
def yX11_setShift : MethodName := ⟨RX11, "setShift", "(III)I"⟩
abbrev cX11_events : ByteArray := prog_12_method_22_code
def yX11_events : MethodName := ⟨RX11, "events", "(I)I"⟩
abbrev cX11_beginOf : ByteArray := prog_12_method_23_code
def yX11_beginOf : MethodName := ⟨RX11, "beginOf", "(II)I"⟩
abbrev cX11_heightNow : ByteArray := prog_12_method_24_code
def yX11_heightNow : MethodName := ⟨RX11, "heightNow", "(II)I"⟩
abbrev cX11_heightOf : ByteArray := prog_12_method_25_code
def yX11_heightOf : MethodName := ⟨RX11, "heightOf", "(II)I"⟩
abbrev cX11_barAt : ByteArray := prog_12_method_26_code
def yX11_barAt : MethodName := ⟨RX11, "barAt", "(I)I"⟩
abbrev cX11_barOf : ByteArray := prog_12_method_27_code
def yX11_barOf : MethodName := ⟨RX11, "barOf", "(II)I"⟩
abbrev cX11_writtenPlaceNow : ByteArray := prog_12_method_28_code
def yX11_writtenPlaceNow : MethodName := ⟨RX11, "writtenPlaceNow", "(II)I"⟩
abbrev cX11_writtenAlterNow : ByteArray := prog_12_method_29_code
def yX11_writtenAlterNow : MethodName := ⟨RX11, "writtenAlterNow", "(II)I"⟩
abbrev cX11_writtenPlace : ByteArray := prog_12_method_30_code
def yX11_writtenPlace : MethodName := ⟨RX11, "writtenPlace", "(II)I"⟩
abbrev cX11_writtenAlter : ByteArray := prog_12_method_31_code
def yX11_writtenAlter : MethodName := ⟨RX11, "writtenAlter", "(II)I"⟩
abbrev cX11_altered : ByteArray := prog_12_method_32_code
def yX11_altered : MethodName := ⟨RX11, "altered", "(II)I"⟩
abbrev cX11_alterIn : ByteArray := prog_12_method_33_code
def yX11_alterIn : MethodName := ⟨RX11, "alterIn", "(II)I"⟩
abbrev cX11_keyWritten : ByteArray := prog_12_method_34_code
def yX11_keyWritten : MethodName := ⟨RX11, "keyWritten", "(II)I"⟩
abbrev cX11_writtenKey : ByteArray := prog_12_method_35_code
def yX11_writtenKey : MethodName := ⟨RX11, "writtenKey", "(II)I"⟩
abbrev cX11_beginOfBar : ByteArray := prog_12_method_36_code
def yX11_beginOfBar : MethodName := ⟨RX11, "beginOfBar", "(I)I"⟩
abbrev cX11_lengthOfBar : ByteArray := prog_12_method_37_code
def yX11_lengthOfBar : MethodName := ⟨RX11, "lengthOfBar", "(I)I"⟩
abbrev cX11_lay : ByteArray := prog_12_method_38_code
def yX11_lay : MethodName := ⟨RX11, "lay", "(II)V"⟩
abbrev cX11_show : ByteArray := prog_12_method_39_code
def yX11_show : MethodName := ⟨RX11, "show", "(IIZ[I)V"⟩
abbrev cX11_beam : ByteArray := prog_12_method_40_code
def yX11_beam : MethodName := ⟨RX11, "beam", "(III)V"⟩
abbrev cX11_isShort : ByteArray := prog_12_method_41_code
def yX11_isShort : MethodName := ⟨RX11, "isShort", "(II)Z"⟩
abbrev cX11_has : ByteArray := prog_12_method_42_code
def yX11_has : MethodName := ⟨RX11, "has", "(II)Z"⟩
abbrev cX11_has_ : ByteArray := prog_12_method_43_code
def yX11_has_ : MethodName := ⟨RX11, "has", "(III)Z"⟩
abbrev cX11_signs : ByteArray := prog_12_method_44_code
def yX11_signs : MethodName := ⟨RX11, "signs", "(II)I"⟩
abbrev cX11_eventOf : ByteArray := prog_12_method_45_code
def yX11_eventOf : MethodName := ⟨RX11, "eventOf", "(III)I"⟩
abbrev cX11_lengthOf : ByteArray := prog_12_method_46_code
def yX11_lengthOf : MethodName := ⟨RX11, "lengthOf", "(III)I"⟩
abbrev cX11_isTied : ByteArray := prog_12_method_47_code
def yX11_isTied : MethodName := ⟨RX11, "isTied", "(III)Z"⟩
abbrev cX11_shown : ByteArray := prog_12_method_48_code
def yX11_shown : MethodName := ⟨RX11, "shown", "(III)I"⟩
abbrev cX11_shownWritten : ByteArray := prog_12_method_49_code
def yX11_shownWritten : MethodName := ⟨RX11, "shownWritten", "(III)I"⟩
abbrev cX11_beams : ByteArray := prog_12_method_50_code
def yX11_beams : MethodName := ⟨RX11, "beams", "(II)I"⟩
abbrev cX11_beamOf : ByteArray := prog_12_method_51_code
def yX11_beamOf : MethodName := ⟨RX11, "beamOf", "(III)I"⟩
abbrev cX11_missingNow : ByteArray := prog_12_method_52_code
def yX11_missingNow : MethodName := ⟨RX11, "missingNow", "(II)I"⟩
abbrev cX11_missing : ByteArray := prog_12_method_53_code
def yX11_missing : MethodName := ⟨RX11, "missing", "(II)I"⟩
abbrev cX11_beginWalk : ByteArray := prog_12_method_54_code
def yX11_beginWalk : MethodName := ⟨RX11, "beginWalk", "()V"⟩
abbrev cX11_walk : ByteArray := prog_12_method_55_code
def yX11_walk : MethodName := ⟨RX11, "walk", "()Z"⟩
abbrev cX11_soundsNow : ByteArray := prog_12_method_56_code
def yX11_soundsNow : MethodName := ⟨RX11, "soundsNow", "(I)I"⟩
abbrev cX11_begins : ByteArray := prog_12_method_57_code
def yX11_begins : MethodName := ⟨RX11, "begins", "(I)Z"⟩
abbrev cX11_momentsNow : ByteArray := prog_12_method_58_code
def yX11_momentsNow : MethodName := ⟨RX11, "momentsNow", "()I"⟩
abbrev cX11_moments : ByteArray := prog_12_method_59_code
def yX11_moments : MethodName := ⟨RX11, "moments", "()I"⟩
abbrev cX11_walkTo : ByteArray := prog_12_method_60_code
def yX11_walkTo : MethodName := ⟨RX11, "walkTo", "(I)Z"⟩
abbrev cX11_tickOf : ByteArray := prog_12_method_61_code
def yX11_tickOf : MethodName := ⟨RX11, "tickOf", "(I)I"⟩
abbrev cX11_sounds : ByteArray := prog_12_method_62_code
def yX11_sounds : MethodName := ⟨RX11, "sounds", "(II)I"⟩
abbrev cX11_findChord : ByteArray := prog_12_method_63_code
def yX11_findChord : MethodName := ⟨RX11, "findChord", "()V"⟩
abbrev cX11_root : ByteArray := prog_12_method_64_code
def yX11_root : MethodName := ⟨RX11, "root", "(I)I"⟩
abbrev cX11_kind : ByteArray := prog_12_method_65_code
def yX11_kind : MethodName := ⟨RX11, "kind", "(I)I"⟩
abbrev cX11_inversion : ByteArray := prog_12_method_66_code
def yX11_inversion : MethodName := ⟨RX11, "inversion", "(I)I"⟩
abbrev cX11_blame : ByteArray := prog_12_method_67_code
def yX11_blame : MethodName := ⟨RX11, "blame", "(II)V"⟩
abbrev cX11_countFaults : ByteArray := prog_12_method_68_code
def yX11_countFaults : MethodName := ⟨RX11, "countFaults", "(I)I"⟩
abbrev cX11_blameParallels : ByteArray := prog_12_method_69_code
def yX11_blameParallels : MethodName := ⟨RX11, "blameParallels", "(II)V"⟩
abbrev cX11_blamePart : ByteArray := prog_12_method_70_code
def yX11_blamePart : MethodName := ⟨RX11, "blamePart", "(I)V"⟩
abbrev cX11_faults : ByteArray := prog_12_method_71_code
def yX11_faults : MethodName := ⟨RX11, "faults", "()I"⟩
abbrev cX11_hasFault : ByteArray := prog_12_method_72_code
def yX11_hasFault : MethodName := ⟨RX11, "hasFault", "(I)Z"⟩
abbrev cX11_kindOfFault : ByteArray := prog_12_method_73_code
def yX11_kindOfFault : MethodName := ⟨RX11, "kindOfFault", "(I)I"⟩
abbrev cX11_tickOfFault : ByteArray := prog_12_method_74_code
def yX11_tickOfFault : MethodName := ⟨RX11, "tickOfFault", "(I)I"⟩
abbrev cX11_partsOfFault : ByteArray := prog_12_method_75_code
def yX11_partsOfFault : MethodName := ⟨RX11, "partsOfFault", "(I)I"⟩
abbrev cX11_faultsIfUp : ByteArray := prog_12_method_76_code
def yX11_faultsIfUp : MethodName := ⟨RX11, "faultsIfUp", "(II)I"⟩
abbrev cX11_barsNow : ByteArray := prog_12_method_77_code
def yX11_barsNow : MethodName := ⟨RX11, "barsNow", "()I"⟩
abbrev cX11_bars : ByteArray := prog_12_method_78_code
def yX11_bars : MethodName := ⟨RX11, "bars", "()I"⟩
abbrev cX11_width : ByteArray := prog_12_method_79_code
def yX11_width : MethodName := ⟨RX11, "width", "(I)I"⟩
abbrev cX11_widthOf : ByteArray := prog_12_method_80_code
def yX11_widthOf : MethodName := ⟨RX11, "widthOf", "(I)I"⟩
abbrev cX11_breakLines : ByteArray := prog_12_method_81_code
def yX11_breakLines : MethodName := ⟨RX11, "breakLines", "(I)I"⟩
abbrev cX11_linesNow : ByteArray := prog_12_method_82_code
def yX11_linesNow : MethodName := ⟨RX11, "linesNow", "(I)I"⟩
abbrev cX11_lines : ByteArray := prog_12_method_83_code
def yX11_lines : MethodName := ⟨RX11, "lines", "(I)I"⟩
abbrev cX11_lineOf : ByteArray := prog_12_method_84_code
def yX11_lineOf : MethodName := ⟨RX11, "lineOf", "(II)I"⟩
abbrev cX11_costNow : ByteArray := prog_12_method_85_code
def yX11_costNow : MethodName := ⟨RX11, "costNow", "(I)I"⟩
abbrev cX11_costOf : ByteArray := prog_12_method_86_code
def yX11_costOf : MethodName := ⟨RX11, "costOf", "(I)I"⟩
abbrev cX11_meanHeight : ByteArray := prog_12_method_87_code
def yX11_meanHeight : MethodName := ⟨RX11, "meanHeight", "()D"⟩
abbrev cX11_add_ : ByteArray := prog_12_method_88_code
def yX11_add_ : MethodName := ⟨RX11, "add", "(I)V"⟩
abbrev cX11_addSigns : ByteArray := prog_12_method_89_code
def yX11_addSigns : MethodName := ⟨RX11, "addSigns", "(II)V"⟩
abbrev cX11_digest : ByteArray := prog_12_method_90_code
def yX11_digest : MethodName := ⟨RX11, "digest", "()J"⟩
def RJx145de : String := "java/io/Serializable"
def RJx8e188 : String := "java/lang/Cloneable"
def RJ6 : String := "java/lang/Integer"
abbrev cJ6_compare_7cf53 : ByteArray := prog_19_method_40_code
def yJ6_compare_7cf53 : MethodName := ⟨RJ6, "compare", "(II)I"⟩
abbrev cJ6_bitCount_0f7a4 : ByteArray := prog_19_method_49_code
def yJ6_bitCount_0f7a4 : MethodName := ⟨RJ6, "bitCount", "(I)I"⟩
def RJ9 : String := "java/lang/Math"
abbrev cJ9_floorDiv_7cf53 : ByteArray := prog_20_method_47_code
def yJ9_floorDiv_7cf53 : MethodName := ⟨RJ9, "floorDiv", "(II)I"⟩
abbrev cJ9_floorMod_7cf53 : ByteArray := prog_20_method_50_code
def yJ9_floorMod_7cf53 : MethodName := ⟨RJ9, "floorMod", "(II)I"⟩
abbrev cJ9_abs_0f7a4 : ByteArray := prog_20_method_59_code
def yJ9_abs_0f7a4 : MethodName := ⟨RJ9, "abs", "(I)I"⟩
abbrev cJ9_max_7cf53 : ByteArray := prog_20_method_65_code
def yJ9_max_7cf53 : MethodName := ⟨RJ9, "max", "(II)I"⟩
abbrev cJ9_min_7cf53 : ByteArray := prog_20_method_69_code
def yJ9_min_7cf53 : MethodName := ⟨RJ9, "min", "(II)I"⟩
def RJ0 : String := "java/lang/String"
def RJ10 : String := "java/lang/System"
def RJ7 : String := "java/util/Arrays"
abbrev cJ7_fill_53178 : ByteArray := prog_25_method_103_code
def yJ7_fill_53178 : MethodName := ⟨RJ7, "fill", "([II)V"⟩
abbrev cJ7_copyOf_59c91 : ByteArray := prog_25_method_123_code
def yJ7_copyOf_59c91 : MethodName := ⟨RJ7, "copyOf", "([II)[I"⟩
def RL : String := "ChoraleDeskLaw"
abbrev cL_addNote : ByteArray := method_3_code
def yL_addNote : MethodName := ⟨RL, "addNote", "(LChoraleDesk;IIII[J)I"⟩
abbrev cL_addRest : ByteArray := method_4_code
def yL_addRest : MethodName := ⟨RL, "addRest", "(LChoraleDesk;II[J)I"⟩
abbrev cL_takeLast : ByteArray := method_5_code
def yL_takeLast : MethodName := ⟨RL, "takeLast", "(LChoraleDesk;I[J)I"⟩
abbrev cL_setPitch : ByteArray := method_6_code
def yL_setPitch : MethodName := ⟨RL, "setPitch", "(LChoraleDesk;IIII[J)I"⟩
abbrev cL_setMetre : ByteArray := method_7_code
def yL_setMetre : MethodName := ⟨RL, "setMetre", "(LChoraleDesk;III[J)I"⟩
abbrev cL_setKey : ByteArray := method_8_code
def yL_setKey : MethodName := ⟨RL, "setKey", "(LChoraleDesk;II[J)I"⟩
abbrev cL_setRange : ByteArray := method_9_code
def yL_setRange : MethodName := ⟨RL, "setRange", "(LChoraleDesk;III[J)I"⟩
abbrev cL_setShift : ByteArray := method_10_code
def yL_setShift : MethodName := ⟨RL, "setShift", "(LChoraleDesk;III[J)I"⟩
abbrev cL_events : ByteArray := method_11_code
def yL_events : MethodName := ⟨RL, "events", "(LChoraleDesk;I[J)I"⟩
abbrev cL_beginOf : ByteArray := method_12_code
def yL_beginOf : MethodName := ⟨RL, "beginOf", "(LChoraleDesk;II[J)I"⟩
abbrev cL_heightOf : ByteArray := method_13_code
def yL_heightOf : MethodName := ⟨RL, "heightOf", "(LChoraleDesk;II[J)I"⟩
abbrev cL_barOf : ByteArray := method_14_code
def yL_barOf : MethodName := ⟨RL, "barOf", "(LChoraleDesk;II[J)I"⟩
abbrev cL_writtenPlace : ByteArray := method_15_code
def yL_writtenPlace : MethodName := ⟨RL, "writtenPlace", "(LChoraleDesk;II[J)I"⟩
abbrev cL_writtenAlter : ByteArray := method_16_code
def yL_writtenAlter : MethodName := ⟨RL, "writtenAlter", "(LChoraleDesk;II[J)I"⟩
abbrev cL_alterIn : ByteArray := method_17_code
def yL_alterIn : MethodName := ⟨RL, "alterIn", "(LChoraleDesk;II[J)I"⟩
abbrev cL_writtenKey : ByteArray := method_18_code
def yL_writtenKey : MethodName := ⟨RL, "writtenKey", "(LChoraleDesk;II[J)I"⟩
abbrev cL_beginOfBar : ByteArray := method_19_code
def yL_beginOfBar : MethodName := ⟨RL, "beginOfBar", "(LChoraleDesk;I[J)I"⟩
abbrev cL_lengthOfBar : ByteArray := method_20_code
def yL_lengthOfBar : MethodName := ⟨RL, "lengthOfBar", "(LChoraleDesk;I[J)I"⟩
abbrev cL_signs : ByteArray := method_21_code
def yL_signs : MethodName := ⟨RL, "signs", "(LChoraleDesk;II[J)I"⟩
abbrev cL_eventOf : ByteArray := method_22_code
def yL_eventOf : MethodName := ⟨RL, "eventOf", "(LChoraleDesk;III[J)I"⟩
abbrev cL_lengthOf : ByteArray := method_23_code
def yL_lengthOf : MethodName := ⟨RL, "lengthOf", "(LChoraleDesk;III[J)I"⟩
abbrev cL_isTied : ByteArray := method_24_code
def yL_isTied : MethodName := ⟨RL, "isTied", "(LChoraleDesk;III[J)I"⟩
abbrev cL_shown : ByteArray := method_25_code
def yL_shown : MethodName := ⟨RL, "shown", "(LChoraleDesk;III[J)I"⟩
abbrev cL_shownWritten : ByteArray := method_26_code
def yL_shownWritten : MethodName := ⟨RL, "shownWritten", "(LChoraleDesk;III[J)I"⟩
abbrev cL_beams : ByteArray := method_27_code
def yL_beams : MethodName := ⟨RL, "beams", "(LChoraleDesk;II[J)I"⟩
abbrev cL_beamOf : ByteArray := method_28_code
def yL_beamOf : MethodName := ⟨RL, "beamOf", "(LChoraleDesk;III[J)I"⟩
abbrev cL_missing : ByteArray := method_29_code
def yL_missing : MethodName := ⟨RL, "missing", "(LChoraleDesk;II[J)I"⟩
abbrev cL_tickOf : ByteArray := method_30_code
def yL_tickOf : MethodName := ⟨RL, "tickOf", "(LChoraleDesk;I[J)I"⟩
abbrev cL_sounds : ByteArray := method_31_code
def yL_sounds : MethodName := ⟨RL, "sounds", "(LChoraleDesk;II[J)I"⟩
abbrev cL_root : ByteArray := method_32_code
def yL_root : MethodName := ⟨RL, "root", "(LChoraleDesk;I[J)I"⟩
abbrev cL_kind : ByteArray := method_33_code
def yL_kind : MethodName := ⟨RL, "kind", "(LChoraleDesk;I[J)I"⟩
abbrev cL_inversion : ByteArray := method_34_code
def yL_inversion : MethodName := ⟨RL, "inversion", "(LChoraleDesk;I[J)I"⟩
abbrev cL_kindOfFault : ByteArray := method_35_code
def yL_kindOfFault : MethodName := ⟨RL, "kindOfFault", "(LChoraleDesk;I[J)I"⟩
abbrev cL_tickOfFault : ByteArray := method_36_code
def yL_tickOfFault : MethodName := ⟨RL, "tickOfFault", "(LChoraleDesk;I[J)I"⟩
abbrev cL_partsOfFault : ByteArray := method_37_code
def yL_partsOfFault : MethodName := ⟨RL, "partsOfFault", "(LChoraleDesk;I[J)I"⟩
abbrev cL_faultsIfUp : ByteArray := method_38_code
def yL_faultsIfUp : MethodName := ⟨RL, "faultsIfUp", "(LChoraleDesk;II[J)I"⟩
abbrev cL_widthOf : ByteArray := method_39_code
def yL_widthOf : MethodName := ⟨RL, "widthOf", "(LChoraleDesk;I[J)I"⟩
abbrev cL_lines : ByteArray := method_40_code
def yL_lines : MethodName := ⟨RL, "lines", "(LChoraleDesk;I[J)I"⟩
abbrev cL_lineOf : ByteArray := method_41_code
def yL_lineOf : MethodName := ⟨RL, "lineOf", "(LChoraleDesk;II[J)I"⟩
abbrev cL_costOf : ByteArray := method_42_code
def yL_costOf : MethodName := ⟨RL, "costOf", "(LChoraleDesk;I[J)I"⟩
abbrev cL_law : ByteArray := code
def yL_law : MethodName := ⟨RL, "law", "([I)Z"⟩
abbrev vwCl : List vw_C := [(RX0, TX0, 5), (RX1, TX1, 3), (RX2, TX2, 8), (RX3, TX3, 4), (RX4, TX4, 5), (RX5, TX5, 11), (RX6, TX6, 13), (RX9, TX9, 12), (RX10, TX10, 9), (RX11, TX11, 31)]
end
section
/-! ===== my own judgement J: a frame of a method over a picture of the heap ===== -/
abbrev jH : Type := Nat → Option va_E
def hset (h : jH) (a : Nat) (e : va_E) : jH := fun q => if q = a then some e else h q
theorem hset_s (h : jH) (a : Nat) (e : va_E) : hset h a e a = some e := by simp [hset]
theorem hset_n {h : jH} {a b : Nat} {e : va_E} (hne : b ≠ a) : hset h a e b = h b := by simp [hset, hne]
/-- the surroundings: classes' ids and slots; array classes (int, boolean, long, part, part of the model); the first own cell; the static arrays' cells; the texts' cells -/
abbrev jG : Type := va_G × (Nat → ClassId) × Nat × (Nat → Nat) × (Nat → Nat)
def jT (G : jG) : List (ClassId × FieldType) := [(G.2.1 0, .int), (G.2.1 1, .boolean), (G.2.1 2, .long), (G.2.1 3, .object RX6), (G.2.1 4, .object RX10)]
def jB (G : jG) : Nat → Prop := fun q => G.2.2.1 ≤ q
def jR (G : jG) (h : jH) (H : Heap) : Prop := ∀ (a : Nat) (e : va_E), h a = some e → jB G a ∧ va_at G.1 vwCl (a, e) H
theorem jR.set {G : jG} {h : jH} {H H1 : Heap} {a : Nat} {e0 e : va_E} (hR : jR G h H) (h0 : h a = some e0) (he : va_at G.1 vwCl (a, e) H1) (oq : ∀ q : Nat, q ≠ a → H1[q]? = H[q]?) : jR G (hset h a e) H1 := by
  intro b e' hb
  by_cases hab : b = a
  · subst hab
    rw [hset_s] at hb
    cases hb
    exact ⟨(hR b e0 h0).1, he⟩
  · rw [hset_n hab] at hb
    exact ⟨(hR b e' hb).1, (hR b e' hb).2.kept (oq b hab)⟩
theorem jR.new {G : jG} {h : jH} {H H1 : Heap} {e : va_E} (hR : jR G h H) (hB : jB G H.size) (he : va_at G.1 vwCl (H.size, e) H1) (oq : ∀ q : Nat, q < H.size → H1[q]? = H[q]?) : jR G (hset h H.size e) H1 := by
  intro b e' hb
  by_cases hab : b = H.size
  · subst hab
    rw [hset_s] at hb
    cases hb
    exact ⟨hB, he⟩
  · rw [hset_n hab] at hb
    exact ⟨(hR b e' hb).1, (hR b e' hb).2.kept (oq b (hR b e' hb).2.lt)⟩
theorem jR.none {G : jG} {h : jH} {H : Heap} (hR : jR G h H) : h H.size = none := by
  cases he : h H.size with
  | none => rfl
  | some e => exact absurd (hR _ _ he).2.lt (Nat.lt_irrefl _)
/-- the static arrays: class, name, length, contents -/
def jIs (l : List Int32) : Nat → Int32 := fun k => l.getD k 0
def jSt : List (String × String × Nat × List Int32) := [
  (RX7, "HEIGHTS", 7, [0, 2, 4, 5, 7, 9, 11]), (RX7, "TURNS_AS_SHARP", 7, [1, 3, 5, 0, 2, 4, 6]), (RX8, "FALLING", 10, [96, 64, 48, 32, 24, 16, 12, 8, 6, 4]),
  (RX1, "SECOND_TONES", 4, [4, 3, 3, 4]), (RX1, "THIRD_TONES", 4, [7, 7, 6, 8]),
  (RX11, "VALUES", 10, [96, 64, 48, 32, 24, 16, 12, 8, 6, 4]), (RX11, "SHARPS", 7, [3, 0, 4, 1, 5, 2, 6]), (RX11, "STEPS", 7, [0, 2, 4, 5, 7, 9, 11])]
def jSa (G : jG) (k : Nat) : Nat := G.2.2.2.1 k
/-- the words that every method has at hand -/
def WT : List Cond := lw_tbl.filter goodWord
theorem WT_pay {args : Array Value} {s : State} (h : ∀ w ∈ WT, w.before args s = true) : ∀ w ∈ WT, ∀ (a' : Array Value) (U : State), s.WarmedH U.vm → w.before a' U = true :=
  fun w hw a' _ hW => word_at hW (good_of_word (List.mem_filter.mp hw).2) (h w hw)
/-- the texts that are thrown: the entry of ChoraleDesk's file, the text -/
def jTx : List (Nat × String) := [(355, "no such part"), (391, "no such bar"), (397, "no such pitch"), (404, "no such value"), (384, "it would end behind the end of the last bar"), (104, "the part has no event"), (361, "no such event"), (389, "the event is a rest"), (132, "no such metre"), (406, "no such key"), (150, "no such range"), (158, "no such shift"), (178, "no such step"), (368, "no such sign"), (375, "no such moment"), (378, "no such fault"), (408, "no such width")]
/-- words that are handed on by laws of their own -/
def jNg : List Cond := [
  (Cond.arrayOver (FieldType.object "ChoraleDesk$Part")),
  (Cond.castable "java/lang/IndexOutOfBoundsException" "java/lang/IndexOutOfBoundsException"),
  (Cond.declares ({ cls := "java/lang/RuntimeException", name := "<init>", desc := "()V" } : MethodName)),
  (Cond.declares ({ cls := "java/lang/RuntimeException", name := "<init>", desc := "(Ljava/lang/String;)V" } : MethodName)),
  (Cond.declares ({ cls := "java/lang/Exception", name := "<init>", desc := "()V" } : MethodName)),
  (Cond.declares ({ cls := "java/lang/Exception", name := "<init>", desc := "(Ljava/lang/String;)V" } : MethodName)),
  (Cond.declares ({ cls := "java/lang/Throwable", name := "<init>", desc := "()V" } : MethodName)),
  (Cond.declares ({ cls := "java/lang/Throwable", name := "<init>", desc := "(Ljava/lang/String;)V" } : MethodName)),
  (Cond.castable "java/lang/IllegalArgumentException" "java/lang/IllegalArgumentException"),
  (Cond.castable "java/lang/IllegalStateException" "java/lang/IllegalStateException"),
  (Cond.arrayOver (FieldType.object "ChoraleDeskModel$Part")),
  (Cond.methodLinkNest "ChoraleDeskModel" (80 : Nat) ({ cls := "ChoraleDeskModel$Part", name := "<init>", desc := "()V" } : MethodName) "ChoraleDeskModel"),
  (Cond.fieldLinkNest "ChoraleDeskModel" (99 : Nat) "ChoraleDeskModel$Part" "many" "I" "ChoraleDeskModel"),
  (Cond.fieldLinkNest "ChoraleDeskModel" (170 : Nat) "ChoraleDeskModel$Part" "begin" "[I" "ChoraleDeskModel"),
  (Cond.fieldLinkNest "ChoraleDeskModel" (132 : Nat) "ChoraleDeskModel$Part" "length" "[I" "ChoraleDeskModel"),
  (Cond.fieldLinkNest "ChoraleDeskModel" (143 : Nat) "ChoraleDeskModel$Part" "place" "[I" "ChoraleDeskModel"),
  (Cond.fieldLinkNest "ChoraleDeskModel" (146 : Nat) "ChoraleDeskModel$Part" "alter" "[I" "ChoraleDeskModel"),
  (Cond.fieldLinkNest "ChoraleDeskModel" (152 : Nat) "ChoraleDeskModel$Part" "lowest" "I" "ChoraleDeskModel"),
  (Cond.fieldLinkNest "ChoraleDeskModel" (155 : Nat) "ChoraleDeskModel$Part" "highest" "I" "ChoraleDeskModel"),
  (Cond.fieldLinkNest "ChoraleDeskModel" (161 : Nat) "ChoraleDeskModel$Part" "fifths" "I" "ChoraleDeskModel"),
  (Cond.fieldLinkNest "ChoraleDeskModel" (164 : Nat) "ChoraleDeskModel$Part" "octaves" "I" "ChoraleDeskModel"),
  (Cond.methodLinkNest "ChoraleDeskModel$Part" (48 : Nat) ({ cls := "ChoraleDeskModel", name := "base", desc := "(I)I" } : MethodName) "ChoraleDeskModel"),
  (Cond.methodLinkNest "ChoraleDeskModel$Part" (67 : Nat) ({ cls := "ChoraleDeskModel", name := "is", desc := "(III)Z" } : MethodName) "ChoraleDeskModel")]
theorem jNg_warm {s U : State} (hW : s.WarmedH U.vm) : ∀ w ∈ jNg, va_Nw w s → va_Nw w U := by
  refine List.forall_mem_cons.mpr ⟨fun h => va_AO.moved hW.alike h, List.forall_mem_cons.mpr ⟨fun h => va_Nw.warmC hW h, List.forall_mem_cons.mpr ⟨fun h => va_Nw.warmD hW h, List.forall_mem_cons.mpr ⟨fun h => va_Nw.warmD hW h, List.forall_mem_cons.mpr ⟨fun h => va_Nw.warmD hW h, List.forall_mem_cons.mpr ⟨fun h => va_Nw.warmD hW h, List.forall_mem_cons.mpr ⟨fun h => va_Nw.warmD hW h, List.forall_mem_cons.mpr ⟨fun h => va_Nw.warmD hW h, List.forall_mem_cons.mpr ⟨fun h => va_Nw.warmC hW h, List.forall_mem_cons.mpr ⟨fun h => va_Nw.warmC hW h, List.forall_mem_cons.mpr ⟨fun h => va_AO.moved hW.alike h, List.forall_mem_cons.mpr ⟨fun h => va_Nw.warmM hW h, List.forall_mem_cons.mpr ⟨fun h => va_Nw.warmF hW h, List.forall_mem_cons.mpr ⟨fun h => va_Nw.warmF hW h, List.forall_mem_cons.mpr ⟨fun h => va_Nw.warmF hW h, List.forall_mem_cons.mpr ⟨fun h => va_Nw.warmF hW h, List.forall_mem_cons.mpr ⟨fun h => va_Nw.warmF hW h, List.forall_mem_cons.mpr ⟨fun h => va_Nw.warmF hW h, List.forall_mem_cons.mpr ⟨fun h => va_Nw.warmF hW h, List.forall_mem_cons.mpr ⟨fun h => va_Nw.warmF hW h, List.forall_mem_cons.mpr ⟨fun h => va_Nw.warmF hW h, List.forall_mem_cons.mpr ⟨fun h => va_Nw.warmM hW h, List.forall_mem_cons.mpr ⟨fun h => va_Nw.warmM hW h, fun _ h => absurd h List.not_mem_nil⟩⟩⟩⟩⟩⟩⟩⟩⟩⟩⟩⟩⟩⟩⟩⟩⟩⟩⟩⟩⟩⟩⟩
def jNc : List (String × String) := [("java/lang/IndexOutOfBoundsException", "java/lang/IllegalArgumentException"), ("java/lang/IndexOutOfBoundsException", "java/lang/IllegalStateException"), ("java/lang/IllegalArgumentException", "java/lang/IndexOutOfBoundsException"), ("java/lang/IllegalArgumentException", "java/lang/IllegalStateException"), ("java/lang/IllegalStateException", "java/lang/IndexOutOfBoundsException"), ("java/lang/IllegalStateException", "java/lang/IllegalArgumentException")]
/-- what is known of the surroundings at a state -/
def jK (G : jG) (U : State) (H : Heap) : Prop :=
  va_K G.1 vwCl (jT G) U ∧
  (∀ (k : Nat) (q : String × String × Nat × List Int32), jSt[k]? = some q → va_Z q.1 q.2.1 "[I" (.ref (jSa G k)) (jB G) U H ∧ va_T .int (jSa G k) q.2.2.1 (fun j => .int (jIs q.2.2.2 j)) (jB G) U H) ∧
  (∀ (k : Nat) (q : Nat × String), jTx[k]? = some q → vk_R RX9 q.1 q.2 (G.2.2.2.2 k) U) ∧
  (vx_Zq Bundle.tN "UNASSIGNED_STACK" Bundle.steD (jB G) U H ∧ vx_Zq Bundle.tN "SUPPRESSED_SENTINEL" Bundle.listD (jB G) U H) ∧
  G.2.2.1 ≤ H.size ∧ (∀ w ∈ jNg, va_Nw w U) ∧ (∀ q ∈ jNc, va_Nc q.1 q.2 U)
theorem jK.moved {G : jG} {s U : State} {H H1 : Heap} (h : jK G s H) (hW : s.WarmedH U.vm) (hz : H.size ≤ H1.size) (hq : ∀ a : Nat, a < H.size → ¬ jB G a → H1[a]? = H[a]?) : jK G U H1 := by
  obtain ⟨h1, h2, h3, ⟨h4, h5⟩, h6, h7, h8⟩ := h
  exact ⟨va_K.moved hW.alike h1, fun k q hk => ⟨va_Z.moved hW.alike ((h2 k q hk).1.kept hq), va_T.moved hW.alike ((h2 k q hk).2.kept hq)⟩, fun k q hk => vk_R.warm hW (h3 k q hk),
    ⟨vx_Zq.moved hW.alike (h4.kept hq), vx_Zq.moved hW.alike (h5.kept hq)⟩, Nat.le_trans h6 hz, fun w hw => jNg_warm hW w hw (h7 w hw), fun q hq => va_Nc.moved hW.alike (h8 q hq)⟩
/-- a method: its class, code, locals, return type, table, name, room -/
abbrev jM : Type := String × ByteArray × Nat × Option FieldType × List (Nat × Nat × Nat × Nat) × String × Room
abbrev jM.own (M : jM) : String := M.1
abbrev jM.cc (M : jM) : ByteArray := M.2.1
abbrev jM.nL (M : jM) : Nat := M.2.2.1
abbrev jM.ret (M : jM) : Option FieldType := M.2.2.2.1
abbrev jM.hh (M : jM) : List (Nat × Nat × Nat × Nat) := M.2.2.2.2.1
abbrev jM.nm (M : jM) : String := M.2.2.2.2.2.1
abbrev jM.room (M : jM) : Room := M.2.2.2.2.2.2
def jStd (G : jG) (M : jM) (p : Program) (s : State) (m : MethodId) (args : Array Value) (meth : Method) (c : Code) : Prop :=
  p.tables.exec = Jvm.exec ∧ c.code = M.cc ∧ c.maxLocals = M.nL ∧ meth.sig.returnType = M.ret ∧ c.exceptionTable.toList = tableOf M.hh ∧ meth.name = M.nm ∧ meth.locks = false ∧
  s.vm.findClass M.own = some m.cls ∧ (∀ w ∈ WT, w.before args s = true) ∧ jK G s s.heap
abbrev jF : Type := List Frame → Array Value → State → State → Prop
/-- from here on (pc, locals L, stack st, heap's picture h; at most ck cells of sk slots may still come) the frame comes to its end QF -/
def J (l : Launch) (G : jG) (M : jM) (QF : jF) (ck sk pc : Nat) (L : List (Nat × Value)) (st : List Value) (h : jH) : Prop :=
  ∀ (p : Program) (e : Env) (s : State) (m : MethodId) (args : Array Value) (below : List Frame) (meth : Method) (c : Code) (H : Heap) (locs : List Loc) (cells slots : Nat) (ls : Array Slot),
    jStd G M p s m args meth c → jR G h H → va_S (jB G) s.heap H locs → lv_has ls M.nL L → cells + ck ≤ M.room.cells → slots + sk ≤ M.room.slots →
    W p l e M.room s m args below meth c H locs cells slots (QF below args s) (F0 m pc ls st)
/-- how a call ended: the value, or the class of what was thrown -/
abbrev jO : Type := Option Value ⊕ String
def jQc (G : jG) (Post : jO → jH → Prop) : Array Value → State → Outcome → State → Prop := fun _ st o t => ∃ (v : Option Value) (h' : jH), o = .returned v ∧ Post (.inl v) h' ∧ jR G h' t.heap ∧ va_F (jB G) st t
def jXC (G : jG) (Post : jO → jH → Prop) : String → State → State → Prop := fun E st t => ∃ h' : jH, Post (.inr E) h' ∧ jR G h' t.heap ∧ va_F (jB G) st t
def jPc (G : jG) (av : List Value) (h : jH) : Array Value → State → Prop := fun v U => v = av.toArray ∧ jR G h U.heap ∧ jK G U U.heap
def jQ (G : jG) (M : jM) (Post : jO → jH → Prop) : jF := fun below args s => vx_MQ below (jQc G Post) (jXC G Post) args s M.room.cells M.room.slots (jB G)
def jws (y : MethodName) (M : jM) : List Cond := (match M.hh with
  | [] => Cond.code y M.cc M.nL M.ret
  | hh => Cond.codeWith y M.cc M.nL M.ret hh) :: WT
/-- **THE CONTRACT**: method y (M), called with av over h, ends so that Post holds -/
def jC (l : Launch) (G : jG) (y : MethodName) (M : jM) (av : List Value) (h : jH) (Post : jO → jH → Prop) : Prop :=
  vx_Met l y (jws y M) M.room (jPc G av h) (jQc G Post) (jXC G Post) M.room.cells M.room.slots (jB G)
theorem jPc.blind {G : jG} {av : List Value} {h : jH} : FrameBlind (jPc G av h) := fun _ U _ _ q =>
  ⟨q.1, q.2.1, jK.moved q.2.2 (State.WarmedH.refl U) (Nat.le_refl _) (fun _ _ _ => rfl)⟩
theorem table_nil : tableOf [] = [] := rfl
theorem jstd_of {l : Launch} {G : jG} {y : MethodName} {M : jM} {p : Program} {e : Env} {s s₁ : State} {m : MethodId} {args : Array Value} {below : List Frame} {meth : Method} {c : Code} (B : BodyLoose p l y (headSpec (jws y M) M.room) M.cc M.nL M.ret e s m args below meth c s₁) (hml : c.maxLocals = M.nL) (ht : c.exceptionTable.toList = tableOf M.hh) (hy : y.cls = M.own) (hn : y.name = M.nm) (hk : jK G s s.heap) : jStd G M p s m args meth c := by
  have hts := atoms_spec (ws := jws y M) B.pre
  refine ⟨B.exec, B.bytes, hml, B.returns, ht, ?_, B.notSynchronized, ?_, fun w hw => hts w (List.mem_cons_of_mem _ hw), hk⟩
  · rw [← hn]; exact (name_of_methodNamed B.named B.method).1
  · rw [← hy]; exact findClass_of_methodNamed B.named
/-- a body gives its contract -/
theorem j_body {l : Launch} {G : jG} {y : MethodName} {M : jM} {av : List Value} {h : jH} {Post : jO → jH → Prop} (hy : plainName y.cls = true) (ho : y.cls = M.own ∧ y.name = M.nm) (hl : Nat.ble (lg_sl av).length M.nL = true)
    (k : J l G M (jQ G M Post) M.room.cells M.room.slots 0 (lv_args 0 av) [] h) : jC l G y M av h Post := by
  obtain ⟨own, cc, nL, ret, hh, nm, room⟩ := M
  cases hh with
  | nil =>
    refine vx_ofW (cc := cc) (maxL := nL) (ret := ret) hy rfl ?_
    intro p e s m args below meth c s₁ B hml ht hv
    obtain ⟨rfl, hR, hK⟩ := hv
    have ht2 : c.exceptionTable.toList = tableOf [] := by
      rw [table_nil]
      exact List.eq_nil_iff_forall_not_mem.mpr (fun x hx => ht x hx)
    rw [lg_entry_eq]
    exact k p e s m _ below meth c s.heap [] 0 0 _ (jstd_of (M := (own, cc, nL, ret, [], nm, room)) B hml ht2 ho.1 ho.2 hK) hR va_S.rf (lv_entry av (Nat.le_of_ble_eq_true hl)) (by simp) (by simp)
  | cons a hh =>
    refine vx_ofWH (cc := cc) (maxL := nL) (ret := ret) (hh := a :: hh) hy rfl ?_
    intro p e s m args below meth c s₁ B hml hv
    obtain ⟨rfl, hR, hK⟩ := hv
    have hts := atoms_spec (ws := jws y (own, cc, nL, ret, a :: hh, nm, room)) B.pre
    have ht2 : c.exceptionTable.toList = tableOf (a :: hh) := vx_table (x := y) B (hts _ List.mem_cons_self)
    rw [lg_entry_eq]
    exact k p e s m _ below meth c s.heap [] 0 0 _ (jstd_of (M := (own, cc, nL, ret, a :: hh, nm, room)) B hml ht2 ho.1 ho.2 hK) hR va_S.rf (lv_entry av (Nat.le_of_ble_eq_true hl)) (by simp) (by simp)
theorem jC.imp {l : Launch} {G : jG} {y : MethodName} {M : jM} {av : List Value} {h : jH} {Post Post' : jO → jH → Prop} (k : jC l G y M av h Post) (hp : ∀ r h', Post r h' → Post' r h') : jC l G y M av h Post' := by
  refine MetFree.mono k (fun _ _ h => h) (fun _ _ _ _ _ h => h) ?_
  intro a s o t _ hq
  rcases hq with ⟨⟨v, h', e1, e2, e3⟩, e4⟩ | ⟨q, e1, E, ce, L, ⟨h', e2, e3⟩, e4⟩
  · exact Or.inl ⟨⟨v, h', e1, hp _ _ e2, e3⟩, e4⟩
  · exact Or.inr ⟨q, e1, E, ce, L, ⟨h', hp _ _ e2, e3⟩, e4⟩
/-- what returns only is a contract of the kit's plain kind -/
theorem jC.met {l : Launch} {G : jG} {y : MethodName} {M : jM} {av : List Value} {h : jH} {Post : jO → jH → Prop} (k : jC l G y M av h Post) (hp : ∀ E h', ¬ Post (.inr E) h') : Met l y (jws y M) M.room (jPc G av h) (jQc G Post) M.room.cells M.room.slots (jB G) := by
  refine MetFree.mono k (fun _ _ h => h) (fun _ _ _ _ _ h => h) ?_
  intro a s o t _ hq
  rcases hq with ⟨e3, e4⟩ | ⟨q, e1, E, ce, L, ⟨h', e2, e3⟩, e4⟩
  · exact ⟨e3, e4⟩
  · exact absurd e2 (hp _ _)
end
section
section JR
variable {l : Launch} {G : jG} {M : jM} {QF : jF} {ck sk pc : Nat} {L L' : List (Nat × Value)} {st : List Value} {h : jH}
theorem j_iadd {x y : Int32} (hd : decode M.cc pc = .ok (.iadd, 1)) (k : J l G M QF ck sk (pc + 1) L (.int (x + y) :: st) h) : J l G M QF ck sk pc L (.int y :: .int x :: st) h := by
  intro p e s m args below meth c H locs cells slots ls S hR hS hl hc hs
  exact lv_iadd S.1 S.2.1 hd (k p e s m args below meth c H locs cells slots ls S hR hS hl hc hs)
theorem j_isub {x y : Int32} (hd : decode M.cc pc = .ok (.isub, 1)) (k : J l G M QF ck sk (pc + 1) L (.int (x - y) :: st) h) : J l G M QF ck sk pc L (.int y :: .int x :: st) h := by
  intro p e s m args below meth c H locs cells slots ls S hR hS hl hc hs
  exact lv_isub S.1 S.2.1 hd (k p e s m args below meth c H locs cells slots ls S hR hS hl hc hs)
theorem j_imul {x y : Int32} (hd : decode M.cc pc = .ok (.imul, 1)) (k : J l G M QF ck sk (pc + 1) L (.int (x * y) :: st) h) : J l G M QF ck sk pc L (.int y :: .int x :: st) h := by
  intro p e s m args below meth c H locs cells slots ls S hR hS hl hc hs
  exact lv_imul S.1 S.2.1 hd (k p e s m args below meth c H locs cells slots ls S hR hS hl hc hs)
theorem j_iand {x y : Int32} (hd : decode M.cc pc = .ok (.iand, 1)) (k : J l G M QF ck sk (pc + 1) L (.int (x &&& y) :: st) h) : J l G M QF ck sk pc L (.int y :: .int x :: st) h := by
  intro p e s m args below meth c H locs cells slots ls S hR hS hl hc hs
  exact lv_iand S.1 S.2.1 hd (k p e s m args below meth c H locs cells slots ls S hR hS hl hc hs)
theorem j_ior {x y : Int32} (hd : decode M.cc pc = .ok (.ior, 1)) (k : J l G M QF ck sk (pc + 1) L (.int (x ||| y) :: st) h) : J l G M QF ck sk pc L (.int y :: .int x :: st) h := by
  intro p e s m args below meth c H locs cells slots ls S hR hS hl hc hs
  exact lv_ior S.1 S.2.1 hd (k p e s m args below meth c H locs cells slots ls S hR hS hl hc hs)
theorem j_ishl {x y : Int32} (hd : decode M.cc pc = .ok (.ishl, 1)) (k : J l G M QF ck sk (pc + 1) L (.int (x <<< (y &&& 31)) :: st) h) : J l G M QF ck sk pc L (.int y :: .int x :: st) h := by
  intro p e s m args below meth c H locs cells slots ls S hR hS hl hc hs
  exact lv_ishl S.1 S.2.1 hd (k p e s m args below meth c H locs cells slots ls S hR hS hl hc hs)
theorem j_ishr {x y : Int32} (hd : decode M.cc pc = .ok (.ishr, 1)) (k : J l G M QF ck sk (pc + 1) L (.int (x >>> (y &&& 31)) :: st) h) : J l G M QF ck sk pc L (.int y :: .int x :: st) h := by
  intro p e s m args below meth c H locs cells slots ls S hR hS hl hc hs
  exact lv_ishr S.1 S.2.1 hd (k p e s m args below meth c H locs cells slots ls S hR hS hl hc hs)
theorem j_iushr {x y : Int32} (hd : decode M.cc pc = .ok (.iushr, 1)) (k : J l G M QF ck sk (pc + 1) L (.int (x.toUInt32 >>> (y.toUInt32 &&& Int32.toUInt32 31)).toInt32 :: st) h) : J l G M QF ck sk pc L (.int y :: .int x :: st) h := by
  intro p e s m args below meth c H locs cells slots ls S hR hS hl hc hs
  exact lv_iushr S.1 S.2.1 hd rfl (k p e s m args below meth c H locs cells slots ls S hR hS hl hc hs)
theorem j_idiv {x y : Int32} (hd : decode M.cc pc = .ok (.idiv, 1)) (hne : ¬ y = 0) (k : J l G M QF ck sk (pc + 1) L (.int (x / y) :: st) h) : J l G M QF ck sk pc L (.int y :: .int x :: st) h := by
  intro p e s m args below meth c H locs cells slots ls S hR hS hl hc hs
  exact lv_idiv S.1 S.2.1 hd hne (k p e s m args below meth c H locs cells slots ls S hR hS hl hc hs)
theorem j_irem {x y : Int32} (hd : decode M.cc pc = .ok (.irem, 1)) (hne : ¬ y = 0) (k : J l G M QF ck sk (pc + 1) L (.int (x - x / y * y) :: st) h) : J l G M QF ck sk pc L (.int y :: .int x :: st) h := by
  intro p e s m args below meth c H locs cells slots ls S hR hS hl hc hs
  exact lv_irem S.1 S.2.1 hd hne (k p e s m args below meth c H locs cells slots ls S hR hS hl hc hs)
theorem j_ineg {x : Int32} (hd : decode M.cc pc = .ok (.ineg, 1)) (k : J l G M QF ck sk (pc + 1) L (.int (-x) :: st) h) : J l G M QF ck sk pc L (.int x :: st) h := by
  intro p e s m args below meth c H locs cells slots ls S hR hS hl hc hs
  exact lv_ineg S.1 S.2.1 hd (k p e s m args below meth c H locs cells slots ls S hR hS hl hc hs)
theorem j_ladd {x y : Int64} (hd : decode M.cc pc = .ok (.ladd, 1)) (k : J l G M QF ck sk (pc + 1) L (.long (x + y) :: st) h) : J l G M QF ck sk pc L (.long y :: .long x :: st) h := by
  intro p e s m args below meth c H locs cells slots ls S hR hS hl hc hs
  exact lv_ladd S.1 S.2.1 hd (k p e s m args below meth c H locs cells slots ls S hR hS hl hc hs)
theorem j_lmul {x y : Int64} (hd : decode M.cc pc = .ok (.lmul, 1)) (k : J l G M QF ck sk (pc + 1) L (.long (x * y) :: st) h) : J l G M QF ck sk pc L (.long y :: .long x :: st) h := by
  intro p e s m args below meth c H locs cells slots ls S hR hS hl hc hs
  exact lv_lmul S.1 S.2.1 hd (k p e s m args below meth c H locs cells slots ls S hR hS hl hc hs)
theorem j_i2l {x : Int32} (hd : decode M.cc pc = .ok (.i2l, 1)) (k : J l G M QF ck sk (pc + 1) L (.long x.toInt64 :: st) h) : J l G M QF ck sk pc L (.int x :: st) h := by
  intro p e s m args below meth c H locs cells slots ls S hR hS hl hc hs
  exact lv_i2l S.1 S.2.1 hd rfl (k p e s m args below meth c H locs cells slots ls S hR hS hl hc hs)
theorem j_i2d {x : Int32} (hd : decode M.cc pc = .ok (.i2d, 1)) (k : J l G M QF ck sk (pc + 1) L (.double (FP.i2d x) :: st) h) : J l G M QF ck sk pc L (.int x :: st) h := by
  intro p e s m args below meth c H locs cells slots ls S hR hS hl hc hs
  exact lv_i2d S.1 S.2.1 hd (k p e s m args below meth c H locs cells slots ls S hR hS hl hc hs)
theorem j_lcmp {x y : Int64} (hd : decode M.cc pc = .ok (.lcmp, 1)) (k : J l G M QF ck sk (pc + 1) L (.int (lg_cmp x y) :: st) h) : J l G M QF ck sk pc L (.long y :: .long x :: st) h := by
  intro p e s m args below meth c H locs cells slots ls S hR hS hl hc hs
  exact W.lcmp S.1 S.2.1 hd (k p e s m args below meth c H locs cells slots ls S hR hS hl hc hs)
theorem j_dcmp {x y : UInt64} {op : CmpOp} (hd : decode M.cc pc = .ok (.dcmp op, 1)) (k : J l G M QF ck sk (pc + 1) L (.int (Op.cmpValue (FP.dcmp x y) op) :: st) h) : J l G M QF ck sk pc L (.double y :: .double x :: st) h := by
  intro p e s m args below meth c H locs cells slots ls S hR hS hl hc hs
  exact lv_dcmp S.1 S.2.1 hd (k p e s m args below meth c H locs cells slots ls S hR hS hl hc hs)
theorem j_ddiv {x y : UInt64} (hd : decode M.cc pc = .ok (.ddiv, 1)) (hne : vf_n64 (FP.ddiv x y)) (k : J l G M QF ck sk (pc + 1) L (.double (FP.ddiv x y) :: st) h) : J l G M QF ck sk pc L (.double y :: .double x :: st) h := by
  intro p e s m args below meth c H locs cells slots ls S hR hS hl hc hs
  exact lv_ddiv S.1 S.2.1 hd hne (k p e s m args below meth c H locs cells slots ls S hR hS hl hc hs)
theorem j_iconst {n : Int} (v : Int32) (hd : decode M.cc pc = .ok (.iconst n, 1)) (hv : Int32.ofInt n = v) (k : J l G M QF ck sk (pc + 1) L (.int v :: st) h) : J l G M QF ck sk pc L (st) h := by
  intro p e s m args below meth c H locs cells slots ls S hR hS hl hc hs
  exact lv_iconst S.1 S.2.1 hd hv (k p e s m args below meth c H locs cells slots ls S hR hS hl hc hs)
theorem j_bipush {n : Int} (v : Int32) (hd : decode M.cc pc = .ok (.bipush n, 2)) (hv : (Int8.ofInt n).toInt32 = v) (k : J l G M QF ck sk (pc + 2) L (.int v :: st) h) : J l G M QF ck sk pc L (st) h := by
  intro p e s m args below meth c H locs cells slots ls S hR hS hl hc hs
  exact lv_bipush S.1 S.2.1 hd hv (k p e s m args below meth c H locs cells slots ls S hR hS hl hc hs)
theorem j_sipush {n : Int} (v : Int32) (hd : decode M.cc pc = .ok (.sipush n, 3)) (hv : (Int16.ofInt n).toInt32 = v) (k : J l G M QF ck sk (pc + 3) L (.int v :: st) h) : J l G M QF ck sk pc L (st) h := by
  intro p e s m args below meth c H locs cells slots ls S hR hS hl hc hs
  exact lv_sipush S.1 S.2.1 hd hv (k p e s m args below meth c H locs cells slots ls S hR hS hl hc hs)
theorem j_lconst {n : Fin 2} (v : Int64) (hd : decode M.cc pc = .ok (.lconst n, 1)) (hv : Int64.ofNat (n : Nat) = v) (k : J l G M QF ck sk (pc + 1) L (.long v :: st) h) : J l G M QF ck sk pc L (st) h := by
  intro p e s m args below meth c H locs cells slots ls S hR hS hl hc hs
  exact lv_lconst S.1 S.2.1 hd hv (k p e s m args below meth c H locs cells slots ls S hR hS hl hc hs)
theorem j_dconst0  (hd : decode M.cc pc = .ok (.dconst 0, 1)) (k : J l G M QF ck sk (pc + 1) L (.double FP.dconst0 :: st) h) : J l G M QF ck sk pc L (st) h := by
  intro p e s m args below meth c H locs cells slots ls S hR hS hl hc hs
  exact lv_dconst0 S.1 S.2.1 hd (k p e s m args below meth c H locs cells slots ls S hR hS hl hc hs)
theorem j_dup {v : Value} (hd : decode M.cc pc = .ok (.dup, 1)) (hv : v.category = 1) (k : J l G M QF ck sk (pc + 1) L (v :: v :: st) h) : J l G M QF ck sk pc L (v :: st) h := by
  intro p e s m args below meth c H locs cells slots ls S hR hS hl hc hs
  exact lv_dup S.1 S.2.1 hd hv (k p e s m args below meth c H locs cells slots ls S hR hS hl hc hs)
theorem j_pop {v : Value} (hd : decode M.cc pc = .ok (.pop, 1)) (hv : v.category = 1) (k : J l G M QF ck sk (pc + 1) L (st) h) : J l G M QF ck sk pc L (v :: st) h := by
  intro p e s m args below meth c H locs cells slots ls S hR hS hl hc hs
  exact lv_pop S.1 S.2.1 hd hv (k p e s m args below meth c H locs cells slots ls S hR hS hl hc hs)
theorem j_dup_x1 {v w : Value} (hd : decode M.cc pc = .ok (.dup_x1, 1)) (hv : v.category = 1) (hw : w.category = 1) (k : J l G M QF ck sk (pc + 1) L (v :: w :: v :: st) h) : J l G M QF ck sk pc L (v :: w :: st) h := by
  intro p e s m args below meth c H locs cells slots ls S hR hS hl hc hs
  exact lv_dup_x1 S.1 S.2.1 hd hv hw (k p e s m args below meth c H locs cells slots ls S hR hS hl hc hs)
theorem j_dup2 {v w : Value} (hd : decode M.cc pc = .ok (.dup2, 1)) (hv : v.category = 1) (hw : w.category = 1) (k : J l G M QF ck sk (pc + 1) L (v :: w :: v :: w :: st) h) : J l G M QF ck sk pc L (v :: w :: st) h := by
  intro p e s m args below meth c H locs cells slots ls S hR hS hl hc hs
  exact lv_dup2_11 S.1 S.2.1 hd hv hw (k p e s m args below meth c H locs cells slots ls S hR hS hl hc hs)
theorem j_ldc {n : Nat} (v : Int32) (hd : decode M.cc pc = .ok (.ldc n, 2)) (hw : Cond.constant M.own n v ∈ WT) (k : J l G M QF ck sk (pc + 2) L (.int v :: st) h) : J l G M QF ck sk pc L (st) h := by
  intro p e s m args below meth c H locs cells slots ls S hR hS hl hc hs
  exact lv_ldc S.1 S.2.1 S.2.2.2.2.2.2.2.1 (S.2.2.2.2.2.2.2.2.1 _ hw) hd (k p e s m args below meth c H locs cells slots ls S hR hS hl hc hs)
theorem j_ldcw {n : Nat} (v : Int32) (hd : decode M.cc pc = .ok (.ldc_w n, 3)) (hw : Cond.constant M.own n v ∈ WT) (k : J l G M QF ck sk (pc + 3) L (.int v :: st) h) : J l G M QF ck sk pc L (st) h := by
  intro p e s m args below meth c H locs cells slots ls S hR hS hl hc hs
  exact lv_ldcw S.1 S.2.1 S.2.2.2.2.2.2.2.1 (S.2.2.2.2.2.2.2.2.1 _ hw) hd (k p e s m args below meth c H locs cells slots ls S hR hS hl hc hs)
theorem j_ldc2 {n : Nat} (v : Int64) (hd : decode M.cc pc = .ok (.ldc2_w n, 3)) (hw : Cond.constantLong M.own n v ∈ WT) (k : J l G M QF ck sk (pc + 3) L (.long v :: st) h) : J l G M QF ck sk pc L (st) h := by
  intro p e s m args below meth c H locs cells slots ls S hR hS hl hc hs
  exact lv_ldc2 S.1 S.2.1 S.2.2.2.2.2.2.2.1 (S.2.2.2.2.2.2.2.2.1 _ hw) hd (k p e s m args below meth c H locs cells slots ls S hR hS hl hc hs)
theorem j_if_eq {x : Int32} {off : Int} (tgt : Nat) (hd : decode M.cc pc = .ok (.ifCond .eq off, 3)) (ht : (pc : Int) + off = (tgt : Int)) (kt : x = 0 → J l G M QF ck sk tgt L st h) (kf : ¬ x = 0 → J l G M QF ck sk (pc + 3) L st h) : J l G M QF ck sk pc L (.int x :: st) h := by
  intro p e s m args below meth c H locs cells slots ls S hR hS hl hc hs
  exact lv_if_eq S.1 S.2.1 hd ht (fun q => kt q p e s m args below meth c H locs cells slots ls S hR hS hl hc hs) (fun q => kf q p e s m args below meth c H locs cells slots ls S hR hS hl hc hs)
theorem j_icmp_eq {x y : Int32} {off : Int} (tgt : Nat) (hd : decode M.cc pc = .ok (.if_icmp .eq off, 3)) (ht : (pc : Int) + off = (tgt : Int)) (kt : x = y → J l G M QF ck sk tgt L st h) (kf : ¬ x = y → J l G M QF ck sk (pc + 3) L st h) : J l G M QF ck sk pc L (.int y :: .int x :: st) h := by
  intro p e s m args below meth c H locs cells slots ls S hR hS hl hc hs
  exact lv_icmp_eq S.1 S.2.1 hd ht (fun q => kt q p e s m args below meth c H locs cells slots ls S hR hS hl hc hs) (fun q => kf q p e s m args below meth c H locs cells slots ls S hR hS hl hc hs)
theorem j_if_ne {x : Int32} {off : Int} (tgt : Nat) (hd : decode M.cc pc = .ok (.ifCond .ne off, 3)) (ht : (pc : Int) + off = (tgt : Int)) (kt : ¬ x = 0 → J l G M QF ck sk tgt L st h) (kf : x = 0 → J l G M QF ck sk (pc + 3) L st h) : J l G M QF ck sk pc L (.int x :: st) h := by
  intro p e s m args below meth c H locs cells slots ls S hR hS hl hc hs
  exact lv_if_ne S.1 S.2.1 hd ht (fun q => kt q p e s m args below meth c H locs cells slots ls S hR hS hl hc hs) (fun q => kf q p e s m args below meth c H locs cells slots ls S hR hS hl hc hs)
theorem j_icmp_ne {x y : Int32} {off : Int} (tgt : Nat) (hd : decode M.cc pc = .ok (.if_icmp .ne off, 3)) (ht : (pc : Int) + off = (tgt : Int)) (kt : ¬ x = y → J l G M QF ck sk tgt L st h) (kf : x = y → J l G M QF ck sk (pc + 3) L st h) : J l G M QF ck sk pc L (.int y :: .int x :: st) h := by
  intro p e s m args below meth c H locs cells slots ls S hR hS hl hc hs
  exact lv_icmp_ne S.1 S.2.1 hd ht (fun q => kt q p e s m args below meth c H locs cells slots ls S hR hS hl hc hs) (fun q => kf q p e s m args below meth c H locs cells slots ls S hR hS hl hc hs)
theorem j_if_lt {x : Int32} {off : Int} (tgt : Nat) (hd : decode M.cc pc = .ok (.ifCond .lt off, 3)) (ht : (pc : Int) + off = (tgt : Int)) (kt : x < 0 → J l G M QF ck sk tgt L st h) (kf : ¬ x < 0 → J l G M QF ck sk (pc + 3) L st h) : J l G M QF ck sk pc L (.int x :: st) h := by
  intro p e s m args below meth c H locs cells slots ls S hR hS hl hc hs
  exact lv_if_lt S.1 S.2.1 hd ht (fun q => kt q p e s m args below meth c H locs cells slots ls S hR hS hl hc hs) (fun q => kf q p e s m args below meth c H locs cells slots ls S hR hS hl hc hs)
theorem j_icmp_lt {x y : Int32} {off : Int} (tgt : Nat) (hd : decode M.cc pc = .ok (.if_icmp .lt off, 3)) (ht : (pc : Int) + off = (tgt : Int)) (kt : x < y → J l G M QF ck sk tgt L st h) (kf : ¬ x < y → J l G M QF ck sk (pc + 3) L st h) : J l G M QF ck sk pc L (.int y :: .int x :: st) h := by
  intro p e s m args below meth c H locs cells slots ls S hR hS hl hc hs
  exact lv_icmp_lt S.1 S.2.1 hd ht (fun q => kt q p e s m args below meth c H locs cells slots ls S hR hS hl hc hs) (fun q => kf q p e s m args below meth c H locs cells slots ls S hR hS hl hc hs)
theorem j_if_ge {x : Int32} {off : Int} (tgt : Nat) (hd : decode M.cc pc = .ok (.ifCond .ge off, 3)) (ht : (pc : Int) + off = (tgt : Int)) (kt : 0 ≤ x → J l G M QF ck sk tgt L st h) (kf : ¬ 0 ≤ x → J l G M QF ck sk (pc + 3) L st h) : J l G M QF ck sk pc L (.int x :: st) h := by
  intro p e s m args below meth c H locs cells slots ls S hR hS hl hc hs
  exact lv_if_ge S.1 S.2.1 hd ht (fun q => kt q p e s m args below meth c H locs cells slots ls S hR hS hl hc hs) (fun q => kf q p e s m args below meth c H locs cells slots ls S hR hS hl hc hs)
theorem j_icmp_ge {x y : Int32} {off : Int} (tgt : Nat) (hd : decode M.cc pc = .ok (.if_icmp .ge off, 3)) (ht : (pc : Int) + off = (tgt : Int)) (kt : y ≤ x → J l G M QF ck sk tgt L st h) (kf : ¬ y ≤ x → J l G M QF ck sk (pc + 3) L st h) : J l G M QF ck sk pc L (.int y :: .int x :: st) h := by
  intro p e s m args below meth c H locs cells slots ls S hR hS hl hc hs
  exact lv_icmp_ge S.1 S.2.1 hd ht (fun q => kt q p e s m args below meth c H locs cells slots ls S hR hS hl hc hs) (fun q => kf q p e s m args below meth c H locs cells slots ls S hR hS hl hc hs)
theorem j_if_gt {x : Int32} {off : Int} (tgt : Nat) (hd : decode M.cc pc = .ok (.ifCond .gt off, 3)) (ht : (pc : Int) + off = (tgt : Int)) (kt : 0 < x → J l G M QF ck sk tgt L st h) (kf : ¬ 0 < x → J l G M QF ck sk (pc + 3) L st h) : J l G M QF ck sk pc L (.int x :: st) h := by
  intro p e s m args below meth c H locs cells slots ls S hR hS hl hc hs
  exact lv_if_gt S.1 S.2.1 hd ht (fun q => kt q p e s m args below meth c H locs cells slots ls S hR hS hl hc hs) (fun q => kf q p e s m args below meth c H locs cells slots ls S hR hS hl hc hs)
theorem j_icmp_gt {x y : Int32} {off : Int} (tgt : Nat) (hd : decode M.cc pc = .ok (.if_icmp .gt off, 3)) (ht : (pc : Int) + off = (tgt : Int)) (kt : y < x → J l G M QF ck sk tgt L st h) (kf : ¬ y < x → J l G M QF ck sk (pc + 3) L st h) : J l G M QF ck sk pc L (.int y :: .int x :: st) h := by
  intro p e s m args below meth c H locs cells slots ls S hR hS hl hc hs
  exact lv_icmp_gt S.1 S.2.1 hd ht (fun q => kt q p e s m args below meth c H locs cells slots ls S hR hS hl hc hs) (fun q => kf q p e s m args below meth c H locs cells slots ls S hR hS hl hc hs)
theorem j_if_le {x : Int32} {off : Int} (tgt : Nat) (hd : decode M.cc pc = .ok (.ifCond .le off, 3)) (ht : (pc : Int) + off = (tgt : Int)) (kt : x ≤ 0 → J l G M QF ck sk tgt L st h) (kf : ¬ x ≤ 0 → J l G M QF ck sk (pc + 3) L st h) : J l G M QF ck sk pc L (.int x :: st) h := by
  intro p e s m args below meth c H locs cells slots ls S hR hS hl hc hs
  exact lv_if_le S.1 S.2.1 hd ht (fun q => kt q p e s m args below meth c H locs cells slots ls S hR hS hl hc hs) (fun q => kf q p e s m args below meth c H locs cells slots ls S hR hS hl hc hs)
theorem j_icmp_le {x y : Int32} {off : Int} (tgt : Nat) (hd : decode M.cc pc = .ok (.if_icmp .le off, 3)) (ht : (pc : Int) + off = (tgt : Int)) (kt : x ≤ y → J l G M QF ck sk tgt L st h) (kf : ¬ x ≤ y → J l G M QF ck sk (pc + 3) L st h) : J l G M QF ck sk pc L (.int y :: .int x :: st) h := by
  intro p e s m args below meth c H locs cells slots ls S hR hS hl hc hs
  exact lv_icmp_le S.1 S.2.1 hd ht (fun q => kt q p e s m args below meth c H locs cells slots ls S hR hS hl hc hs) (fun q => kf q p e s m args below meth c H locs cells slots ls S hR hS hl hc hs)
theorem j_goto {off : Int} (tgt : Nat) (hd : decode M.cc pc = .ok (.goto off, 3)) (ht : (pc : Int) + off = (tgt : Int)) (k : J l G M QF ck sk tgt L st h) : J l G M QF ck sk pc L st h := by
  intro p e s m args below meth c H locs cells slots ls S hR hS hl hc hs
  exact lv_goto S.1 S.2.1 hd ht (k p e s m args below meth c H locs cells slots ls S hR hS hl hc hs)
theorem j_tableOut {dflt lo hi : Int} {offs : Array Int} {len : Nat} {x : Int32} (tgt : Nat) (hd : decode M.cc pc = .ok (.tableswitch dflt lo hi offs, len)) (hx : x.toInt < lo ∨ hi < x.toInt) (ht : (pc : Int) + dflt = (tgt : Int)) (k : J l G M QF ck sk tgt L st h) : J l G M QF ck sk pc L (.int x :: st) h := by
  intro p e s m args below meth c H locs cells slots ls S hR hS hl hc hs
  exact lv_tableOut S.1 S.2.1 hd hx ht (k p e s m args below meth c H locs cells slots ls S hR hS hl hc hs)
theorem j_tableIn {dflt lo hi : Int} {offs : Array Int} {len : Nat} {x : Int32} {off : Int} (tgt : Nat) (hd : decode M.cc pc = .ok (.tableswitch dflt lo hi offs, len)) (h1 : ¬ x.toInt < lo) (h2 : ¬ hi < x.toInt) (ho : offs[(x.toInt - lo).toNat]? = some off) (ht : (pc : Int) + off = (tgt : Int)) (k : J l G M QF ck sk tgt L st h) : J l G M QF ck sk pc L (.int x :: st) h := by
  intro p e s m args below meth c H locs cells slots ls S hR hS hl hc hs
  exact lv_tableIn S.1 S.2.1 hd h1 h2 ho ht (k p e s m args below meth c H locs cells slots ls S hR hS hl hc hs)
def jget : List (Nat × Value) → Nat → Option Value
  | [], _ => none
  | q :: L, i => if q.1 == i then some q.2 else jget L i
theorem jget_mem : ∀ (L : List (Nat × Value)) (i : Nat) (v : Value), jget L i = some v → (i, v) ∈ L
  | [], i, v, h => by cases h
  | q :: L, i, v, h => by
    unfold jget at h
    by_cases hq : (q.1 == i) = true
    · rw [if_pos hq] at h
      cases h
      have e : q.1 = i := by simpa using hq
      subst e
      exact List.mem_cons_self
    · rw [if_neg hq] at h
      exact List.mem_cons_of_mem _ (jget_mem L i v h)
theorem jget_at {ls : Array Slot} {nL : Nat} {L : List (Nat × Value)} (hl : lv_has ls nL L) {i : Nat} {v : Value} (hg : jget L i = some v) : ls[i]? = some (.val v) := hl.2.2 _ (jget_mem L i v hg)
def jput (L : List (Nat × Value)) (i : Nat) (v : Value) : List (Nat × Value) := (i, v) :: L.filter (fun q => !(q.1 == i) && !(q.1 + 1 == i && q.2.category == 2))
def jput2 (L : List (Nat × Value)) (i : Nat) (v : Value) : List (Nat × Value) := (i, v) :: L.filter (fun q => !(q.1 == i) && (!(q.1 == i + 1) && !(q.1 + 1 == i && q.2.category == 2)))
theorem j_iload_n {k : Fin 4} {x : Int32} (i : Nat) (hd : decode M.cc pc = .ok (.iload_n k, 1)) (hi : (k : Nat) = i) (hg : jget L i = some (.int x)) (k : J l G M QF ck sk (pc + 1) L (.int x :: st) h) : J l G M QF ck sk pc L st h := by
  intro p e s m args below meth c H locs cells slots ls S hR hS hl hc hs
  exact lv_iload_n S.1 S.2.1 hd hi (jget_at hl hg) (k p e s m args below meth c H locs cells slots ls S hR hS hl hc hs)
theorem j_iload {i : Nat} {x : Int32} (hd : decode M.cc pc = .ok (.iload i, 2)) (hg : jget L i = some (.int x)) (k : J l G M QF ck sk (pc + 2) L (.int x :: st) h) : J l G M QF ck sk pc L st h := by
  intro p e s m args below meth c H locs cells slots ls S hR hS hl hc hs
  exact lv_iload S.1 S.2.1 hd (jget_at hl hg) (k p e s m args below meth c H locs cells slots ls S hR hS hl hc hs)
theorem j_istore_n {k : Fin 4} {x : Int32} (i : Nat) (hd : decode M.cc pc = .ok (.istore_n k, 1)) (hi : (k : Nat) = i) (hn : Nat.blt (i) M.nL = true) (hp : jput L i (.int x) = L') (k : J l G M QF ck sk (pc + 1) L' st h) : J l G M QF ck sk pc L (.int x :: st) h := by
  intro p e s m args below meth c H locs cells slots ls S hR hS hl hc hs
  exact lv_istore_n S.1 S.2.1 hd hi hl (Nat.le_of_ble_eq_true hn) hp (fun ls hl => k p e s m args below meth c H locs cells slots ls S hR hS hl hc hs)
theorem j_istore {i : Nat} {x : Int32} (hd : decode M.cc pc = .ok (.istore i, 2)) (hn : Nat.blt (i) M.nL = true) (hp : jput L i (.int x) = L') (k : J l G M QF ck sk (pc + 2) L' st h) : J l G M QF ck sk pc L (.int x :: st) h := by
  intro p e s m args below meth c H locs cells slots ls S hR hS hl hc hs
  exact lv_istore S.1 S.2.1 hd hl (Nat.le_of_ble_eq_true hn) hp (fun ls hl => k p e s m args below meth c H locs cells slots ls S hR hS hl hc hs)
theorem j_aload_n {k : Fin 4} {x : Nat} (i : Nat) (hd : decode M.cc pc = .ok (.aload_n k, 1)) (hi : (k : Nat) = i) (hg : jget L i = some (.ref x)) (k : J l G M QF ck sk (pc + 1) L (.ref x :: st) h) : J l G M QF ck sk pc L st h := by
  intro p e s m args below meth c H locs cells slots ls S hR hS hl hc hs
  exact lv_aload_n S.1 S.2.1 hd hi (jget_at hl hg) (k p e s m args below meth c H locs cells slots ls S hR hS hl hc hs)
theorem j_aload {i : Nat} {x : Nat} (hd : decode M.cc pc = .ok (.aload i, 2)) (hg : jget L i = some (.ref x)) (k : J l G M QF ck sk (pc + 2) L (.ref x :: st) h) : J l G M QF ck sk pc L st h := by
  intro p e s m args below meth c H locs cells slots ls S hR hS hl hc hs
  exact lv_aload S.1 S.2.1 hd (jget_at hl hg) (k p e s m args below meth c H locs cells slots ls S hR hS hl hc hs)
theorem j_astore_n {k : Fin 4} {x : Nat} (i : Nat) (hd : decode M.cc pc = .ok (.astore_n k, 1)) (hi : (k : Nat) = i) (hn : Nat.blt (i) M.nL = true) (hp : jput L i (.ref x) = L') (k : J l G M QF ck sk (pc + 1) L' st h) : J l G M QF ck sk pc L (.ref x :: st) h := by
  intro p e s m args below meth c H locs cells slots ls S hR hS hl hc hs
  exact lv_astore_n S.1 S.2.1 hd hi hl (Nat.le_of_ble_eq_true hn) hp (fun ls hl => k p e s m args below meth c H locs cells slots ls S hR hS hl hc hs)
theorem j_astore {i : Nat} {x : Nat} (hd : decode M.cc pc = .ok (.astore i, 2)) (hn : Nat.blt (i) M.nL = true) (hp : jput L i (.ref x) = L') (k : J l G M QF ck sk (pc + 2) L' st h) : J l G M QF ck sk pc L (.ref x :: st) h := by
  intro p e s m args below meth c H locs cells slots ls S hR hS hl hc hs
  exact lv_astore S.1 S.2.1 hd hl (Nat.le_of_ble_eq_true hn) hp (fun ls hl => k p e s m args below meth c H locs cells slots ls S hR hS hl hc hs)
theorem j_lload_n {k : Fin 4} {x : Int64} (i : Nat) (hd : decode M.cc pc = .ok (.lload_n k, 1)) (hi : (k : Nat) = i) (hg : jget L i = some (.long x)) (k : J l G M QF ck sk (pc + 1) L (.long x :: st) h) : J l G M QF ck sk pc L st h := by
  intro p e s m args below meth c H locs cells slots ls S hR hS hl hc hs
  exact lv_lload_n S.1 S.2.1 hd hi (jget_at hl hg) (k p e s m args below meth c H locs cells slots ls S hR hS hl hc hs)
theorem j_lload {i : Nat} {x : Int64} (hd : decode M.cc pc = .ok (.lload i, 2)) (hg : jget L i = some (.long x)) (k : J l G M QF ck sk (pc + 2) L (.long x :: st) h) : J l G M QF ck sk pc L st h := by
  intro p e s m args below meth c H locs cells slots ls S hR hS hl hc hs
  exact lv_lload S.1 S.2.1 hd (jget_at hl hg) (k p e s m args below meth c H locs cells slots ls S hR hS hl hc hs)
theorem j_lstore_n {k : Fin 4} {x : Int64} (i : Nat) (hd : decode M.cc pc = .ok (.lstore_n k, 1)) (hi : (k : Nat) = i) (hn : Nat.blt (i + 1) M.nL = true) (hp : jput2 L i (.long x) = L') (k : J l G M QF ck sk (pc + 1) L' st h) : J l G M QF ck sk pc L (.long x :: st) h := by
  intro p e s m args below meth c H locs cells slots ls S hR hS hl hc hs
  exact lv_lstore_n S.1 S.2.1 hd hi hl (Nat.le_of_ble_eq_true hn) hp (fun ls hl => k p e s m args below meth c H locs cells slots ls S hR hS hl hc hs)
theorem j_lstore {i : Nat} {x : Int64} (hd : decode M.cc pc = .ok (.lstore i, 2)) (hn : Nat.blt (i + 1) M.nL = true) (hp : jput2 L i (.long x) = L') (k : J l G M QF ck sk (pc + 2) L' st h) : J l G M QF ck sk pc L (.long x :: st) h := by
  intro p e s m args below meth c H locs cells slots ls S hR hS hl hc hs
  exact lv_lstore S.1 S.2.1 hd hl (Nat.le_of_ble_eq_true hn) hp (fun ls hl => k p e s m args below meth c H locs cells slots ls S hR hS hl hc hs)
theorem j_dload_n {k : Fin 4} {x : UInt64} (i : Nat) (hd : decode M.cc pc = .ok (.dload_n k, 1)) (hi : (k : Nat) = i) (hg : jget L i = some (.double x)) (k : J l G M QF ck sk (pc + 1) L (.double x :: st) h) : J l G M QF ck sk pc L st h := by
  intro p e s m args below meth c H locs cells slots ls S hR hS hl hc hs
  exact lv_dload_n S.1 S.2.1 hd hi (jget_at hl hg) (k p e s m args below meth c H locs cells slots ls S hR hS hl hc hs)
theorem j_dload {i : Nat} {x : UInt64} (hd : decode M.cc pc = .ok (.dload i, 2)) (hg : jget L i = some (.double x)) (k : J l G M QF ck sk (pc + 2) L (.double x :: st) h) : J l G M QF ck sk pc L st h := by
  intro p e s m args below meth c H locs cells slots ls S hR hS hl hc hs
  exact lv_dload S.1 S.2.1 hd (jget_at hl hg) (k p e s m args below meth c H locs cells slots ls S hR hS hl hc hs)
theorem j_dstore_n {k : Fin 4} {x : UInt64} (i : Nat) (hd : decode M.cc pc = .ok (.dstore_n k, 1)) (hi : (k : Nat) = i) (hn : Nat.blt (i + 1) M.nL = true) (hp : jput2 L i (.double x) = L') (k : J l G M QF ck sk (pc + 1) L' st h) : J l G M QF ck sk pc L (.double x :: st) h := by
  intro p e s m args below meth c H locs cells slots ls S hR hS hl hc hs
  exact lv_dstore_n S.1 S.2.1 hd hi hl (Nat.le_of_ble_eq_true hn) hp (fun ls hl => k p e s m args below meth c H locs cells slots ls S hR hS hl hc hs)
theorem j_dstore {i : Nat} {x : UInt64} (hd : decode M.cc pc = .ok (.dstore i, 2)) (hn : Nat.blt (i + 1) M.nL = true) (hp : jput2 L i (.double x) = L') (k : J l G M QF ck sk (pc + 2) L' st h) : J l G M QF ck sk pc L (.double x :: st) h := by
  intro p e s m args below meth c H locs cells slots ls S hR hS hl hc hs
  exact lv_dstore S.1 S.2.1 hd hl (Nat.le_of_ble_eq_true hn) hp (fun ls hl => k p e s m args below meth c H locs cells slots ls S hR hS hl hc hs)
theorem jget_place : ∀ (L : List (Nat × Value)) (i : Nat) (v : Value), jget L i = some v → ∃ k : Nat, L[k]? = some (i, v) := fun L i v h => List.getElem?_of_mem (jget_mem L i v h)
theorem j_iinc {i : Nat} {n : Int} {x : Int32} (v : Int32) (hd : decode M.cc pc = .ok (.iinc i n, 3)) (hg : jget L i = some (.int x)) (hv : x + Int32.ofInt n = v) (hn : Nat.blt i M.nL = true) (hp : jput L i (.int v) = L') (k : J l G M QF ck sk (pc + 3) L' st h) : J l G M QF ck sk pc L st h := by
  intro p e s m args below meth c H locs cells slots ls S hR hS hl hc hs
  obtain ⟨j, hj⟩ := jget_place L i _ hg
  exact lv_iinc S.1 S.2.1 hd hl hj hv (Nat.le_of_ble_eq_true hn) hp (fun ls hl => k p e s m args below meth c H locs cells slots ls S hR hS hl hc hs)
/-- fewer locals, less room -/
theorem j_sub (hsub : ∀ q ∈ L', q ∈ L) (k : J l G M QF ck sk pc L' st h) : J l G M QF ck sk pc L st h := by
  intro p e s m args below meth c H locs cells slots ls S hR hS hl hc hs
  exact k p e s m args below meth c H locs cells slots ls S hR hS ⟨hl.1, hl.2.1, fun q hq => hl.2.2 q (hsub q hq)⟩ hc hs
def jle : List (Nat × Value) → List (Nat × Value) → Prop
  | [], _ => True
  | q :: L', L => jget L q.1 = some q.2 ∧ jle L' L
theorem jle_sub : ∀ (L' L : List (Nat × Value)), jle L' L → ∀ q ∈ L', q ∈ L
  | [], _, _, q, hq => by cases hq
  | a :: L', L, hh, q, hq => by
    rcases List.mem_cons.mp hq with e | e
    · rw [e]; exact jget_mem L a.1 a.2 hh.1
    · exact jle_sub L' L hh.2 q e
theorem j_loc (hsub : jle L' L) (k : J l G M QF ck sk pc L' st h) : J l G M QF ck sk pc L st h := j_sub (jle_sub L' L hsub) k
theorem j_room {ck' sk' : Nat} (h1 : ck' ≤ ck) (h2 : sk' ≤ sk) (k : J l G M QF ck' sk' pc L st h) : J l G M QF ck sk pc L st h := by
  intro p e s m args below meth c H locs cells slots ls S hR hS hl hc hs
  exact k p e s m args below meth c H locs cells slots ls S hR hS hl (Nat.le_trans (Nat.add_le_add_left h1 _) hc) (Nat.le_trans (Nat.add_le_add_left h2 _) hs)
/-- a number on the stack gets a name -/
theorem j_top {v : Value} (k : ∀ w, w = v → J l G M QF ck sk pc L (w :: st) h) : J l G M QF ck sk pc L (v :: st) h := k v rfl
theorem j_topi {x y : Int32} (e : x = y) (k : J l G M QF ck sk pc L (.int y :: st) h) : J l G M QF ck sk pc L (.int x :: st) h := by rw [e]; exact k
theorem j_eq {st' : List Value} (e : st = st') (k : J l G M QF ck sk pc L st' h) : J l G M QF ck sk pc L st h := by rw [e]; exact k
end JR
end
section
section JH
variable {l : Launch} {G : jG} {M : jM} {QF : jF} {ck sk pc : Nat} {L L' : List (Nat × Value)} {st : List Value} {h : jH}
/-- the entry idx of class own's file is field k of class ci -/
def jFl (own : String) (idx ci k : Nat) : Prop := ∃ (C : String) (T : u_T) (N : Nat), vwCl[ci]? = some (C, T, N) ∧ k < N ∧ Cond.fieldLink own idx (T k).1 (T k).2.1 (T k).2.2.1 ∈ WT ∧ ∀ w ∈ u_ws C T N, w ∈ WT
/-- what a write wants: the types, and whether the field is final -/
def jTy (ci k : Nat) (ty : FieldType) (fin : Bool) : Prop := ∃ (C : String) (T : u_T) (N : Nat) (ty0 : Nat → FieldType), vwCl[ci]? = some (C, T, N) ∧ (∀ k, k < N → parseFieldDescriptor (T k).2.2.1 = some (ty0 k)) ∧ (∀ a, a < N → ∀ b, b < N → a ≠ b → (T a).2.1 ≠ (T b).2.1) ∧ parseFieldDescriptor (T k).2.2.1 = some ty ∧ (T k).2.2.2 = fin ∧ (T k).1 = C
theorem j_get {idx a ci k : Nat} {fs : List Value} {v : Value} (F : jFl M.own idx ci k) (hd : decode M.cc pc = .ok (.getfield idx, 3)) (ha : h a = some (.inr (ci, fs))) (hv : fs[k]? = some v) (kk : J l G M QF ck sk (pc + 3) L (v :: st) h) : J l G M QF ck sk pc L (.ref a :: st) h := by
  intro p e s m args below meth c H locs cells slots ls S hR hS hl hc hs
  obtain ⟨C, T, N, hcl, hk, hw, hin⟩ := F
  exact va_get (D := G.1) (cl := vwCl) (tys := jT G) (ws := [(a, .inr (ci, fs))]) (ref := (T k).1) S.1 S.2.1 S.2.2.2.2.2.2.2.2.1 hin S.2.2.2.2.2.2.2.1 S.2.2.2.2.2.2.2.2.2.1
    (fun j q hq => by cases j with
      | zero => cases hq; exact (hR _ _ ha).2
      | succ j => cases hq) 0 rfl hcl k hk (S.2.2.2.2.2.2.2.2.1 _ hw) (fun _ z => z) hv hd (kk p e s m args below meth c H locs cells slots ls S hR hS hl hc hs)
theorem va_D1 {A : Nat → Prop} {a : Nat} {e : va_E} (ha : A a) : va_D A [(a, e)] := by
  refine ⟨fun i j p q hi hj _ => ?_, fun k q hk => ?_⟩
  · have h1 : i < 1 := (List.getElem?_eq_some_iff.mp hi).1
    have h2 : j < 1 := (List.getElem?_eq_some_iff.mp hj).1
    omega
  · cases k with
    | zero => cases hk; exact ha
    | succ k => cases hk
theorem va_P1 {D : va_G} {cl : List vw_C} {a : Nat} {e : va_E} {H : Heap} (ha : va_at D cl (a, e) H) : va_P D cl [(a, e)] H := fun k q hk => by
  cases k with
  | zero => cases hk; exact ha
  | succ k => cases hk
theorem va_P1' {D : va_G} {cl : List vw_C} {a : Nat} {e : va_E} {H : Heap} (h : va_P D cl [(a, e)] H) : va_at D cl (a, e) H := h 0 _ rfl
theorem j_put {idx a ci k : Nat} {fs fs' : List Value} {v : Value} {ty : FieldType} (F : jFl M.own idx ci k) (Y : jTy ci k ty false) (hd : decode M.cc pc = .ok (.putfield idx, 3)) (ha : h a = some (.inr (ci, fs))) (hn : narrow ty v = v) (hfit : fits ty v = true) (hl0 : Nat.blt k fs.length = true) (hf : fs.set k v = fs') (kk : J l G M QF ck sk (pc + 3) L st (hset h a (.inr (ci, fs')))) : J l G M QF ck sk pc L (v :: .ref a :: st) h := by
  intro p e s m args below meth c H locs cells slots ls S hR hS hl hc hs
  obtain ⟨C, T, N, hcl, hk, hw, hin⟩ := F
  obtain ⟨C', T', N', ty0, hcl', hty, hnm, hpd, hfin, hC⟩ := Y
  rw [hcl] at hcl'
  cases hcl'
  subst hf
  have hts := S.2.2.2.2.2.2.2.2.1
  have hK := S.2.2.2.2.2.2.2.2.2.1
  have hap := va_apart (own := M.own) hts hin ty0 hty hnm hK hcl
  obtain ⟨r, h1, cell, q1, q2, q3, q4⟩ := (hR a _ ha).2
  have hr : r = (C, T, N) := Option.some.inj (h1.symm.trans hcl)
  subst hr
  obtain ⟨hS0, hfc, kC, hkC, hkind⟩ := hK.1 ci _ hcl
  obtain ⟨cf, kf, fi, f, hi, hsl⟩ := hS0 k hk
  have hlay := hts _ (hin _ (u_in_lay hk))
  unfold u_lay at hlay
  rw [if_neg (by rw [hfin]; decide)] at hlay
  have hst := (u_facts hfc hkC (u_lays hts hin hk) hi).1
  have h6 := u_store hfc hkC hkind hlay hi hpd hn hfit
  refine W.putK S.1 S.2.1 (f := f) ⟨S.2.2.2.2.2.2.2.1, hts _ hw, ⟨_, _, _, hi⟩, hst⟩ (by rw [q2]; exact h6) q1 q3 (by rw [hsl]; exact k2_hasslot (q4 k hk)) rfl rfl hd fun H' e1 e2 e3 => ?_
  rw [hsl] at e1 ⊢
  exact kk p e s m args below meth c H' _ cells slots ls S (hR.set ha ⟨_, hcl, t_OB.to (V := updV (vp_V fs) k v) ⟨_, e1, q2, q3, t_set q4 hap hk v⟩ (fun j _ => vp_updV_set (Nat.le_of_ble_eq_true hl0) v j)⟩ e3) (hS.put e2 e3 (hR a _ ha).1) hl hc hs
theorem j_putF {idx a ci k : Nat} {fs fs' : List Value} {v : Value} {ty : FieldType} (F : jFl M.own idx ci k) (Y : jTy ci k ty true) (hin2 : M.nm = "<init>") (hown2 : ∃ T N, vwCl[ci]? = some (M.own, T, N)) (hd : decode M.cc pc = .ok (.putfield idx, 3)) (ha : h a = some (.inr (ci, fs))) (hn : narrow ty v = v) (hfit : fits ty v = true) (hl0 : Nat.blt k fs.length = true) (hf : fs.set k v = fs') (kk : J l G M QF ck sk (pc + 3) L st (hset h a (.inr (ci, fs')))) : J l G M QF ck sk pc L (v :: .ref a :: st) h := by
  intro p e s m args below meth c H locs cells slots ls S hR hS hl hc hs
  obtain ⟨C, T, N, hcl, hk, hw, hin⟩ := F
  obtain ⟨C', T', N', ty0, hcl', hty, hnm, hpd, hfin, hC⟩ := Y
  rw [hcl] at hcl'
  cases hcl'
  obtain ⟨T9, N9, h9⟩ := hown2
  rw [hcl] at h9
  have hdecl : (T k).1 = M.own := by rw [hC]; exact congrArg (fun q : vw_C => q.1) (Option.some.inj h9)
  subst hf
  have hts := S.2.2.2.2.2.2.2.2.1
  have hK := S.2.2.2.2.2.2.2.2.2.1
  have hown := S.2.2.2.2.2.2.2.1
  have hap := va_apart (own := M.own) hts hin ty0 hty hnm hK hcl
  obtain ⟨r, h1, cell, q1, q2, q3, q4⟩ := (hR a _ ha).2
  have hr : r = (C, T, N) := Option.some.inj (h1.symm.trans hcl)
  subst hr
  obtain ⟨hS0, hfc, kC, hkC, hkind⟩ := hK.1 ci _ hcl
  obtain ⟨cf, kf, fi, f, hi, hsl⟩ := hS0 k hk
  have hlay := hts _ (hin _ (u_in_lay hk))
  unfold u_lay at hlay
  rw [if_pos hfin] at hlay
  have hst := (u_facts hfc hkC (u_lays hts hin hk) hi).1
  have hcf : m.cls = cf := by
    obtain ⟨_, _, c', _, _, _, -, -, hf', -, -, -, hown2, -⟩ := Cond.laysFinal_spec hlay
    have e1 : c' = cf := by have := hi.symm.trans hf'; simp at this; exact this.1.symm
    rw [hdecl] at hown2
    rw [← e1]; exact Option.some.inj (hown.symm.trans hown2)
  have h6 := u_fits hfc hkC hkind (Or.inr hlay) hi hpd hn hfit
  refine W.putFinK S.1 S.2.1 hown (hts _ hw) hi hst hcf (S.2.2.2.2.2.1.trans hin2) (by rw [q2]; exact h6) q1 q3 (by rw [hsl]; exact k2_hasslot (q4 k hk)) rfl rfl hd fun H' e1 e2 e3 => ?_
  rw [hsl] at e1 ⊢
  exact kk p e s m args below meth c H' _ cells slots ls S (hR.set ha ⟨_, hcl, t_OB.to (V := updV (vp_V fs) k v) ⟨_, e1, q2, q3, t_set q4 hap hk v⟩ (fun j _ => vp_updV_set (Nat.le_of_ble_eq_true hl0) v j)⟩ e3) (hS.put e2 e3 (hR a _ ha).1) hl hc hs
/-! arrays -/
abbrev aI (G : jG) (n : Nat) (f : Nat → Int32) : va_E := .inl (G.2.1 0, n, .inl f)
abbrev aZ (G : jG) (n : Nat) (f : Nat → Int32) : va_E := .inl (G.2.1 1, n, .inl f)
abbrev aJ (G : jG) (n : Nat) (f : Nat → Int64) : va_E := .inl (G.2.1 2, n, .inr (.inl f))
abbrev aR (G : jG) (t n : Nat) (f : Nat → Option Nat) : va_E := .inl (G.2.1 t, n, .inr (.inr (.inr (.inr f))))
theorem j_iald {a n : Nat} {f : Nat → Int32} {i : Int32} (hd : decode M.cc pc = .ok (.iaload, 1)) (ha : h a = some (aI G n f)) (hin : vp_in i n) (kk : J l G M QF ck sk (pc + 1) L (.int (f i.toNatClampNeg) :: st) h) : J l G M QF ck sk pc L (.int i :: .ref a :: st) h := by
  intro p e s m args below meth c H locs cells slots ls S hR hS hl hc hs
  exact va_iald (tys := jT G) S.1 S.2.1 S.2.2.2.2.2.2.2.2.2.1 (va_P1 (hR a _ ha).2) 0 0 rfl rfl hin hd (kk p e s m args below meth c H locs cells slots ls S hR hS hl hc hs)
theorem j_zald {a n : Nat} {f : Nat → Int32} {i : Int32} (hd : decode M.cc pc = .ok (.baload, 1)) (ha : h a = some (aZ G n f)) (hin : vp_in i n) (kk : J l G M QF ck sk (pc + 1) L (.int (f i.toNatClampNeg) :: st) h) : J l G M QF ck sk pc L (.int i :: .ref a :: st) h := by
  intro p e s m args below meth c H locs cells slots ls S hR hS hl hc hs
  exact va_zald (tys := jT G) S.1 S.2.1 S.2.2.2.2.2.2.2.2.2.1 (va_P1 (hR a _ ha).2) 0 1 rfl rfl hin hd (kk p e s m args below meth c H locs cells slots ls S hR hS hl hc hs)
theorem j_lald {a n : Nat} {f : Nat → Int64} {i : Int32} (hd : decode M.cc pc = .ok (.laload, 1)) (ha : h a = some (aJ G n f)) (hin : vp_in i n) (kk : J l G M QF ck sk (pc + 1) L (.long (f i.toNatClampNeg) :: st) h) : J l G M QF ck sk pc L (.int i :: .ref a :: st) h := by
  intro p e s m args below meth c H locs cells slots ls S hR hS hl hc hs
  exact va_lald (tys := jT G) S.1 S.2.1 S.2.2.2.2.2.2.2.2.2.1 (va_P1 (hR a _ ha).2) 0 2 rfl rfl hin hd (kk p e s m args below meth c H locs cells slots ls S hR hS hl hc hs)
theorem j_qaldP {a n : Nat} {f : Nat → Option Nat} {i : Int32} (hd : decode M.cc pc = .ok (.aaload, 1)) (ha : h a = some (aR G 3 n f)) (hin : vp_in i n) (kk : J l G M QF ck sk (pc + 1) L (va_rf (f i.toNatClampNeg) :: st) h) : J l G M QF ck sk pc L (.int i :: .ref a :: st) h := by
  intro p e s m args below meth c H locs cells slots ls S hR hS hl hc hs
  exact va_aldq (tys := jT G) S.1 S.2.1 S.2.2.2.2.2.2.2.2.2.1 (va_P1 (hR a _ ha).2) 0 3 rfl rfl hin hd (kk p e s m args below meth c H locs cells slots ls S hR hS hl hc hs)
theorem j_qaldM {a n : Nat} {f : Nat → Option Nat} {i : Int32} (hd : decode M.cc pc = .ok (.aaload, 1)) (ha : h a = some (aR G 4 n f)) (hin : vp_in i n) (kk : J l G M QF ck sk (pc + 1) L (va_rf (f i.toNatClampNeg) :: st) h) : J l G M QF ck sk pc L (.int i :: .ref a :: st) h := by
  intro p e s m args below meth c H locs cells slots ls S hR hS hl hc hs
  exact va_aldq (tys := jT G) S.1 S.2.1 S.2.2.2.2.2.2.2.2.2.1 (va_P1 (hR a _ ha).2) 0 4 rfl rfl hin hd (kk p e s m args below meth c H locs cells slots ls S hR hS hl hc hs)
theorem j_iast {a n : Nat} {f : Nat → Int32} {i x : Int32} (hd : decode M.cc pc = .ok (.iastore, 1)) (ha : h a = some (aI G n f)) (hin : vp_in i n) (kk : J l G M QF ck sk (pc + 1) L st (hset h a (aI G n (upd f i.toNatClampNeg x)))) : J l G M QF ck sk pc L (.int x :: .int i :: .ref a :: st) h := by
  intro p e s m args below meth c H locs cells slots ls S hR hS hl hc hs
  have hK := S.2.2.2.2.2.2.2.2.2.1
  refine W.iast S.1 S.2.1 (hR a _ ha).2 ((hK.2 0 _ rfl).1 n (fun j => .int (f j))) (fun q => by cases q) (by show ¬ (i < 0 ∨ (arrV _ _ _).slots.size ≤ _); rw [arrV_size]; exact hin) rfl rfl hd fun H1 e1 z oq => ?_
  refine kk p e s m args below meth c H1 _ cells slots ls S (hR.set ha ?_ oq) (hS.put z oq (hR a _ ha).1) hl hc hs
  show H1[a]? = some (vp_cell _ _)
  rw [e1]
  rw [vp_cell_i, vp_cell_i, arrV_store]
  congr 2
  funext q
  by_cases hq : q = i.toNatClampNeg
  · subst hq
    simp [updV, upd]
  · simp [updV, upd, hq]
theorem j_zast {a n : Nat} {f : Nat → Int32} {i x : Int32} (hd : decode M.cc pc = .ok (.bastore, 1)) (ha : h a = some (aZ G n f)) (hin : vp_in i n) (kk : J l G M QF ck sk (pc + 1) L st (hset h a (aZ G n (upd f i.toNatClampNeg (vp_nar .boolean x))))) : J l G M QF ck sk pc L (.int x :: .int i :: .ref a :: st) h := by
  intro p e s m args below meth c H locs cells slots ls S hR hS hl hc hs
  have hK := S.2.2.2.2.2.2.2.2.2.1
  refine W.zast S.1 S.2.1 (hR a _ ha).2 ((hK.2 1 _ rfl).1 n (fun j => .int (f j))) (fun q => by cases q) (by show ¬ (i < 0 ∨ (arrV _ _ _).slots.size ≤ _); rw [arrV_size]; exact hin) rfl rfl hd fun H1 e1 z oq => ?_
  refine kk p e s m args below meth c H1 _ cells slots ls S (hR.set ha ?_ oq) (hS.put z oq (hR a _ ha).1) hl hc hs
  show H1[a]? = some (vp_cell _ _)
  rw [e1]
  rw [vp_cell_i, vp_cell_i, arrV_store]
  congr 2
  funext q
  by_cases hq : q = i.toNatClampNeg
  · subst hq
    simp [updV, upd, vp_nar]
    try rfl
  · simp [updV, upd, hq]
theorem j_last {a n : Nat} {f : Nat → Int64} {i : Int32} {x : Int64} (hd : decode M.cc pc = .ok (.lastore, 1)) (ha : h a = some (aJ G n f)) (hin : vp_in i n) (kk : J l G M QF ck sk (pc + 1) L st (hset h a (aJ G n (vp_updL f i.toNatClampNeg x)))) : J l G M QF ck sk pc L (.long x :: .int i :: .ref a :: st) h := by
  intro p e s m args below meth c H locs cells slots ls S hR hS hl hc hs
  have hK := S.2.2.2.2.2.2.2.2.2.1
  refine W.last S.1 S.2.1 (hR a _ ha).2 ((hK.2 2 _ rfl).1 n (fun j => .long (f j))) (fun q => by cases q) (by show ¬ (i < 0 ∨ (arrV _ _ _).slots.size ≤ _); rw [arrV_size]; exact hin) rfl rfl hd fun H1 e1 z oq => ?_
  refine kk p e s m args below meth c H1 _ cells slots ls S (hR.set ha ?_ oq) (hS.put z oq (hR a _ ha).1) hl hc hs
  show H1[a]? = some (vp_cell _ _)
  rw [e1]
  rw [vp_cell_l, vp_cell_l, arrV_store]
  congr 2
  funext q
  by_cases hq : q = i.toNatClampNeg
  · subst hq
    simp [updV, vp_updL]
  · simp [updV, vp_updL, hq]
/-- which entry of jT an array is of -/
theorem j_alen {a : Nat} {x : vp_A} (t : Nat) {ty : FieldType} (v : Int32) (hd : decode M.cc pc = .ok (.arraylength, 1)) (ha : h a = some (.inl (G.2.1 t, x))) (ht : (jT G)[t]? = some (G.2.1 t, ty)) (hv : Int32.ofNat x.1 = v) (kk : J l G M QF ck sk (pc + 1) L (.int v :: st) h) : J l G M QF ck sk pc L (.ref a :: st) h := by
  intro p e s m args below meth c H locs cells slots ls S hR hS hl hc hs
  exact va_alen (tys := jT G) S.1 S.2.1 S.2.2.2.2.2.2.2.2.2.1 (va_P1 (hR a _ ha).2) 0 t rfl ht hv hd (kk p e s m args below meth c H locs cells slots ls S hR hS hl hc hs)
/-- static arrays -/
theorem j_gets {idx : Nat} (k : Nat) {C n : String} {N : Nat} {f : List Int32} (hst : jSt[k]? = some (C, n, N, f)) (hw : Cond.fieldLink M.own idx C n "[I" ∈ WT) (hd : decode M.cc pc = .ok (.getstatic idx, 3)) (kk : J l G M QF ck sk (pc + 3) L (.ref (jSa G k) :: st) h) : J l G M QF ck sk pc L st h := by
  intro p e s m args below meth c H locs cells slots ls S hR hS hl hc hs
  exact va_gets S.1 S.2.1 (S.2.2.2.2.2.2.2.2.2.2.1 k _ hst).1 hS S.2.2.2.2.2.2.2.1 (S.2.2.2.2.2.2.2.2.1 _ hw) (fun _ z => z) hd (kk p e s m args below meth c H locs cells slots ls S hR hS hl hc hs)
theorem j_siald (k : Nat) {C n : String} {N : Nat} {f : List Int32} {i : Int32} (hst : jSt[k]? = some (C, n, N, f)) (hin : vp_in i N) (hd : decode M.cc pc = .ok (.iaload, 1)) (kk : J l G M QF ck sk (pc + 1) L (.int (jIs f i.toNatClampNeg) :: st) h) : J l G M QF ck sk pc L (.int i :: .ref (jSa G k) :: st) h := by
  intro p e s m args below meth c H locs cells slots ls S hR hS hl hc hs
  exact va_ti S.1 S.2.1 (S.2.2.2.2.2.2.2.2.2.2.1 k _ hst).2 hS hin rfl hd (kk p e s m args below meth c H locs cells slots ls S hR hS hl hc hs)
end JH
end
section
section JC
variable {l : Launch} {G : jG} {M M' : jM} {QF : jF} {ck sk ck' sk' pc : Nat} {L L' : List (Nat × Value)} {st rest : List Value} {h : jH} {Post Post' : jO → jH → Prop}
/-- an exception of class E stands over the frame -/
def jX (l : Launch) (G : jG) (M : jM) (QF : jF) (ck sk pc : Nat) (L : List (Nat × Value)) (rest : List Value) (h : jH) (E : String) : Prop :=
  ∀ (p : Program) (e : Env) (s : State) (m : MethodId) (args : Array Value) (below : List Frame) (meth : Method) (c : Code) (H : Heap) (locs : List Loc) (cells slots : Nat) (ls : Array Slot) (q : Addr) (ce : Cell),
    jStd G M p s m args meth c → jR G h H → va_S (jB G) s.heap H locs → lv_has ls M.nL L → cells + ck ≤ M.room.cells → slots + sk ≤ M.room.slots →
    H[q]? = some ce → ce.vm = .none → s.vm.findClass E = some ce.cls → vx_W p l e M.room s m args below meth c H locs cells slots (QF below args s) (F0 m pc ls rest) q
theorem jX_out {E : String} (hh : M.hh = []) (hp : Post (.inr E) h) : jX l G M (jQ G M Post) ck sk pc L rest h E := by
  intro p e s m args below meth c H locs cells slots ls q ce S hR hS hl hc hs h1 h2 h3
  refine vx_out ?_ S.2.2.2.2.2.2.1 h1 h2 h3 (fun t ht hA => ⟨h, hp, by rw [ht]; exact hR, hS.F ht⟩) hS.2.2 (by omega) (by omega)
  intro x hx
  rw [S.2.2.2.2.1, hh] at hx
  cases hx
theorem jX_room (h1 : ck' ≤ ck) (h2 : sk' ≤ sk) {E : String} (k : jX l G M QF ck' sk' pc L rest h E) : jX l G M QF ck sk pc L rest h E := by
  intro p e s m args below meth c H locs cells slots ls q ce S hR hS hl hc hs
  exact k p e s m args below meth c H locs cells slots ls q ce S hR hS hl (Nat.le_trans (Nat.add_le_add_left h1 _) hc) (Nat.le_trans (Nat.add_le_add_left h2 _) hs)
/-- what a run of a call gives -/
theorem j_run {p : Program} {e : Env} {s : State} {m : MethodId} {args a : Array Value} {below : List Frame} {meth : Method} {c : Code} {H : Heap} {locs : List Loc} {cells slots mc ms : Nat} {ls : Array Slot} {R : Room} {Q : State → Prop}
    (hr : vx_Run p l e R s m args below meth c H locs cells slots mc ms (F0 m pc ls st) rest (jQc G Post' a) (jXC G Post') (jB G)) (hS : va_S (jB G) s.heap H locs)
    (kk : ∀ (v : Option Value) (h' : jH) (H1 : Heap) (locs1 : List Loc), Post' (.inl v) h' → jR G h' H1 → va_S (jB G) s.heap H1 locs1 → W p l e R s m args below meth c H1 locs1 (cells + mc) (slots + ms) Q (F0 m (pc + 3) ls (v.toList ++ rest)))
    (kx : ∀ (E : String) (h' : jH) (H1 : Heap) (locs1 : List Loc) (q : Addr) (ce : Cell), Post' (.inr E) h' → jR G h' H1 → va_S (jB G) s.heap H1 locs1 → H1[q]? = some ce → ce.vm = .none → s.vm.findClass E = some ce.cls → vx_W p l e R s m args below meth c H1 locs1 (cells + mc) (slots + ms) Q (F0 m pc ls rest) q) :
    W p l e R s m args below meth c H locs cells slots Q (F0 m pc ls st) := by
  intro T hT X
  rcases hr T hT X with ⟨v, st₀, t, T', L, h0, X', hL, e1, e2, ⟨v', h', hv, hp, hR, hF⟩, st⟩ | ⟨q, st₀, t, T', L, E, ce, h0, X', hL, e1, e2, ⟨h', hp, hR, hF⟩, hce, hcv, hcl, st⟩
  · cases hv
    obtain ⟨-, -, k3⟩ := vx_keep h0 e1 hS (fun q _ h => h) (fun q h => h) hL hF
    obtain ⟨t2, a1, b1⟩ := kk v h' T'.heap (locs ++ L) hp (by rw [e1]; exact hR) k3 T' rfl X'
    exact ⟨t2, st t2 a1, b1⟩
  · obtain ⟨-, -, k3⟩ := vx_keep h0 e1 hS (fun q _ h => h) (fun q h => h) hL hF
    obtain ⟨t2, a1, b1⟩ := kx E h' T'.heap (locs ++ L) q ce hp (by rw [e1]; exact hR) k3 (by rw [e1]; exact hce) hcv hcl T' rfl X'
    exact ⟨t2, st.trans a1, b1⟩
def jRm (M M' : jM) : Bool := Nat.ble (M'.room.frames + 1) M.room.frames && Nat.ble (8 + (M'.nL + 11) + M'.room.locals) M.room.locals
theorem jRm_fr (hr : jRm M M' = true) : M'.room.frames + 1 ≤ M.room.frames ∧ 8 + (M'.nL + 11) + M'.room.locals ≤ M.room.locals := by
  have h2 := Bool.and_eq_true_iff.mp hr
  exact ⟨Nat.le_of_ble_eq_true h2.1, Nat.le_of_ble_eq_true h2.2⟩
/-- a call of y by the entry idx of own's file: its words -/
def jLk (own : String) (idx : Nat) (y : MethodName) (M' : jM) (n : Nat) : Prop :=
  Cond.methodLink own idx y ∈ WT ∧ Cond.initialized y.cls ∈ WT ∧ Cond.code y M'.cc M'.nL M'.ret ∈ WT ∧ (y.cls ≠ "java/lang/invoke/MethodHandle" ∧ y.cls ≠ "java/lang/invoke/VarHandle") ∧ (parseMethodDescriptor y.desc).map (fun d => d.parameters.length) = some n
theorem jLk.callB {own : String} {idx n : Nat} {y : MethodName} (V : jLk own idx y M' n) (hh : M'.hh = []) (hr : jRm M M' = true) {s : State} {args : Array Value} (hts : ∀ w ∈ WT, w.before args s = true) : CallB M.room s args own idx y M'.cc M'.nL M'.ret (jws y M') M'.room M'.room.cells M'.room.slots n := by
  obtain ⟨v1, v2, v3, v4, v5⟩ := V
  have hw : jws y M' = Cond.code y M'.cc M'.nL M'.ret :: WT := by unfold jws; rw [hh]
  refine ⟨rfl, rfl, (jRm_fr hr).1, (jRm_fr hr).2, ?_, ?_, hts _ v3, hts _ v2, v4, fun sig h => ?_, hts _ v1⟩
  · intro w hwm
    rw [hw] at hwm
    rcases List.mem_cons.mp hwm with e | e
    · rw [e]; exact WT_pay hts _ v3
    · exact WT_pay hts _ e
  · rw [hw]; exact List.mem_cons_self
  · rw [h] at v5
    exact (Option.some.inj v5).symm
theorem jPc_pre {G : jG} {av : List Value} {h : jH} {s : State} {H : Heap} {locs : List Loc} (hK : jK G s s.heap) (hS : va_S (jB G) s.heap H locs) (hR : jR G h H) : ∀ U : State, U.heap = H → s.WarmedH U.vm → jPc G av h av.toArray U :=
  fun U hU hW => ⟨rfl, by rw [hU]; exact hR, by rw [hU]; exact jK.moved hK hW hS.1 hS.2.1⟩
theorem j_callV {y : MethodName} {As : List Value} {a ci n idx : Nat} {fs : List Value} {T : u_T} {N : Nat} (V : jLk M.own idx y M' n) (V2 : Cond.instanceMethod y ∈ WT ∧ Cond.selects y.cls y y ∈ WT ∧ vwCl[ci]? = some (y.cls, T, N)) (ha : h a = some (.inr (ci, fs)))
    (C : jC l G y M' (.ref a :: As) h Post') (hh : M'.hh = []) (hst : st = As.reverse ++ .ref a :: rest) (hn : As.length = n) (hrm : jRm M M' = true) (hrest : Nat.ble (rest.map fun v => v.category).sum 8 = true) (hd : decode M.cc pc = .ok (.invokevirtual idx, 3))
    (hck : M'.room.cells + ck' ≤ ck) (hsk : M'.room.slots + sk' ≤ sk) (kk : ∀ (v : Option Value) (h' : jH), Post' (.inl v) h' → J l G M QF ck' sk' (pc + 3) L (v.toList ++ rest) h')
    (kx : ∀ (E : String) (h' : jH), Post' (.inr E) h' → jX l G M QF ck' sk' pc L rest h' E) : J l G M QF ck sk pc L st h := by
  intro p e s m args below meth c H locs cells slots ls S hR hS hl hc hs
  have hts := S.2.2.2.2.2.2.2.2.1
  have hK := S.2.2.2.2.2.2.2.2.2
  obtain ⟨r, hr1, cell, g1, g2, g3, -⟩ := (hR a _ ha).2
  have hr : r = (y.cls, T, N) := Option.some.inj (hr1.symm.trans V2.2.2)
  subst hr
  have hrun := vx_runV (g := F0 m pc ls st) (rest := rest) (l := l) (R := M.room) (locs := locs) (cells := cells) (slots := slots) (below := below) (meth := meth) (e := e) (H := H) ⟨S.1, S.2.1, S.2.2.1, S.2.2.2.2.2.2.2.1, hts⟩ C ⟨V.callB hh hrm hts, hts _ V2.1, hts _ V2.2.1⟩
    ⟨jPc.blind, ⟨cell, g1, by rw [g3]; rfl, by rw [g2]; exact (hK.1.1 ci _ V2.2.2).2.1⟩, jPc_pre hK hS hR⟩ rfl hn hl.1 hst (lv_room (Nat.le_of_ble_eq_true hrest)) hd ⟨by omega, by omega⟩
  refine j_run hrun hS (fun v h' H1 locs1 hp hR1 hS1 => ?_) (fun E h' H1 locs1 q ce hp hR1 hS1 h1 h2 h3 => ?_)
  · exact kk v h' hp p e s m args below meth c H1 locs1 _ _ ls S hR1 hS1 hl (by omega) (by omega)
  · exact kx E h' hp p e s m args below meth c H1 locs1 _ _ ls q ce S hR1 hS1 hl (by omega) (by omega) h1 h2 h3
theorem j_callS {y : MethodName} {As : List Value} {n idx : Nat} (V : jLk M.own idx y M' n) (V2 : Cond.static y ∈ WT)
    (C : jC l G y M' As h Post') (hh : M'.hh = []) (hst : st = As.reverse ++ rest) (hn : As.length = n) (hrm : jRm M M' = true) (hrest : Nat.ble (rest.map fun v => v.category).sum 8 = true) (hd : decode M.cc pc = .ok (.invokestatic idx, 3))
    (hck : M'.room.cells + ck' ≤ ck) (hsk : M'.room.slots + sk' ≤ sk) (kk : ∀ (v : Option Value) (h' : jH), Post' (.inl v) h' → J l G M QF ck' sk' (pc + 3) L (v.toList ++ rest) h')
    (kx : ∀ (E : String) (h' : jH), Post' (.inr E) h' → jX l G M QF ck' sk' pc L rest h' E) : J l G M QF ck sk pc L st h := by
  intro p e s m args below meth c H locs cells slots ls S hR hS hl hc hs
  have hts := S.2.2.2.2.2.2.2.2.1
  have hK := S.2.2.2.2.2.2.2.2.2
  have hrun := vx_runS (g := F0 m pc ls st) (rest := rest) (l := l) (R := M.room) (locs := locs) (cells := cells) (slots := slots) (below := below) (meth := meth) (e := e) (H := H) ⟨S.1, S.2.1, S.2.2.1, S.2.2.2.2.2.2.2.1, hts⟩ C ⟨V.callB hh hrm hts, hts _ V2⟩
    ⟨jPc.blind, jPc_pre hK hS hR⟩ rfl hn hl.1 hst (lv_room (Nat.le_of_ble_eq_true hrest)) hd ⟨by omega, by omega⟩
  refine j_run hrun hS (fun v h' H1 locs1 hp hR1 hS1 => ?_) (fun E h' H1 locs1 q ce hp hR1 hS1 h1 h2 h3 => ?_)
  · exact kk v h' hp p e s m args below meth c H1 locs1 _ _ ls S hR1 hS1 hl (by omega) (by omega)
  · exact kx E h' hp p e s m args below meth c H1 locs1 _ _ ls q ce S hR1 hS1 hl (by omega) (by omega) h1 h2 h3
/-- the end of a method -/
theorem j_iret {v : Int32} (hr : M.ret = some .int) (hd : decode M.cc pc = .ok (.ireturn, 1)) (hp : Post (.inl (some (.int v))) h) : J l G M (jQ G M Post) ck sk pc L [.int v] h := by
  intro p e s m args below meth c H locs cells slots ls S hR hS hl hc hs
  refine W.widen (k := M.room.cells) (n := M.room.slots) (by omega) (by omega) (vx_ret ?_)
  exact W.iret S.1 S.2.1 (S.2.2.2.1.trans hr) (fun t ht _ => ⟨_, h, rfl, hp, by rw [ht]; exact hR, hS.F ht⟩) hS.2.2 hd S.2.2.2.2.2.2.1
theorem j_zret {v : Int32} (hr : M.ret = some .boolean) (hn : narrow .boolean (.int v) = .int v) (hd : decode M.cc pc = .ok (.ireturn, 1)) (hp : Post (.inl (some (.int v))) h) : J l G M (jQ G M Post) ck sk pc L [.int v] h := by
  intro p e s m args below meth c H locs cells slots ls S hR hS hl hc hs
  refine W.widen (k := M.room.cells) (n := M.room.slots) (by omega) (by omega) (vx_ret ?_)
  exact W.zret S.1 S.2.1 (S.2.2.2.1.trans hr) hn (fun t ht _ => ⟨_, h, rfl, hp, by rw [ht]; exact hR, hS.F ht⟩) hS.2.2 hd S.2.2.2.2.2.2.1
theorem j_vret (hr : M.ret = none) (hd : decode M.cc pc = .ok (.return_, 1)) (hp : Post (.inl none) h) : J l G M (jQ G M Post) ck sk pc L [] h := by
  intro p e s m args below meth c H locs cells slots ls S hR hS hl hc hs
  refine W.widen (k := M.room.cells) (n := M.room.slots) (by omega) (by omega) (vx_ret ?_)
  exact W.vret S.1 S.2.1 (S.2.2.2.1.trans hr) (fun t ht _ => ⟨_, h, rfl, hp, by rw [ht]; exact hR, hS.F ht⟩) hS.2.2 hd S.2.2.2.2.2.2.1
theorem j_aret {a : Nat} {n : String} (hr : M.ret = some (.object n)) (hd : decode M.cc pc = .ok (.areturn, 1)) (hp : Post (.inl (some (.ref a))) h) : J l G M (jQ G M Post) ck sk pc L [.ref a] h := by
  intro p e s m args below meth c H locs cells slots ls S hR hS hl hc hs
  refine W.widen (k := M.room.cells) (n := M.room.slots) (by omega) (by omega) (vx_ret ?_)
  exact W.aret S.1 S.2.1 (S.2.2.2.1.trans hr) (Or.inl ⟨_, rfl⟩) (Or.inr ⟨_, rfl⟩) (fun t ht _ => ⟨_, h, rfl, hp, by rw [ht]; exact hR, hS.F ht⟩) hS.2.2 hd S.2.2.2.2.2.2.1
end JC
end
section
section JM
variable {l : Launch} {G : jG} {M M' : jM} {QF : jF} {ck sk ck' sk' pc : Nat} {L L' : List (Nat × Value)} {st rest : List Value} {h : jH} {Post Post' : jO → jH → Prop}
theorem j_objInit {idx a : Nat} (hw : Cond.methodLink M.own idx objectInit ∈ WT ∧ Cond.instanceMethod objectInit ∈ WT ∧ Cond.code objectInit ⟨#[0xb1]⟩ 1 none ∈ WT) (hd : decode M.cc pc = .ok (.invokespecial idx, 3)) (hfr : Nat.ble 1 M.room.frames = true) (hlo : Nat.ble ((st.map fun v => v.category).sum + 12) M.room.locals = true)
    (kk : J l G M QF ck sk (pc + 3) L st h) : J l G M QF ck sk pc L (.ref a :: st) h := by
  intro p e s m args below meth c H locs cells slots ls S hR hS hl hc hs
  have hts := S.2.2.2.2.2.2.2.2.1
  refine W.objInit S.1 S.2.1 S.2.2.2.2.2.2.2.1 (hts _ hw.1) (hts _ hw.2.1) (hts _ hw.2.2) rfl (hl.1.trans S.2.2.1.symm) rfl hd (Nat.le_of_ble_eq_true hfr) ?_ ?_
  · have := Nat.le_of_ble_eq_true hlo
    have e0 : (F0 m pc ls (.ref a :: st)).monitorRoom = 0 := by
      have := lv_room (m := m) (pc := pc) (rest := .ref a :: st) (ls := ls) (st := []) (by simp)
      first | rfl | simp [JFrame.monitorRoom]
    rw [e0]
    omega
  · exact kk p e s m args below meth c H locs cells slots ls S hR hS hl hc hs
/-- what a 'new' wants -/
def jNe (own : String) (idx ci N : Nat) (fs : List Value) : Prop := ∃ (C : String) (T : u_T) (ty : Nat → FieldType), vwCl[ci]? = some (C, T, N) ∧ (∀ w ∈ u_ws C T N, w ∈ WT) ∧ (∀ k, k < N → parseFieldDescriptor (T k).2.2.1 = some (ty k)) ∧ Cond.classLink own idx C ∈ WT ∧ Cond.instantiable C N ∈ WT ∧ Cond.initialized C ∈ WT ∧ ∀ j, j < N → defaultValue (ty j) = vp_V fs j
theorem j_new {idx ci N : Nat} {fs : List Value} (V : jNe M.own idx ci N fs) (hd : decode M.cc pc = .ok (.new idx, 3)) (hck : ck' + 1 ≤ ck) (hsk : sk' + N ≤ sk) (kk : ∀ q : Nat, h q = none → jB G q → J l G M QF ck' sk' (pc + 3) L (.ref q :: st) (hset h q (.inr (ci, fs)))) : J l G M QF ck sk pc L st h := by
  intro p e s m args below meth c H locs cells slots ls S hR hS hl hc hs
  have hts := S.2.2.2.2.2.2.2.2.1
  have hK := S.2.2.2.2.2.2.2.2.2
  obtain ⟨C, T, ty, hcl, hin, hty, w1, w2, w3, hfs⟩ := V
  have hKn := hK.1.1 ci _ hcl
  refine W.newcK S.1 S.2.1 S.2.2.2.2.2.2.2.1 (hts _ w1) (hts _ w2) (hts _ w3) rfl hd (by omega) (by omega) hKn.2.1 rfl fun H1 kC hkC e1 z1 o1 => ?_
  have hB : jB G H.size := Nat.le_trans hK.2.2.2.2.1 hS.1
  exact kk H.size hR.none hB p e s m args below meth c H1 locs _ _ ls S (hR.new hB ⟨_, hcl, (u_born ty hts hin hKn hkC e1 hty).to hfs⟩ o1) ⟨Nat.le_trans hS.1 (by omega), fun x h1 h2 => (o1 x (Nat.lt_of_lt_of_le h1 hS.1)).trans (hS.2.1 x h1 h2), hS.2.2⟩ hl (by omega) (by omega)
/-- arrays: by their entry in jT -/
theorem j_newa {n : Int32} {N t : Nat} {atype : ArrayType} {ty : FieldType} {a0 : vp_A} (hw : Cond.arrayClass (newarray.typeOf atype) ∈ WT) (hty : newarray.typeOf atype = ty) (ht : (jT G)[t]? = some (G.2.1 t, ty)) (hra : ∀ (U : State) (cA : ClassId), va_RA U cA ty ↔ U.vm.findClass ("[" ++ ty.toString) = some cA)
    (ha : ∀ cA : ClassId, vp_cell cA a0 = arrV cA N (fun _ => defaultValue ty)) (hd : decode M.cc pc = .ok (.newarray atype, 2)) (hn : ¬ n < 0) (hN : n.toNatClampNeg = N) (hb : N * componentBytes ty ≤ 536870912) (hck : ck' + 1 ≤ ck) (hsk : sk' + N ≤ sk)
    (kk : ∀ q : Nat, h q = none → jB G q → J l G M QF ck' sk' (pc + 2) L (.ref q :: st) (hset h q (.inl (G.2.1 t, a0)))) : J l G M QF ck sk pc L (.int n :: st) h := by
  intro p e s m args below meth c H locs cells slots ls S hR hS hl hc hs
  have hts := S.2.2.2.2.2.2.2.2.1
  have hK := S.2.2.2.2.2.2.2.2.2
  subst hty
  refine va_newaK S.1 S.2.1 (hts _ hw) rfl hd rfl hn hN hb (by omega) (by omega) rfl fun H1 cA e1 z1 o1 hAr hNm => ?_
  have hcA : cA = G.2.1 t := by
    have h2 := (hra s (G.2.1 t)).mp (hK.1.2 t _ ht).2
    exact Option.some.inj (hNm.symm.trans h2)
  subst hcA
  have hB : jB G H.size := Nat.le_trans hK.2.2.2.2.1 hS.1
  refine kk H.size hR.none hB p e s m args below meth c H1 locs _ _ ls S (hR.new hB ?_ o1) ⟨Nat.le_trans hS.1 (by omega), fun x h1 h2 => (o1 x (Nat.lt_of_lt_of_le h1 hS.1)).trans (hS.2.1 x h1 h2), hS.2.2⟩ hl (by omega) (by omega)
  show H1[H.size]? = some (vp_cell _ _)
  rw [ha]
  exact e1
theorem j_newI {n : Int32} (N : Nat) (hw : Cond.arrayClass .int ∈ WT) (hd : decode M.cc pc = .ok (.newarray .int, 2)) (hn : ¬ n < 0) (hN : n.toNatClampNeg = N) (hb : N * 4 ≤ 536870912) (hck : ck' + 1 ≤ ck) (hsk : sk' + N ≤ sk)
    (kk : ∀ q : Nat, h q = none → jB G q → J l G M QF ck' sk' (pc + 2) L (.ref q :: st) (hset h q (aI G N (fun _ => 0)))) : J l G M QF ck sk pc L (.int n :: st) h :=
  j_newa (t := 0) (a0 := (N, .inl (fun _ => 0))) (atype := .int) hw rfl rfl (fun _ _ => Iff.rfl) (fun _ => by rw [vp_cell_i]; rfl) hd hn hN hb hck hsk kk
theorem j_newZ {n : Int32} (N : Nat) (hw : Cond.arrayClass .boolean ∈ WT) (hd : decode M.cc pc = .ok (.newarray .boolean, 2)) (hn : ¬ n < 0) (hN : n.toNatClampNeg = N) (hb : N * 1 ≤ 536870912) (hck : ck' + 1 ≤ ck) (hsk : sk' + N ≤ sk)
    (kk : ∀ q : Nat, h q = none → jB G q → J l G M QF ck' sk' (pc + 2) L (.ref q :: st) (hset h q (aZ G N (fun _ => 0)))) : J l G M QF ck sk pc L (.int n :: st) h :=
  j_newa (t := 1) (a0 := (N, .inl (fun _ => 0))) (atype := .boolean) hw rfl rfl (fun _ _ => Iff.rfl) (fun _ => by rw [vp_cell_i]; rfl) hd hn hN hb hck hsk kk
theorem j_newL {n : Int32} (N : Nat) (hw : Cond.arrayClass .long ∈ WT) (hd : decode M.cc pc = .ok (.newarray .long, 2)) (hn : ¬ n < 0) (hN : n.toNatClampNeg = N) (hb : N * 8 ≤ 536870912) (hck : ck' + 1 ≤ ck) (hsk : sk' + N ≤ sk)
    (kk : ∀ q : Nat, h q = none → jB G q → J l G M QF ck' sk' (pc + 2) L (.ref q :: st) (hset h q (aJ G N (fun _ => 0)))) : J l G M QF ck sk pc L (.int n :: st) h :=
  j_newa (t := 2) (a0 := (N, .inr (.inl (fun _ => 0)))) (atype := .long) hw rfl rfl (fun _ _ => Iff.rfl) (fun _ => by rw [vp_cell_l]; rfl) hd hn hN hb hck hsk kk
theorem j_newq {n : Int32} {idx t : Nat} {C : String} (N : Nat) (hw : Cond.classLink M.own idx C ∈ WT) (hg : Cond.arrayOver (.object C) ∈ jNg) (ht : (jT G)[t]? = some (G.2.1 t, .object C)) (hd : decode M.cc pc = .ok (.anewarray idx, 3)) (hn : ¬ n < 0) (hN : n.toNatClampNeg = N) (hb : N * 4 ≤ 536870912) (hck : ck' + 1 ≤ ck) (hsk : sk' + N ≤ sk)
    (kk : ∀ q : Nat, h q = none → jB G q → J l G M QF ck' sk' (pc + 3) L (.ref q :: st) (hset h q (aR G t N (fun _ => none)))) : J l G M QF ck sk pc L (.int n :: st) h := by
  intro p e s m args below meth c H locs cells slots ls S hR hS hl hc hs
  have hts := S.2.2.2.2.2.2.2.2.1
  have hK := S.2.2.2.2.2.2.2.2.2
  subst hN
  have hAO : va_AO C s := hK.2.2.2.2.2.1 _ hg
  refine W.anew S.1 S.2.1 S.2.2.2.2.2.2.2.1 (hts _ hw) (va_AO.use hAO) rfl hd rfl hn hb (by omega) (by omega) fun cA kA comp f1 f2 f3 f4 => ?_
  generalize hH1 : H.push ({ cls := cA, slots := Array.replicate n.toNatClampNeg .null, vm := .none } : Cell) = H1
  have z1 : H1.size = H.size + 1 := by rw [← hH1, Array.size_push]
  have e1 : H1[H.size]? = some (arrV cA n.toNatClampNeg (fun _ => .null)) := by rw [← hH1, Array.getElem?_push_size, ← arrV_new]
  have o1 : ∀ q : Nat, q < H.size → H1[q]? = H[q]? := fun q hq => by rw [← hH1, Array.getElem?_push, if_neg (Nat.ne_of_lt hq)]
  have hcA : cA = G.2.1 t := by
    obtain ⟨kA', comp', g1, g2, g3, g4⟩ := (hK.1.2 t _ ht).2
    exact Option.some.inj (f1.symm.trans g4)
  subst hcA
  have hB : jB G H.size := Nat.le_trans hK.2.2.2.2.1 hS.1
  refine kk H.size hR.none hB p e s m args below meth c H1 locs _ _ ls S (hR.new hB ?_ o1) ⟨Nat.le_trans hS.1 (by omega), fun x h1 h2 => (o1 x (Nat.lt_of_lt_of_le h1 hS.1)).trans (hS.2.1 x h1 h2), hS.2.2⟩ hl (by omega) (by omega)
  show H1[H.size]? = some (vp_cell _ _)
  rw [vp_cell_q]
  exact e1
/-- an object into an array of its class -/
theorem j_qast {a n v t ci : Nat} {C : String} {T : u_T} {N : Nat} {vs : List Value} {f : Nat → Option Nat} {i : Int32} (ht : (jT G)[t]? = some (G.2.1 t, .object C)) (hcl : vwCl[ci]? = some (C, T, N)) (hd : decode M.cc pc = .ok (.aastore, 1)) (ha : h a = some (aR G t n f)) (hv : h v = some (.inr (ci, vs))) (hin : vp_in i n) (kk : J l G M QF ck sk (pc + 1) L st (hset h a (aR G t n (va_up f i.toNatClampNeg (some v))))) : J l G M QF ck sk pc L (.ref v :: .int i :: .ref a :: st) h := by
  intro p e s m args below meth c H locs cells slots ls S hR hS hl hc hs
  have hK := S.2.2.2.2.2.2.2.2.2.1
  have hlt : i.toNatClampNeg < n := Nat.not_le.mp fun q => hin (Or.inr q)
  have h0 : ¬ i < 0 := fun q => hin (Or.inl q)
  obtain ⟨r', hr', cellV, g1, g2, g3, -⟩ := (hR v _ hv).2
  have hcls := (hK.1 ci _ hcl).2
  obtain ⟨kA, comp, k1, k2, k3, -⟩ := (hK.2 t _ ht).2
  have hcomp : comp = G.1.1 ci := Option.some.inj (k3.symm.trans hcls.1)
  subst hcomp
  obtain ⟨kC, hkC, -⟩ := hcls.2
  refine W.aast S.1 S.2.1 (hR a _ ha).2 (fun q h => by cases h) (fun h => by cases h) k1 k2 rfl hkC ⟨h0, by show _ < (arrV _ _ _).slots.size; rw [arrV_size]; exact hlt⟩ g1 (fun q h => by rw [g3] at h; cases h) (by rw [g2]; exact hkC) (by rw [g2]; exact va_assign hcls) rfl rfl hd fun H1 e1 z oq => ?_
  refine kk p e s m args below meth c H1 _ cells slots ls S (hR.set ha ?_ oq) (hS.put z oq (hR a _ ha).1) hl hc hs
  show H1[a]? = some (vp_cell _ _)
  rw [e1]
  rw [vp_cell_q, vp_cell_q, arrV_store]
  congr 2
  funext q
  by_cases hq : q = i.toNatClampNeg
  · subst hq
    simp [updV, va_up, va_rf]
  · simp [updV, va_up, hq]
end JM
end
