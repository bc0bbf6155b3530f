section
/-! ===== BEGIN exceptions that leave a method, and their catching by the caller (launches without stack traces) ===== -/
section VXA
/-! The laws vx_back, vx_callV, vx_callS, vx_callSW, vx_throw0, vx_throwS follow proofs of the library, with one case more: JvmDerived/Free/Laws.lean (Back.of_free), Shelf42/LK1.lean (callV, callS), Shelf/KitTraced.lean (throwNew0V, throwNewS). -/
/-- where a method has thrown q: the class by its name, the cell, what was written, the world -/
def vx_T (XC : String → State → State → Prop) (st : State) (q : Addr) (t : State) (mc ms : Nat) (free : Addr → Prop) : Prop :=
  ∃ (E : String) (ce : Cell) (L : List Loc), XC E st t ∧ t.heap[q]? = some ce ∧ ce.vm = .none ∧ st.vm.findClass E = some ce.cls ∧ st.WarmedH t.vm ∧ st.sameButNew ({ t with vm := st.vm } : State) L mc ms ∧ ∀ z ∈ L, free z.base
def vx_Q (Qc : Array Value → State → Outcome → State → Prop) (XC : String → State → State → Prop) (mc ms : Nat) (free : Addr → Prop) : Array Value → State → Outcome → State → Prop := fun a st o t =>
  (Qc a st o t ∧ ∃ L, FrameEnd st o t L mc ms ∧ ∀ q ∈ L, free q.base) ∨ ∃ q, o = .threw q ∧ vx_T XC st q t mc ms free
/-- a callee that returns or throws -/
def vx_Met (l : Launch) (y : MethodName) (ws : List Cond) (rm : Room) (Pc : Array Value → State → Prop) (Qc : Array Value → State → Outcome → State → Prop) (XC : String → State → State → Prop) (mc ms : Nat) (free : Addr → Prop) : Prop :=
  MetFree l y (headSpec ws rm) Pc (fun _ _ _ _ _ => True) (vx_Q Qc XC mc ms free)
def vx_Post (XC : String → State → State → Prop) (mc ms : Nat) (free : Addr → Prop) : Pt → Array Value → Addr → Pt → Prop := fun A a q B =>
  ∃ (g : JFrame) (mk : MethodId) (t : State) (L : List Loc) (E : String) (ce : Cell), B.U.heap = t.heap ∧ B.U.vm = t.vm ∧ XC E (A.U.calling g mk a) t ∧ t.heap[q]? = some ce ∧ ce.vm = .none ∧ A.U.vm.findClass E = some ce.cls ∧ B.locs = A.locs ++ L ∧ (∀ z ∈ L, free z.base) ∧ B.cells = A.cells + mc ∧ B.slots = A.slots + ms
def vx_Back (l : Launch) (R : Room) (p : Program) (e : Env) (below : List Frame) (s : State) (sargs : Array Value) (y : MethodName) (len W9 : Nat)
    (Pre : Pt → Array Value → Prop) (Post : Pt → Array Value → Option Value → Pt → Prop) (PostX : Pt → Array Value → Addr → Pt → Prop) : Prop :=
  ∀ (m : MethodId) (meth : Method) (c : Code) (A : Pt) (g : JFrame) (ig : Instr) (mk : MethodId) (a : Array Value),
    Stand p l e R s m sargs below meth c A.U A.locs A.cells A.slots → g.method = m → g.locals.size = c.maxLocals → decode c.code g.pc = .ok (ig, len) →
    2 * g.monitorRoom + (g.stack.map fun v => v.category).sum ≤ W9 → A.U.methodNamed? y = some mk → Pre A a →
    (∃ (v : Option Value) (B : Pt), Stand p l e R s m sargs below meth c B.U B.locs B.cells B.slots ∧ Post A a v B ∧
      Steps p.tables e below (doInvoke e (A.U.setTop g) [] mk a).1 (B.U.setTop { g with pc := g.pc + len, stack := v.toList ++ g.stack })) ∨
    (∃ (q : Addr) (B : Pt), Stand p l e R s m sargs below meth c B.U B.locs B.cells B.slots ∧ PostX A a q B ∧
      Steps p.tables e below (doInvoke e (A.U.setTop g) [] mk a).1 ((B.U.setTop g).pushFrame (.throwing q)))
section Payer
variable {l : Launch} {R : Room} {p : Program} {e : Env} {below : List Frame} {s : State} {sargs : Array Value} {y : MethodName} {len W9 : Nat}
theorem vx_back {ws : List Cond} {rm : Room} {Pc : Array Value → State → Prop} {Qc : Array Value → State → Outcome → State → Prop} {XC : String → State → State → Prop} {mc ms : Nat} {free : Addr → Prop} {bytes : ByteArray} {maxL : Nat} {ret : Option FieldType}
    (hM : vx_Met l y ws rm Pc Qc XC mc ms free) (hblind : FrameBlind Pc) (hrc : rm.cells = mc) (hrs : rm.slots = ms)
    (hframes : rm.frames + 1 ≤ R.frames) (hlocals : W9 + (maxL + 11) + rm.locals ≤ R.locals)
    (hws : ∀ w ∈ ws, ∀ a' U, s.WarmedH U.vm → w.before a' U = true) (hcode : Cond.code y bytes maxL ret ∈ ws) (hinit : ∀ a' U, s.WarmedH U.vm → (Cond.initialized y.cls).before a' U = true) :
    vx_Back l R p e below s sargs y len W9 (PreOf R mc ms Pc) (PostOf Qc mc ms free) (vx_Post XC mc ms free) := by
  intro m meth c A g ig mk a X hg hsize hdg hW hn hp
  have h1 : (headSpec ws rm).pre.before a A.U = true := atoms_intro fun w hw => hws w hw _ _ X.warmed
  have h2 : (Cond.code y bytes maxL ret).before a A.U = true := hws _ hcode _ _ X.warmed
  have h3 : (Cond.initialized y.cls).before a A.U = true := hinit _ _ X.warmed
  have h4 : A.cells + (headSpec ws rm).room.cells ≤ R.cells := by rw [show (headSpec ws rm).room.cells = mc from hrc]; exact hp.1
  have h5 : A.slots + (headSpec ws rm).room.slots ≤ R.slots := by rw [show (headSpec ws rm).room.slots = ms from hrs]; exact hp.2.1
  have hPc : Pc a (A.U.calling g mk a) := hblind _ _ _ _ hp.2.2
  obtain ⟨U, Ls, c0, s0⟩ := A
  dsimp only [Pt.U, Pt.locs, Pt.cells, Pt.slots] at h1 h2 h3 h4 h5 X hn hPc ⊢
  obtain ⟨methY, cY, hmY, hcY, -, hlY, -, -, -, -⟩ := Cond.code_spec hn h2
  obtain ⟨kY, hkY, -⟩ := className_of_methodNamed hn
  have hinitY : kY.init = .initialized := Cond.initialized_spec (findClass_of_methodNamed hn) hkY h3
  have h : At U g.method c below := by rw [hg]; exact X.here
  have hlocals9 : W9 + (maxL + 11) + (headSpec ws rm).room.locals ≤ R.locals := hlocals
  have happ : (headSpec ws rm).appliesLoose y e.platform (U.calling g mk a) = true :=
    Spec.appliesLoose_calling (g := g) h hdg hn hkY hinitY
      (X.room_calling (g := g) (R' := (headSpec ws rm).room) hsize hmY hcY hframes (by rw [hlY]; omega) h4 h5) h1
  obtain ⟨mid, hmid⟩ := h.above
  have hfr : (U.setTop g).frames = (.java g :: mid) ++ below := by rw [State.frames_setTop' g h.top, hmid]; rfl
  obtain ⟨o, s₂, hsteps, -, hend, hq⟩ := Steps.callFree hM p X.admits X.cas X.clock (acts := []) hfr happ hPc trivial
  have hq' : vx_Q Qc XC mc ms free a (U.calling g mk a) o s₂ := hq
  rw [State.frames_setTop' g h.top] at hend
  obtain ⟨g₀, hg0⟩ := Option.isSome_iff_exists.mp h.top
  obtain ⟨r, hr⟩ := State.topJava?_eq_some.mp hg0
  have hr' : (({ U with heap := s₂.heap, slotsUsed := s₂.slotsUsed } : State).setVm s₂.vm).frames = .java g₀ :: r := hr
  rcases hq' with ⟨hqc, L, hfe, hL⟩ | ⟨q, rfl, E, ce, L, hx, hce, hcv, hcl, hW₂, hsm, hL⟩
  · obtain ⟨⟨v, rfl⟩, hW₂, e2, q2, q3, q4, q5, q6⟩ := id hfe
    have e3 : s₂ = ({ (U.calling g mk a).setFrames s₂.frames with heap := s₂.heap, slotsUsed := s₂.slotsUsed } : State).setVm s₂.vm := by
      have : s₂ = ({ s₂ with vm := (U.calling g mk a).vm } : State).setVm s₂.vm := rfl
      rw [e2] at this
      exact this
    obtain ⟨c₂, i₂, len₂, hc₂, hd₂, hf₂⟩ := hend
    have hW' : U.WarmedH s₂.vm := hW₂
    have hcc : c₂ = c := by
      have h1 : s₂.code? g.method = U.code? g.method := by
        rw [State.code?_eq, State.code?_eq, hW'.alike.method?]
      exact Option.some.inj (hc₂.symm.trans (h1.trans h.code))
    subst hcc
    have hlen : len₂ = len := by rw [hdg] at hd₂; cases hd₂; rfl
    subst hlen
    have hs₂ : s₂ = (({ U with heap := s₂.heap, slotsUsed := s₂.slotsUsed } : State).setVm s₂.vm).setTop { g with pc := g.pc + len₂, stack := v.toList ++ g.stack } := by
      refine e3.trans ?_
      rw [hf₂, State.calling_eq h.top, State.setFrames_setFrames, State.setTop_of_frames _ hr', hr]
      rfl
    have hsame : U.sameButNew ({ U with heap := s₂.heap, slotsUsed := s₂.slotsUsed } : State) L mc ms := by
      refine ⟨?_, q2, q3, q4, q5, q6⟩
      obtain ⟨t, ht, -⟩ := State.frames_cons hr
      show ({ U with heap := s₂.heap, slotsUsed := s₂.slotsUsed } : State) = { U.setFrames U.frames with heap := s₂.heap, slotsUsed := s₂.slotsUsed }
      rw [State.setFrames_self ht]
    subst hg
    refine Or.inl ⟨v, ⟨(({ U with heap := s₂.heap, slotsUsed := s₂.slotsUsed } : State).setVm s₂.vm), Ls ++ L, c0 + mc, s0 + ms⟩,
      ⟨X.admits, X.cas, X.clock, X.frames, X.room, X.hears, X.method, X.code, (X.here.setHeapUsed s₂.heap s₂.slotsUsed).setVm hW'.alike, X.tail, State.WarmedH.trans X.warmed hW', X.limits, X.bytes, X.same.trans (hsame.setVm s.vm)⟩,
      ⟨g, mk, s₂, L, rfl, rfl, hqc, rfl, hL, rfl, rfl⟩, ?_⟩
    show Steps p.tables e below _ ((({ U with heap := s₂.heap, slotsUsed := s₂.slotsUsed } : State).setVm s₂.vm).setTop { g with pc := g.pc + len₂, stack := v.toList ++ g.stack })
    rw [← hs₂]
    exact hsteps
  · obtain ⟨e2, q2, q3, q4, q5, q6⟩ := id hsm
    have e3 : s₂ = ({ (U.calling g mk a).setFrames s₂.frames with heap := s₂.heap, slotsUsed := s₂.slotsUsed } : State).setVm s₂.vm := by
      have : s₂ = ({ s₂ with vm := (U.calling g mk a).vm } : State).setVm s₂.vm := rfl
      rw [e2] at this
      exact this
    have hf₂ : s₂.frames = .throwing q :: .java g :: U.frames.tail := hend
    have hW' : U.WarmedH s₂.vm := hW₂
    have hs₂ : s₂ = ((({ U with heap := s₂.heap, slotsUsed := s₂.slotsUsed } : State).setVm s₂.vm).setTop g).pushFrame (.throwing q) := by
      refine e3.trans ?_
      rw [hf₂, State.calling_eq h.top, State.setFrames_setFrames, State.pushFrame, State.frames_setTop _ hr', State.setTop_of_frames _ hr', State.setFrames_setFrames, hr]
      rfl
    have hsame : U.sameButNew ({ U with heap := s₂.heap, slotsUsed := s₂.slotsUsed } : State) L mc ms := by
      refine ⟨?_, q2, q3, q4, q5, q6⟩
      obtain ⟨t, ht, -⟩ := State.frames_cons hr
      show ({ U with heap := s₂.heap, slotsUsed := s₂.slotsUsed } : State) = { U.setFrames U.frames with heap := s₂.heap, slotsUsed := s₂.slotsUsed }
      rw [State.setFrames_self ht]
    subst hg
    refine Or.inr ⟨q, ⟨(({ U with heap := s₂.heap, slotsUsed := s₂.slotsUsed } : State).setVm s₂.vm), Ls ++ L, c0 + mc, s0 + ms⟩,
      ⟨X.admits, X.cas, X.clock, X.frames, X.room, X.hears, X.method, X.code, (X.here.setHeapUsed s₂.heap s₂.slotsUsed).setVm hW'.alike, X.tail, State.WarmedH.trans X.warmed hW', X.limits, X.bytes, X.same.trans (hsame.setVm s.vm)⟩,
      ⟨g, mk, s₂, L, E, ce, rfl, rfl, hx, hce, hcv, hcl, rfl, hL, rfl, rfl⟩, ?_⟩
    show Steps p.tables e below _ (((({ U with heap := s₂.heap, slotsUsed := s₂.slotsUsed } : State).setVm s₂.vm).setTop g).pushFrame (.throwing q))
    rw [← hs₂]
    exact hsteps
end Payer
section Calls
variable {p : Program} {l : Launch} {e : Env} {R : Room} {s : State} {m : MethodId} {args : Array Value} {below : List Frame} {meth : Method} {c : Code} {T : State} {locs : List Loc} {cells slots : Nat}
theorem vx_callV (X : Stand p l e R s m args below meth c T locs cells slots) (hexec : p.tables.exec = Jvm.exec) {own C : String} {index : Nat} {y : MethodName} {bytes : ByteArray} {maxL : Nat} {ret : Option FieldType}
    (hown : s.vm.findClass own = some m.cls) (hlink : (Cond.methodLink own index y).before args s = true) (hinst : (Cond.instanceMethod y).before args s = true) (hsel : (Cond.selects C y y).before args s = true)
    (hcode : (Cond.code y bytes maxL ret).before args s = true) (hy : y.cls ≠ "java/lang/invoke/MethodHandle" ∧ y.cls ≠ "java/lang/invoke/VarHandle")
    {W9 : Nat} {Pre : Pt → Array Value → Prop} {Post : Pt → Array Value → Option Value → Pt → Prop} {PostX : Pt → Array Value → Addr → Pt → Prop} (hK : vx_Back l R p e below s args y 3 W9 Pre Post PostX)
    {b : Addr} {cellB : Cell} (hcell : T.heap[b]? = some cellB) (hobj : cellB.vm.isStatics = false) (hcls : s.vm.findClass C = some cellB.cls)
    {g : JFrame} (hg : g.method = m) (hsize : g.locals.size = c.maxLocals) {argsL rest : List Value} (hlen : ∀ sig, parseMethodDescriptor y.desc = some sig → argsL.length = sig.parameters.length)
    (hstack : g.stack = argsL.reverse ++ .ref b :: rest) (hW : 2 * g.monitorRoom + (rest.map fun v => v.category).sum ≤ W9) (hdg : decode c.code g.pc = .ok (.invokevirtual index, 3))
    (hpre : ∀ vm₁, s.WarmedH vm₁ → Pre ⟨T.setVm vm₁, locs, cells, slots⟩ (Value.ref b :: argsL).toArray) :
    (∃ (v : Option Value) (vm₁ : Vm) (B : Pt), s.WarmedH vm₁ ∧ Stand p l e R s m args below meth c B.U B.locs B.cells B.slots ∧ Post ⟨T.setVm vm₁, locs, cells, slots⟩ (Value.ref b :: argsL).toArray v B ∧
      ∀ target, Steps p.tables e below (B.U.setTop { g with pc := g.pc + 3, stack := v.toList ++ rest }) target → Steps p.tables e below (T.setTop g) target) ∨
    (∃ (q : Addr) (vm₁ : Vm) (B : Pt), s.WarmedH vm₁ ∧ Stand p l e R s m args below meth c B.U B.locs B.cells B.slots ∧ PostX ⟨T.setVm vm₁, locs, cells, slots⟩ (Value.ref b :: argsL).toArray q B ∧
      Steps p.tables e below (T.setTop g) ((B.U.setTop { g with stack := rest }).pushFrame (.throwing q))) := by
  obtain ⟨mk, methM, hnamed, hmethM, hstM, habM⟩ := Cond.instanceMethod_spec hinst
  obtain ⟨methM', cM, hmethM', -, -, -, -, -, -, hsigM⟩ := Cond.code_spec hnamed hcode
  cases hmethM.symm.trans hmethM'
  obtain ⟨c2, r2, m2, q1, q2, q3, q4, kP, hkP, hkPi⟩ := Cond.selects_spec hsel
  cases hcls.symm.trans q1
  cases (State.methodFound?_of_named hnamed hy).symm.trans q2
  cases hnamed.symm.trans q3
  have hselP : selectMethod e.platform s.vm cellB.cls mk = .method mk := by rw [Launch.admits_selectMethod X.admits]; exact q4
  obtain ⟨vm₁, X₁, hstep₁⟩ := X.invokevirtual hexec hown hlink hnamed hmethM hstM hkP hkPi hy (a := b) (cell := cellB) hcell
    (fun z h => by rw [h] at hobj; cases hobj) hselP hmethM habM hkP hkPi (g := g) hg (argsL := argsL) (rest := rest) (hlen _ hsigM) hstack hdg
  rcases hK m meth c ⟨T.setVm vm₁, locs, cells, slots⟩ { g with stack := rest } (.invokevirtual index) mk (Value.ref b :: argsL).toArray X₁ hg hsize hdg hW (X₁.named hnamed) (hpre vm₁ X₁.warmed) with ⟨v, B, X', hpost, hsteps⟩ | ⟨q, B, X', hpost, hsteps⟩
  · exact Or.inl ⟨v, vm₁, B, X₁.warmed, X', hpost, fun target h => hstep₁ _ fun acts => by rw [doInvoke_state]; exact hsteps.trans h⟩
  · exact Or.inr ⟨q, vm₁, B, X₁.warmed, X', hpost, hstep₁ _ fun acts => by rw [doInvoke_state]; exact hsteps⟩
theorem vx_callS (X : Stand p l e R s m args below meth c T locs cells slots) (hexec : p.tables.exec = Jvm.exec) {own : String} {index : Nat} {y : MethodName} {bytes : ByteArray} {maxL : Nat} {ret : Option FieldType}
    (hown : s.vm.findClass own = some m.cls) (hlink : (Cond.methodLink own index y).before args s = true) (hstat : (Cond.static y).before args s = true) (hinit : (Cond.initialized y.cls).before args s = true)
    (hcode : (Cond.code y bytes maxL ret).before args s = true) (hy : y.cls ≠ "java/lang/invoke/MethodHandle" ∧ y.cls ≠ "java/lang/invoke/VarHandle")
    {W9 : Nat} {Pre : Pt → Array Value → Prop} {Post : Pt → Array Value → Option Value → Pt → Prop} {PostX : Pt → Array Value → Addr → Pt → Prop} (hK : vx_Back l R p e below s args y 3 W9 Pre Post PostX)
    {g : JFrame} (hg : g.method = m) (hsize : g.locals.size = c.maxLocals) {argsL rest : List Value} (hlen : ∀ sig, parseMethodDescriptor y.desc = some sig → argsL.length = sig.parameters.length)
    (hstack : g.stack = argsL.reverse ++ rest) (hW : 2 * g.monitorRoom + (rest.map fun v => v.category).sum ≤ W9) (hdg : decode c.code g.pc = .ok (.invokestatic index, 3))
    (hpre : ∀ vm₁, s.WarmedH vm₁ → Pre ⟨T.setVm vm₁, locs, cells, slots⟩ argsL.toArray) :
    (∃ (v : Option Value) (vm₁ : Vm) (B : Pt), s.WarmedH vm₁ ∧ Stand p l e R s m args below meth c B.U B.locs B.cells B.slots ∧ Post ⟨T.setVm vm₁, locs, cells, slots⟩ argsL.toArray v B ∧
      ∀ target, Steps p.tables e below (B.U.setTop { g with pc := g.pc + 3, stack := v.toList ++ rest }) target → Steps p.tables e below (T.setTop g) target) ∨
    (∃ (q : Addr) (vm₁ : Vm) (B : Pt), s.WarmedH vm₁ ∧ Stand p l e R s m args below meth c B.U B.locs B.cells B.slots ∧ PostX ⟨T.setVm vm₁, locs, cells, slots⟩ argsL.toArray q B ∧
      Steps p.tables e below (T.setTop g) ((B.U.setTop { g with stack := rest }).pushFrame (.throwing q))) := by
  obtain ⟨mk, hnamed⟩ := Cond.code_named hcode
  obtain ⟨methM, cM, hmethM, -, -, -, -, -, -, hsigM⟩ := Cond.code_spec hnamed hcode
  have hstatic : methM.isStatic = true := Cond.static_spec hnamed hmethM hstat
  obtain ⟨kP, hkP, -⟩ := className_of_methodNamed hnamed
  have hinitP : kP.init = .initialized := Cond.initialized_spec (findClass_of_methodNamed hnamed) hkP hinit
  obtain ⟨vm₁, X₁, hstep₁⟩ := X.invokestatic hexec hown hlink hnamed hmethM hstatic hkP hinitP hy (g := g) hg (argsL := argsL) (rest := rest) (hlen _ hsigM) hstack hdg
  rcases hK m meth c ⟨T.setVm vm₁, locs, cells, slots⟩ { g with stack := rest } (.invokestatic index) mk argsL.toArray X₁ hg hsize hdg hW (X₁.named hnamed) (hpre vm₁ X₁.warmed) with ⟨v, B, X', hpost, hsteps⟩ | ⟨q, B, X', hpost, hsteps⟩
  · exact Or.inl ⟨v, vm₁, B, X₁.warmed, X', hpost, fun target h => hstep₁ _ fun acts => by rw [doInvoke_state]; exact hsteps.trans h⟩
  · exact Or.inr ⟨q, vm₁, B, X₁.warmed, X', hpost, hstep₁ _ fun acts => by rw [doInvoke_state]; exact hsteps⟩
end Calls
theorem vx_cls {s : State} {T : State} {vm₁ : Vm} {E : String} {k : ClassId} (hW : s.WarmedH vm₁) (h : (T.setVm vm₁).vm.findClass E = some k) : s.vm.findClass E = some k := by
  have h1 : vm₁.findClass E = some k := h
  rw [hW.alike.findClass] at h1
  exact h1
/-- the method's frame g, with q thrown over it -/
def vx_W (p : Program) (l : Launch) (e : Env) (R : Room) (s : State) (m : MethodId) (args : Array Value) (below : List Frame) (meth : Method) (c : Code) (H : Heap) (locs : List Loc) (cells slots : Nat) (Q : State → Prop) (g : JFrame) (q : Addr) : Prop :=
  ∀ T : State, T.heap = H → Stand p l e R s m args below meth c T locs cells slots → ∃ t, Steps p.tables e below ((T.setTop g).pushFrame (.throwing q)) t ∧ Q t
def vx_Run (p : Program) (l : Launch) (e : Env) (R : Room) (s : State) (m : MethodId) (args : Array Value) (below : List Frame) (meth : Method) (c : Code) (H : Heap) (locs : List Loc) (cells slots mc ms : Nat) (g : JFrame) (rest : List Value) (Qa : State → Outcome → State → Prop) (XC : String → State → State → Prop) (free : Addr → Prop) : Prop :=
  ∀ T : State, T.heap = H → Stand p l e R s m args below meth c T locs cells slots →
    (∃ (v : Option Value) (st₀ t T' : State) (L : List Loc), st₀.heap = H ∧ Stand p l e R s m args below meth c T' (locs ++ L) (cells + mc) (slots + ms) ∧ (∀ q ∈ L, free q.base) ∧ T'.heap = t.heap ∧ T'.vm = t.vm ∧ Qa st₀ (.returned v) t ∧
      Goes p e below T g T' { g with pc := g.pc + 3, stack := v.toList ++ rest }) ∨
    (∃ (q : Addr) (st₀ t T' : State) (L : List Loc) (E : String) (ce : Cell), st₀.heap = H ∧ Stand p l e R s m args below meth c T' (locs ++ L) (cells + mc) (slots + ms) ∧ (∀ z ∈ L, free z.base) ∧ T'.heap = t.heap ∧ T'.vm = t.vm ∧ XC E st₀ t ∧ t.heap[q]? = some ce ∧ ce.vm = .none ∧ s.vm.findClass E = some ce.cls ∧
      Steps p.tables e below (T.setTop g) ((T'.setTop { g with stack := rest }).pushFrame (.throwing q)))
def vx_X {S : Type} (px : S → Prop) (B : String → S → State → Prop) (A : Nat → Prop) : String → State → State → Prop := fun E st t => ∃ u : S, px u ∧ B E u t ∧ va_F A st t
section Runs
variable {p : Program} {l : Launch} {e : Env} {R : Room} {s : State} {m : MethodId} {args : Array Value} {below : List Frame} {meth : Method} {c : Code} {H : Heap} {locs : List Loc} {cells slots : Nat}
variable {y : MethodName} {bytes cc : ByteArray} {maxL nL mc ms n index : Nat} {ret : Option FieldType} {ws : List Cond} {rm : Room} {Pc : Array Value → State → Prop} {Qc : Array Value → State → Outcome → State → Prop} {XC : String → State → State → Prop} {free : Addr → Prop} {Ts : List Cond} {own C : String} {b : Addr} {As rest : List Value} {g : JFrame}
theorem vx_callBack (cb : CallB R s args own index y bytes maxL ret ws rm mc ms n) (hM : vx_Met l y ws rm Pc Qc XC mc ms free) (hbl : FrameBlind Pc) : vx_Back l R p e below s args y 3 8 (PreOf R mc ms Pc) (PostOf Qc mc ms free) (vx_Post XC mc ms free) := by
  obtain ⟨hrc, hrs, hfr, hlo, hws, hcw, -, hini, -⟩ := cb
  exact vx_back (bytes := bytes) (maxL := maxL) (ret := ret) hM hbl hrc hrs hfr hlo hws hcw (fun a' U hW => word_at hW (Or.inl (by first | rfl | simp [Cond.onTables, Cond.keeps, Cond.steady])) hini)
theorem vx_runV (S : CallFix p m c cc nL s args Ts own) (hM : vx_Met l y ws rm Pc Qc XC mc ms free) (cw : CallW R s args own C index y bytes maxL ret ws rm mc ms n) (hp : PreV s H C b Pc As)
    (hg : g.method = m) (hn : As.length = n) (hsize : g.locals.size = nL) (hstack : g.stack = As.reverse ++ .ref b :: rest) (hW : 2 * g.monitorRoom + (rest.map fun v => v.category).sum ≤ 8) (hdg : decode cc g.pc = .ok (.invokevirtual index, 3)) (hf : cells + mc ≤ R.cells ∧ slots + ms ≤ R.slots) :
    vx_Run p l e R s m args below meth c H locs cells slots mc ms g rest (Qc (Value.ref b :: As).toArray) XC free := by
  have hK : vx_Back l R p e below s args y 3 8 (PreOf R mc ms Pc) (PostOf Qc mc ms free) (vx_Post XC mc ms free) := vx_callBack cw.1 hM hp.1
  obtain ⟨⟨-, -, -, -, -, -, hcode, -, hy, hlen, hl⟩, hin, hse⟩ := cw
  obtain ⟨hx, hb, hml, ho, -⟩ := S
  obtain ⟨-, ⟨cellB, hcB, hoB, hclB⟩, hPc⟩ := hp
  intro T hT X
  rcases vx_callV X hx (C := C) (bytes := bytes) (maxL := maxL) (ret := ret) ho hl hin hse hcode hy hK (by rw [hT]; exact hcB) hoB hclB hg (hsize.trans hml.symm) (argsL := As) (rest := rest) (fun sig h => hn.trans (hlen sig h)) hstack hW (by rw [hb]; exact hdg)
    (fun vm₁ hW₁ => ⟨hf.1, hf.2, hPc (T.setVm vm₁) hT hW₁⟩) with ⟨v, vm₁, ⟨U', l2, c2, s2⟩, hW₁, X', ⟨g', mk, t, L, e1, e2, hq, h1, hL, h2, h3⟩, st⟩ | ⟨q, vm₁, ⟨U', l2, c2, s2⟩, hW₁, X', ⟨g', mk, t, L, E, ce, e1, e2, hq, hce, hcv, hcl, h1, hL, h2, h3⟩, st⟩
  · dsimp only [Pt.U, Pt.locs, Pt.cells, Pt.slots] at X' e1 e2 h1 h2 h3 st
    subst h1; subst h2; subst h3
    exact Or.inl ⟨v, (T.setVm vm₁).calling g' mk (Value.ref b :: As).toArray, t, U', L, hT, X', hL, e1, e2, hq, st⟩
  · dsimp only [Pt.U, Pt.locs, Pt.cells, Pt.slots] at X' e1 e2 h1 h2 h3 st hcl
    subst h1; subst h2; subst h3
    exact Or.inr ⟨q, (T.setVm vm₁).calling g' mk (Value.ref b :: As).toArray, t, U', L, E, ce, hT, X', hL, e1, e2, hq, hce, hcv, vx_cls hW₁ hcl, st⟩
theorem vx_runS (S : CallFix p m c cc nL s args Ts own) (hM : vx_Met l y ws rm Pc Qc XC mc ms free) (cw : CallB R s args own index y bytes maxL ret ws rm mc ms n ∧ (Cond.static y).before args s = true) (hp : PreS s H Pc As)
    (hg : g.method = m) (hn : As.length = n) (hsize : g.locals.size = nL) (hstack : g.stack = As.reverse ++ rest) (hW : 2 * g.monitorRoom + (rest.map fun v => v.category).sum ≤ 8) (hdg : decode cc g.pc = .ok (.invokestatic index, 3)) (hf : cells + mc ≤ R.cells ∧ slots + ms ≤ R.slots) :
    vx_Run p l e R s m args below meth c H locs cells slots mc ms g rest (Qc As.toArray) XC free := by
  have hK : vx_Back l R p e below s args y 3 8 (PreOf R mc ms Pc) (PostOf Qc mc ms free) (vx_Post XC mc ms free) := vx_callBack cw.1 hM hp.1
  obtain ⟨⟨-, -, -, -, -, -, hcode, hini, hy, hlen, hl⟩, hstt⟩ := cw
  obtain ⟨hx, hb, hml, ho, -⟩ := S
  intro T hT X
  rcases vx_callS X hx (bytes := bytes) (maxL := maxL) (ret := ret) ho hl hstt hini hcode hy hK hg (hsize.trans hml.symm) (argsL := As) (rest := rest) (fun sig h => hn.trans (hlen sig h)) hstack hW (by rw [hb]; exact hdg)
    (fun vm₁ hW₁ => ⟨hf.1, hf.2, hp.2 (T.setVm vm₁) hT hW₁⟩) with ⟨v, vm₁, ⟨U', l2, c2, s2⟩, hW₁, X', ⟨g', mk, t, L, e1, e2, hq, h1, hL, h2, h3⟩, st⟩ | ⟨q, vm₁, ⟨U', l2, c2, s2⟩, hW₁, X', ⟨g', mk, t, L, E, ce, e1, e2, hq, hce, hcv, hcl, h1, hL, h2, h3⟩, st⟩
  · dsimp only [Pt.U, Pt.locs, Pt.cells, Pt.slots] at X' e1 e2 h1 h2 h3 st
    subst h1; subst h2; subst h3
    exact Or.inl ⟨v, (T.setVm vm₁).calling g' mk As.toArray, t, U', L, hT, X', hL, e1, e2, hq, st⟩
  · dsimp only [Pt.U, Pt.locs, Pt.cells, Pt.slots] at X' e1 e2 h1 h2 h3 st hcl
    subst h1; subst h2; subst h3
    exact Or.inr ⟨q, (T.setVm vm₁).calling g' mk As.toArray, t, U', L, E, ce, hT, X', hL, e1, e2, hq, hce, hcv, vx_cls hW₁ hcl, st⟩
end Runs
section Rows
variable {p : Program} {l : Launch} {e : Env} {R : Room} {s : State} {m : MethodId} {args : Array Value} {below : List Frame} {meth : Method} {c : Code} {H : Heap} {locs : List Loc} {cells slots : Nat} {Q : State → Prop}
variable {mc ms : Nat} {free : Addr → Prop} {A0 A1 : Nat → Prop} {H0 : Heap} {a : Array Value} {pc : Nat} {ls : Array Slot} {st0 rest : List Value}
theorem vx_keep {st₀ t T' : State} {L : List Loc} (h0 : st₀.heap = H) (e1 : T'.heap = t.heap) (hS : va_S A0 H0 H locs) (hA : ∀ q, q < H.size → A1 q → A0 q) (hf : ∀ q, free q → A0 q) (hL : ∀ q ∈ L, free q.base) (hF : va_F A1 st₀ t) :
    H.size ≤ T'.heap.size ∧ (∀ q : Nat, q < H.size → ¬ A1 q → T'.heap[q]? = H[q]?) ∧ va_S A0 H0 T'.heap (locs ++ L) := by
  obtain ⟨hz, hk⟩ := hF
  rw [h0] at hz hk
  exact ⟨by rw [e1]; exact hz, fun q h1 h2 => by rw [e1]; exact hk q h1 h2,
    ⟨Nat.le_trans hS.1 (by rw [e1]; exact hz), fun q h1 h2 => by rw [e1, hk q (Nat.lt_of_lt_of_le h1 hS.1) (fun z => h2 (hA q (Nat.lt_of_lt_of_le h1 hS.1) z))]; exact hS.2.1 q h1 h2, fun q hq => by
      rcases List.mem_append.mp hq with h | h
      · exact hS.2.2 q h
      · exact hf _ (hL q h)⟩⟩
theorem vx_calli {S SX : Type} {post : Int32 → S → Prop} {px : SX → Prop} {B : S → State → Prop} {BX : String → SX → State → Prop} {AX : Nat → Prop} (hr : vx_Run p l e R s m args below meth c H locs cells slots mc ms (F0 m pc ls st0) rest (va_Qi post B A1 a) (vx_X px BX AX) free) (hS : va_S A0 H0 H locs) (hA : ∀ q, q < H.size → A1 q → A0 q) (hf : ∀ q, free q → A0 q) (hAX : ∀ q, q < H.size → AX q → A0 q)
    (kx : ∀ (E : String) (ce : Cell) (q9 : Addr) (u : SX) (t : State) (H1 : Heap) (locs1 : List Loc), t.heap = H1 → s.vm.Alike t.vm → px u → BX E u t → H.size ≤ H1.size → (∀ q : Nat, q < H.size → ¬ AX q → H1[q]? = H[q]?) → va_S A0 H0 H1 locs1 → H1[q9]? = some ce → ce.vm = .none → s.vm.findClass E = some ce.cls → vx_W p l e R s m args below meth c H1 locs1 (cells + mc) (slots + ms) Q (F0 m pc ls rest) q9)
    (kk : ∀ (r : Int32) (u : S) (t : State) (H1 : Heap) (locs1 : List Loc), t.heap = H1 → s.vm.Alike t.vm → post r u → B u t → H.size ≤ H1.size → (∀ q : Nat, q < H.size → ¬ A1 q → H1[q]? = H[q]?) → va_S A0 H0 H1 locs1 → W p l e R s m args below meth c H1 locs1 (cells + mc) (slots + ms) Q (F0 m (pc + 3) ls (.int r :: rest))) : W p l e R s m args below meth c H locs cells slots Q (F0 m pc ls st0) := by
  intro T hT X
  rcases hr T hT X with ⟨v, st₀, t, T', L, h0, X', hL, e1, e2, ⟨⟨r, u, hv, hp, hb⟩, hF⟩, st⟩ | ⟨q, st₀, t, T', L, E, ce, h0, X', hL, e1, e2, ⟨u, hp, hb, hF⟩, hce, hcv, hcl, st⟩
  · cases hv
    obtain ⟨k1, k2, k3⟩ := vx_keep h0 e1 hS hA hf hL hF
    obtain ⟨t2, a1, b1⟩ := kk r u t T'.heap (locs ++ L) e1.symm (by rw [← e2]; exact X'.warmed.alike) hp hb k1 k2 k3 T' rfl X'
    exact ⟨t2, st t2 a1, b1⟩
  · obtain ⟨k1, k2, k3⟩ := vx_keep h0 e1 hS hAX hf hL hF
    obtain ⟨t2, a1, b1⟩ := kx E ce q u t T'.heap (locs ++ L) e1.symm (by rw [← e2]; exact X'.warmed.alike) hp hb k1 k2 k3 (by rw [e1]; exact hce) hcv hcl T' rfl X'
    exact ⟨t2, st.trans a1, b1⟩
theorem vx_calll {S SX : Type} {post : Int64 → S → Prop} {px : SX → Prop} {B : S → State → Prop} {BX : String → SX → State → Prop} {AX : Nat → Prop} (hr : vx_Run p l e R s m args below meth c H locs cells slots mc ms (F0 m pc ls st0) rest (va_Ql post B A1 a) (vx_X px BX AX) free) (hS : va_S A0 H0 H locs) (hA : ∀ q, q < H.size → A1 q → A0 q) (hf : ∀ q, free q → A0 q) (hAX : ∀ q, q < H.size → AX q → A0 q)
    (kx : ∀ (E : String) (ce : Cell) (q9 : Addr) (u : SX) (t : State) (H1 : Heap) (locs1 : List Loc), t.heap = H1 → s.vm.Alike t.vm → px u → BX E u t → H.size ≤ H1.size → (∀ q : Nat, q < H.size → ¬ AX q → H1[q]? = H[q]?) → va_S A0 H0 H1 locs1 → H1[q9]? = some ce → ce.vm = .none → s.vm.findClass E = some ce.cls → vx_W p l e R s m args below meth c H1 locs1 (cells + mc) (slots + ms) Q (F0 m pc ls rest) q9)
    (kk : ∀ (r : Int64) (u : S) (t : State) (H1 : Heap) (locs1 : List Loc), t.heap = H1 → s.vm.Alike t.vm → post r u → B u t → H.size ≤ H1.size → (∀ q : Nat, q < H.size → ¬ A1 q → H1[q]? = H[q]?) → va_S A0 H0 H1 locs1 → W p l e R s m args below meth c H1 locs1 (cells + mc) (slots + ms) Q (F0 m (pc + 3) ls (.long r :: rest))) : W p l e R s m args below meth c H locs cells slots Q (F0 m pc ls st0) := by
  intro T hT X
  rcases hr T hT X with ⟨v, st₀, t, T', L, h0, X', hL, e1, e2, ⟨⟨r, u, hv, hp, hb⟩, hF⟩, st⟩ | ⟨q, st₀, t, T', L, E, ce, h0, X', hL, e1, e2, ⟨u, hp, hb, hF⟩, hce, hcv, hcl, st⟩
  · cases hv
    obtain ⟨k1, k2, k3⟩ := vx_keep h0 e1 hS hA hf hL hF
    obtain ⟨t2, a1, b1⟩ := kk r u t T'.heap (locs ++ L) e1.symm (by rw [← e2]; exact X'.warmed.alike) hp hb k1 k2 k3 T' rfl X'
    exact ⟨t2, st t2 a1, b1⟩
  · obtain ⟨k1, k2, k3⟩ := vx_keep h0 e1 hS hAX hf hL hF
    obtain ⟨t2, a1, b1⟩ := kx E ce q u t T'.heap (locs ++ L) e1.symm (by rw [← e2]; exact X'.warmed.alike) hp hb k1 k2 k3 (by rw [e1]; exact hce) hcv hcl T' rfl X'
    exact ⟨t2, st.trans a1, b1⟩
theorem vx_callf {S SX : Type} {post : UInt32 → S → Prop} {px : SX → Prop} {B : S → State → Prop} {BX : String → SX → State → Prop} {AX : Nat → Prop} (hr : vx_Run p l e R s m args below meth c H locs cells slots mc ms (F0 m pc ls st0) rest (va_Qf post B A1 a) (vx_X px BX AX) free) (hS : va_S A0 H0 H locs) (hA : ∀ q, q < H.size → A1 q → A0 q) (hf : ∀ q, free q → A0 q) (hAX : ∀ q, q < H.size → AX q → A0 q)
    (kx : ∀ (E : String) (ce : Cell) (q9 : Addr) (u : SX) (t : State) (H1 : Heap) (locs1 : List Loc), t.heap = H1 → s.vm.Alike t.vm → px u → BX E u t → H.size ≤ H1.size → (∀ q : Nat, q < H.size → ¬ AX q → H1[q]? = H[q]?) → va_S A0 H0 H1 locs1 → H1[q9]? = some ce → ce.vm = .none → s.vm.findClass E = some ce.cls → vx_W p l e R s m args below meth c H1 locs1 (cells + mc) (slots + ms) Q (F0 m pc ls rest) q9)
    (kk : ∀ (r : UInt32) (u : S) (t : State) (H1 : Heap) (locs1 : List Loc), t.heap = H1 → s.vm.Alike t.vm → post r u → B u t → H.size ≤ H1.size → (∀ q : Nat, q < H.size → ¬ A1 q → H1[q]? = H[q]?) → va_S A0 H0 H1 locs1 → W p l e R s m args below meth c H1 locs1 (cells + mc) (slots + ms) Q (F0 m (pc + 3) ls (.float r :: rest))) : W p l e R s m args below meth c H locs cells slots Q (F0 m pc ls st0) := by
  intro T hT X
  rcases hr T hT X with ⟨v, st₀, t, T', L, h0, X', hL, e1, e2, ⟨⟨r, u, hv, hp, hb⟩, hF⟩, st⟩ | ⟨q, st₀, t, T', L, E, ce, h0, X', hL, e1, e2, ⟨u, hp, hb, hF⟩, hce, hcv, hcl, st⟩
  · cases hv
    obtain ⟨k1, k2, k3⟩ := vx_keep h0 e1 hS hA hf hL hF
    obtain ⟨t2, a1, b1⟩ := kk r u t T'.heap (locs ++ L) e1.symm (by rw [← e2]; exact X'.warmed.alike) hp hb k1 k2 k3 T' rfl X'
    exact ⟨t2, st t2 a1, b1⟩
  · obtain ⟨k1, k2, k3⟩ := vx_keep h0 e1 hS hAX hf hL hF
    obtain ⟨t2, a1, b1⟩ := kx E ce q u t T'.heap (locs ++ L) e1.symm (by rw [← e2]; exact X'.warmed.alike) hp hb k1 k2 k3 (by rw [e1]; exact hce) hcv hcl T' rfl X'
    exact ⟨t2, st.trans a1, b1⟩
theorem vx_calld {S SX : Type} {post : UInt64 → S → Prop} {px : SX → Prop} {B : S → State → Prop} {BX : String → SX → State → Prop} {AX : Nat → Prop} (hr : vx_Run p l e R s m args below meth c H locs cells slots mc ms (F0 m pc ls st0) rest (va_Qd post B A1 a) (vx_X px BX AX) free) (hS : va_S A0 H0 H locs) (hA : ∀ q, q < H.size → A1 q → A0 q) (hf : ∀ q, free q → A0 q) (hAX : ∀ q, q < H.size → AX q → A0 q)
    (kx : ∀ (E : String) (ce : Cell) (q9 : Addr) (u : SX) (t : State) (H1 : Heap) (locs1 : List Loc), t.heap = H1 → s.vm.Alike t.vm → px u → BX E u t → H.size ≤ H1.size → (∀ q : Nat, q < H.size → ¬ AX q → H1[q]? = H[q]?) → va_S A0 H0 H1 locs1 → H1[q9]? = some ce → ce.vm = .none → s.vm.findClass E = some ce.cls → vx_W p l e R s m args below meth c H1 locs1 (cells + mc) (slots + ms) Q (F0 m pc ls rest) q9)
    (kk : ∀ (r : UInt64) (u : S) (t : State) (H1 : Heap) (locs1 : List Loc), t.heap = H1 → s.vm.Alike t.vm → post r u → B u t → H.size ≤ H1.size → (∀ q : Nat, q < H.size → ¬ A1 q → H1[q]? = H[q]?) → va_S A0 H0 H1 locs1 → W p l e R s m args below meth c H1 locs1 (cells + mc) (slots + ms) Q (F0 m (pc + 3) ls (.double r :: rest))) : W p l e R s m args below meth c H locs cells slots Q (F0 m pc ls st0) := by
  intro T hT X
  rcases hr T hT X with ⟨v, st₀, t, T', L, h0, X', hL, e1, e2, ⟨⟨r, u, hv, hp, hb⟩, hF⟩, st⟩ | ⟨q, st₀, t, T', L, E, ce, h0, X', hL, e1, e2, ⟨u, hp, hb, hF⟩, hce, hcv, hcl, st⟩
  · cases hv
    obtain ⟨k1, k2, k3⟩ := vx_keep h0 e1 hS hA hf hL hF
    obtain ⟨t2, a1, b1⟩ := kk r u t T'.heap (locs ++ L) e1.symm (by rw [← e2]; exact X'.warmed.alike) hp hb k1 k2 k3 T' rfl X'
    exact ⟨t2, st t2 a1, b1⟩
  · obtain ⟨k1, k2, k3⟩ := vx_keep h0 e1 hS hAX hf hL hF
    obtain ⟨t2, a1, b1⟩ := kx E ce q u t T'.heap (locs ++ L) e1.symm (by rw [← e2]; exact X'.warmed.alike) hp hb k1 k2 k3 (by rw [e1]; exact hce) hcv hcl T' rfl X'
    exact ⟨t2, st.trans a1, b1⟩
theorem vx_callv {S SX : Type} {post : S → Prop} {px : SX → Prop} {B : S → State → Prop} {BX : String → SX → State → Prop} {AX : Nat → Prop} (hr : vx_Run p l e R s m args below meth c H locs cells slots mc ms (F0 m pc ls st0) rest (va_Qv post B A1 a) (vx_X px BX AX) free) (hS : va_S A0 H0 H locs) (hA : ∀ q, q < H.size → A1 q → A0 q) (hf : ∀ q, free q → A0 q) (hAX : ∀ q, q < H.size → AX q → A0 q)
    (kx : ∀ (E : String) (ce : Cell) (q9 : Addr) (u : SX) (t : State) (H1 : Heap) (locs1 : List Loc), t.heap = H1 → s.vm.Alike t.vm → px u → BX E u t → H.size ≤ H1.size → (∀ q : Nat, q < H.size → ¬ AX q → H1[q]? = H[q]?) → va_S A0 H0 H1 locs1 → H1[q9]? = some ce → ce.vm = .none → s.vm.findClass E = some ce.cls → vx_W p l e R s m args below meth c H1 locs1 (cells + mc) (slots + ms) Q (F0 m pc ls rest) q9)
    (kk : ∀ (u : S) (t : State) (H1 : Heap) (locs1 : List Loc), t.heap = H1 → s.vm.Alike t.vm → post u → B u t → H.size ≤ H1.size → (∀ q : Nat, q < H.size → ¬ A1 q → H1[q]? = H[q]?) → va_S A0 H0 H1 locs1 → W p l e R s m args below meth c H1 locs1 (cells + mc) (slots + ms) Q (F0 m (pc + 3) ls (rest))) : W p l e R s m args below meth c H locs cells slots Q (F0 m pc ls st0) := by
  intro T hT X
  rcases hr T hT X with ⟨v, st₀, t, T', L, h0, X', hL, e1, e2, ⟨⟨u, hv, hp, hb⟩, hF⟩, st⟩ | ⟨q, st₀, t, T', L, E, ce, h0, X', hL, e1, e2, ⟨u, hp, hb, hF⟩, hce, hcv, hcl, st⟩
  · cases hv
    obtain ⟨k1, k2, k3⟩ := vx_keep h0 e1 hS hA hf hL hF
    obtain ⟨t2, a1, b1⟩ := kk u t T'.heap (locs ++ L) e1.symm (by rw [← e2]; exact X'.warmed.alike) hp hb k1 k2 k3 T' rfl X'
    exact ⟨t2, st t2 a1, b1⟩
  · obtain ⟨k1, k2, k3⟩ := vx_keep h0 e1 hS hAX hf hL hF
    obtain ⟨t2, a1, b1⟩ := kx E ce q u t T'.heap (locs ++ L) e1.symm (by rw [← e2]; exact X'.warmed.alike) hp hb k1 k2 k3 (by rw [e1]; exact hce) hcv hcl T' rfl X'
    exact ⟨t2, st.trans a1, b1⟩
/-- caught by the row x of this method's table; the rows ahead don't take it -/
theorem vx_catch {own name : String} {E : String} {ce : Cell} {q : Addr} (hown : s.vm.findClass own = some m.cls) (pre : List ExceptionTableEntry) (x : ExceptionTableEntry) (suf : List ExceptionTableEntry) (hsplit : c.exceptionTable.toList = pre ++ x :: suf)
    (hpass : ∀ z ∈ pre, covers z pc = false ∨ (z.catchType ≠ 0 ∧ ∃ nm : String, (Cond.classLink own z.catchType nm).before args s = true ∧ va_Nc E nm s)) (hx : covers x pc = true) (h0 : x.catchType ≠ 0)
    (hlink : (Cond.classLink own x.catchType name).before args s = true) (hcast : (Cond.castable E name).before args s = true) (hcell : H[q]? = some ce) (hv : ce.vm = .none) (hcl : s.vm.findClass E = some ce.cls)
    (kk : W p l e R s m args below meth c H locs cells slots Q (F0 m x.handlerPc ls [.ref q])) : vx_W p l e R s m args below meth c H locs cells slots Q (F0 m pc ls rest) q := by
  intro T hT X
  have hpl : e.platform.magicAccessors = ({} : Platform).magicAccessors := by rw [X.admits.platform]
  obtain ⟨c3, c4, hc3, hc4, hasg⟩ := Cond.castable_spec hcast
  cases Option.some.inj (hc3.symm.trans hcl)
  obtain ⟨c5, hc5, hcl5⟩ := Cond.classLink_spec hown hlink e.platform hpl
  cases Option.some.inj (hc4.symm.trans hc5)
  obtain ⟨vm', X', st⟩ := X.thenCaughtThrough q (g := F0 m pc ls rest) rfl (Steps.refl _) (by rw [hT]; exact hcell) (by rw [hv]; rfl) (by obtain ⟨k9, h9, -⟩ := Vm.findClass_spec hcl; exact ⟨k9, h9⟩) pre x suf hsplit
    (fun z hz => by
      rcases hpass z hz with h | ⟨hz0, nm, hl1, hn1⟩
      · exact Or.inl h
      · obtain ⟨c6, hc6, hcl6⟩ := Cond.classLink_spec hown hl1 e.platform hpl
        obtain ⟨a8, b8, h1, h2, h3⟩ := hn1
        cases Option.some.inj (h1.symm.trans hcl)
        cases Option.some.inj (h2.symm.trans hc6)
        exact Or.inr ⟨hz0, _, hcl6, h3⟩) hx (Or.inr ⟨h0, c4, hcl5, hasg⟩)
  obtain ⟨t, a1, b1⟩ := kk (T.setVm vm') hT X'
  exact ⟨t, st.trans a1, b1⟩
end Rows
section Ends
variable {p : Program} {l : Launch} {e : Env} {R : Room} {s : State} {m : MethodId} {args : Array Value} {below : List Frame} {meth : Method} {c : Code} {H : Heap} {locs : List Loc} {cells slots : Nat} {Q : State → Prop}
variable {mc ms : Nat} {free : Addr → Prop} {A0 A1 : Nat → Prop} {H0 : Heap} {a : Array Value} {ls : Array Slot} {st0 rest : List Value}
variable {Qc : Array Value → State → Outcome → State → Prop} {XC : String → State → State → Prop}
/-- what a body that may throw owes at its end -/
def vx_MQ (below : List Frame) (Qc : Array Value → State → Outcome → State → Prop) (XC : String → State → State → Prop) (a : Array Value) (s : State) (mc ms : Nat) (free : Addr → Prop) : State → Prop := fun t =>
  ∃ o, t.status = .running ∧ Ended t below o ∧ vx_Q Qc XC mc ms free a s o t
theorem vx_ret {g : JFrame} {mc ms : Nat} (k : W p l e R s m args below meth c H locs cells slots (MQ below Qc args s mc ms free) g) : W p l e R s m args below meth c H locs cells slots (vx_MQ below Qc XC args s mc ms free) g := by
  intro T hT X
  obtain ⟨t, a1, o, b1, b2, b3, b4⟩ := k T hT X
  exact ⟨t, a1, o, b1, b2, Or.inl ⟨b3, b4⟩⟩
/-- not caught here: it goes on to the caller -/
theorem vx_widen {g : JFrame} {q : Addr} {k n : Nat} (h1 : cells ≤ k) (h2 : slots ≤ n) (kk : vx_W p l e R s m args below meth c H locs k n Q g q) : vx_W p l e R s m args below meth c H locs cells slots Q g q := fun T hT X => kk T hT (stand_widen X h1 h2)
theorem vx_out {pc : Nat} {E : String} {ce : Cell} {q : Addr} {mc ms : Nat} (hout : ∀ x ∈ c.exceptionTable.toList, covers x pc = false) (hlocks : meth.locks = false) (hcell : H[q]? = some ce) (hv : ce.vm = .none) (hcl : s.vm.findClass E = some ce.cls)
    (hx : ∀ t : State, t.heap = H → s.vm.Alike t.vm → XC E s t) (hf : ∀ z ∈ locs, free z.base) (hc : cells ≤ mc) (hs : slots ≤ ms) :
    vx_W p l e R s m args below meth c H locs cells slots (vx_MQ below Qc XC args s mc ms free) (F0 m pc ls rest) q := by
  intro T hT X
  obtain ⟨st1, hrun, hend, hW, hsm⟩ := X.leaveThrown q (g := F0 m pc ls rest) rfl rfl rfl hout hlocks
  have hcell9 : (T.setFrames (.throwing q :: below)).heap[q]? = some ce := by
    show T.heap[q]? = some ce
    rw [hT]; exact hcell
  exact ⟨_, st1, .threw q, hrun, hend, Or.inr ⟨q, rfl, E, ce, locs, hx _ hT hW.alike, hcell9, hv, hcl, hW, hsm.mono hc hs, hf⟩⟩
theorem vx_frame {U : State} {k n : Nat} (h : s.sameButNew ({ U with vm := s.vm } : State) locs k n) : s.heap.size ≤ U.heap.size ∧ ∀ q : Nat, q < s.heap.size → (∀ z ∈ locs, z.base ≠ q) → U.heap[q]? = s.heap[q]? := by
  obtain ⟨-, h2, -, -, -, h6⟩ := h
  refine ⟨h2, fun q hq hz => ?_⟩
  obtain ⟨c9, e1, e2, e3, e4⟩ := h6 q _ (Array.getElem?_eq_getElem hq)
  have hs : c9.slots = (s.heap[q]).slots := Array.ext_getElem? fun i => e4 i fun hm => hz _ hm rfl
  have h9 : c9 = s.heap[q] := by
    rw [hs] at e2
    exact e2
  have e5 : U.heap[q]? = some c9 := e1
  rw [e5, h9, Array.getElem?_eq_getElem hq]
/-- the words of a throw but the four that speak of the heap -/
def vx_no (w : Cond) : Bool := decide (w ≠ .isRef (.static Bundle.tN "UNASSIGNED_STACK" Bundle.steD)) && decide (w ≠ .isRef (.static Bundle.tN "SUPPRESSED_SENTINEL" Bundle.listD)) && decide (w ≠ .laysStatic Bundle.tN "UNASSIGNED_STACK" Bundle.steD) && decide (w ≠ .laysStatic Bundle.tN "SUPPRESSED_SENTINEL" Bundle.listD)
def vx_at0 (own : String) (ic : Nat) (X : String) (names : List String) : List Cond := (Bundle.ownAtoms0 own ic X names).filter vx_no
def vx_atS (own : String) (ic : Nat) (X : String) (names : List String) : List Cond := (Bundle.ownAtoms own ic X names).filter vx_no
/-- a word that the tables alone decide, or a good one -/
def vx_ot (w : Cond) : Bool := w.onTables || goodWord w
theorem vx_ot_at {args a' : Array Value} {s U : State} {w : Cond} (hW : s.WarmedH U.vm) (hvm : s.vm = U.vm) (hg : vx_ot w = true) (h : w.before args s = true) : w.before a' U = true := by
  simp only [vx_ot, Bool.or_eq_true] at hg
  rcases hg with hg | hg
  · exact va_tabs hg hvm h
  · exact word_at hW (good_of_word hg) h
/-- a list's words: the good ones out of the method's own list, the others by premises of their own -/
theorem vx_hat {args : Array Value} {s : State} {L B : List Cond} (h1 : ∀ w ∈ L.filter goodWord, w.before args s = true) (h2 : ∀ w ∈ L.filter (fun w => !goodWord w), w ∈ B) (h3 : ∀ w ∈ B, w.before args s = true) : ∀ w ∈ L, w.before args s = true := by
  intro w hw
  by_cases g : goodWord w = true
  · exact h1 w (List.mem_filter.mpr ⟨hw, g⟩)
  · refine h3 w (h2 w (List.mem_filter.mpr ⟨hw, ?_⟩))
    show (!goodWord w) = true
    cases hgw : goodWord w
    · rfl
    · exact absurd hgw g
theorem vx_c {args : Array Value} {s : State} {w : Cond} {B : List Cond} (h : w.before args s = true) (t : ∀ w ∈ B, w.before args s = true) : ∀ w' ∈ w :: B, w'.before args s = true := fun w' h' => (List.mem_cons.mp h').elim (fun e => by rw [e]; exact h) (t w')
theorem vx_n {args : Array Value} {s : State} : ∀ w ∈ ([] : List Cond), w.before args s = true := fun _ h => nomatch h
theorem vx_own {args : Array Value} {s : State} {L : List Cond} (h1 : ∀ w ∈ L.filter vx_no, w.before args s = true)
    (hU : (Cond.isRef (.static Bundle.tN "UNASSIGNED_STACK" Bundle.steD)).before args s = true) (hN : (Cond.isRef (.static Bundle.tN "SUPPRESSED_SENTINEL" Bundle.listD)).before args s = true)
    (lU : (Cond.laysStatic Bundle.tN "UNASSIGNED_STACK" Bundle.steD).before args s = true) (lN : (Cond.laysStatic Bundle.tN "SUPPRESSED_SENTINEL" Bundle.listD).before args s = true) : ∀ w ∈ L, w.before args s = true := by
  intro w hw
  by_cases e1 : w = .isRef (.static Bundle.tN "UNASSIGNED_STACK" Bundle.steD)
  · rw [e1]; exact hU
  · by_cases e2 : w = .isRef (.static Bundle.tN "SUPPRESSED_SENTINEL" Bundle.listD)
    · rw [e2]; exact hN
    · by_cases e3 : w = .laysStatic Bundle.tN "UNASSIGNED_STACK" Bundle.steD
      · rw [e3]; exact lU
      · by_cases e4 : w = .laysStatic Bundle.tN "SUPPRESSED_SENTINEL" Bundle.listD
        · rw [e4]; exact lN
        · exact h1 w (List.mem_filter.mpr ⟨hw, by unfold vx_no; rw [decide_eq_true e1, decide_eq_true e2, decide_eq_true e3, decide_eq_true e4]; rfl⟩)
/-- where a static field lies, its class's statics cell in H -/
def vx_L (C n d : String) (A : Nat → Prop) (U : State) (H : Heap) : Prop := ∃ (c : ClassId) (k : Class) (i : Nat) (f : Field) (a : Nat) (cell : Cell), U.vm.findClass C = some c ∧ U.fieldFound? C n d = some (c, k, i, f) ∧ f.isStatic = true ∧ k.statics = some a ∧ H[a]? = some cell ∧ cell.vm.isStatics = true ∧ cell.cls = c ∧ f.slot < cell.slots.size ∧ k.staticTypes[f.slot]? = some f.type ∧ ¬ A a
theorem vx_L.moved {C n d : String} {A : Nat → Prop} {u U : State} {H : Heap} (hvm : u.vm.Alike U.vm) (h : vx_L C n d A u H) : vx_L C n d A U H := by
  obtain ⟨c, k, i, f, a, cell, h1, h2, h3, h4, h5, h6, h7, h8, h9, h10⟩ := h
  obtain ⟨k', hi', he⟩ := State.fieldFound?_setVm hvm h2
  exact ⟨c, k', i, f, a, cell, by rw [hvm.findClass]; exact h1, hi', h3, by rw [he]; exact h4, h5, h6, h7, h8, by rw [he]; exact h9, h10⟩
theorem vx_L.kept {C n d : String} {A : Nat → Prop} {U : State} {H H1 : Heap} (h : vx_L C n d A U H) (hq : ∀ a : Nat, a < H.size → ¬ A a → H1[a]? = H[a]?) : vx_L C n d A U H1 := by
  obtain ⟨c, k, i, f, a, cell, h1, h2, h3, h4, h5, h6, h7, h8, h9, h10⟩ := h
  exact ⟨c, k, i, f, a, cell, h1, h2, h3, h4, by rw [hq a (Array.getElem?_eq_some_iff.mp h5).1 h10]; exact h5, h6, h7, h8, h9, h10⟩
theorem vx_L.narrow {C n d : String} {A B : Nat → Prop} {U : State} {H : Heap} (h : vx_L C n d A U H) (hAB : ∀ q, B q → A q) : vx_L C n d B U H := by
  obtain ⟨c, k, i, f, a, cell, h1, h2, h3, h4, h5, h6, h7, h8, h9, h10⟩ := h
  exact ⟨c, k, i, f, a, cell, h1, h2, h3, h4, h5, h6, h7, h8, h9, fun z => h10 (hAB _ z)⟩
theorem vx_L.word {C n d : String} {A : Nat → Prop} {s : State} {args : Array Value} (h : vx_L C n d A s s.heap) : (Cond.laysStatic C n d).before args s = true := by
  obtain ⟨c, k, i, f, a, cell, h1, h2, h3, h4, h5, h6, h7, h8, h9, -⟩ := h
  show (Cond.laysStatic C n d).holds args s none s [] = true
  exact Cond.laysStatic_of h1 h2 h3 h4 h5 h6 h7 h8 h9
/-- .. and what it holds: null or some reference -/
def vx_Zq (C n d : String) (A : Nat → Prop) (U : State) (H : Heap) : Prop := va_Zq C n d A U H ∧ vx_L C n d A U H
theorem vx_Zq.moved {C n d : String} {A : Nat → Prop} {u U : State} {H : Heap} (hvm : u.vm.Alike U.vm) (h : vx_Zq C n d A u H) : vx_Zq C n d A U H := ⟨va_Zq.moved hvm h.1, vx_L.moved hvm h.2⟩
theorem vx_Zq.kept {C n d : String} {A : Nat → Prop} {U : State} {H H1 : Heap} (h : vx_Zq C n d A U H) (hq : ∀ a : Nat, a < H.size → ¬ A a → H1[a]? = H[a]?) : vx_Zq C n d A U H1 := ⟨va_Zq.kept h.1 hq, vx_L.kept h.2 hq⟩
theorem vx_Zq.narrow {C n d : String} {A B : Nat → Prop} {U : State} {H : Heap} (h : vx_Zq C n d A U H) (hAB : ∀ q, B q → A q) : vx_Zq C n d B U H := ⟨va_Zq.narrow h.1 hAB, vx_L.narrow h.2 hAB⟩
theorem vx_Zqof {args : Array Value} {s : State} {C n d : String} {A : Nat → Prop} (hl : (Cond.laysStatic C n d).before args s = true) (hini : (Cond.initialized C).before args s = true) (h : (Cond.isRef (.static C n d)).before args s = true) (hA : ∀ a : Nat, a < s.heap.size → ¬ A a) : vx_Zq C n d A s s.heap := by
  refine ⟨va_Zqof hl hini h hA, ?_⟩
  obtain ⟨c, k, i, f, a, cell, h1, h2, h3, h4, h5, h6, h7, h8, h9⟩ := Cond.laysStatic_spec hl
  exact ⟨c, k, i, f, a, cell, h1, h2, h3, h4, h5, h6, h7, h8, h9, hA a (Array.getElem?_eq_some_iff.mp h5).1⟩
theorem vx_isRef {C n d : String} {v : Value} {A : Nat → Prop} {s : State} {args : Array Value} (h : va_Z C n d v A s s.heap) (hv : v.isRef = true) : (Cond.isRef (.static C n d)).before args s = true := by
  obtain ⟨cf, kf, fi, f, a, cell, h1, h2, h3, h4, h5, h6, h7, -⟩ := h
  have he : (Term.static C n d).eval args s none [] s = some v := by
    simp [Term.eval, State.fieldNamed?, h1, h2, h4, h5, h6, h7]
  simp only [Cond.before, Cond.holds, Cond.value, he]
  cases v <;> simp_all [Value.isRef]
theorem vx_isRefq {C n d : String} {A : Nat → Prop} {s : State} {args : Array Value} (h : va_Zq C n d A s s.heap) : (Cond.isRef (.static C n d)).before args s = true := by
  rcases h with h | ⟨t, h⟩
  · exact vx_isRef h rfl
  · exact vx_isRef h rfl
/-- the same frame, seen from here: as if the method were called anew in this heap -/
theorem vx_rebase {T : State} (X : Stand p l e R s m args below meth c T locs cells slots) {R' : Room} (hf : R'.frames ≤ R.frames) (hl : R'.locals ≤ R.locals) (hc : cells + R'.cells ≤ R.cells) (hs : slots + R'.slots ≤ R.slots) :
    Stand p l e R' ((T.setVm s.vm).setFrames (.invoking m args :: below)) m args below meth c T [] 0 0 := by
  have htop : (T.setVm s.vm).topJava?.isSome := X.here.top
  have hF : ((T.setVm s.vm).setFrames (.invoking m args :: below)).frames = .invoking m args :: below := State.frames_setFrames _ (State.cur_lt_of_top htop)
  obtain ⟨g₀, hg0⟩ := Option.isSome_iff_exists.mp htop
  obtain ⟨r, hr⟩ := State.topJava?_eq_some.mp hg0
  have hl9 : e.platform.stackLimits (T.setVm s.vm).me = e.platform.stackLimits s.me := X.limits
  have hb9 : (T.setVm s.vm).me.stackBytes = s.me.stackBytes := X.bytes
  refine ⟨X.admits, X.cas, X.clock, hF, ?_, X.hears, X.method, X.code, X.here, X.tail, X.warmed, ?_, ?_, ?_⟩
  · have h := X.room
    have hU : ((T.setVm s.vm).setFrames (.invoking m args :: below)).localsInUse = s.localsInUse := by
      rw [State.localsInUse_invoking hF (meth := meth) (c := c) X.method X.code, State.localsInUse_invoking X.frames X.method X.code]
    simp only [State.hasRoom, Bool.and_eq_true, decide_eq_true_eq] at h ⊢
    obtain ⟨⟨⟨⟨h1, h2, h3, h4, h5, h6⟩, h7⟩, h8⟩, h9⟩ := h
    rw [X.frames, List.length_cons] at h2 h3
    have q1 := X.heapSize
    have q2 := X.used
    simp only [hF, hU, List.length_cons, State.stackLimits_setFrames, State.stackBytes_setFrames, hl9, hb9]
    refine ⟨⟨⟨⟨by omega, by omega, by omega, by omega, by omega, h6⟩, ?_⟩, ?_⟩, X.book⟩
    · show T.heap.size + R'.cells ≤ e.platform.maxCells
      omega
    · show T.slotsUsed + R'.slots ≤ e.platform.maxSlots
      omega
  · rw [State.stackLimits_setFrames]; rfl
  · rw [State.stackBytes_setFrames]; rfl
  · refine ⟨?_, Nat.le_refl _, Nat.le_refl _, ?_, ?_, fun a c9 h9 => ⟨c9, h9, rfl, rfl, fun _ _ => rfl⟩⟩
    · obtain ⟨t, ht, -⟩ := State.frames_cons hr
      show T.setVm s.vm = { ((T.setVm s.vm).setFrames (.invoking m args :: below)).setFrames (T.setVm s.vm).frames with heap := T.heap, slotsUsed := T.slotsUsed }
      rw [State.setFrames_setFrames, State.setFrames_self ht]
      rfl
    · show T.slotsUsed = T.slotsUsed + ((T.heap.toList.drop T.heap.size).map (·.slots.size)).sum
      rw [List.drop_eq_nil_of_le (Nat.le_of_eq Array.length_toList)]
      rfl
    · show ((T.heap.toList.drop T.heap.size).map (·.slots.size)).sum ≤ 0
      rw [List.drop_eq_nil_of_le (Nat.le_of_eq Array.length_toList)]
      exact Nat.le_refl _
/-- 'throw new E()': new; dup; invokespecial; athrow -/
theorem vx_throw0 {cc : ByteArray} {pc : Nat} (hexec : p.tables.exec = Jvm.exec) (hb : c.code = cc) (hl : l.stackTraces = false) {own cls : String} {names : List String} {ik ic mc ms : Nat} {A : Nat → Prop}
    (hown : s.vm.findClass own = some m.cls) (hcls : Bundle.fit cls = true) (hnames : ∀ n ∈ names, Bundle.fit n = true)
    (hk : (Cond.classLink own ik cls).before args s = true) (hini : (Cond.initialized cls).before args s = true) (hat : ∀ w ∈ vx_at0 own ic cls names, w.before args s = true)
    (hgood : ∀ w ∈ Cond.classLink own ik cls :: Cond.initialized cls :: vx_at0 own ic cls names, vx_ot w = true)
    (hU : vx_Zq Bundle.tN "UNASSIGNED_STACK" Bundle.steD A s s.heap) (hN : vx_Zq Bundle.tN "SUPPRESSED_SENTINEL" Bundle.listD A s s.heap) (hS : va_S A s.heap H locs) (hsize : ls.size = c.maxLocals)
    (d0 : decode cc pc = .ok (.new ik, 3)) (d3 : decode cc (pc + 3) = .ok (.dup, 1)) (d4 : decode cc (pc + 4) = .ok (.invokespecial ic, 3)) (d7 : decode cc (pc + 7) = .ok (.athrow, 1))
    (hout : ∀ x ∈ c.exceptionTable.toList, covers x (pc + 7) = false)
    (hRframes : names.length + 3 < R.frames) (hRlocals : (rest.map fun v => v.category).sum + (13 * (names.length + 1) + 42) ≤ R.locals) (hRcells : cells + 1 ≤ R.cells) (hRslots : slots + 6 ≤ R.slots) (hlocks : meth.locks = false)
    (hx : ∀ t : State, s.vm.Alike t.vm → H.size ≤ t.heap.size → (∀ q : Nat, q < H.size → t.heap[q]? = H[q]?) → XC cls s t)
    (hf : ∀ z ∈ locs, free z.base) (hc : cells + 1 ≤ mc) (hs : slots + 6 ≤ ms) :
    W p l e R s m args below meth c H locs cells slots (vx_MQ below Qc XC args s mc ms free) (F0 m pc ls rest) := by
  intro T hT X
  have htr : e.platform.stackTraces = false := (show e.platform.stackTraces = l.stackTraces by rw [X.admits.platform]).trans hl
  have Y := vx_rebase X (R' := { frames := R.frames, locals := R.locals, cells := 1, slots := 6 }) (Nat.le_refl _) (Nat.le_refl _) hRcells hRslots
  obtain ⟨s', hA⟩ : ∃ z, z = (T.setVm s.vm).setFrames (.invoking m args :: below) := ⟨_, rfl⟩
  rw [← hA] at Y
  have hvm : s'.vm = s.vm := by rw [hA]; rfl
  have hhp : s'.heap = H := by rw [hA]; exact hT
  have hW0 : s.WarmedH s'.vm := by rw [hvm]; exact State.WarmedH.refl s
  have hat' : ∀ w ∈ vx_at0 own ic cls names, w.before args s' = true := fun w hw => vx_ot_at hW0 hvm.symm (hgood w (List.mem_cons_of_mem _ (List.mem_cons_of_mem _ hw))) (hat w hw)
  have hk' : (Cond.classLink own ik cls).before args s' = true := vx_ot_at hW0 hvm.symm (hgood _ List.mem_cons_self) hk
  have hini' : (Cond.initialized cls).before args s' = true := vx_ot_at hW0 hvm.symm (hgood _ (List.mem_cons_of_mem _ List.mem_cons_self)) hini
  have hU' : vx_Zq Bundle.tN "UNASSIGNED_STACK" Bundle.steD A s' s'.heap := by rw [hhp]; exact vx_Zq.moved hW0.alike (hU.kept hS.2.1)
  have hN' : vx_Zq Bundle.tN "SUPPRESSED_SENTINEL" Bundle.listD A s' s'.heap := by rw [hhp]; exact vx_Zq.moved hW0.alike (hN.kept hS.2.1)
  have h : ∀ w ∈ Bundle.ownAtoms0 own ic cls names, w.before args s' = true := vx_own hat' (vx_isRefq hU'.1) (vx_isRefq hN'.1) hU'.2.word hN'.2.word
  have hown' : s'.vm.findClass own = some m.cls := by rw [hvm]; exact hown
  have hins : (Cond.instantiable cls 6).before args s' = true := h _ (by simp [Bundle.ownAtoms0])
  obtain ⟨vm₁, cX, kX, hfX, hkX, -, -, X₁, st1⟩ := Y.newCold hexec (own := own) (C := cls) (index := ik) (n := 6) hown' hk' hins hini'
    (g := F0 m pc ls rest) rfl (by rw [hb]; exact d0) (Nat.le_refl _) (Nat.le_refl _)
  generalize hT1 : (T.setVm vm₁).pushCell { cls := cX, slots := kX.instanceTypes.map defaultValue, vm := .none } = T1 at X₁ st1
  have hcat : (Value.ref T.heap.size).category = 1 := rfl
  have hcellA : T1.heap[T.heap.size]? = some (freshCell cX kX) := by rw [← hT1]; exact State.heap_pushCell_size _ _
  have d3' : decode c.code (pc + 3) = .ok (.dup, 1) := by rw [hb]; exact d3
  obtain ⟨U, hsteps, hrun, hend, hW, hsame, ce, hce, hO⟩ := X₁.ctorThrow0 hexec htr (own := own) (cls := cls) (names := names) (ic := ic) hown' hcls hnames h (fun x hx => nomatch hx) hfX hkX hcellA (by rw [hhp, hT]; exact Nat.le_refl _)
    (g := { method := m, pc := pc + 4, locals := ls, stack := .ref T.heap.size :: .ref T.heap.size :: rest, locked := none }) rfl hsize rfl rfl (rest := rest) rfl
    (by rw [hb]; exact d4) (by rw [hb]; exact d7) hout hRframes (by simp only [List.map_cons, List.sum_cons, hcat]; omega) hlocks
  obtain ⟨f1, f2⟩ := vx_frame hsame
  rw [hhp] at f1 f2
  have hWs : s.WarmedH U.vm := State.WarmedH.trans hW0 hW
  have hcl : s.vm.findClass cls = some ce.cls := by
    have h9 := hO.cls
    rw [hvm] at h9
    exact h9
  have hall : s.sameButNew ({ U with vm := s.vm } : State) locs mc ms := by
    subst hA
    obtain ⟨e1, e2⟩ := hsame
    rw [State.setFrames_setFrames] at e1
    have h2 : (T.setVm s.vm).sameButNew ({ U with vm := s.vm } : State) [] (0 + 1) (0 + 6) := ⟨e1, e2⟩
    have h3 := X.same.trans h2
    rw [List.append_nil] at h3
    exact h3.mono hc hs
  refine ⟨U, ?_, .threw T.heap.size, hrun, hend, Or.inr ⟨T.heap.size, rfl, cls, ce, locs, hx U hWs.alike f1 (fun q hq => f2 q hq (fun z hz => nomatch hz)), hce, hO.vm, hcl, hWs, hall, hf⟩⟩
  refine st1 _ ?_
  show Steps p.tables e below (T1.setTop { method := m, pc := pc + 3, locals := ls, stack := .ref T.heap.size :: rest, locked := none }) _
  jvm_step X₁.here [X₁.here.top, hexec, d3', Value.category]
  exact hsteps
/-- 'throw new E("text")': new; dup; ldc; invokespecial; athrow -/
theorem vx_throwS {cc : ByteArray} {pc : Nat} (hexec : p.tables.exec = Jvm.exec) (hb : c.code = cc) (hl : l.stackTraces = false) {own cls text : String} {names : List String} {ik is ic mc ms sa : Nat} {A : Nat → Prop}
    (hown : s.vm.findClass own = some m.cls) (hcls : Bundle.fit cls = true) (hnames : ∀ n ∈ names, Bundle.fit n = true)
    (hk : (Cond.classLink own ik cls).before args s = true) (hini : (Cond.initialized cls).before args s = true) (hstr : vk_R own is text sa s) (hat : ∀ w ∈ vx_atS own ic cls names, w.before args s = true)
    (hgood : ∀ w ∈ Cond.classLink own ik cls :: Cond.initialized cls :: vx_atS own ic cls names, vx_ot w = true)
    (hU : vx_Zq Bundle.tN "UNASSIGNED_STACK" Bundle.steD A s s.heap) (hN : vx_Zq Bundle.tN "SUPPRESSED_SENTINEL" Bundle.listD A s s.heap) (hS : va_S A s.heap H locs) (hsize : ls.size = c.maxLocals)
    (d0 : decode cc pc = .ok (.new ik, 3)) (d3 : decode cc (pc + 3) = .ok (.dup, 1)) (d4 : decode cc (pc + 4) = .ok (.ldc is, 2)) (d6 : decode cc (pc + 6) = .ok (.invokespecial ic, 3)) (d9 : decode cc (pc + 9) = .ok (.athrow, 1))
    (hout : ∀ x ∈ c.exceptionTable.toList, covers x (pc + 9) = false)
    (hRframes : names.length + 3 < R.frames) (hRlocals : (rest.map fun v => v.category).sum + (13 * (names.length + 1) + 43) ≤ R.locals) (hRcells : cells + 1 ≤ R.cells) (hRslots : slots + 6 ≤ R.slots) (hlocks : meth.locks = false)
    (hx : ∀ t : State, s.vm.Alike t.vm → H.size ≤ t.heap.size → (∀ q : Nat, q < H.size → t.heap[q]? = H[q]?) → XC cls s t)
    (hf : ∀ z ∈ locs, free z.base) (hc : cells + 1 ≤ mc) (hs : slots + 6 ≤ ms) :
    W p l e R s m args below meth c H locs cells slots (vx_MQ below Qc XC args s mc ms free) (F0 m pc ls rest) := by
  intro T hT X
  have htr : e.platform.stackTraces = false := (show e.platform.stackTraces = l.stackTraces by rw [X.admits.platform]).trans hl
  have Y := vx_rebase X (R' := { frames := R.frames, locals := R.locals, cells := 1, slots := 6 }) (Nat.le_refl _) (Nat.le_refl _) hRcells hRslots
  obtain ⟨s', hA⟩ : ∃ z, z = (T.setVm s.vm).setFrames (.invoking m args :: below) := ⟨_, rfl⟩
  rw [← hA] at Y
  have hvm : s'.vm = s.vm := by rw [hA]; rfl
  have hhp : s'.heap = H := by rw [hA]; exact hT
  have hW0 : s.WarmedH s'.vm := by rw [hvm]; exact State.WarmedH.refl s
  have hat' : ∀ w ∈ vx_atS own ic cls names, w.before args s' = true := fun w hw => vx_ot_at hW0 hvm.symm (hgood w (List.mem_cons_of_mem _ (List.mem_cons_of_mem _ hw))) (hat w hw)
  have hk' : (Cond.classLink own ik cls).before args s' = true := vx_ot_at hW0 hvm.symm (hgood _ List.mem_cons_self) hk
  have hini' : (Cond.initialized cls).before args s' = true := vx_ot_at hW0 hvm.symm (hgood _ (List.mem_cons_of_mem _ List.mem_cons_self)) hini
  have hU' : vx_Zq Bundle.tN "UNASSIGNED_STACK" Bundle.steD A s' s'.heap := by rw [hhp]; exact vx_Zq.moved hW0.alike (hU.kept hS.2.1)
  have hN' : vx_Zq Bundle.tN "SUPPRESSED_SENTINEL" Bundle.listD A s' s'.heap := by rw [hhp]; exact vx_Zq.moved hW0.alike (hN.kept hS.2.1)
  have h : ∀ w ∈ Bundle.ownAtoms own ic cls names, w.before args s' = true := vx_own hat' (vx_isRefq hU'.1) (vx_isRefq hN'.1) hU'.2.word hN'.2.word
  have hown' : s'.vm.findClass own = some m.cls := by rw [hvm]; exact hown
  have hins : (Cond.instantiable cls 6).before args s' = true := h _ (by simp [Bundle.ownAtoms])
  obtain ⟨vm₁, cX, kX, hfX, hkX, -, -, X₁, st1⟩ := Y.newCold hexec (own := own) (C := cls) (index := ik) (n := 6) hown' hk' hins hini'
    (g := F0 m pc ls rest) rfl (by rw [hb]; exact d0) (Nat.le_refl _) (Nat.le_refl _)
  generalize hT1 : (T.setVm vm₁).pushCell { cls := cX, slots := kX.instanceTypes.map defaultValue, vm := .none } = T1 at X₁ st1
  have hcat : (Value.ref T.heap.size).category = 1 := rfl
  have hcellA : T1.heap[T.heap.size]? = some (freshCell cX kX) := by rw [← hT1]; exact State.heap_pushCell_size _ _
  have d3' : decode c.code (pc + 3) = .ok (.dup, 1) := by rw [hb]; exact d3
  have d4' : decode c.code (pc + 4) = .ok (.ldc is, 2) := by rw [hb]; exact d4
  have hstr' : vk_R own is text sa s' := vk_R.warm hW0 hstr
  obtain ⟨U, hsteps, hrun, hend, hW, hsame, ce, hce, hO⟩ := X₁.ctorThrowS hexec htr (own := own) (cls := cls) (names := names) (ic := ic) hown' hcls hnames h (fun x hx => nomatch hx) hfX hkX hcellA (by rw [hhp, hT]; exact Nat.le_refl _) (msg := .ref sa) rfl
    (g := { method := m, pc := pc + 6, locals := ls, stack := .ref sa :: .ref T.heap.size :: .ref T.heap.size :: rest, locked := none }) rfl hsize rfl rfl (rest := rest) rfl
    (by rw [hb]; exact d6) (by rw [hb]; exact d9) hout hRframes (by simp only [List.map_cons, List.sum_cons, hcat]; omega) hlocks
  obtain ⟨f1, f2⟩ := vx_frame hsame
  rw [hhp] at f1 f2
  have hWs : s.WarmedH U.vm := State.WarmedH.trans hW0 hW
  have hcl : s.vm.findClass cls = some ce.cls := by
    have h9 := hO.cls
    rw [hvm] at h9
    exact h9
  have hall : s.sameButNew ({ U with vm := s.vm } : State) locs mc ms := by
    subst hA
    obtain ⟨e1, e2⟩ := hsame
    rw [State.setFrames_setFrames] at e1
    have h2 : (T.setVm s.vm).sameButNew ({ U with vm := s.vm } : State) [] (0 + 1) (0 + 6) := ⟨e1, e2⟩
    have h3 := X.same.trans h2
    rw [List.append_nil] at h3
    exact h3.mono hc hs
  refine ⟨U, ?_, .threw T.heap.size, hrun, hend, Or.inr ⟨T.heap.size, rfl, cls, ce, locs, hx U hWs.alike f1 (fun q hq => f2 q hq (fun z hz => nomatch hz)), hce, hO.vm, hcl, hWs, hall, hf⟩⟩
  refine st1 _ ?_
  show Steps p.tables e below (T1.setTop { method := m, pc := pc + 3, locals := ls, stack := .ref T.heap.size :: rest, locked := none }) _
  jvm_step X₁.here [X₁.here.top, hexec, d3', Value.category]
  exact X₁.ldcString hexec (own := own) (text := text) (index := is) (a := sa) hown' hstr'.1 hstr'.2
    (g := { method := m, pc := pc + 4, locals := ls, stack := .ref T.heap.size :: .ref T.heap.size :: rest, locked := none }) rfl d4' _ hsteps
/-- 'throw new E("text")', the text by a wide index -/
theorem vx_throwSW {cc : ByteArray} {pc : Nat} (hexec : p.tables.exec = Jvm.exec) (hb : c.code = cc) (hl : l.stackTraces = false) {own cls text : String} {names : List String} {ik is ic mc ms sa : Nat} {A : Nat → Prop}
    (hown : s.vm.findClass own = some m.cls) (hcls : Bundle.fit cls = true) (hnames : ∀ n ∈ names, Bundle.fit n = true)
    (hk : (Cond.classLink own ik cls).before args s = true) (hini : (Cond.initialized cls).before args s = true) (hstr : vk_R own is text sa s) (hat : ∀ w ∈ vx_atS own ic cls names, w.before args s = true)
    (hgood : ∀ w ∈ Cond.classLink own ik cls :: Cond.initialized cls :: vx_atS own ic cls names, vx_ot w = true)
    (hU : vx_Zq Bundle.tN "UNASSIGNED_STACK" Bundle.steD A s s.heap) (hN : vx_Zq Bundle.tN "SUPPRESSED_SENTINEL" Bundle.listD A s s.heap) (hS : va_S A s.heap H locs) (hsize : ls.size = c.maxLocals)
    (d0 : decode cc pc = .ok (.new ik, 3)) (d3 : decode cc (pc + 3) = .ok (.dup, 1)) (d4 : decode cc (pc + 4) = .ok (.ldc_w is, 3)) (d7 : decode cc (pc + 7) = .ok (.invokespecial ic, 3)) (d10 : decode cc (pc + 10) = .ok (.athrow, 1))
    (hout : ∀ x ∈ c.exceptionTable.toList, covers x (pc + 10) = false)
    (hRframes : names.length + 3 < R.frames) (hRlocals : (rest.map fun v => v.category).sum + (13 * (names.length + 1) + 43) ≤ R.locals) (hRcells : cells + 1 ≤ R.cells) (hRslots : slots + 6 ≤ R.slots) (hlocks : meth.locks = false)
    (hx : ∀ t : State, s.vm.Alike t.vm → H.size ≤ t.heap.size → (∀ q : Nat, q < H.size → t.heap[q]? = H[q]?) → XC cls s t)
    (hf : ∀ z ∈ locs, free z.base) (hc : cells + 1 ≤ mc) (hs : slots + 6 ≤ ms) :
    W p l e R s m args below meth c H locs cells slots (vx_MQ below Qc XC args s mc ms free) (F0 m pc ls rest) := by
  intro T hT X
  have htr : e.platform.stackTraces = false := (show e.platform.stackTraces = l.stackTraces by rw [X.admits.platform]).trans hl
  have Y := vx_rebase X (R' := { frames := R.frames, locals := R.locals, cells := 1, slots := 6 }) (Nat.le_refl _) (Nat.le_refl _) hRcells hRslots
  obtain ⟨s', hA⟩ : ∃ z, z = (T.setVm s.vm).setFrames (.invoking m args :: below) := ⟨_, rfl⟩
  rw [← hA] at Y
  have hvm : s'.vm = s.vm := by rw [hA]; rfl
  have hhp : s'.heap = H := by rw [hA]; exact hT
  have hW0 : s.WarmedH s'.vm := by rw [hvm]; exact State.WarmedH.refl s
  have hat' : ∀ w ∈ vx_atS own ic cls names, w.before args s' = true := fun w hw => vx_ot_at hW0 hvm.symm (hgood w (List.mem_cons_of_mem _ (List.mem_cons_of_mem _ hw))) (hat w hw)
  have hk' : (Cond.classLink own ik cls).before args s' = true := vx_ot_at hW0 hvm.symm (hgood _ List.mem_cons_self) hk
  have hini' : (Cond.initialized cls).before args s' = true := vx_ot_at hW0 hvm.symm (hgood _ (List.mem_cons_of_mem _ List.mem_cons_self)) hini
  have hU' : vx_Zq Bundle.tN "UNASSIGNED_STACK" Bundle.steD A s' s'.heap := by rw [hhp]; exact vx_Zq.moved hW0.alike (hU.kept hS.2.1)
  have hN' : vx_Zq Bundle.tN "SUPPRESSED_SENTINEL" Bundle.listD A s' s'.heap := by rw [hhp]; exact vx_Zq.moved hW0.alike (hN.kept hS.2.1)
  have h : ∀ w ∈ Bundle.ownAtoms own ic cls names, w.before args s' = true := vx_own hat' (vx_isRefq hU'.1) (vx_isRefq hN'.1) hU'.2.word hN'.2.word
  have hown' : s'.vm.findClass own = some m.cls := by rw [hvm]; exact hown
  have hins : (Cond.instantiable cls 6).before args s' = true := h _ (by simp [Bundle.ownAtoms])
  obtain ⟨vm₁, cX, kX, hfX, hkX, -, -, X₁, st1⟩ := Y.newCold hexec (own := own) (C := cls) (index := ik) (n := 6) hown' hk' hins hini'
    (g := F0 m pc ls rest) rfl (by rw [hb]; exact d0) (Nat.le_refl _) (Nat.le_refl _)
  generalize hT1 : (T.setVm vm₁).pushCell { cls := cX, slots := kX.instanceTypes.map defaultValue, vm := .none } = T1 at X₁ st1
  have hcat : (Value.ref T.heap.size).category = 1 := rfl
  have hcellA : T1.heap[T.heap.size]? = some (freshCell cX kX) := by rw [← hT1]; exact State.heap_pushCell_size _ _
  have d3' : decode c.code (pc + 3) = .ok (.dup, 1) := by rw [hb]; exact d3
  have d4' : decode c.code (pc + 4) = .ok (.ldc_w is, 3) := by rw [hb]; exact d4
  have hstr' : vk_R own is text sa s' := vk_R.warm hW0 hstr
  obtain ⟨U, hsteps, hrun, hend, hW, hsame, ce, hce, hO⟩ := X₁.ctorThrowS hexec htr (own := own) (cls := cls) (names := names) (ic := ic) hown' hcls hnames h (fun x hx => nomatch hx) hfX hkX hcellA (by rw [hhp, hT]; exact Nat.le_refl _) (msg := .ref sa) rfl
    (g := { method := m, pc := pc + 7, locals := ls, stack := .ref sa :: .ref T.heap.size :: .ref T.heap.size :: rest, locked := none }) rfl hsize rfl rfl (rest := rest) rfl
    (by rw [hb]; exact d7) (by rw [hb]; exact d10) hout hRframes (by simp only [List.map_cons, List.sum_cons, hcat]; omega) hlocks
  obtain ⟨f1, f2⟩ := vx_frame hsame
  rw [hhp] at f1 f2
  have hWs : s.WarmedH U.vm := State.WarmedH.trans hW0 hW
  have hcl : s.vm.findClass cls = some ce.cls := by
    have h9 := hO.cls
    rw [hvm] at h9
    exact h9
  have hall : s.sameButNew ({ U with vm := s.vm } : State) locs mc ms := by
    subst hA
    obtain ⟨e1, e2⟩ := hsame
    rw [State.setFrames_setFrames] at e1
    have h2 : (T.setVm s.vm).sameButNew ({ U with vm := s.vm } : State) [] (0 + 1) (0 + 6) := ⟨e1, e2⟩
    have h3 := X.same.trans h2
    rw [List.append_nil] at h3
    exact h3.mono hc hs
  refine ⟨U, ?_, .threw T.heap.size, hrun, hend, Or.inr ⟨T.heap.size, rfl, cls, ce, locs, hx U hWs.alike f1 (fun q hq => f2 q hq (fun z hz => nomatch hz)), hce, hO.vm, hcl, hWs, hall, hf⟩⟩
  refine st1 _ ?_
  show Steps p.tables e below (T1.setTop { method := m, pc := pc + 3, locals := ls, stack := .ref T.heap.size :: rest, locked := none }) _
  jvm_step X₁.here [X₁.here.top, hexec, d3', Value.category]
  exact X₁.ldcStringW hexec (own := own) (text := text) (index := is) (a := sa) hown' hstr'.1 hstr'.2
    (g := { method := m, pc := pc + 4, locals := ls, stack := .ref T.heap.size :: .ref T.heap.size :: rest, locked := none }) rfl d4' _ hsteps
end Ends
section Bodies
variable {l : Launch}
theorem vx_ofW {y : MethodName} {ws ws' : List Cond} {rm : Room} {Pc : Array Value → State → Prop} {Qc : Array Value → State → Outcome → State → Prop} {XC : String → State → State → Prop} {mc ms : Nat} {free : Addr → Prop} {cc : ByteArray} {maxL : Nat} {ret : Option FieldType}
    (hy : plainName y.cls = true) (hw : ws = Cond.code y cc maxL ret :: ws')
    (body : ∀ p e s m args below meth c s₁, BodyLoose p l y (headSpec ws rm) cc maxL ret e s m args below meth c s₁ → c.maxLocals = maxL → (∀ x ∈ c.exceptionTable.toList, False) → Pc args s →
      W p l e (headSpec ws rm).room s m args below meth c s.heap [] 0 0 (vx_MQ below Qc XC args s mc ms free) (entryFrame m args maxL)) : vx_Met l y ws rm Pc Qc XC mc ms free := by
  refine MetFree.of_bodyS (code := cc) (maxLocals := maxL) (ret := ret) hy ?_ ?_
  · intro args s m h hn
    obtain ⟨meth, c, h1, h2, h3, h4, h5, h6, -, -⟩ := Cond.code_spec hn (atoms_spec (ws := ws) h _ (by rw [hw]; exact List.mem_cons_self))
    exact ⟨meth, c, h1, h2, h3, h4, h5, h6⟩
  · intro p e s m args below meth c s₁ B hml hP _
    have hh0 : s₁.heap = s.heap := by rw [B.state]; rfl
    have ht : ∀ x ∈ c.exceptionTable.toList, False := by
      obtain ⟨meth9, c9, h1, h2, -, -, -, -, h7, -⟩ := Cond.code_spec B.named (atoms_spec (ws := ws) B.pre _ (by rw [hw]; exact List.mem_cons_self))
      cases Option.some.inj (h1.symm.trans B.method)
      cases Option.some.inj (h2.symm.trans (Stand.of_body B).code)
      intro x hx
      rw [Array.isEmpty_iff.mp h7] at hx
      cases hx
    obtain ⟨t, a1, o, b1, b2, b3⟩ := body p e s m args below meth c s₁ B hml ht hP s₁ hh0 (Stand.of_body B)
    exact ⟨t, o, a1, b1, b2, b3⟩
/-- the table of a body with handlers -/
theorem vx_table {p : Program} {x y : MethodName} {S : Spec} {cc bytes : ByteArray} {maxL maxL' : Nat} {ret ret' : Option FieldType} {e : Env} {s s₁ : State} {m : MethodId} {args : Array Value} {below : List Frame} {meth : Method} {c : Code} {hh : List (Nat × Nat × Nat × Nat)}
    (B : BodyLoose p l y S cc maxL ret e s m args below meth c s₁) (h : (Cond.codeWith y bytes maxL' ret' hh).before args s = true) : c.exceptionTable.toList = tableOf hh := by
  obtain ⟨m9, meth9, c9, hn9, h1, h2, -, -, h6, -⟩ := Cond.codeWith_spec h
  cases Option.some.inj (hn9.symm.trans B.named)
  cases Option.some.inj (h1.symm.trans B.method)
  cases Option.some.inj (h2.symm.trans (Stand.of_body B).code)
  rw [← h6, table_eq]
end Bodies
end VXA
/-! ===== END ===== -/
/-! ===== BEGIN a static call of a method with an exception table ===== -/
section VXS
variable {p : Program} {l : Launch} {e : Env} {R : Room} {s : State} {m : MethodId} {args : Array Value} {below : List Frame} {meth : Method} {c : Code} {T : State} {H : Heap} {locs : List Loc} {cells slots : Nat}
abbrev vx_CSW (R : Room) (s : State) (args : Array Value) (own : String) (index : Nat) (y : MethodName) (bytes : ByteArray) (maxL : Nat) (ret : Option FieldType) (hh : List (Nat × Nat × Nat × Nat)) (ws : List Cond) (rm : Room) (mc ms n : Nat) : Prop :=
  (rm.cells = mc ∧ rm.slots = ms ∧ rm.frames + 1 ≤ R.frames ∧ 8 + (maxL + 11) + rm.locals ≤ R.locals ∧ (∀ w ∈ ws, ∀ (a' : Array Value) (U : State), s.WarmedH U.vm → w.before a' U = true) ∧ Cond.codeWith y bytes maxL ret hh ∈ ws) ∧
  (Cond.codeWith y bytes maxL ret hh).before args s = true ∧ (Cond.initialized y.cls).before args s = true ∧ (y.cls ≠ "java/lang/invoke/MethodHandle" ∧ y.cls ≠ "java/lang/invoke/VarHandle") ∧
  (∀ sig, parseMethodDescriptor y.desc = some sig → n = sig.parameters.length) ∧ (Cond.methodLink own index y).before args s = true ∧ (Cond.static y).before args s = true
theorem vx_cwSW {own : String} {index maxL mc ms : Nat} {y : MethodName} {bytes : ByteArray} {ret : Option FieldType} {hh : List (Nat × Nat × Nat × Nat)} {Ts ws ws' : List Cond} {rm : Room} (n : Nat) (ht : ∀ w ∈ Ts, w.before args s = true) (hT : GoodIn Ts (va_wsS own index y ws)) (hw : ws = Cond.codeWith y bytes maxL ret hh :: ws') (hrc : rm.cells = mc) (hrs : rm.slots = ms)
    (hd : y.cls ≠ "java/lang/invoke/MethodHandle" ∧ y.cls ≠ "java/lang/invoke/VarHandle" ∧ (parseMethodDescriptor y.desc).map (fun d => d.parameters.length) = some n) (hR : rm.frames + 1 ≤ R.frames ∧ 8 + (maxL + 11) + rm.locals ≤ R.locals) :
    vx_CSW R s args own index y bytes maxL ret hh ws rm mc ms n := by
  have ok : ∀ w ∈ va_wsS own index y ws, w.before args s = true := fun w h => ht w (hT w h).1
  have hG : GoodIn Ts ws := fun w h => hT w (by unfold va_wsS; exact List.mem_append_right _ h)
  have hc : Cond.codeWith y bytes maxL ret hh ∈ ws := by rw [hw]; exact List.mem_cons_self
  refine ⟨⟨hrc, hrs, hR.1, hR.2, pay_in ht hG, hc⟩, ht _ (hG _ hc).1, ok _ (by simp [va_wsS]), ⟨hd.1, hd.2.1⟩, fun sig h => ?_, ok _ (by simp [va_wsS]), ok _ (by simp [va_wsS])⟩
  have h2 := hd.2.2
  rw [h] at h2
  exact (Option.some.inj h2).symm
theorem vx_callSW (X : Stand p l e R s m args below meth c T locs cells slots) (hexec : p.tables.exec = Jvm.exec) {own : String} {index : Nat} {y : MethodName} {bytes : ByteArray} {maxL : Nat} {ret : Option FieldType} {hh : List (Nat × Nat × Nat × Nat)}
    (hown : s.vm.findClass own = some m.cls) (hlink : (Cond.methodLink own index y).before args s = true) (hstat : (Cond.static y).before args s = true) (hinit : (Cond.initialized y.cls).before args s = true)
    (hcode : (Cond.codeWith y bytes maxL ret hh).before args s = true) (hy : y.cls ≠ "java/lang/invoke/MethodHandle" ∧ y.cls ≠ "java/lang/invoke/VarHandle")
    {W9 : Nat} {Pre : Pt → Array Value → Prop} {Post : Pt → Array Value → Option Value → Pt → Prop} (hK : Back l R p e below s args y 3 W9 Pre Post)
    {g : JFrame} (hg : g.method = m) (hsize : g.locals.size = c.maxLocals) {argsL rest : List Value} (hlen : ∀ sig, parseMethodDescriptor y.desc = some sig → argsL.length = sig.parameters.length)
    (hstack : g.stack = argsL.reverse ++ rest) (hW : 2 * g.monitorRoom + (rest.map fun v => v.category).sum ≤ W9) (hdg : decode c.code g.pc = .ok (.invokestatic index, 3))
    (hpre : ∀ vm₁, s.WarmedH vm₁ → Pre ⟨T.setVm vm₁, locs, cells, slots⟩ argsL.toArray) :
    ∃ (v : Option Value) (vm₁ : Vm) (B : Pt), s.WarmedH vm₁ ∧ Stand p l e R s m args below meth c B.U B.locs B.cells B.slots ∧ Post ⟨T.setVm vm₁, locs, cells, slots⟩ argsL.toArray v B ∧
      ∀ target, Steps p.tables e below (B.U.setTop { g with pc := g.pc + 3, stack := v.toList ++ rest }) target → Steps p.tables e below (T.setTop g) target := by
  obtain ⟨mk, methM, cM, hnamed, hmethM, -, -, -, -, -, -, hsigM⟩ := Cond.codeWith_spec hcode
  have hstatic : methM.isStatic = true := Cond.static_spec hnamed hmethM hstat
  obtain ⟨kP, hkP, -⟩ := className_of_methodNamed hnamed
  have hinitP : kP.init = .initialized := Cond.initialized_spec (findClass_of_methodNamed hnamed) hkP hinit
  obtain ⟨vm₁, X₁, hstep₁⟩ := X.invokestatic hexec hown hlink hnamed hmethM hstatic hkP hinitP hy (g := g) hg (argsL := argsL) (rest := rest) (hlen _ hsigM) hstack hdg
  obtain ⟨v, B, X', hpost, hsteps⟩ := hK m meth c ⟨T.setVm vm₁, locs, cells, slots⟩ { g with stack := rest } (.invokestatic index) mk argsL.toArray X₁ hg hsize hdg hW (X₁.named hnamed) (hpre vm₁ X₁.warmed)
  exact ⟨v, vm₁, B, X₁.warmed, X', hpost, fun target h => hstep₁ _ fun acts => by rw [doInvoke_state]; exact hsteps.trans h⟩
theorem vx_runSW {y : MethodName} {bytes cc : ByteArray} {maxL nL mc ms n index : Nat} {ret : Option FieldType} {hh : List (Nat × Nat × Nat × Nat)} {ws : List Cond} {rm : Room} {Pc : Array Value → State → Prop} {Qc : Array Value → State → Outcome → State → Prop} {free : Addr → Prop} {Ts : List Cond} {own : String} {As rest : List Value} {g : JFrame}
    (S : CallFix p m c cc nL s args Ts own) (hM : Met l y ws rm Pc Qc mc ms free) (cw : vx_CSW R s args own index y bytes maxL ret hh ws rm mc ms n) (hp : PreS s H Pc As)
    (hg : g.method = m) (hn : As.length = n) (hsize : g.locals.size = nL) (hstack : g.stack = As.reverse ++ rest) (hW : 2 * g.monitorRoom + (rest.map fun v => v.category).sum ≤ 8) (hdg : decode cc g.pc = .ok (.invokestatic index, 3)) (hf : cells + mc ≤ R.cells ∧ slots + ms ≤ R.slots) :
    va_Run p l e R s m args below meth c H locs cells slots mc ms g rest (Qc As.toArray) (free) := by
  obtain ⟨⟨hrc, hrs, hfr, hlo, hws, hcw⟩, hcode, hini, hy, hlen, hl, hstt⟩ := cw
  have hK : Back l R p e below s args y 3 8 (PreOf R mc ms Pc) (PostOf Qc mc ms free) := va_backW (hh := hh) (bytes := bytes) (maxL := maxL) (ret := ret) hM hp.1 hrc hrs hfr hlo hws hcw (fun a' U hW => word_at hW (Or.inl (by first | rfl | simp [Cond.onTables, Cond.keeps, Cond.steady])) hini)
  obtain ⟨hx, hb, hml, ho, -⟩ := S
  intro T hT X
  obtain ⟨v, vm₁, ⟨U', l2, c2, s2⟩, hW₁, X', ⟨g', mk, t, L, e1, e2, hq, h1, hL, h2, h3⟩, st⟩ := vx_callSW X hx (hh := hh) (bytes := bytes) (maxL := maxL) (ret := ret) ho hl hstt hini hcode hy hK hg (hsize.trans hml.symm) (argsL := As) (rest := rest) (fun sig h => hn.trans (hlen sig h)) hstack hW (by rw [hb]; exact hdg)
    (fun vm₁ hW₁ => ⟨hf.1, hf.2, hp.2 (T.setVm vm₁) hT hW₁⟩)
  dsimp only [Pt.U, Pt.locs, Pt.cells, Pt.slots] at X' e1 e2 h1 h2 h3 st
  subst h1; subst h2; subst h3
  exact ⟨v, (T.setVm vm₁).calling g' mk As.toArray, t, U', L, hT, X', hL, e1, e2, hq, st⟩
/-- not caught here, past rows that name other classes: it goes on to the caller -/
theorem vx_outP {p : Program} {l : Launch} {e : Env} {R : Room} {s : State} {m : MethodId} {args : Array Value} {below : List Frame} {meth : Method} {c : Code} {H : Heap} {locs : List Loc} {cells slots : Nat} {free : Addr → Prop} {ls : Array Slot} {rest : List Value} {Qc : Array Value → State → Outcome → State → Prop} {XC : String → State → State → Prop}
    {pc : Nat} {own E : String} {ce : Cell} {q : Addr} {mc ms : Nat} (hown : s.vm.findClass own = some m.cls) (hlocks : meth.locks = false)
    (hpass : ∀ z ∈ c.exceptionTable.toList, covers z pc = false ∨ (z.catchType ≠ 0 ∧ ∃ nm : String, (Cond.classLink own z.catchType nm).before args s = true ∧ va_Nc E nm s)) (hcell : H[q]? = some ce) (hv : ce.vm = .none) (hcl : s.vm.findClass E = some ce.cls)
    (hx : ∀ t : State, t.heap = H → s.vm.Alike t.vm → XC E s t) (hf : ∀ z ∈ locs, free z.base) (hc : cells ≤ mc) (hs : slots ≤ ms) :
    vx_W p l e R s m args below meth c H locs cells slots (vx_MQ below Qc XC args s mc ms free) (F0 m pc ls rest) q := by
  intro T hT X
  have hpl : e.platform.magicAccessors = ({} : Platform).magicAccessors := by rw [X.admits.platform]
  obtain ⟨vm', hW', X', st⟩ := X.outThrough hlocks q (g := F0 m pc ls rest) rfl rfl rfl (cell := ce) (by rw [hT]; exact hcell) (by rw [hv]; rfl)
    (by obtain ⟨k9, h9, -⟩ := Vm.findClass_spec hcl; exact ⟨k9, h9⟩) (fun z hz => by
      rcases hpass z hz with h | ⟨hz0, nm, hl1, hn1⟩
      · exact Or.inl h
      · obtain ⟨c6, hc6, hcl6⟩ := Cond.classLink_spec hown hl1 e.platform hpl
        obtain ⟨a8, b8, h1, h2, h3⟩ := hn1
        cases Option.some.inj (h1.symm.trans hcl)
        cases Option.some.inj (h2.symm.trans hc6)
        exact Or.inr ⟨hz0, _, hcl6, h3⟩)
  obtain ⟨g₀, hfr⟩ := X'.frames_eq
  have hcell9 : ((T.setVm vm').setFrames (.throwing q :: below)).heap[q]? = some ce := by
    show T.heap[q]? = some ce
    rw [hT]; exact hcell
  have hend : Ended ((T.setVm vm').setFrames (.throwing q :: below)) below (.threw q) := State.frames_setFrames _ (State.cur_lt_of_frames hfr)
  refine ⟨(T.setVm vm').setFrames (.throwing q :: below), ?_, .threw q, X'.here.running, hend, Or.inr ⟨q, rfl, E, ce, locs, hx _ hT (X'.ends _).1.alike, hcell9, hv, hcl, (X'.ends _).1, (X'.ends _).2.mono hc hs, hf⟩⟩
  rw [X.pushThrowing_eq]
  exact st
/-- a thing of a world lies in the heap -/
theorem vx_lt {D : va_G} {cl : List vw_C} {ws : va_W} {H1 : Heap} (h : va_P D cl ws H1) {k : Nat} {q : Nat × va_E} (hk : ws[k]? = some q) : q.1 < H1.size := (h k q hk).lt
end VXS
/-! ===== END ===== -/
end
section
-- ===== PART A: goes FIRST, ahead of the names: the tables' words, and 'selects' of the private methods out of them =====
/-- a private method of a class that the tables say can be made, by its rows of tables_1 -/
def lw_okq (q : MethodName × Nat) : Prop := (q.1.cls ≠ "java/lang/invoke/MethodHandle" ∧ q.1.cls ≠ "java/lang/invoke/VarHandle") ∧ Cond.instantiable q.1.cls q.2 ∈ tables_1 ∧ Cond.privateMethod q.1 ∈ tables_1 ∧ Cond.instanceMethod q.1 ∈ tables_1
theorem lw_p0 : lw_okq (⟨"Branchwork$History", "meetContents", "(I)V"⟩, 10) := ⟨⟨by decide +kernel, by decide +kernel⟩, List.mem_of_getElem? (i := 71) (by decide +kernel), List.mem_of_getElem? (i := 297) (by decide +kernel), List.mem_of_getElem? (i := 298) (by decide +kernel)⟩
theorem lw_p1 : lw_okq (⟨"Branchwork", "reached", "()I"⟩, 10) := ⟨⟨by decide +kernel, by decide +kernel⟩, List.mem_of_getElem? (i := 32) (by decide +kernel), List.mem_of_getElem? (i := 302) (by decide +kernel), List.mem_of_getElem? (i := 303) (by decide +kernel)⟩
theorem lw_p2 : lw_okq (⟨"java/lang/Throwable", "fillInStackTrace", "(I)Ljava/lang/Throwable;"⟩, 6) := ⟨⟨by decide +kernel, by decide +kernel⟩, List.mem_of_getElem? (i := 403) (by decide +kernel), List.mem_of_getElem? (i := 401) (by decide +kernel), List.mem_of_getElem? (i := 402) (by decide +kernel)⟩
theorem lw_p3 : lw_okq (⟨"Branchwork", "head", "()I"⟩, 10) := ⟨⟨by decide +kernel, by decide +kernel⟩, List.mem_of_getElem? (i := 32) (by decide +kernel), List.mem_of_getElem? (i := 441) (by decide +kernel), List.mem_of_getElem? (i := 442) (by decide +kernel)⟩
theorem lw_p4 : lw_okq (⟨"Branchwork", "requireBranch", "(I)V"⟩, 10) := ⟨⟨by decide +kernel, by decide +kernel⟩, List.mem_of_getElem? (i := 32) (by decide +kernel), List.mem_of_getElem? (i := 450) (by decide +kernel), List.mem_of_getElem? (i := 451) (by decide +kernel)⟩
theorem lw_p5 : lw_okq (⟨"Branchwork", "foldCommit", "(JI)J"⟩, 10) := ⟨⟨by decide +kernel, by decide +kernel⟩, List.mem_of_getElem? (i := 32) (by decide +kernel), List.mem_of_getElem? (i := 501) (by decide +kernel), List.mem_of_getElem? (i := 502) (by decide +kernel)⟩
theorem lw_p6 : lw_okq (⟨"Branchwork", "requireCommit", "(I)V"⟩, 10) := ⟨⟨by decide +kernel, by decide +kernel⟩, List.mem_of_getElem? (i := 32) (by decide +kernel), List.mem_of_getElem? (i := 509) (by decide +kernel), List.mem_of_getElem? (i := 510) (by decide +kernel)⟩
theorem lw_p7 : lw_okq (⟨"Branchwork", "isClean", "()Z"⟩, 10) := ⟨⟨by decide +kernel, by decide +kernel⟩, List.mem_of_getElem? (i := 32) (by decide +kernel), List.mem_of_getElem? (i := 647) (by decide +kernel), List.mem_of_getElem? (i := 648) (by decide +kernel)⟩
theorem lw_p8 : lw_okq (⟨"Branchwork$History", "numberOfTree", "(I)I"⟩, 10) := ⟨⟨by decide +kernel, by decide +kernel⟩, List.mem_of_getElem? (i := 71) (by decide +kernel), List.mem_of_getElem? (i := 666) (by decide +kernel), List.mem_of_getElem? (i := 667) (by decide +kernel)⟩
theorem lw_p9 : lw_okq (⟨"Branchwork$History", "numberOfContent", "(II)I"⟩, 10) := ⟨⟨by decide +kernel, by decide +kernel⟩, List.mem_of_getElem? (i := 71) (by decide +kernel), List.mem_of_getElem? (i := 671) (by decide +kernel), List.mem_of_getElem? (i := 672) (by decide +kernel)⟩
theorem lw_p10 : lw_okq (⟨"Branchwork", "requireCleanAndUnmerged", "()V"⟩, 10) := ⟨⟨by decide +kernel, by decide +kernel⟩, List.mem_of_getElem? (i := 32) (by decide +kernel), List.mem_of_getElem? (i := 693) (by decide +kernel), List.mem_of_getElem? (i := 694) (by decide +kernel)⟩
theorem lw_p11 : lw_okq (⟨"Branchwork$Renames", "nearest", "(LBranchwork$Tree;ILBranchwork$Tree;)I"⟩, 4) := ⟨⟨by decide +kernel, by decide +kernel⟩, List.mem_of_getElem? (i := 135) (by decide +kernel), List.mem_of_getElem? (i := 739) (by decide +kernel), List.mem_of_getElem? (i := 740) (by decide +kernel)⟩
theorem lw_p12 : lw_okq (⟨"Branchwork$Match", "measure", "(LBranchwork$Content;LBranchwork$Content;)V"⟩, 3) := ⟨⟨by decide +kernel, by decide +kernel⟩, List.mem_of_getElem? (i := 141) (by decide +kernel), List.mem_of_getElem? (i := 749) (by decide +kernel), List.mem_of_getElem? (i := 750) (by decide +kernel)⟩
theorem lw_p13 : lw_okq (⟨"Branchwork$Merger", "mergeFile", "(LBranchwork$Tree;LBranchwork$Tree;LBranchwork$Tree;I)V"⟩, 7) := ⟨⟨by decide +kernel, by decide +kernel⟩, List.mem_of_getElem? (i := 111) (by decide +kernel), List.mem_of_getElem? (i := 759) (by decide +kernel), List.mem_of_getElem? (i := 760) (by decide +kernel)⟩
theorem lw_p14 : lw_okq (⟨"Branchwork$Merger", "mergeLeftOut", "(LBranchwork$Tree;LBranchwork$Tree;II)V"⟩, 7) := ⟨⟨by decide +kernel, by decide +kernel⟩, List.mem_of_getElem? (i := 111) (by decide +kernel), List.mem_of_getElem? (i := 767) (by decide +kernel), List.mem_of_getElem? (i := 768) (by decide +kernel)⟩
theorem lw_p15 : lw_okq (⟨"Branchwork$Merger", "bring", "(LBranchwork$Content;I)Z"⟩, 7) := ⟨⟨by decide +kernel, by decide +kernel⟩, List.mem_of_getElem? (i := 111) (by decide +kernel), List.mem_of_getElem? (i := 773) (by decide +kernel), List.mem_of_getElem? (i := 774) (by decide +kernel)⟩
def lw_privs_1 : List (MethodName × Nat) := [(⟨"Branchwork$History", "meetContents", "(I)V"⟩, 10), (⟨"Branchwork", "reached", "()I"⟩, 10), (⟨"java/lang/Throwable", "fillInStackTrace", "(I)Ljava/lang/Throwable;"⟩, 6), (⟨"Branchwork", "head", "()I"⟩, 10), (⟨"Branchwork", "requireBranch", "(I)V"⟩, 10), (⟨"Branchwork", "foldCommit", "(JI)J"⟩, 10), (⟨"Branchwork", "requireCommit", "(I)V"⟩, 10), (⟨"Branchwork", "isClean", "()Z"⟩, 10), (⟨"Branchwork$History", "numberOfTree", "(I)I"⟩, 10), (⟨"Branchwork$History", "numberOfContent", "(II)I"⟩, 10), (⟨"Branchwork", "requireCleanAndUnmerged", "()V"⟩, 10), (⟨"Branchwork$Renames", "nearest", "(LBranchwork$Tree;ILBranchwork$Tree;)I"⟩, 4), (⟨"Branchwork$Match", "measure", "(LBranchwork$Content;LBranchwork$Content;)V"⟩, 3), (⟨"Branchwork$Merger", "mergeFile", "(LBranchwork$Tree;LBranchwork$Tree;LBranchwork$Tree;I)V"⟩, 7), (⟨"Branchwork$Merger", "mergeLeftOut", "(LBranchwork$Tree;LBranchwork$Tree;II)V"⟩, 7), (⟨"Branchwork$Merger", "bring", "(LBranchwork$Content;I)Z"⟩, 7)]
theorem lw_r1 : ∀ q ∈ lw_privs_1, lw_okq q := List.forall_mem_cons.mpr ⟨lw_p0, List.forall_mem_cons.mpr ⟨lw_p1, List.forall_mem_cons.mpr ⟨lw_p2, List.forall_mem_cons.mpr ⟨lw_p3, List.forall_mem_cons.mpr ⟨lw_p4, List.forall_mem_cons.mpr ⟨lw_p5, List.forall_mem_cons.mpr ⟨lw_p6, List.forall_mem_cons.mpr ⟨lw_p7, List.forall_mem_cons.mpr ⟨lw_p8, List.forall_mem_cons.mpr ⟨lw_p9, List.forall_mem_cons.mpr ⟨lw_p10, List.forall_mem_cons.mpr ⟨lw_p11, List.forall_mem_cons.mpr ⟨lw_p12, List.forall_mem_cons.mpr ⟨lw_p13, List.forall_mem_cons.mpr ⟨lw_p14, List.forall_mem_cons.mpr ⟨lw_p15, fun _ h => absurd h List.not_mem_nil⟩⟩⟩⟩⟩⟩⟩⟩⟩⟩⟩⟩⟩⟩⟩⟩
theorem lw_p16 : lw_okq (⟨"Branchwork$Blender", "blendParts", "(LBranchwork$Content;)Z"⟩, 5) := ⟨⟨by decide +kernel, by decide +kernel⟩, List.mem_of_getElem? (i := 170) (by decide +kernel), List.mem_of_getElem? (i := 808) (by decide +kernel), List.mem_of_getElem? (i := 809) (by decide +kernel)⟩
theorem lw_p17 : lw_okq (⟨"Branchwork$Merger", "joinNew", "(LBranchwork$Content;LBranchwork$Content;I)V"⟩, 7) := ⟨⟨by decide +kernel, by decide +kernel⟩, List.mem_of_getElem? (i := 111) (by decide +kernel), List.mem_of_getElem? (i := 826) (by decide +kernel), List.mem_of_getElem? (i := 827) (by decide +kernel)⟩
theorem lw_p18 : lw_okq (⟨"Branchwork", "requireConflict", "(I)V"⟩, 10) := ⟨⟨by decide +kernel, by decide +kernel⟩, List.mem_of_getElem? (i := 32) (by decide +kernel), List.mem_of_getElem? (i := 854) (by decide +kernel), List.mem_of_getElem? (i := 855) (by decide +kernel)⟩
theorem lw_p19 : lw_okq (⟨"Branchwork", "fileToShow", "(II)LBranchwork$Content;"⟩, 10) := ⟨⟨by decide +kernel, by decide +kernel⟩, List.mem_of_getElem? (i := 32) (by decide +kernel), List.mem_of_getElem? (i := 887) (by decide +kernel), List.mem_of_getElem? (i := 888) (by decide +kernel)⟩
theorem lw_p20 : lw_okq (⟨"Branchwork", "kindOfChange", "(LBranchwork$Tree;LBranchwork$Tree;I)I"⟩, 10) := ⟨⟨by decide +kernel, by decide +kernel⟩, List.mem_of_getElem? (i := 32) (by decide +kernel), List.mem_of_getElem? (i := 930) (by decide +kernel), List.mem_of_getElem? (i := 931) (by decide +kernel)⟩
theorem lw_p21 : lw_okq (⟨"Branchwork", "spotInParent", "(III)I"⟩, 10) := ⟨⟨by decide +kernel, by decide +kernel⟩, List.mem_of_getElem? (i := 32) (by decide +kernel), List.mem_of_getElem? (i := 954) (by decide +kernel), List.mem_of_getElem? (i := 955) (by decide +kernel)⟩
theorem lw_p22 : lw_okq (⟨"java/util/ArrayList", "add", "(Ljava/lang/Object;[Ljava/lang/Object;I)V"⟩, 3) := ⟨⟨by decide +kernel, by decide +kernel⟩, List.mem_of_getElem? (i := 976) (by decide +kernel), List.mem_of_getElem? (i := 1020) (by decide +kernel), List.mem_of_getElem? (i := 1021) (by decide +kernel)⟩
theorem lw_p23 : lw_okq (⟨"java/util/ArrayList", "grow", "()[Ljava/lang/Object;"⟩, 3) := ⟨⟨by decide +kernel, by decide +kernel⟩, List.mem_of_getElem? (i := 976) (by decide +kernel), List.mem_of_getElem? (i := 1024) (by decide +kernel), List.mem_of_getElem? (i := 1025) (by decide +kernel)⟩
theorem lw_p24 : lw_okq (⟨"java/util/ArrayList", "grow", "(I)[Ljava/lang/Object;"⟩, 3) := ⟨⟨by decide +kernel, by decide +kernel⟩, List.mem_of_getElem? (i := 976) (by decide +kernel), List.mem_of_getElem? (i := 1028) (by decide +kernel), List.mem_of_getElem? (i := 1029) (by decide +kernel)⟩
theorem lw_p25 : lw_okq (⟨"BranchworkModel", "start", "(ZI)Z"⟩, 7) := ⟨⟨by decide +kernel, by decide +kernel⟩, List.mem_of_getElem? (i := 970) (by decide +kernel), List.mem_of_getElem? (i := 1113) (by decide +kernel), List.mem_of_getElem? (i := 1114) (by decide +kernel)⟩
theorem lw_p26 : lw_okq (⟨"BranchworkModel", "refuse", "(ZI)Z"⟩, 7) := ⟨⟨by decide +kernel, by decide +kernel⟩, List.mem_of_getElem? (i := 970) (by decide +kernel), List.mem_of_getElem? (i := 1117) (by decide +kernel), List.mem_of_getElem? (i := 1118) (by decide +kernel)⟩
theorem lw_p27 : lw_okq (⟨"BranchworkModel", "write", "(I[I)V"⟩, 7) := ⟨⟨by decide +kernel, by decide +kernel⟩, List.mem_of_getElem? (i := 970) (by decide +kernel), List.mem_of_getElem? (i := 1132) (by decide +kernel), List.mem_of_getElem? (i := 1133) (by decide +kernel)⟩
theorem lw_p28 : lw_okq (⟨"BranchworkModel", "isNoFile", "(I)Z"⟩, 7) := ⟨⟨by decide +kernel, by decide +kernel⟩, List.mem_of_getElem? (i := 970) (by decide +kernel), List.mem_of_getElem? (i := 1147) (by decide +kernel), List.mem_of_getElem? (i := 1148) (by decide +kernel)⟩
theorem lw_p29 : lw_okq (⟨"BranchworkModel", "statusOf", "(I)I"⟩, 7) := ⟨⟨by decide +kernel, by decide +kernel⟩, List.mem_of_getElem? (i := 970) (by decide +kernel), List.mem_of_getElem? (i := 1168) (by decide +kernel), List.mem_of_getElem? (i := 1169) (by decide +kernel)⟩
theorem lw_p30 : lw_okq (⟨"BranchworkModel", "headTree", "()LBranchworkModel$Tree;"⟩, 7) := ⟨⟨by decide +kernel, by decide +kernel⟩, List.mem_of_getElem? (i := 970) (by decide +kernel), List.mem_of_getElem? (i := 1172) (by decide +kernel), List.mem_of_getElem? (i := 1173) (by decide +kernel)⟩
theorem lw_p31 : lw_okq (⟨"BranchworkModel", "head", "()LBranchworkModel$Commit;"⟩, 7) := ⟨⟨by decide +kernel, by decide +kernel⟩, List.mem_of_getElem? (i := 970) (by decide +kernel), List.mem_of_getElem? (i := 1176) (by decide +kernel), List.mem_of_getElem? (i := 1177) (by decide +kernel)⟩
def lw_privs_2 : List (MethodName × Nat) := [(⟨"Branchwork$Blender", "blendParts", "(LBranchwork$Content;)Z"⟩, 5), (⟨"Branchwork$Merger", "joinNew", "(LBranchwork$Content;LBranchwork$Content;I)V"⟩, 7), (⟨"Branchwork", "requireConflict", "(I)V"⟩, 10), (⟨"Branchwork", "fileToShow", "(II)LBranchwork$Content;"⟩, 10), (⟨"Branchwork", "kindOfChange", "(LBranchwork$Tree;LBranchwork$Tree;I)I"⟩, 10), (⟨"Branchwork", "spotInParent", "(III)I"⟩, 10), (⟨"java/util/ArrayList", "add", "(Ljava/lang/Object;[Ljava/lang/Object;I)V"⟩, 3), (⟨"java/util/ArrayList", "grow", "()[Ljava/lang/Object;"⟩, 3), (⟨"java/util/ArrayList", "grow", "(I)[Ljava/lang/Object;"⟩, 3), (⟨"BranchworkModel", "start", "(ZI)Z"⟩, 7), (⟨"BranchworkModel", "refuse", "(ZI)Z"⟩, 7), (⟨"BranchworkModel", "write", "(I[I)V"⟩, 7), (⟨"BranchworkModel", "isNoFile", "(I)Z"⟩, 7), (⟨"BranchworkModel", "statusOf", "(I)I"⟩, 7), (⟨"BranchworkModel", "headTree", "()LBranchworkModel$Tree;"⟩, 7), (⟨"BranchworkModel", "head", "()LBranchworkModel$Commit;"⟩, 7)]
theorem lw_r2 : ∀ q ∈ lw_privs_2, lw_okq q := List.forall_mem_cons.mpr ⟨lw_p16, List.forall_mem_cons.mpr ⟨lw_p17, List.forall_mem_cons.mpr ⟨lw_p18, List.forall_mem_cons.mpr ⟨lw_p19, List.forall_mem_cons.mpr ⟨lw_p20, List.forall_mem_cons.mpr ⟨lw_p21, List.forall_mem_cons.mpr ⟨lw_p22, List.forall_mem_cons.mpr ⟨lw_p23, List.forall_mem_cons.mpr ⟨lw_p24, List.forall_mem_cons.mpr ⟨lw_p25, List.forall_mem_cons.mpr ⟨lw_p26, List.forall_mem_cons.mpr ⟨lw_p27, List.forall_mem_cons.mpr ⟨lw_p28, List.forall_mem_cons.mpr ⟨lw_p29, List.forall_mem_cons.mpr ⟨lw_p30, List.forall_mem_cons.mpr ⟨lw_p31, fun _ h => absurd h List.not_mem_nil⟩⟩⟩⟩⟩⟩⟩⟩⟩⟩⟩⟩⟩⟩⟩⟩
theorem lw_p32 : lw_okq (⟨"BranchworkModel", "isClean", "()Z"⟩, 7) := ⟨⟨by decide +kernel, by decide +kernel⟩, List.mem_of_getElem? (i := 970) (by decide +kernel), List.mem_of_getElem? (i := 1210) (by decide +kernel), List.mem_of_getElem? (i := 1211) (by decide +kernel)⟩
theorem lw_p33 : lw_okq (⟨"BranchworkModel", "isNoBranch", "(I)Z"⟩, 7) := ⟨⟨by decide +kernel, by decide +kernel⟩, List.mem_of_getElem? (i := 970) (by decide +kernel), List.mem_of_getElem? (i := 1260) (by decide +kernel), List.mem_of_getElem? (i := 1261) (by decide +kernel)⟩
theorem lw_p34 : lw_okq (⟨"BranchworkModel", "isNoCommit", "(I)Z"⟩, 7) := ⟨⟨by decide +kernel, by decide +kernel⟩, List.mem_of_getElem? (i := 970) (by decide +kernel), List.mem_of_getElem? (i := 1268) (by decide +kernel), List.mem_of_getElem? (i := 1269) (by decide +kernel)⟩
theorem lw_p35 : lw_okq (⟨"BranchworkModel", "set", "(LBranchworkModel$Commit;)V"⟩, 7) := ⟨⟨by decide +kernel, by decide +kernel⟩, List.mem_of_getElem? (i := 970) (by decide +kernel), List.mem_of_getElem? (i := 1272) (by decide +kernel), List.mem_of_getElem? (i := 1273) (by decide +kernel)⟩
theorem lw_p36 : lw_okq (⟨"BranchworkModel", "baseTree", "(LBranchworkModel$Commit;LBranchworkModel$Commit;)LBranchworkModel$Tree;"⟩, 7) := ⟨⟨by decide +kernel, by decide +kernel⟩, List.mem_of_getElem? (i := 970) (by decide +kernel), List.mem_of_getElem? (i := 1298) (by decide +kernel), List.mem_of_getElem? (i := 1299) (by decide +kernel)⟩
theorem lw_p37 : lw_okq (⟨"BranchworkModel", "baseOf", "(LBranchworkModel$Commit;LBranchworkModel$Commit;)LBranchworkModel$Commit;"⟩, 7) := ⟨⟨by decide +kernel, by decide +kernel⟩, List.mem_of_getElem? (i := 970) (by decide +kernel), List.mem_of_getElem? (i := 1302) (by decide +kernel), List.mem_of_getElem? (i := 1303) (by decide +kernel)⟩
theorem lw_p38 : lw_okq (⟨"BranchworkModel$Merge", "file", "(I[ILBranchworkModel$Tree;ILBranchworkModel$Tree;I)V"⟩, 2) := ⟨⟨by decide +kernel, by decide +kernel⟩, List.mem_of_getElem? (i := 1296) (by decide +kernel), List.mem_of_getElem? (i := 1332) (by decide +kernel), List.mem_of_getElem? (i := 1333) (by decide +kernel)⟩
theorem lw_p39 : lw_okq (⟨"BranchworkModel$Merge", "come", "(I[I)Z"⟩, 2) := ⟨⟨by decide +kernel, by decide +kernel⟩, List.mem_of_getElem? (i := 1296) (by decide +kernel), List.mem_of_getElem? (i := 1337) (by decide +kernel), List.mem_of_getElem? (i := 1338) (by decide +kernel)⟩
theorem lw_p40 : lw_okq (⟨"BranchworkModel$Merge", "tell", "(II)V"⟩, 2) := ⟨⟨by decide +kernel, by decide +kernel⟩, List.mem_of_getElem? (i := 1296) (by decide +kernel), List.mem_of_getElem? (i := 1341) (by decide +kernel), List.mem_of_getElem? (i := 1342) (by decide +kernel)⟩
theorem lw_p41 : lw_okq (⟨"BranchworkModel$Blend", "part", "([I[I[I)V"⟩, 2) := ⟨⟨by decide +kernel, by decide +kernel⟩, List.mem_of_getElem? (i := 1346) (by decide +kernel), List.mem_of_getElem? (i := 1354) (by decide +kernel), List.mem_of_getElem? (i := 1355) (by decide +kernel)⟩
theorem lw_p42 : lw_okq (⟨"BranchworkModel$Tree", "isNew", "(LBranchworkModel$Tree;I)Z"⟩, 1) := ⟨⟨by decide +kernel, by decide +kernel⟩, List.mem_of_getElem? (i := 1002) (by decide +kernel), List.mem_of_getElem? (i := 1369) (by decide +kernel), List.mem_of_getElem? (i := 1370) (by decide +kernel)⟩
theorem lw_p43 : lw_okq (⟨"java/util/ArrayList", "fastRemove", "([Ljava/lang/Object;I)V"⟩, 3) := ⟨⟨by decide +kernel, by decide +kernel⟩, List.mem_of_getElem? (i := 976) (by decide +kernel), List.mem_of_getElem? (i := 1405) (by decide +kernel), List.mem_of_getElem? (i := 1406) (by decide +kernel)⟩
theorem lw_p44 : lw_okq (⟨"BranchworkModel", "garbageNow", "()I"⟩, 7) := ⟨⟨by decide +kernel, by decide +kernel⟩, List.mem_of_getElem? (i := 970) (by decide +kernel), List.mem_of_getElem? (i := 1413) (by decide +kernel), List.mem_of_getElem? (i := 1414) (by decide +kernel)⟩
theorem lw_p45 : lw_okq (⟨"BranchworkModel", "objects", "(Z)I"⟩, 7) := ⟨⟨by decide +kernel, by decide +kernel⟩, List.mem_of_getElem? (i := 970) (by decide +kernel), List.mem_of_getElem? (i := 1417) (by decide +kernel), List.mem_of_getElem? (i := 1418) (by decide +kernel)⟩
theorem lw_p46 : lw_okq (⟨"BranchworkModel", "trees", "(Z)Ljava/util/ArrayList;"⟩, 7) := ⟨⟨by decide +kernel, by decide +kernel⟩, List.mem_of_getElem? (i := 970) (by decide +kernel), List.mem_of_getElem? (i := 1421) (by decide +kernel), List.mem_of_getElem? (i := 1422) (by decide +kernel)⟩
theorem lw_p47 : lw_okq (⟨"BranchworkModel", "reached", "()[Z"⟩, 7) := ⟨⟨by decide +kernel, by decide +kernel⟩, List.mem_of_getElem? (i := 970) (by decide +kernel), List.mem_of_getElem? (i := 1425) (by decide +kernel), List.mem_of_getElem? (i := 1426) (by decide +kernel)⟩
def lw_privs_3 : List (MethodName × Nat) := [(⟨"BranchworkModel", "isClean", "()Z"⟩, 7), (⟨"BranchworkModel", "isNoBranch", "(I)Z"⟩, 7), (⟨"BranchworkModel", "isNoCommit", "(I)Z"⟩, 7), (⟨"BranchworkModel", "set", "(LBranchworkModel$Commit;)V"⟩, 7), (⟨"BranchworkModel", "baseTree", "(LBranchworkModel$Commit;LBranchworkModel$Commit;)LBranchworkModel$Tree;"⟩, 7), (⟨"BranchworkModel", "baseOf", "(LBranchworkModel$Commit;LBranchworkModel$Commit;)LBranchworkModel$Commit;"⟩, 7), (⟨"BranchworkModel$Merge", "file", "(I[ILBranchworkModel$Tree;ILBranchworkModel$Tree;I)V"⟩, 2), (⟨"BranchworkModel$Merge", "come", "(I[I)Z"⟩, 2), (⟨"BranchworkModel$Merge", "tell", "(II)V"⟩, 2), (⟨"BranchworkModel$Blend", "part", "([I[I[I)V"⟩, 2), (⟨"BranchworkModel$Tree", "isNew", "(LBranchworkModel$Tree;I)Z"⟩, 1), (⟨"java/util/ArrayList", "fastRemove", "([Ljava/lang/Object;I)V"⟩, 3), (⟨"BranchworkModel", "garbageNow", "()I"⟩, 7), (⟨"BranchworkModel", "objects", "(Z)I"⟩, 7), (⟨"BranchworkModel", "trees", "(Z)Ljava/util/ArrayList;"⟩, 7), (⟨"BranchworkModel", "reached", "()[Z"⟩, 7)]
theorem lw_r3 : ∀ q ∈ lw_privs_3, lw_okq q := List.forall_mem_cons.mpr ⟨lw_p32, List.forall_mem_cons.mpr ⟨lw_p33, List.forall_mem_cons.mpr ⟨lw_p34, List.forall_mem_cons.mpr ⟨lw_p35, List.forall_mem_cons.mpr ⟨lw_p36, List.forall_mem_cons.mpr ⟨lw_p37, List.forall_mem_cons.mpr ⟨lw_p38, List.forall_mem_cons.mpr ⟨lw_p39, List.forall_mem_cons.mpr ⟨lw_p40, List.forall_mem_cons.mpr ⟨lw_p41, List.forall_mem_cons.mpr ⟨lw_p42, List.forall_mem_cons.mpr ⟨lw_p43, List.forall_mem_cons.mpr ⟨lw_p44, List.forall_mem_cons.mpr ⟨lw_p45, List.forall_mem_cons.mpr ⟨lw_p46, List.forall_mem_cons.mpr ⟨lw_p47, fun _ h => absurd h List.not_mem_nil⟩⟩⟩⟩⟩⟩⟩⟩⟩⟩⟩⟩⟩⟩⟩⟩
theorem lw_p48 : lw_okq (⟨"BranchworkModel", "commitsNow", "(Z)I"⟩, 7) := ⟨⟨by decide +kernel, by decide +kernel⟩, List.mem_of_getElem? (i := 970) (by decide +kernel), List.mem_of_getElem? (i := 1430) (by decide +kernel), List.mem_of_getElem? (i := 1431) (by decide +kernel)⟩
theorem lw_p49 : lw_okq (⟨"BranchworkModel", "count", "(I)I"⟩, 7) := ⟨⟨by decide +kernel, by decide +kernel⟩, List.mem_of_getElem? (i := 970) (by decide +kernel), List.mem_of_getElem? (i := 1442) (by decide +kernel), List.mem_of_getElem? (i := 1443) (by decide +kernel)⟩
theorem lw_p50 : lw_okq (⟨"BranchworkModel", "nowOf", "(I)I"⟩, 7) := ⟨⟨by decide +kernel, by decide +kernel⟩, List.mem_of_getElem? (i := 970) (by decide +kernel), List.mem_of_getElem? (i := 1450) (by decide +kernel), List.mem_of_getElem? (i := 1451) (by decide +kernel)⟩
theorem lw_p51 : lw_okq (⟨"BranchworkModel", "of", "(LBranchworkModel$Commit;I)I"⟩, 7) := ⟨⟨by decide +kernel, by decide +kernel⟩, List.mem_of_getElem? (i := 970) (by decide +kernel), List.mem_of_getElem? (i := 1465) (by decide +kernel), List.mem_of_getElem? (i := 1466) (by decide +kernel)⟩
theorem lw_p52 : lw_okq (⟨"BranchworkModel", "isNoTree", "(II)Z"⟩, 7) := ⟨⟨by decide +kernel, by decide +kernel⟩, List.mem_of_getElem? (i := 970) (by decide +kernel), List.mem_of_getElem? (i := 1473) (by decide +kernel), List.mem_of_getElem? (i := 1474) (by decide +kernel)⟩
theorem lw_p53 : lw_okq (⟨"BranchworkModel", "tree", "(I)LBranchworkModel$Tree;"⟩, 7) := ⟨⟨by decide +kernel, by decide +kernel⟩, List.mem_of_getElem? (i := 970) (by decide +kernel), List.mem_of_getElem? (i := 1477) (by decide +kernel), List.mem_of_getElem? (i := 1478) (by decide +kernel)⟩
def lw_privs_4 : List (MethodName × Nat) := [(⟨"BranchworkModel", "commitsNow", "(Z)I"⟩, 7), (⟨"BranchworkModel", "count", "(I)I"⟩, 7), (⟨"BranchworkModel", "nowOf", "(I)I"⟩, 7), (⟨"BranchworkModel", "of", "(LBranchworkModel$Commit;I)I"⟩, 7), (⟨"BranchworkModel", "isNoTree", "(II)Z"⟩, 7), (⟨"BranchworkModel", "tree", "(I)LBranchworkModel$Tree;"⟩, 7)]
theorem lw_r4 : ∀ q ∈ lw_privs_4, lw_okq q := List.forall_mem_cons.mpr ⟨lw_p48, List.forall_mem_cons.mpr ⟨lw_p49, List.forall_mem_cons.mpr ⟨lw_p50, List.forall_mem_cons.mpr ⟨lw_p51, List.forall_mem_cons.mpr ⟨lw_p52, List.forall_mem_cons.mpr ⟨lw_p53, fun _ h => absurd h List.not_mem_nil⟩⟩⟩⟩⟩⟩
def lw_privs : List (MethodName × Nat) := lw_privs_1 ++ (lw_privs_2 ++ (lw_privs_3 ++ (lw_privs_4)))
def lw_tbl : List Cond := k2_sels lw_privs ++ tables_1
theorem lw_privs_ok : ∀ q ∈ lw_privs, lw_okq q := by
  show ∀ q ∈ lw_privs_1 ++ (lw_privs_2 ++ (lw_privs_3 ++ (lw_privs_4))), lw_okq q
  exact List.forall_mem_append.mpr ⟨lw_r1, List.forall_mem_append.mpr ⟨lw_r2, List.forall_mem_append.mpr ⟨lw_r3, lw_r4⟩⟩⟩
/-- the streams that the claim lets the run draw from -/
abbrev lw_cs : List Choice := [Jvm.Choice.named "NaN.bits"]
theorem lw_bits : nanBits ∈ lw_cs := by first | decide | exact List.mem_cons_self | simp [lw_cs, nanBits]
abbrev jw_M : Type := MethodName × ByteArray × Nat × Option FieldType
abbrev jw_Mem : Type := Nat → Option va_E
abbrev jw_O : Type := Launch × va_G × (Nat → ClassId) × Nat × Nat
abbrev jw_K : Type := Program × Env × Room × State × MethodId × Array Value × List Frame × Method × Code × (State → Prop)
def jw_T : List Cond := lw_tbl.filter goodWord
theorem jw_mem {w : Cond} (i : Nat) (h : lw_tbl[i]? = some w) (g : goodWord w = true) : w ∈ jw_T := List.mem_filter.mpr ⟨List.mem_of_getElem? h, g⟩
theorem jq_0 : Cond.selects "Branchwork$History" ⟨"Branchwork$History", "meetContents", "(I)V"⟩ ⟨"Branchwork$History", "meetContents", "(I)V"⟩ ∈ jw_T := jw_mem 0 (by decide +kernel) (by decide +kernel)
theorem jq_1 : Cond.selects "Branchwork" ⟨"Branchwork", "reached", "()I"⟩ ⟨"Branchwork", "reached", "()I"⟩ ∈ jw_T := jw_mem 1 (by decide +kernel) (by decide +kernel)
theorem jq_2 : Cond.selects "java/lang/Throwable" ⟨"java/lang/Throwable", "fillInStackTrace", "(I)Ljava/lang/Throwable;"⟩ ⟨"java/lang/Throwable", "fillInStackTrace", "(I)Ljava/lang/Throwable;"⟩ ∈ jw_T := jw_mem 2 (by decide +kernel) (by decide +kernel)
theorem jq_3 : Cond.selects "Branchwork" ⟨"Branchwork", "head", "()I"⟩ ⟨"Branchwork", "head", "()I"⟩ ∈ jw_T := jw_mem 3 (by decide +kernel) (by decide +kernel)
theorem jq_4 : Cond.selects "Branchwork" ⟨"Branchwork", "requireBranch", "(I)V"⟩ ⟨"Branchwork", "requireBranch", "(I)V"⟩ ∈ jw_T := jw_mem 4 (by decide +kernel) (by decide +kernel)
theorem jq_5 : Cond.selects "Branchwork" ⟨"Branchwork", "foldCommit", "(JI)J"⟩ ⟨"Branchwork", "foldCommit", "(JI)J"⟩ ∈ jw_T := jw_mem 5 (by decide +kernel) (by decide +kernel)
theorem jq_6 : Cond.selects "Branchwork" ⟨"Branchwork", "requireCommit", "(I)V"⟩ ⟨"Branchwork", "requireCommit", "(I)V"⟩ ∈ jw_T := jw_mem 6 (by decide +kernel) (by decide +kernel)
theorem jq_7 : Cond.selects "Branchwork" ⟨"Branchwork", "isClean", "()Z"⟩ ⟨"Branchwork", "isClean", "()Z"⟩ ∈ jw_T := jw_mem 7 (by decide +kernel) (by decide +kernel)
theorem jq_8 : Cond.selects "Branchwork$History" ⟨"Branchwork$History", "numberOfTree", "(I)I"⟩ ⟨"Branchwork$History", "numberOfTree", "(I)I"⟩ ∈ jw_T := jw_mem 8 (by decide +kernel) (by decide +kernel)
theorem jq_9 : Cond.selects "Branchwork$History" ⟨"Branchwork$History", "numberOfContent", "(II)I"⟩ ⟨"Branchwork$History", "numberOfContent", "(II)I"⟩ ∈ jw_T := jw_mem 9 (by decide +kernel) (by decide +kernel)
theorem jq_10 : Cond.selects "Branchwork" ⟨"Branchwork", "requireCleanAndUnmerged", "()V"⟩ ⟨"Branchwork", "requireCleanAndUnmerged", "()V"⟩ ∈ jw_T := jw_mem 10 (by decide +kernel) (by decide +kernel)
theorem jq_11 : Cond.selects "Branchwork$Renames" ⟨"Branchwork$Renames", "nearest", "(LBranchwork$Tree;ILBranchwork$Tree;)I"⟩ ⟨"Branchwork$Renames", "nearest", "(LBranchwork$Tree;ILBranchwork$Tree;)I"⟩ ∈ jw_T := jw_mem 11 (by decide +kernel) (by decide +kernel)
theorem jq_12 : Cond.selects "Branchwork$Match" ⟨"Branchwork$Match", "measure", "(LBranchwork$Content;LBranchwork$Content;)V"⟩ ⟨"Branchwork$Match", "measure", "(LBranchwork$Content;LBranchwork$Content;)V"⟩ ∈ jw_T := jw_mem 12 (by decide +kernel) (by decide +kernel)
theorem jq_13 : Cond.selects "Branchwork$Merger" ⟨"Branchwork$Merger", "mergeFile", "(LBranchwork$Tree;LBranchwork$Tree;LBranchwork$Tree;I)V"⟩ ⟨"Branchwork$Merger", "mergeFile", "(LBranchwork$Tree;LBranchwork$Tree;LBranchwork$Tree;I)V"⟩ ∈ jw_T := jw_mem 13 (by decide +kernel) (by decide +kernel)
theorem jq_14 : Cond.selects "Branchwork$Merger" ⟨"Branchwork$Merger", "mergeLeftOut", "(LBranchwork$Tree;LBranchwork$Tree;II)V"⟩ ⟨"Branchwork$Merger", "mergeLeftOut", "(LBranchwork$Tree;LBranchwork$Tree;II)V"⟩ ∈ jw_T := jw_mem 14 (by decide +kernel) (by decide +kernel)
theorem jq_15 : Cond.selects "Branchwork$Merger" ⟨"Branchwork$Merger", "bring", "(LBranchwork$Content;I)Z"⟩ ⟨"Branchwork$Merger", "bring", "(LBranchwork$Content;I)Z"⟩ ∈ jw_T := jw_mem 15 (by decide +kernel) (by decide +kernel)
theorem jq_16 : Cond.selects "Branchwork$Blender" ⟨"Branchwork$Blender", "blendParts", "(LBranchwork$Content;)Z"⟩ ⟨"Branchwork$Blender", "blendParts", "(LBranchwork$Content;)Z"⟩ ∈ jw_T := jw_mem 16 (by decide +kernel) (by decide +kernel)
theorem jq_17 : Cond.selects "Branchwork$Merger" ⟨"Branchwork$Merger", "joinNew", "(LBranchwork$Content;LBranchwork$Content;I)V"⟩ ⟨"Branchwork$Merger", "joinNew", "(LBranchwork$Content;LBranchwork$Content;I)V"⟩ ∈ jw_T := jw_mem 17 (by decide +kernel) (by decide +kernel)
theorem jq_18 : Cond.selects "Branchwork" ⟨"Branchwork", "requireConflict", "(I)V"⟩ ⟨"Branchwork", "requireConflict", "(I)V"⟩ ∈ jw_T := jw_mem 18 (by decide +kernel) (by decide +kernel)
theorem jq_19 : Cond.selects "Branchwork" ⟨"Branchwork", "fileToShow", "(II)LBranchwork$Content;"⟩ ⟨"Branchwork", "fileToShow", "(II)LBranchwork$Content;"⟩ ∈ jw_T := jw_mem 19 (by decide +kernel) (by decide +kernel)
theorem jq_20 : Cond.selects "Branchwork" ⟨"Branchwork", "kindOfChange", "(LBranchwork$Tree;LBranchwork$Tree;I)I"⟩ ⟨"Branchwork", "kindOfChange", "(LBranchwork$Tree;LBranchwork$Tree;I)I"⟩ ∈ jw_T := jw_mem 20 (by decide +kernel) (by decide +kernel)
theorem jq_21 : Cond.selects "Branchwork" ⟨"Branchwork", "spotInParent", "(III)I"⟩ ⟨"Branchwork", "spotInParent", "(III)I"⟩ ∈ jw_T := jw_mem 21 (by decide +kernel) (by decide +kernel)
theorem jq_22 : Cond.selects "java/util/ArrayList" ⟨"java/util/ArrayList", "add", "(Ljava/lang/Object;[Ljava/lang/Object;I)V"⟩ ⟨"java/util/ArrayList", "add", "(Ljava/lang/Object;[Ljava/lang/Object;I)V"⟩ ∈ jw_T := jw_mem 22 (by decide +kernel) (by decide +kernel)
theorem jq_23 : Cond.selects "java/util/ArrayList" ⟨"java/util/ArrayList", "grow", "()[Ljava/lang/Object;"⟩ ⟨"java/util/ArrayList", "grow", "()[Ljava/lang/Object;"⟩ ∈ jw_T := jw_mem 23 (by decide +kernel) (by decide +kernel)
theorem jq_24 : Cond.selects "java/util/ArrayList" ⟨"java/util/ArrayList", "grow", "(I)[Ljava/lang/Object;"⟩ ⟨"java/util/ArrayList", "grow", "(I)[Ljava/lang/Object;"⟩ ∈ jw_T := jw_mem 24 (by decide +kernel) (by decide +kernel)
theorem jq_25 : Cond.selects "BranchworkModel" ⟨"BranchworkModel", "start", "(ZI)Z"⟩ ⟨"BranchworkModel", "start", "(ZI)Z"⟩ ∈ jw_T := jw_mem 25 (by decide +kernel) (by decide +kernel)
theorem jq_26 : Cond.selects "BranchworkModel" ⟨"BranchworkModel", "refuse", "(ZI)Z"⟩ ⟨"BranchworkModel", "refuse", "(ZI)Z"⟩ ∈ jw_T := jw_mem 26 (by decide +kernel) (by decide +kernel)
theorem jq_27 : Cond.selects "BranchworkModel" ⟨"BranchworkModel", "write", "(I[I)V"⟩ ⟨"BranchworkModel", "write", "(I[I)V"⟩ ∈ jw_T := jw_mem 27 (by decide +kernel) (by decide +kernel)
theorem jq_28 : Cond.selects "BranchworkModel" ⟨"BranchworkModel", "isNoFile", "(I)Z"⟩ ⟨"BranchworkModel", "isNoFile", "(I)Z"⟩ ∈ jw_T := jw_mem 28 (by decide +kernel) (by decide +kernel)
theorem jq_29 : Cond.selects "BranchworkModel" ⟨"BranchworkModel", "statusOf", "(I)I"⟩ ⟨"BranchworkModel", "statusOf", "(I)I"⟩ ∈ jw_T := jw_mem 29 (by decide +kernel) (by decide +kernel)
theorem jq_30 : Cond.selects "BranchworkModel" ⟨"BranchworkModel", "headTree", "()LBranchworkModel$Tree;"⟩ ⟨"BranchworkModel", "headTree", "()LBranchworkModel$Tree;"⟩ ∈ jw_T := jw_mem 30 (by decide +kernel) (by decide +kernel)
theorem jq_31 : Cond.selects "BranchworkModel" ⟨"BranchworkModel", "head", "()LBranchworkModel$Commit;"⟩ ⟨"BranchworkModel", "head", "()LBranchworkModel$Commit;"⟩ ∈ jw_T := jw_mem 31 (by decide +kernel) (by decide +kernel)
theorem jq_32 : Cond.selects "BranchworkModel" ⟨"BranchworkModel", "isClean", "()Z"⟩ ⟨"BranchworkModel", "isClean", "()Z"⟩ ∈ jw_T := jw_mem 32 (by decide +kernel) (by decide +kernel)
theorem jq_33 : Cond.selects "BranchworkModel" ⟨"BranchworkModel", "isNoBranch", "(I)Z"⟩ ⟨"BranchworkModel", "isNoBranch", "(I)Z"⟩ ∈ jw_T := jw_mem 33 (by decide +kernel) (by decide +kernel)
theorem jq_34 : Cond.selects "BranchworkModel" ⟨"BranchworkModel", "isNoCommit", "(I)Z"⟩ ⟨"BranchworkModel", "isNoCommit", "(I)Z"⟩ ∈ jw_T := jw_mem 34 (by decide +kernel) (by decide +kernel)
theorem jq_35 : Cond.selects "BranchworkModel" ⟨"BranchworkModel", "set", "(LBranchworkModel$Commit;)V"⟩ ⟨"BranchworkModel", "set", "(LBranchworkModel$Commit;)V"⟩ ∈ jw_T := jw_mem 35 (by decide +kernel) (by decide +kernel)
theorem jq_36 : Cond.selects "BranchworkModel" ⟨"BranchworkModel", "baseTree", "(LBranchworkModel$Commit;LBranchworkModel$Commit;)LBranchworkModel$Tree;"⟩ ⟨"BranchworkModel", "baseTree", "(LBranchworkModel$Commit;LBranchworkModel$Commit;)LBranchworkModel$Tree;"⟩ ∈ jw_T := jw_mem 36 (by decide +kernel) (by decide +kernel)
theorem jq_37 : Cond.selects "BranchworkModel" ⟨"BranchworkModel", "baseOf", "(LBranchworkModel$Commit;LBranchworkModel$Commit;)LBranchworkModel$Commit;"⟩ ⟨"BranchworkModel", "baseOf", "(LBranchworkModel$Commit;LBranchworkModel$Commit;)LBranchworkModel$Commit;"⟩ ∈ jw_T := jw_mem 37 (by decide +kernel) (by decide +kernel)
theorem jq_38 : Cond.selects "BranchworkModel$Merge" ⟨"BranchworkModel$Merge", "file", "(I[ILBranchworkModel$Tree;ILBranchworkModel$Tree;I)V"⟩ ⟨"BranchworkModel$Merge", "file", "(I[ILBranchworkModel$Tree;ILBranchworkModel$Tree;I)V"⟩ ∈ jw_T := jw_mem 38 (by decide +kernel) (by decide +kernel)
theorem jq_39 : Cond.selects "BranchworkModel$Merge" ⟨"BranchworkModel$Merge", "come", "(I[I)Z"⟩ ⟨"BranchworkModel$Merge", "come", "(I[I)Z"⟩ ∈ jw_T := jw_mem 39 (by decide +kernel) (by decide +kernel)
theorem jq_40 : Cond.selects "BranchworkModel$Merge" ⟨"BranchworkModel$Merge", "tell", "(II)V"⟩ ⟨"BranchworkModel$Merge", "tell", "(II)V"⟩ ∈ jw_T := jw_mem 40 (by decide +kernel) (by decide +kernel)
theorem jq_41 : Cond.selects "BranchworkModel$Blend" ⟨"BranchworkModel$Blend", "part", "([I[I[I)V"⟩ ⟨"BranchworkModel$Blend", "part", "([I[I[I)V"⟩ ∈ jw_T := jw_mem 41 (by decide +kernel) (by decide +kernel)
theorem jq_42 : Cond.selects "BranchworkModel$Tree" ⟨"BranchworkModel$Tree", "isNew", "(LBranchworkModel$Tree;I)Z"⟩ ⟨"BranchworkModel$Tree", "isNew", "(LBranchworkModel$Tree;I)Z"⟩ ∈ jw_T := jw_mem 42 (by decide +kernel) (by decide +kernel)
theorem jq_43 : Cond.selects "java/util/ArrayList" ⟨"java/util/ArrayList", "fastRemove", "([Ljava/lang/Object;I)V"⟩ ⟨"java/util/ArrayList", "fastRemove", "([Ljava/lang/Object;I)V"⟩ ∈ jw_T := jw_mem 43 (by decide +kernel) (by decide +kernel)
theorem jq_44 : Cond.selects "BranchworkModel" ⟨"BranchworkModel", "garbageNow", "()I"⟩ ⟨"BranchworkModel", "garbageNow", "()I"⟩ ∈ jw_T := jw_mem 44 (by decide +kernel) (by decide +kernel)
theorem jq_45 : Cond.selects "BranchworkModel" ⟨"BranchworkModel", "objects", "(Z)I"⟩ ⟨"BranchworkModel", "objects", "(Z)I"⟩ ∈ jw_T := jw_mem 45 (by decide +kernel) (by decide +kernel)
theorem jq_46 : Cond.selects "BranchworkModel" ⟨"BranchworkModel", "trees", "(Z)Ljava/util/ArrayList;"⟩ ⟨"BranchworkModel", "trees", "(Z)Ljava/util/ArrayList;"⟩ ∈ jw_T := jw_mem 46 (by decide +kernel) (by decide +kernel)
theorem jq_47 : Cond.selects "BranchworkModel" ⟨"BranchworkModel", "reached", "()[Z"⟩ ⟨"BranchworkModel", "reached", "()[Z"⟩ ∈ jw_T := jw_mem 47 (by decide +kernel) (by decide +kernel)
theorem jq_48 : Cond.selects "BranchworkModel" ⟨"BranchworkModel", "commitsNow", "(Z)I"⟩ ⟨"BranchworkModel", "commitsNow", "(Z)I"⟩ ∈ jw_T := jw_mem 48 (by decide +kernel) (by decide +kernel)
theorem jq_49 : Cond.selects "BranchworkModel" ⟨"BranchworkModel", "count", "(I)I"⟩ ⟨"BranchworkModel", "count", "(I)I"⟩ ∈ jw_T := jw_mem 49 (by decide +kernel) (by decide +kernel)
theorem jq_50 : Cond.selects "BranchworkModel" ⟨"BranchworkModel", "nowOf", "(I)I"⟩ ⟨"BranchworkModel", "nowOf", "(I)I"⟩ ∈ jw_T := jw_mem 50 (by decide +kernel) (by decide +kernel)
theorem jq_51 : Cond.selects "BranchworkModel" ⟨"BranchworkModel", "of", "(LBranchworkModel$Commit;I)I"⟩ ⟨"BranchworkModel", "of", "(LBranchworkModel$Commit;I)I"⟩ ∈ jw_T := jw_mem 51 (by decide +kernel) (by decide +kernel)
theorem jq_52 : Cond.selects "BranchworkModel" ⟨"BranchworkModel", "isNoTree", "(II)Z"⟩ ⟨"BranchworkModel", "isNoTree", "(II)Z"⟩ ∈ jw_T := jw_mem 52 (by decide +kernel) (by decide +kernel)
theorem jq_53 : Cond.selects "BranchworkModel" ⟨"BranchworkModel", "tree", "(I)LBranchworkModel$Tree;"⟩ ⟨"BranchworkModel", "tree", "(I)LBranchworkModel$Tree;"⟩ ∈ jw_T := jw_mem 53 (by decide +kernel) (by decide +kernel)
theorem jq_54 : (Jvm.Cond.initialized "BranchworkLaw") ∈ jw_T := jw_mem 54 (by decide +kernel) (by decide +kernel)
theorem jq_55 : (Jvm.Cond.initialized "Branchwork") ∈ jw_T := jw_mem 55 (by decide +kernel) (by decide +kernel)
theorem jq_56 : (Jvm.Cond.initialized "Branchwork$Tree") ∈ jw_T := jw_mem 56 (by decide +kernel) (by decide +kernel)
theorem jq_57 : (Jvm.Cond.initialized "Branchwork$Content") ∈ jw_T := jw_mem 57 (by decide +kernel) (by decide +kernel)
theorem jq_58 : (Jvm.Cond.initialized "Branchwork$History") ∈ jw_T := jw_mem 58 (by decide +kernel) (by decide +kernel)
theorem jq_59 : (Jvm.Cond.initialized "Branchwork$Merger") ∈ jw_T := jw_mem 59 (by decide +kernel) (by decide +kernel)
theorem jq_60 : (Jvm.Cond.initialized "Branchwork$Conflicts") ∈ jw_T := jw_mem 60 (by decide +kernel) (by decide +kernel)
theorem jq_61 : (Jvm.Cond.initialized "Branchwork$Renames") ∈ jw_T := jw_mem 61 (by decide +kernel) (by decide +kernel)
theorem jq_62 : (Jvm.Cond.initialized "Branchwork$Match") ∈ jw_T := jw_mem 62 (by decide +kernel) (by decide +kernel)
theorem jq_63 : (Jvm.Cond.initialized "Branchwork$Blender") ∈ jw_T := jw_mem 63 (by decide +kernel) (by decide +kernel)
theorem jq_64 : (Jvm.Cond.initialized "java/util/Arrays") ∈ jw_T := jw_mem 64 (by decide +kernel) (by decide +kernel)
theorem jq_65 : (Jvm.Cond.initialized "BranchworkModel") ∈ jw_T := jw_mem 65 (by decide +kernel) (by decide +kernel)
theorem jq_66 : (Jvm.Cond.initialized "java/util/AbstractCollection") ∈ jw_T := jw_mem 66 (by decide +kernel) (by decide +kernel)
theorem jq_67 : (Jvm.Cond.initialized "java/util/AbstractList") ∈ jw_T := jw_mem 67 (by decide +kernel) (by decide +kernel)
theorem jq_68 : (Jvm.Cond.initialized "java/util/ArrayList") ∈ jw_T := jw_mem 68 (by decide +kernel) (by decide +kernel)
theorem jq_69 : (Jvm.Cond.initialized "BranchworkModel$Tree") ∈ jw_T := jw_mem 69 (by decide +kernel) (by decide +kernel)
theorem jq_70 : (Jvm.Cond.initialized "jdk/internal/util/ArraysSupport") ∈ jw_T := jw_mem 70 (by decide +kernel) (by decide +kernel)
theorem jq_71 : (Jvm.Cond.initialized "java/lang/Math") ∈ jw_T := jw_mem 71 (by decide +kernel) (by decide +kernel)
theorem jq_72 : (Jvm.Cond.initialized "java/lang/System") ∈ jw_T := jw_mem 72 (by decide +kernel) (by decide +kernel)
theorem jq_73 : (Jvm.Cond.initialized "java/lang/Throwable") ∈ jw_T := jw_mem 73 (by decide +kernel) (by decide +kernel)
theorem jq_74 : (Jvm.Cond.initialized "java/lang/Exception") ∈ jw_T := jw_mem 74 (by decide +kernel) (by decide +kernel)
theorem jq_75 : (Jvm.Cond.initialized "java/lang/RuntimeException") ∈ jw_T := jw_mem 75 (by decide +kernel) (by decide +kernel)
theorem jq_76 : (Jvm.Cond.initialized "java/lang/IndexOutOfBoundsException") ∈ jw_T := jw_mem 76 (by decide +kernel) (by decide +kernel)
theorem jq_77 : (Jvm.Cond.initialized "java/lang/IllegalArgumentException") ∈ jw_T := jw_mem 77 (by decide +kernel) (by decide +kernel)
theorem jq_78 : (Jvm.Cond.initialized "java/lang/IllegalStateException") ∈ jw_T := jw_mem 78 (by decide +kernel) (by decide +kernel)
theorem jq_79 : (Jvm.Cond.initialized "java/util/Objects") ∈ jw_T := jw_mem 79 (by decide +kernel) (by decide +kernel)
theorem jq_80 : (Jvm.Cond.initialized "jdk/internal/util/Preconditions") ∈ jw_T := jw_mem 80 (by decide +kernel) (by decide +kernel)
theorem jq_81 : (Jvm.Cond.initialized "BranchworkModel$Commit") ∈ jw_T := jw_mem 81 (by decide +kernel) (by decide +kernel)
theorem jq_82 : (Jvm.Cond.initialized "BranchworkModel$Merge") ∈ jw_T := jw_mem 82 (by decide +kernel) (by decide +kernel)
theorem jq_83 : (Jvm.Cond.initialized "BranchworkModel$Blend") ∈ jw_T := jw_mem 83 (by decide +kernel) (by decide +kernel)
theorem jq_84 : (Jvm.Cond.initialized "java/lang/Integer") ∈ jw_T := jw_mem 84 (by decide +kernel) (by decide +kernel)
theorem jq_85 : (Jvm.Cond.classLink "BranchworkLaw" (8 : Nat) "Branchwork") ∈ jw_T := jw_mem 85 (by decide +kernel) (by decide +kernel)
theorem jq_86 : (Jvm.Cond.instantiable "Branchwork" (10 : Nat)) ∈ jw_T := jw_mem 86 (by decide +kernel) (by decide +kernel)
theorem jq_87 : (Jvm.Cond.methodLink "BranchworkLaw" (92 : Nat) ({ cls := "Branchwork", name := "<init>", desc := "()V" } : Jvm.MethodName)) ∈ jw_T := jw_mem 87 (by decide +kernel) (by decide +kernel)
theorem jq_88 : (Jvm.Cond.instanceMethod ({ cls := "Branchwork", name := "<init>", desc := "()V" } : Jvm.MethodName)) ∈ jw_T := jw_mem 88 (by decide +kernel) (by decide +kernel)
theorem jq_89 : (Jvm.Cond.code ({ cls := "Branchwork", name := "<init>", desc := "()V" } : Jvm.MethodName) prog_1_method_1_code (1 : Nat) (Option.none : Option Jvm.ClassFile.FieldType)) ∈ jw_T := jw_mem 89 (by decide +kernel) (by decide +kernel)
theorem jq_90 : (Jvm.Cond.methodLink "Branchwork" (3 : Nat) ({ cls := "java/lang/Object", name := "<init>", desc := "()V" } : Jvm.MethodName)) ∈ jw_T := jw_mem 90 (by decide +kernel) (by decide +kernel)
theorem jq_91 : (Jvm.Cond.instanceMethod ({ cls := "java/lang/Object", name := "<init>", desc := "()V" } : Jvm.MethodName)) ∈ jw_T := jw_mem 91 (by decide +kernel) (by decide +kernel)
theorem jq_92 : (Jvm.Cond.code ({ cls := "java/lang/Object", name := "<init>", desc := "()V" } : Jvm.MethodName) object_method_1_code (1 : Nat) (Option.none : Option Jvm.ClassFile.FieldType)) ∈ jw_T := jw_mem 92 (by decide +kernel) (by decide +kernel)
theorem jq_93 : (Jvm.Cond.classLink "Branchwork" (9 : Nat) "Branchwork$Tree") ∈ jw_T := jw_mem 93 (by decide +kernel) (by decide +kernel)
theorem jq_94 : (Jvm.Cond.instantiable "Branchwork$Tree" (2 : Nat)) ∈ jw_T := jw_mem 94 (by decide +kernel) (by decide +kernel)
theorem jq_95 : (Jvm.Cond.methodLink "Branchwork" (11 : Nat) ({ cls := "Branchwork$Tree", name := "<init>", desc := "()V" } : Jvm.MethodName)) ∈ jw_T := jw_mem 95 (by decide +kernel) (by decide +kernel)
theorem jq_96 : (Jvm.Cond.instanceMethod ({ cls := "Branchwork$Tree", name := "<init>", desc := "()V" } : Jvm.MethodName)) ∈ jw_T := jw_mem 96 (by decide +kernel) (by decide +kernel)
theorem jq_97 : (Jvm.Cond.code ({ cls := "Branchwork$Tree", name := "<init>", desc := "()V" } : Jvm.MethodName) prog_9_method_1_code (2 : Nat) (Option.none : Option Jvm.ClassFile.FieldType)) ∈ jw_T := jw_mem 97 (by decide +kernel) (by decide +kernel)
theorem jq_98 : (Jvm.Cond.methodLink "Branchwork$Tree" (3 : Nat) ({ cls := "java/lang/Object", name := "<init>", desc := "()V" } : Jvm.MethodName)) ∈ jw_T := jw_mem 98 (by decide +kernel) (by decide +kernel)
theorem jq_99 : (Jvm.Cond.classLink "Branchwork$Tree" (9 : Nat) "Branchwork$Content") ∈ jw_T := jw_mem 99 (by decide +kernel) (by decide +kernel)
theorem jq_101 : (Jvm.Cond.instantiable "Branchwork$Content" (3 : Nat)) ∈ jw_T := jw_mem 101 (by decide +kernel) (by decide +kernel)
theorem jq_103 : (Jvm.Cond.instanceMethod ({ cls := "Branchwork$Content", name := "<init>", desc := "()V" } : Jvm.MethodName)) ∈ jw_T := jw_mem 103 (by decide +kernel) (by decide +kernel)
theorem jq_104 : (Jvm.Cond.code ({ cls := "Branchwork$Content", name := "<init>", desc := "()V" } : Jvm.MethodName) prog_4_method_1_code (1 : Nat) (Option.none : Option Jvm.ClassFile.FieldType)) ∈ jw_T := jw_mem 104 (by decide +kernel) (by decide +kernel)
theorem jq_105 : (Jvm.Cond.methodLink "Branchwork$Content" (3 : Nat) ({ cls := "java/lang/Object", name := "<init>", desc := "()V" } : Jvm.MethodName)) ∈ jw_T := jw_mem 105 (by decide +kernel) (by decide +kernel)
theorem jq_106 : (Jvm.Cond.fieldLink "Branchwork$Content" (9 : Nat) "Branchwork$Content" "lines" "[I") ∈ jw_T := jw_mem 106 (by decide +kernel) (by decide +kernel)
theorem jq_107 : (Jvm.Cond.fieldLink "Branchwork$Content" (15 : Nat) "Branchwork$Content" "count" "I") ∈ jw_T := jw_mem 107 (by decide +kernel) (by decide +kernel)
theorem jq_108 : (Jvm.Cond.fieldLink "Branchwork$Content" (19 : Nat) "Branchwork$Content" "present" "Z") ∈ jw_T := jw_mem 108 (by decide +kernel) (by decide +kernel)
theorem jq_116 : (Jvm.Cond.arrayClass Jvm.ClassFile.FieldType.int) ∈ jw_T := jw_mem 116 (by decide +kernel) (by decide +kernel)
theorem jq_117 : (Jvm.Cond.fieldLink "Branchwork$Tree" (11 : Nat) "Branchwork$Tree" "files" "[LBranchwork$Content;") ∈ jw_T := jw_mem 117 (by decide +kernel) (by decide +kernel)
theorem jq_118 : (Jvm.Cond.fieldLink "Branchwork$Tree" (18 : Nat) "Branchwork$Tree" "outside" "LBranchwork$Content;") ∈ jw_T := jw_mem 118 (by decide +kernel) (by decide +kernel)
theorem jq_124 : (Jvm.Cond.classLink "Branchwork" (16 : Nat) "Branchwork$History") ∈ jw_T := jw_mem 124 (by decide +kernel) (by decide +kernel)
theorem jq_125 : (Jvm.Cond.instantiable "Branchwork$History" (10 : Nat)) ∈ jw_T := jw_mem 125 (by decide +kernel) (by decide +kernel)
theorem jq_126 : (Jvm.Cond.methodLink "Branchwork" (18 : Nat) ({ cls := "Branchwork$History", name := "<init>", desc := "()V" } : Jvm.MethodName)) ∈ jw_T := jw_mem 126 (by decide +kernel) (by decide +kernel)
theorem jq_127 : (Jvm.Cond.instanceMethod ({ cls := "Branchwork$History", name := "<init>", desc := "()V" } : Jvm.MethodName)) ∈ jw_T := jw_mem 127 (by decide +kernel) (by decide +kernel)
theorem jq_128 : (Jvm.Cond.code ({ cls := "Branchwork$History", name := "<init>", desc := "()V" } : Jvm.MethodName) prog_5_method_1_code (2 : Nat) (Option.none : Option Jvm.ClassFile.FieldType)) ∈ jw_T := jw_mem 128 (by decide +kernel) (by decide +kernel)
theorem jq_129 : (Jvm.Cond.methodLink "Branchwork$History" (3 : Nat) ({ cls := "java/lang/Object", name := "<init>", desc := "()V" } : Jvm.MethodName)) ∈ jw_T := jw_mem 129 (by decide +kernel) (by decide +kernel)
theorem jq_130 : (Jvm.Cond.classLink "Branchwork$History" (9 : Nat) "Branchwork$Tree") ∈ jw_T := jw_mem 130 (by decide +kernel) (by decide +kernel)
theorem jq_132 : (Jvm.Cond.methodLink "Branchwork$History" (17 : Nat) ({ cls := "Branchwork$Tree", name := "<init>", desc := "()V" } : Jvm.MethodName)) ∈ jw_T := jw_mem 132 (by decide +kernel) (by decide +kernel)
theorem jq_133 : (Jvm.Cond.fieldLink "Branchwork$History" (11 : Nat) "Branchwork$History" "trees" "[LBranchwork$Tree;") ∈ jw_T := jw_mem 133 (by decide +kernel) (by decide +kernel)
theorem jq_134 : (Jvm.Cond.fieldLink "Branchwork$History" (18 : Nat) "Branchwork$History" "nothing" "LBranchwork$Tree;") ∈ jw_T := jw_mem 134 (by decide +kernel) (by decide +kernel)
theorem jq_135 : (Jvm.Cond.fieldLink "Branchwork$History" (22 : Nat) "Branchwork$History" "notes" "[I") ∈ jw_T := jw_mem 135 (by decide +kernel) (by decide +kernel)
theorem jq_136 : (Jvm.Cond.fieldLink "Branchwork$History" (26 : Nat) "Branchwork$History" "firstParents" "[I") ∈ jw_T := jw_mem 136 (by decide +kernel) (by decide +kernel)
theorem jq_137 : (Jvm.Cond.fieldLink "Branchwork$History" (29 : Nat) "Branchwork$History" "secondParents" "[I") ∈ jw_T := jw_mem 137 (by decide +kernel) (by decide +kernel)
theorem jq_138 : (Jvm.Cond.fieldLink "Branchwork$History" (32 : Nat) "Branchwork$History" "treeNumbers" "[I") ∈ jw_T := jw_mem 138 (by decide +kernel) (by decide +kernel)
theorem jq_139 : (Jvm.Cond.fieldLink "Branchwork$History" (35 : Nat) "Branchwork$History" "contentNumbers" "[I") ∈ jw_T := jw_mem 139 (by decide +kernel) (by decide +kernel)
theorem jq_140 : (Jvm.Cond.fieldLink "Branchwork$History" (38 : Nat) "Branchwork$History" "metContents" "[I") ∈ jw_T := jw_mem 140 (by decide +kernel) (by decide +kernel)
theorem jq_141 : (Jvm.Cond.fieldLink "Branchwork$History" (41 : Nat) "Branchwork$History" "count" "I") ∈ jw_T := jw_mem 141 (by decide +kernel) (by decide +kernel)
theorem jq_142 : (Jvm.Cond.fieldLink "Branchwork$History" (45 : Nat) "Branchwork$History" "kept" "I") ∈ jw_T := jw_mem 142 (by decide +kernel) (by decide +kernel)
theorem jq_164 : (Jvm.Cond.classLink "Branchwork" (23 : Nat) "Branchwork$Merger") ∈ jw_T := jw_mem 164 (by decide +kernel) (by decide +kernel)
theorem jq_165 : (Jvm.Cond.instantiable "Branchwork$Merger" (7 : Nat)) ∈ jw_T := jw_mem 165 (by decide +kernel) (by decide +kernel)
theorem jq_167 : (Jvm.Cond.instanceMethod ({ cls := "Branchwork$Merger", name := "<init>", desc := "()V" } : Jvm.MethodName)) ∈ jw_T := jw_mem 167 (by decide +kernel) (by decide +kernel)
theorem jq_168 : (Jvm.Cond.code ({ cls := "Branchwork$Merger", name := "<init>", desc := "()V" } : Jvm.MethodName) prog_7_method_1_code (1 : Nat) (Option.none : Option Jvm.ClassFile.FieldType)) ∈ jw_T := jw_mem 168 (by decide +kernel) (by decide +kernel)
theorem jq_169 : (Jvm.Cond.methodLink "Branchwork$Merger" (3 : Nat) ({ cls := "java/lang/Object", name := "<init>", desc := "()V" } : Jvm.MethodName)) ∈ jw_T := jw_mem 169 (by decide +kernel) (by decide +kernel)
theorem jq_170 : (Jvm.Cond.classLink "Branchwork$Merger" (9 : Nat) "Branchwork$Tree") ∈ jw_T := jw_mem 170 (by decide +kernel) (by decide +kernel)
theorem jq_171 : (Jvm.Cond.methodLink "Branchwork$Merger" (11 : Nat) ({ cls := "Branchwork$Tree", name := "<init>", desc := "()V" } : Jvm.MethodName)) ∈ jw_T := jw_mem 171 (by decide +kernel) (by decide +kernel)
theorem jq_172 : (Jvm.Cond.classLink "Branchwork$Merger" (18 : Nat) "Branchwork$Conflicts") ∈ jw_T := jw_mem 172 (by decide +kernel) (by decide +kernel)
theorem jq_173 : (Jvm.Cond.instantiable "Branchwork$Conflicts" (3 : Nat)) ∈ jw_T := jw_mem 173 (by decide +kernel) (by decide +kernel)
theorem jq_175 : (Jvm.Cond.instanceMethod ({ cls := "Branchwork$Conflicts", name := "<init>", desc := "()V" } : Jvm.MethodName)) ∈ jw_T := jw_mem 175 (by decide +kernel) (by decide +kernel)
theorem jq_176 : (Jvm.Cond.code ({ cls := "Branchwork$Conflicts", name := "<init>", desc := "()V" } : Jvm.MethodName) prog_3_method_1_code (1 : Nat) (Option.none : Option Jvm.ClassFile.FieldType)) ∈ jw_T := jw_mem 176 (by decide +kernel) (by decide +kernel)
theorem jq_177 : (Jvm.Cond.methodLink "Branchwork$Conflicts" (3 : Nat) ({ cls := "java/lang/Object", name := "<init>", desc := "()V" } : Jvm.MethodName)) ∈ jw_T := jw_mem 177 (by decide +kernel) (by decide +kernel)
theorem jq_178 : (Jvm.Cond.fieldLink "Branchwork$Conflicts" (9 : Nat) "Branchwork$Conflicts" "codes" "[I") ∈ jw_T := jw_mem 178 (by decide +kernel) (by decide +kernel)
theorem jq_179 : (Jvm.Cond.fieldLink "Branchwork$Conflicts" (15 : Nat) "Branchwork$Conflicts" "paths" "[I") ∈ jw_T := jw_mem 179 (by decide +kernel) (by decide +kernel)
theorem jq_180 : (Jvm.Cond.fieldLink "Branchwork$Conflicts" (18 : Nat) "Branchwork$Conflicts" "count" "I") ∈ jw_T := jw_mem 180 (by decide +kernel) (by decide +kernel)
theorem jq_188 : (Jvm.Cond.classLink "Branchwork$Merger" (25 : Nat) "Branchwork$Renames") ∈ jw_T := jw_mem 188 (by decide +kernel) (by decide +kernel)
theorem jq_189 : (Jvm.Cond.instantiable "Branchwork$Renames" (4 : Nat)) ∈ jw_T := jw_mem 189 (by decide +kernel) (by decide +kernel)
theorem jq_191 : (Jvm.Cond.instanceMethod ({ cls := "Branchwork$Renames", name := "<init>", desc := "()V" } : Jvm.MethodName)) ∈ jw_T := jw_mem 191 (by decide +kernel) (by decide +kernel)
theorem jq_192 : (Jvm.Cond.code ({ cls := "Branchwork$Renames", name := "<init>", desc := "()V" } : Jvm.MethodName) prog_8_method_1_code (1 : Nat) (Option.none : Option Jvm.ClassFile.FieldType)) ∈ jw_T := jw_mem 192 (by decide +kernel) (by decide +kernel)
theorem jq_193 : (Jvm.Cond.methodLink "Branchwork$Renames" (3 : Nat) ({ cls := "java/lang/Object", name := "<init>", desc := "()V" } : Jvm.MethodName)) ∈ jw_T := jw_mem 193 (by decide +kernel) (by decide +kernel)
theorem jq_194 : (Jvm.Cond.classLink "Branchwork$Renames" (18 : Nat) "Branchwork$Match") ∈ jw_T := jw_mem 194 (by decide +kernel) (by decide +kernel)
theorem jq_195 : (Jvm.Cond.instantiable "Branchwork$Match" (3 : Nat)) ∈ jw_T := jw_mem 195 (by decide +kernel) (by decide +kernel)
theorem jq_197 : (Jvm.Cond.instanceMethod ({ cls := "Branchwork$Match", name := "<init>", desc := "()V" } : Jvm.MethodName)) ∈ jw_T := jw_mem 197 (by decide +kernel) (by decide +kernel)
theorem jq_198 : (Jvm.Cond.code ({ cls := "Branchwork$Match", name := "<init>", desc := "()V" } : Jvm.MethodName) prog_6_method_1_code (1 : Nat) (Option.none : Option Jvm.ClassFile.FieldType)) ∈ jw_T := jw_mem 198 (by decide +kernel) (by decide +kernel)
theorem jq_199 : (Jvm.Cond.methodLink "Branchwork$Match" (3 : Nat) ({ cls := "java/lang/Object", name := "<init>", desc := "()V" } : Jvm.MethodName)) ∈ jw_T := jw_mem 199 (by decide +kernel) (by decide +kernel)
theorem jq_200 : (Jvm.Cond.fieldLink "Branchwork$Match" (11 : Nat) "Branchwork$Match" "common" "[I") ∈ jw_T := jw_mem 200 (by decide +kernel) (by decide +kernel)
theorem jq_201 : (Jvm.Cond.fieldLink "Branchwork$Match" (15 : Nat) "Branchwork$Match" "partnersInB" "[I") ∈ jw_T := jw_mem 201 (by decide +kernel) (by decide +kernel)
theorem jq_202 : (Jvm.Cond.fieldLink "Branchwork$Match" (18 : Nat) "Branchwork$Match" "partnersInA" "[I") ∈ jw_T := jw_mem 202 (by decide +kernel) (by decide +kernel)
theorem jq_210 : (Jvm.Cond.fieldLink "Branchwork$Renames" (9 : Nat) "Branchwork$Renames" "fates" "[I") ∈ jw_T := jw_mem 210 (by decide +kernel) (by decide +kernel)
theorem jq_211 : (Jvm.Cond.fieldLink "Branchwork$Renames" (15 : Nat) "Branchwork$Renames" "sources" "[I") ∈ jw_T := jw_mem 211 (by decide +kernel) (by decide +kernel)
theorem jq_212 : (Jvm.Cond.fieldLink "Branchwork$Renames" (21 : Nat) "Branchwork$Renames" "match" "LBranchwork$Match;") ∈ jw_T := jw_mem 212 (by decide +kernel) (by decide +kernel)
theorem jq_213 : (Jvm.Cond.fieldLink "Branchwork$Renames" (25 : Nat) "Branchwork$Renames" "count" "I") ∈ jw_T := jw_mem 213 (by decide +kernel) (by decide +kernel)
theorem jq_223 : (Jvm.Cond.classLink "Branchwork$Merger" (35 : Nat) "Branchwork$Blender") ∈ jw_T := jw_mem 223 (by decide +kernel) (by decide +kernel)
theorem jq_224 : (Jvm.Cond.instantiable "Branchwork$Blender" (5 : Nat)) ∈ jw_T := jw_mem 224 (by decide +kernel) (by decide +kernel)
theorem jq_226 : (Jvm.Cond.instanceMethod ({ cls := "Branchwork$Blender", name := "<init>", desc := "()V" } : Jvm.MethodName)) ∈ jw_T := jw_mem 226 (by decide +kernel) (by decide +kernel)
theorem jq_227 : (Jvm.Cond.code ({ cls := "Branchwork$Blender", name := "<init>", desc := "()V" } : Jvm.MethodName) prog_2_method_1_code (1 : Nat) (Option.none : Option Jvm.ClassFile.FieldType)) ∈ jw_T := jw_mem 227 (by decide +kernel) (by decide +kernel)
theorem jq_228 : (Jvm.Cond.methodLink "Branchwork$Blender" (3 : Nat) ({ cls := "java/lang/Object", name := "<init>", desc := "()V" } : Jvm.MethodName)) ∈ jw_T := jw_mem 228 (by decide +kernel) (by decide +kernel)
theorem jq_229 : (Jvm.Cond.classLink "Branchwork$Blender" (9 : Nat) "Branchwork$Match") ∈ jw_T := jw_mem 229 (by decide +kernel) (by decide +kernel)
theorem jq_231 : (Jvm.Cond.classLink "Branchwork$Blender" (21 : Nat) "Branchwork$Content") ∈ jw_T := jw_mem 231 (by decide +kernel) (by decide +kernel)
theorem jq_233 : (Jvm.Cond.fieldLink "Branchwork$Blender" (12 : Nat) "Branchwork$Blender" "withOurs" "LBranchwork$Match;") ∈ jw_T := jw_mem 233 (by decide +kernel) (by decide +kernel)
theorem jq_234 : (Jvm.Cond.fieldLink "Branchwork$Blender" (18 : Nat) "Branchwork$Blender" "withTheirs" "LBranchwork$Match;") ∈ jw_T := jw_mem 234 (by decide +kernel) (by decide +kernel)
theorem jq_235 : (Jvm.Cond.fieldLink "Branchwork$Blender" (24 : Nat) "Branchwork$Blender" "basePart" "LBranchwork$Content;") ∈ jw_T := jw_mem 235 (by decide +kernel) (by decide +kernel)
theorem jq_236 : (Jvm.Cond.fieldLink "Branchwork$Blender" (28 : Nat) "Branchwork$Blender" "ourPart" "LBranchwork$Content;") ∈ jw_T := jw_mem 236 (by decide +kernel) (by decide +kernel)
theorem jq_237 : (Jvm.Cond.fieldLink "Branchwork$Blender" (31 : Nat) "Branchwork$Blender" "theirPart" "LBranchwork$Content;") ∈ jw_T := jw_mem 237 (by decide +kernel) (by decide +kernel)
theorem jq_249 : (Jvm.Cond.classLink "Branchwork$Merger" (42 : Nat) "Branchwork$Content") ∈ jw_T := jw_mem 249 (by decide +kernel) (by decide +kernel)
theorem jq_251 : (Jvm.Cond.fieldLink "Branchwork$Merger" (12 : Nat) "Branchwork$Merger" "result" "LBranchwork$Tree;") ∈ jw_T := jw_mem 251 (by decide +kernel) (by decide +kernel)
theorem jq_252 : (Jvm.Cond.fieldLink "Branchwork$Merger" (21 : Nat) "Branchwork$Merger" "told" "LBranchwork$Conflicts;") ∈ jw_T := jw_mem 252 (by decide +kernel) (by decide +kernel)
theorem jq_253 : (Jvm.Cond.fieldLink "Branchwork$Merger" (28 : Nat) "Branchwork$Merger" "toOurs" "LBranchwork$Renames;") ∈ jw_T := jw_mem 253 (by decide +kernel) (by decide +kernel)
theorem jq_254 : (Jvm.Cond.fieldLink "Branchwork$Merger" (32 : Nat) "Branchwork$Merger" "toTheirs" "LBranchwork$Renames;") ∈ jw_T := jw_mem 254 (by decide +kernel) (by decide +kernel)
theorem jq_255 : (Jvm.Cond.fieldLink "Branchwork$Merger" (38 : Nat) "Branchwork$Merger" "blender" "LBranchwork$Blender;") ∈ jw_T := jw_mem 255 (by decide +kernel) (by decide +kernel)
theorem jq_256 : (Jvm.Cond.fieldLink "Branchwork$Merger" (45 : Nat) "Branchwork$Merger" "noLines" "LBranchwork$Content;") ∈ jw_T := jw_mem 256 (by decide +kernel) (by decide +kernel)
theorem jq_257 : (Jvm.Cond.fieldLink "Branchwork$Merger" (49 : Nat) "Branchwork$Merger" "newFromOurs" "[Z") ∈ jw_T := jw_mem 257 (by decide +kernel) (by decide +kernel)
theorem jq_273 : (Jvm.Cond.arrayClass Jvm.ClassFile.FieldType.boolean) ∈ jw_T := jw_mem 273 (by decide +kernel) (by decide +kernel)
theorem jq_274 : (Jvm.Cond.classLink "Branchwork" (30 : Nat) "Branchwork$Conflicts") ∈ jw_T := jw_mem 274 (by decide +kernel) (by decide +kernel)
theorem jq_276 : (Jvm.Cond.classLink "Branchwork" (37 : Nat) "Branchwork$Renames") ∈ jw_T := jw_mem 276 (by decide +kernel) (by decide +kernel)
theorem jq_278 : (Jvm.Cond.classLink "Branchwork" (44 : Nat) "Branchwork$Match") ∈ jw_T := jw_mem 278 (by decide +kernel) (by decide +kernel)
theorem jq_280 : (Jvm.Cond.methodLink "Branchwork" (65 : Nat) ({ cls := "java/util/Arrays", name := "fill", desc := "([II)V" } : Jvm.MethodName)) ∈ jw_T := jw_mem 280 (by decide +kernel) (by decide +kernel)
theorem jq_281 : (Jvm.Cond.static ({ cls := "java/util/Arrays", name := "fill", desc := "([II)V" } : Jvm.MethodName)) ∈ jw_T := jw_mem 281 (by decide +kernel) (by decide +kernel)
theorem jq_282 : (Jvm.Cond.code ({ cls := "java/util/Arrays", name := "fill", desc := "([II)V" } : Jvm.MethodName) prog_32_method_103_code (4 : Nat) (Option.none : Option Jvm.ClassFile.FieldType)) ∈ jw_T := jw_mem 282 (by decide +kernel) (by decide +kernel)
theorem jq_283 : (Jvm.Cond.fieldLink "Branchwork" (12 : Nat) "Branchwork" "working" "LBranchwork$Tree;") ∈ jw_T := jw_mem 283 (by decide +kernel) (by decide +kernel)
theorem jq_284 : (Jvm.Cond.fieldLink "Branchwork" (19 : Nat) "Branchwork" "history" "LBranchwork$History;") ∈ jw_T := jw_mem 284 (by decide +kernel) (by decide +kernel)
theorem jq_285 : (Jvm.Cond.fieldLink "Branchwork" (26 : Nat) "Branchwork" "merger" "LBranchwork$Merger;") ∈ jw_T := jw_mem 285 (by decide +kernel) (by decide +kernel)
theorem jq_286 : (Jvm.Cond.fieldLink "Branchwork" (33 : Nat) "Branchwork" "conflicts" "LBranchwork$Conflicts;") ∈ jw_T := jw_mem 286 (by decide +kernel) (by decide +kernel)
theorem jq_287 : (Jvm.Cond.fieldLink "Branchwork" (40 : Nat) "Branchwork" "renames" "LBranchwork$Renames;") ∈ jw_T := jw_mem 287 (by decide +kernel) (by decide +kernel)
theorem jq_288 : (Jvm.Cond.fieldLink "Branchwork" (47 : Nat) "Branchwork" "match" "LBranchwork$Match;") ∈ jw_T := jw_mem 288 (by decide +kernel) (by decide +kernel)
theorem jq_289 : (Jvm.Cond.fieldLink "Branchwork" (51 : Nat) "Branchwork" "tips" "[I") ∈ jw_T := jw_mem 289 (by decide +kernel) (by decide +kernel)
theorem jq_290 : (Jvm.Cond.fieldLink "Branchwork" (55 : Nat) "Branchwork" "branches" "I") ∈ jw_T := jw_mem 290 (by decide +kernel) (by decide +kernel)
theorem jq_291 : (Jvm.Cond.fieldLink "Branchwork" (59 : Nat) "Branchwork" "current" "I") ∈ jw_T := jw_mem 291 (by decide +kernel) (by decide +kernel)
theorem jq_292 : (Jvm.Cond.fieldLink "Branchwork" (62 : Nat) "Branchwork" "merged" "I") ∈ jw_T := jw_mem 292 (by decide +kernel) (by decide +kernel)
theorem jq_314 : (Jvm.Cond.methodLink "BranchworkLaw" (138 : Nat) ({ cls := "Branchwork", name := "collect", desc := "()I" } : Jvm.MethodName)) ∈ jw_T := jw_mem 314 (by decide +kernel) (by decide +kernel)
theorem jq_315 : (Jvm.Cond.instanceMethod ({ cls := "Branchwork", name := "collect", desc := "()I" } : Jvm.MethodName)) ∈ jw_T := jw_mem 315 (by decide +kernel) (by decide +kernel)
theorem jq_316 : (Jvm.Cond.selects "Branchwork" ({ cls := "Branchwork", name := "collect", desc := "()I" } : Jvm.MethodName) ({ cls := "Branchwork", name := "collect", desc := "()I" } : Jvm.MethodName)) ∈ jw_T := jw_mem 316 (by decide +kernel) (by decide +kernel)
theorem jq_317 : (Jvm.Cond.code ({ cls := "Branchwork", name := "collect", desc := "()I" } : Jvm.MethodName) prog_1_method_13_code (2 : Nat) (Option.some Jvm.ClassFile.FieldType.int)) ∈ jw_T := jw_mem 317 (by decide +kernel) (by decide +kernel)
theorem jq_318 : (Jvm.Cond.methodLink "Branchwork" (211 : Nat) ({ cls := "Branchwork", name := "garbage", desc := "()I" } : Jvm.MethodName)) ∈ jw_T := jw_mem 318 (by decide +kernel) (by decide +kernel)
theorem jq_319 : (Jvm.Cond.instanceMethod ({ cls := "Branchwork", name := "garbage", desc := "()I" } : Jvm.MethodName)) ∈ jw_T := jw_mem 319 (by decide +kernel) (by decide +kernel)
theorem jq_320 : (Jvm.Cond.selects "Branchwork" ({ cls := "Branchwork", name := "garbage", desc := "()I" } : Jvm.MethodName) ({ cls := "Branchwork", name := "garbage", desc := "()I" } : Jvm.MethodName)) ∈ jw_T := jw_mem 320 (by decide +kernel) (by decide +kernel)
theorem jq_321 : (Jvm.Cond.code ({ cls := "Branchwork", name := "garbage", desc := "()I" } : Jvm.MethodName) prog_1_method_27_code (1 : Nat) (Option.some Jvm.ClassFile.FieldType.int)) ∈ jw_T := jw_mem 321 (by decide +kernel) (by decide +kernel)
theorem jq_322 : (Jvm.Cond.methodLink "Branchwork" (220 : Nat) ({ cls := "Branchwork$History", name := "kept", desc := "()I" } : Jvm.MethodName)) ∈ jw_T := jw_mem 322 (by decide +kernel) (by decide +kernel)
theorem jq_323 : (Jvm.Cond.instanceMethod ({ cls := "Branchwork$History", name := "kept", desc := "()I" } : Jvm.MethodName)) ∈ jw_T := jw_mem 323 (by decide +kernel) (by decide +kernel)
theorem jq_324 : (Jvm.Cond.selects "Branchwork$History" ({ cls := "Branchwork$History", name := "kept", desc := "()I" } : Jvm.MethodName) ({ cls := "Branchwork$History", name := "kept", desc := "()I" } : Jvm.MethodName)) ∈ jw_T := jw_mem 324 (by decide +kernel) (by decide +kernel)
theorem jq_325 : (Jvm.Cond.code ({ cls := "Branchwork$History", name := "kept", desc := "()I" } : Jvm.MethodName) prog_5_method_5_code (1 : Nat) (Option.some Jvm.ClassFile.FieldType.int)) ∈ jw_T := jw_mem 325 (by decide +kernel) (by decide +kernel)
theorem jq_326 : (Jvm.Cond.methodLink "Branchwork" (295 : Nat) ({ cls := "Branchwork$History", name := "countObjects", desc := "(I)I" } : Jvm.MethodName)) ∈ jw_T := jw_mem 326 (by decide +kernel) (by decide +kernel)
theorem jq_327 : (Jvm.Cond.instanceMethod ({ cls := "Branchwork$History", name := "countObjects", desc := "(I)I" } : Jvm.MethodName)) ∈ jw_T := jw_mem 327 (by decide +kernel) (by decide +kernel)
theorem jq_328 : (Jvm.Cond.selects "Branchwork$History" ({ cls := "Branchwork$History", name := "countObjects", desc := "(I)I" } : Jvm.MethodName) ({ cls := "Branchwork$History", name := "countObjects", desc := "(I)I" } : Jvm.MethodName)) ∈ jw_T := jw_mem 328 (by decide +kernel) (by decide +kernel)
theorem jq_329 : (Jvm.Cond.code ({ cls := "Branchwork$History", name := "countObjects", desc := "(I)I" } : Jvm.MethodName) prog_5_method_16_code (2 : Nat) (Option.some Jvm.ClassFile.FieldType.int)) ∈ jw_T := jw_mem 329 (by decide +kernel) (by decide +kernel)
theorem jq_330 : (Jvm.Cond.methodLink "Branchwork$History" (73 : Nat) ({ cls := "java/lang/Integer", name := "bitCount", desc := "(I)I" } : Jvm.MethodName)) ∈ jw_T := jw_mem 330 (by decide +kernel) (by decide +kernel)
theorem jq_331 : (Jvm.Cond.static ({ cls := "java/lang/Integer", name := "bitCount", desc := "(I)I" } : Jvm.MethodName)) ∈ jw_T := jw_mem 331 (by decide +kernel) (by decide +kernel)
theorem jq_332 : (Jvm.Cond.code ({ cls := "java/lang/Integer", name := "bitCount", desc := "(I)I" } : Jvm.MethodName) prog_22_method_49_code (1 : Nat) (Option.some Jvm.ClassFile.FieldType.int)) ∈ jw_T := jw_mem 332 (by decide +kernel) (by decide +kernel)
theorem jq_333 : (Jvm.Cond.constant "java/lang/Integer" (265 : Nat) (1431655765 : Int32)) ∈ jw_T := jw_mem 333 (by decide +kernel) (by decide +kernel)
theorem jq_334 : (Jvm.Cond.constant "java/lang/Integer" (266 : Nat) (858993459 : Int32)) ∈ jw_T := jw_mem 334 (by decide +kernel) (by decide +kernel)
theorem jq_335 : (Jvm.Cond.constant "java/lang/Integer" (267 : Nat) (252645135 : Int32)) ∈ jw_T := jw_mem 335 (by decide +kernel) (by decide +kernel)
theorem jq_336 : (Jvm.Cond.methodLink "Branchwork$History" (78 : Nat) ({ cls := "Branchwork$History", name := "countTrees", desc := "(I)I" } : Jvm.MethodName)) ∈ jw_T := jw_mem 336 (by decide +kernel) (by decide +kernel)
theorem jq_337 : (Jvm.Cond.instanceMethod ({ cls := "Branchwork$History", name := "countTrees", desc := "(I)I" } : Jvm.MethodName)) ∈ jw_T := jw_mem 337 (by decide +kernel) (by decide +kernel)
theorem jq_338 : (Jvm.Cond.selects "Branchwork$History" ({ cls := "Branchwork$History", name := "countTrees", desc := "(I)I" } : Jvm.MethodName) ({ cls := "Branchwork$History", name := "countTrees", desc := "(I)I" } : Jvm.MethodName)) ∈ jw_T := jw_mem 338 (by decide +kernel) (by decide +kernel)
theorem jq_339 : (Jvm.Cond.code ({ cls := "Branchwork$History", name := "countTrees", desc := "(I)I" } : Jvm.MethodName) prog_5_method_17_code (4 : Nat) (Option.some Jvm.ClassFile.FieldType.int)) ∈ jw_T := jw_mem 339 (by decide +kernel) (by decide +kernel)
theorem jq_340 : (Jvm.Cond.methodLink "Branchwork$History" (52 : Nat) ({ cls := "Branchwork$History", name := "isIn", desc := "(II)Z" } : Jvm.MethodName)) ∈ jw_T := jw_mem 340 (by decide +kernel) (by decide +kernel)
theorem jq_341 : (Jvm.Cond.static ({ cls := "Branchwork$History", name := "isIn", desc := "(II)Z" } : Jvm.MethodName)) ∈ jw_T := jw_mem 341 (by decide +kernel) (by decide +kernel)
theorem jq_342 : (Jvm.Cond.code ({ cls := "Branchwork$History", name := "isIn", desc := "(II)Z" } : Jvm.MethodName) prog_5_method_3_code (2 : Nat) (Option.some Jvm.ClassFile.FieldType.boolean)) ∈ jw_T := jw_mem 342 (by decide +kernel) (by decide +kernel)
theorem jq_343 : (Jvm.Cond.methodLink "Branchwork$History" (48 : Nat) ({ cls := "Branchwork$History", name := "setOf", desc := "(I)I" } : Jvm.MethodName)) ∈ jw_T := jw_mem 343 (by decide +kernel) (by decide +kernel)
theorem jq_344 : (Jvm.Cond.static ({ cls := "Branchwork$History", name := "setOf", desc := "(I)I" } : Jvm.MethodName)) ∈ jw_T := jw_mem 344 (by decide +kernel) (by decide +kernel)
theorem jq_345 : (Jvm.Cond.code ({ cls := "Branchwork$History", name := "setOf", desc := "(I)I" } : Jvm.MethodName) prog_5_method_2_code (1 : Nat) (Option.some Jvm.ClassFile.FieldType.int)) ∈ jw_T := jw_mem 345 (by decide +kernel) (by decide +kernel)
theorem jq_346 : (Jvm.Cond.methodLink "Branchwork$History" (81 : Nat) ({ cls := "Branchwork$History", name := "countContents", desc := "(I)I" } : Jvm.MethodName)) ∈ jw_T := jw_mem 346 (by decide +kernel) (by decide +kernel)
theorem jq_347 : (Jvm.Cond.instanceMethod ({ cls := "Branchwork$History", name := "countContents", desc := "(I)I" } : Jvm.MethodName)) ∈ jw_T := jw_mem 347 (by decide +kernel) (by decide +kernel)
theorem jq_348 : (Jvm.Cond.selects "Branchwork$History" ({ cls := "Branchwork$History", name := "countContents", desc := "(I)I" } : Jvm.MethodName) ({ cls := "Branchwork$History", name := "countContents", desc := "(I)I" } : Jvm.MethodName)) ∈ jw_T := jw_mem 348 (by decide +kernel) (by decide +kernel)
theorem jq_349 : (Jvm.Cond.code ({ cls := "Branchwork$History", name := "countContents", desc := "(I)I" } : Jvm.MethodName) prog_5_method_18_code (4 : Nat) (Option.some Jvm.ClassFile.FieldType.int)) ∈ jw_T := jw_mem 349 (by decide +kernel) (by decide +kernel)
theorem jq_350 : (Jvm.Cond.methodLink "Branchwork$History" (84 : Nat) ({ cls := "Branchwork$History", name := "meetContents", desc := "(I)V" } : Jvm.MethodName)) ∈ jw_T := jw_mem 350 (by decide +kernel) (by decide +kernel)
theorem jq_352 : (Jvm.Cond.instanceMethod ({ cls := "Branchwork$History", name := "meetContents", desc := "(I)V" } : Jvm.MethodName)) ∈ jw_T := jw_mem 352 (by decide +kernel) (by decide +kernel)
theorem jq_353 : (Jvm.Cond.code ({ cls := "Branchwork$History", name := "meetContents", desc := "(I)V" } : Jvm.MethodName) prog_5_method_20_code (5 : Nat) (Option.none : Option Jvm.ClassFile.FieldType)) ∈ jw_T := jw_mem 353 (by decide +kernel) (by decide +kernel)
theorem jq_354 : (Jvm.Cond.methodLink "Branchwork$History" (102 : Nat) ({ cls := "java/util/Arrays", name := "fill", desc := "([II)V" } : Jvm.MethodName)) ∈ jw_T := jw_mem 354 (by decide +kernel) (by decide +kernel)
theorem jq_355 : (Jvm.Cond.methodLink "Branchwork" (214 : Nat) ({ cls := "Branchwork", name := "reached", desc := "()I" } : Jvm.MethodName)) ∈ jw_T := jw_mem 355 (by decide +kernel) (by decide +kernel)
theorem jq_357 : (Jvm.Cond.instanceMethod ({ cls := "Branchwork", name := "reached", desc := "()I" } : Jvm.MethodName)) ∈ jw_T := jw_mem 357 (by decide +kernel) (by decide +kernel)
theorem jq_358 : (Jvm.Cond.code ({ cls := "Branchwork", name := "reached", desc := "()I" } : Jvm.MethodName) prog_1_method_35_code (3 : Nat) (Option.some Jvm.ClassFile.FieldType.int)) ∈ jw_T := jw_mem 358 (by decide +kernel) (by decide +kernel)
theorem jq_359 : (Jvm.Cond.methodLink "Branchwork" (337 : Nat) ({ cls := "Branchwork$History", name := "setOf", desc := "(I)I" } : Jvm.MethodName)) ∈ jw_T := jw_mem 359 (by decide +kernel) (by decide +kernel)
theorem jq_360 : (Jvm.Cond.methodLink "Branchwork" (340 : Nat) ({ cls := "Branchwork$History", name := "withAncestors", desc := "(I)I" } : Jvm.MethodName)) ∈ jw_T := jw_mem 360 (by decide +kernel) (by decide +kernel)
theorem jq_361 : (Jvm.Cond.instanceMethod ({ cls := "Branchwork$History", name := "withAncestors", desc := "(I)I" } : Jvm.MethodName)) ∈ jw_T := jw_mem 361 (by decide +kernel) (by decide +kernel)
theorem jq_362 : (Jvm.Cond.selects "Branchwork$History" ({ cls := "Branchwork$History", name := "withAncestors", desc := "(I)I" } : Jvm.MethodName) ({ cls := "Branchwork$History", name := "withAncestors", desc := "(I)I" } : Jvm.MethodName)) ∈ jw_T := jw_mem 362 (by decide +kernel) (by decide +kernel)
theorem jq_363 : (Jvm.Cond.code ({ cls := "Branchwork$History", name := "withAncestors", desc := "(I)I" } : Jvm.MethodName) prog_5_method_13_code (4 : Nat) (Option.some Jvm.ClassFile.FieldType.int)) ∈ jw_T := jw_mem 363 (by decide +kernel) (by decide +kernel)
theorem jq_364 : (Jvm.Cond.methodLink "Branchwork" (217 : Nat) ({ cls := "Branchwork$History", name := "keepOnly", desc := "(I)V" } : Jvm.MethodName)) ∈ jw_T := jw_mem 364 (by decide +kernel) (by decide +kernel)
theorem jq_365 : (Jvm.Cond.instanceMethod ({ cls := "Branchwork$History", name := "keepOnly", desc := "(I)V" } : Jvm.MethodName)) ∈ jw_T := jw_mem 365 (by decide +kernel) (by decide +kernel)
theorem jq_366 : (Jvm.Cond.selects "Branchwork$History" ({ cls := "Branchwork$History", name := "keepOnly", desc := "(I)V" } : Jvm.MethodName) ({ cls := "Branchwork$History", name := "keepOnly", desc := "(I)V" } : Jvm.MethodName)) ∈ jw_T := jw_mem 366 (by decide +kernel) (by decide +kernel)
theorem jq_367 : (Jvm.Cond.code ({ cls := "Branchwork$History", name := "keepOnly", desc := "(I)V" } : Jvm.MethodName) prog_5_method_7_code (2 : Nat) (Option.none : Option Jvm.ClassFile.FieldType)) ∈ jw_T := jw_mem 367 (by decide +kernel) (by decide +kernel)
theorem jq_368 : (Jvm.Cond.methodLink "BranchworkLaw" (182 : Nat) ({ cls := "Branchwork", name := "garbage", desc := "()I" } : Jvm.MethodName)) ∈ jw_T := jw_mem 368 (by decide +kernel) (by decide +kernel)
theorem jq_369 : (Jvm.Cond.methodLink "BranchworkLaw" (186 : Nat) ({ cls := "Branchwork", name := "meanLines", desc := "()D" } : Jvm.MethodName)) ∈ jw_T := jw_mem 369 (by decide +kernel) (by decide +kernel)
theorem jq_370 : (Jvm.Cond.instanceMethod ({ cls := "Branchwork", name := "meanLines", desc := "()D" } : Jvm.MethodName)) ∈ jw_T := jw_mem 370 (by decide +kernel) (by decide +kernel)
theorem jq_371 : (Jvm.Cond.selects "Branchwork" ({ cls := "Branchwork", name := "meanLines", desc := "()D" } : Jvm.MethodName) ({ cls := "Branchwork", name := "meanLines", desc := "()D" } : Jvm.MethodName)) ∈ jw_T := jw_mem 371 (by decide +kernel) (by decide +kernel)
theorem jq_372 : (Jvm.Cond.code ({ cls := "Branchwork", name := "meanLines", desc := "()D" } : Jvm.MethodName) prog_1_method_28_code (2 : Nat) (Option.some Jvm.ClassFile.FieldType.double)) ∈ jw_T := jw_mem 372 (by decide +kernel) (by decide +kernel)
theorem jq_373 : (Jvm.Cond.methodLink "Branchwork" (232 : Nat) ({ cls := "Branchwork$History", name := "countContents", desc := "(I)I" } : Jvm.MethodName)) ∈ jw_T := jw_mem 373 (by decide +kernel) (by decide +kernel)
theorem jq_374 : (Jvm.Cond.methodLink "Branchwork" (298 : Nat) ({ cls := "Branchwork$History", name := "sumLines", desc := "(I)I" } : Jvm.MethodName)) ∈ jw_T := jw_mem 374 (by decide +kernel) (by decide +kernel)
theorem jq_375 : (Jvm.Cond.instanceMethod ({ cls := "Branchwork$History", name := "sumLines", desc := "(I)I" } : Jvm.MethodName)) ∈ jw_T := jw_mem 375 (by decide +kernel) (by decide +kernel)
theorem jq_376 : (Jvm.Cond.selects "Branchwork$History" ({ cls := "Branchwork$History", name := "sumLines", desc := "(I)I" } : Jvm.MethodName) ({ cls := "Branchwork$History", name := "sumLines", desc := "(I)I" } : Jvm.MethodName)) ∈ jw_T := jw_mem 376 (by decide +kernel) (by decide +kernel)
theorem jq_377 : (Jvm.Cond.code ({ cls := "Branchwork$History", name := "sumLines", desc := "(I)I" } : Jvm.MethodName) prog_5_method_19_code (4 : Nat) (Option.some Jvm.ClassFile.FieldType.int)) ∈ jw_T := jw_mem 377 (by decide +kernel) (by decide +kernel)
theorem jq_378 : (Jvm.Cond.methodLink "Branchwork$History" (88 : Nat) ({ cls := "Branchwork$History", name := "treeOf", desc := "(I)LBranchwork$Tree;" } : Jvm.MethodName)) ∈ jw_T := jw_mem 378 (by decide +kernel) (by decide +kernel)
theorem jq_379 : (Jvm.Cond.instanceMethod ({ cls := "Branchwork$History", name := "treeOf", desc := "(I)LBranchwork$Tree;" } : Jvm.MethodName)) ∈ jw_T := jw_mem 379 (by decide +kernel) (by decide +kernel)
theorem jq_380 : (Jvm.Cond.selects "Branchwork$History" ({ cls := "Branchwork$History", name := "treeOf", desc := "(I)LBranchwork$Tree;" } : Jvm.MethodName) ({ cls := "Branchwork$History", name := "treeOf", desc := "(I)LBranchwork$Tree;" } : Jvm.MethodName)) ∈ jw_T := jw_mem 380 (by decide +kernel) (by decide +kernel)
theorem jq_381 : (Jvm.Cond.code ({ cls := "Branchwork$History", name := "treeOf", desc := "(I)LBranchwork$Tree;" } : Jvm.MethodName) prog_5_method_8_code (2 : Nat) (Option.some (Jvm.ClassFile.FieldType.object "Branchwork$Tree"))) ∈ jw_T := jw_mem 381 (by decide +kernel) (by decide +kernel)
theorem jq_382 : (Jvm.Cond.methodLink "Branchwork$History" (92 : Nat) ({ cls := "Branchwork$Tree", name := "fileAt", desc := "(I)LBranchwork$Content;" } : Jvm.MethodName)) ∈ jw_T := jw_mem 382 (by decide +kernel) (by decide +kernel)
theorem jq_383 : (Jvm.Cond.instanceMethod ({ cls := "Branchwork$Tree", name := "fileAt", desc := "(I)LBranchwork$Content;" } : Jvm.MethodName)) ∈ jw_T := jw_mem 383 (by decide +kernel) (by decide +kernel)
theorem jq_384 : (Jvm.Cond.selects "Branchwork$Tree" ({ cls := "Branchwork$Tree", name := "fileAt", desc := "(I)LBranchwork$Content;" } : Jvm.MethodName) ({ cls := "Branchwork$Tree", name := "fileAt", desc := "(I)LBranchwork$Content;" } : Jvm.MethodName)) ∈ jw_T := jw_mem 384 (by decide +kernel) (by decide +kernel)
theorem jq_385 : (Jvm.Cond.code ({ cls := "Branchwork$Tree", name := "fileAt", desc := "(I)LBranchwork$Content;" } : Jvm.MethodName) prog_9_method_2_code (2 : Nat) (Option.some (Jvm.ClassFile.FieldType.object "Branchwork$Content"))) ∈ jw_T := jw_mem 385 (by decide +kernel) (by decide +kernel)
theorem jq_386 : (Jvm.Cond.methodLink "Branchwork$History" (96 : Nat) ({ cls := "Branchwork$Content", name := "length", desc := "()I" } : Jvm.MethodName)) ∈ jw_T := jw_mem 386 (by decide +kernel) (by decide +kernel)
theorem jq_387 : (Jvm.Cond.instanceMethod ({ cls := "Branchwork$Content", name := "length", desc := "()I" } : Jvm.MethodName)) ∈ jw_T := jw_mem 387 (by decide +kernel) (by decide +kernel)
theorem jq_388 : (Jvm.Cond.selects "Branchwork$Content" ({ cls := "Branchwork$Content", name := "length", desc := "()I" } : Jvm.MethodName) ({ cls := "Branchwork$Content", name := "length", desc := "()I" } : Jvm.MethodName)) ∈ jw_T := jw_mem 388 (by decide +kernel) (by decide +kernel)
theorem jq_389 : (Jvm.Cond.code ({ cls := "Branchwork$Content", name := "length", desc := "()I" } : Jvm.MethodName) prog_4_method_3_code (1 : Nat) (Option.some Jvm.ClassFile.FieldType.int)) ∈ jw_T := jw_mem 389 (by decide +kernel) (by decide +kernel)
theorem jq_390 : (Jvm.Cond.methodLink "BranchworkLaw" (191 : Nat) ({ cls := "Branchwork", name := "digest", desc := "()J" } : Jvm.MethodName)) ∈ jw_T := jw_mem 390 (by decide +kernel) (by decide +kernel)
theorem jq_391 : (Jvm.Cond.instanceMethod ({ cls := "Branchwork", name := "digest", desc := "()J" } : Jvm.MethodName)) ∈ jw_T := jw_mem 391 (by decide +kernel) (by decide +kernel)
theorem jq_392 : (Jvm.Cond.selects "Branchwork" ({ cls := "Branchwork", name := "digest", desc := "()J" } : Jvm.MethodName) ({ cls := "Branchwork", name := "digest", desc := "()J" } : Jvm.MethodName)) ∈ jw_T := jw_mem 392 (by decide +kernel) (by decide +kernel)
theorem jq_393 : (Jvm.Cond.code ({ cls := "Branchwork", name := "digest", desc := "()J" } : Jvm.MethodName) prog_1_method_29_code (4 : Nat) (Option.some Jvm.ClassFile.FieldType.long)) ∈ jw_T := jw_mem 393 (by decide +kernel) (by decide +kernel)
theorem jq_394 : (Jvm.Cond.constantLong "Branchwork" (301 : Nat) (58087 : Int64)) ∈ jw_T := jw_mem 394 (by decide +kernel) (by decide +kernel)
theorem jq_395 : (Jvm.Cond.methodLink "Branchwork" (303 : Nat) ({ cls := "Branchwork", name := "many", desc := "(I)I" } : Jvm.MethodName)) ∈ jw_T := jw_mem 395 (by decide +kernel) (by decide +kernel)
theorem jq_396 : (Jvm.Cond.instanceMethod ({ cls := "Branchwork", name := "many", desc := "(I)I" } : Jvm.MethodName)) ∈ jw_T := jw_mem 396 (by decide +kernel) (by decide +kernel)
theorem jq_397 : (Jvm.Cond.selects "Branchwork" ({ cls := "Branchwork", name := "many", desc := "(I)I" } : Jvm.MethodName) ({ cls := "Branchwork", name := "many", desc := "(I)I" } : Jvm.MethodName)) ∈ jw_T := jw_mem 397 (by decide +kernel) (by decide +kernel)
theorem jq_398 : (Jvm.Cond.code ({ cls := "Branchwork", name := "many", desc := "(I)I" } : Jvm.MethodName) prog_1_method_14_code (2 : Nat) (Option.some Jvm.ClassFile.FieldType.int)) ∈ jw_T := jw_mem 398 (by decide +kernel) (by decide +kernel)
theorem jq_399 : (Jvm.Cond.methodLink "Branchwork" (223 : Nat) ({ cls := "java/lang/Integer", name := "bitCount", desc := "(I)I" } : Jvm.MethodName)) ∈ jw_T := jw_mem 399 (by decide +kernel) (by decide +kernel)
theorem jq_400 : (Jvm.Cond.methodLink "Branchwork" (134 : Nat) ({ cls := "Branchwork$Tree", name := "countFiles", desc := "()I" } : Jvm.MethodName)) ∈ jw_T := jw_mem 400 (by decide +kernel) (by decide +kernel)
theorem jq_401 : (Jvm.Cond.instanceMethod ({ cls := "Branchwork$Tree", name := "countFiles", desc := "()I" } : Jvm.MethodName)) ∈ jw_T := jw_mem 401 (by decide +kernel) (by decide +kernel)
theorem jq_402 : (Jvm.Cond.selects "Branchwork$Tree" ({ cls := "Branchwork$Tree", name := "countFiles", desc := "()I" } : Jvm.MethodName) ({ cls := "Branchwork$Tree", name := "countFiles", desc := "()I" } : Jvm.MethodName)) ∈ jw_T := jw_mem 402 (by decide +kernel) (by decide +kernel)
theorem jq_403 : (Jvm.Cond.code ({ cls := "Branchwork$Tree", name := "countFiles", desc := "()I" } : Jvm.MethodName) prog_9_method_4_code (3 : Nat) (Option.some Jvm.ClassFile.FieldType.int)) ∈ jw_T := jw_mem 403 (by decide +kernel) (by decide +kernel)
theorem jq_404 : (Jvm.Cond.methodLink "Branchwork$Tree" (30 : Nat) ({ cls := "Branchwork$Tree", name := "has", desc := "(I)Z" } : Jvm.MethodName)) ∈ jw_T := jw_mem 404 (by decide +kernel) (by decide +kernel)
theorem jq_405 : (Jvm.Cond.instanceMethod ({ cls := "Branchwork$Tree", name := "has", desc := "(I)Z" } : Jvm.MethodName)) ∈ jw_T := jw_mem 405 (by decide +kernel) (by decide +kernel)
theorem jq_406 : (Jvm.Cond.selects "Branchwork$Tree" ({ cls := "Branchwork$Tree", name := "has", desc := "(I)Z" } : Jvm.MethodName) ({ cls := "Branchwork$Tree", name := "has", desc := "(I)Z" } : Jvm.MethodName)) ∈ jw_T := jw_mem 406 (by decide +kernel) (by decide +kernel)
theorem jq_407 : (Jvm.Cond.code ({ cls := "Branchwork$Tree", name := "has", desc := "(I)Z" } : Jvm.MethodName) prog_9_method_3_code (2 : Nat) (Option.some Jvm.ClassFile.FieldType.boolean)) ∈ jw_T := jw_mem 407 (by decide +kernel) (by decide +kernel)
theorem jq_408 : (Jvm.Cond.methodLink "Branchwork$Tree" (22 : Nat) ({ cls := "Branchwork$Tree", name := "fileAt", desc := "(I)LBranchwork$Content;" } : Jvm.MethodName)) ∈ jw_T := jw_mem 408 (by decide +kernel) (by decide +kernel)
theorem jq_409 : (Jvm.Cond.methodLink "Branchwork$Tree" (26 : Nat) ({ cls := "Branchwork$Content", name := "exists", desc := "()Z" } : Jvm.MethodName)) ∈ jw_T := jw_mem 409 (by decide +kernel) (by decide +kernel)
theorem jq_410 : (Jvm.Cond.instanceMethod ({ cls := "Branchwork$Content", name := "exists", desc := "()Z" } : Jvm.MethodName)) ∈ jw_T := jw_mem 410 (by decide +kernel) (by decide +kernel)
theorem jq_411 : (Jvm.Cond.selects "Branchwork$Content" ({ cls := "Branchwork$Content", name := "exists", desc := "()Z" } : Jvm.MethodName) ({ cls := "Branchwork$Content", name := "exists", desc := "()Z" } : Jvm.MethodName)) ∈ jw_T := jw_mem 411 (by decide +kernel) (by decide +kernel)
theorem jq_412 : (Jvm.Cond.code ({ cls := "Branchwork$Content", name := "exists", desc := "()Z" } : Jvm.MethodName) prog_4_method_2_code (1 : Nat) (Option.some Jvm.ClassFile.FieldType.boolean)) ∈ jw_T := jw_mem 412 (by decide +kernel) (by decide +kernel)
theorem jq_413 : (Jvm.Cond.methodLink "Branchwork" (153 : Nat) ({ cls := "Branchwork$Conflicts", name := "howMany", desc := "()I" } : Jvm.MethodName)) ∈ jw_T := jw_mem 413 (by decide +kernel) (by decide +kernel)
theorem jq_414 : (Jvm.Cond.instanceMethod ({ cls := "Branchwork$Conflicts", name := "howMany", desc := "()I" } : Jvm.MethodName)) ∈ jw_T := jw_mem 414 (by decide +kernel) (by decide +kernel)
theorem jq_415 : (Jvm.Cond.selects "Branchwork$Conflicts" ({ cls := "Branchwork$Conflicts", name := "howMany", desc := "()I" } : Jvm.MethodName) ({ cls := "Branchwork$Conflicts", name := "howMany", desc := "()I" } : Jvm.MethodName)) ∈ jw_T := jw_mem 415 (by decide +kernel) (by decide +kernel)
theorem jq_416 : (Jvm.Cond.code ({ cls := "Branchwork$Conflicts", name := "howMany", desc := "()I" } : Jvm.MethodName) prog_3_method_2_code (1 : Nat) (Option.some Jvm.ClassFile.FieldType.int)) ∈ jw_T := jw_mem 416 (by decide +kernel) (by decide +kernel)
theorem jq_417 : (Jvm.Cond.methodLink "Branchwork" (229 : Nat) ({ cls := "Branchwork$History", name := "countTrees", desc := "(I)I" } : Jvm.MethodName)) ∈ jw_T := jw_mem 417 (by decide +kernel) (by decide +kernel)
theorem jq_418 : (Jvm.Cond.classLink "Branchwork" (92 : Nat) "java/lang/IllegalArgumentException") ∈ jw_T := jw_mem 418 (by decide +kernel) (by decide +kernel)
theorem jq_419 : (Jvm.Cond.instantiable "java/lang/IllegalArgumentException" (6 : Nat)) ∈ jw_T := jw_mem 419 (by decide +kernel) (by decide +kernel)
theorem jq_427 : (Jvm.Cond.selects "java/lang/IllegalArgumentException" ({ cls := "java/lang/Throwable", name := "fillInStackTrace", desc := "(I)Ljava/lang/Throwable;" } : Jvm.MethodName) ({ cls := "java/lang/Throwable", name := "fillInStackTrace", desc := "(I)Ljava/lang/Throwable;" } : Jvm.MethodName)) ∈ jw_T := jw_mem 427 (by decide +kernel) (by decide +kernel)
theorem jq_428 : (Jvm.Cond.selects "java/lang/IllegalArgumentException" ({ cls := "java/lang/Throwable", name := "fillInStackTrace", desc := "()Ljava/lang/Throwable;" } : Jvm.MethodName) ({ cls := "java/lang/Throwable", name := "fillInStackTrace", desc := "()Ljava/lang/Throwable;" } : Jvm.MethodName)) ∈ jw_T := jw_mem 428 (by decide +kernel) (by decide +kernel)
theorem jq_439 : (Jvm.Cond.fieldLink "java/lang/Throwable" (198 : Nat) "java/lang/Throwable" "backtrace" "Ljava/lang/Object;") ∈ jw_T := jw_mem 439 (by decide +kernel) (by decide +kernel)
theorem jq_441 : (Jvm.Cond.instanceMethod ({ cls := "java/lang/Throwable", name := "<init>", desc := "()V" } : Jvm.MethodName)) ∈ jw_T := jw_mem 441 (by decide +kernel) (by decide +kernel)
theorem jq_442 : (Jvm.Cond.code ({ cls := "java/lang/Throwable", name := "<init>", desc := "()V" } : Jvm.MethodName) prog_28_method_1_code (1 : Nat) (Option.none : Option Jvm.ClassFile.FieldType)) ∈ jw_T := jw_mem 442 (by decide +kernel) (by decide +kernel)
theorem jq_443 : (Jvm.Cond.methodLink "java/lang/Throwable" (1 : Nat) ({ cls := "java/lang/Object", name := "<init>", desc := "()V" } : Jvm.MethodName)) ∈ jw_T := jw_mem 443 (by decide +kernel) (by decide +kernel)
theorem jq_444 : (Jvm.Cond.fieldLink "java/lang/Throwable" (13 : Nat) "java/lang/Throwable" "UNASSIGNED_STACK" "[Ljava/lang/StackTraceElement;") ∈ jw_T := jw_mem 444 (by decide +kernel) (by decide +kernel)
theorem jq_446 : (Jvm.Cond.fieldLink "java/lang/Throwable" (20 : Nat) "java/lang/Throwable" "SUPPRESSED_SENTINEL" "Ljava/util/List;") ∈ jw_T := jw_mem 446 (by decide +kernel) (by decide +kernel)
theorem jq_448 : (Jvm.Cond.methodLink "java/lang/Throwable" (27 : Nat) ({ cls := "java/lang/Throwable", name := "fillInStackTrace", desc := "()Ljava/lang/Throwable;" } : Jvm.MethodName)) ∈ jw_T := jw_mem 448 (by decide +kernel) (by decide +kernel)
theorem jq_449 : (Jvm.Cond.instanceMethod ({ cls := "java/lang/Throwable", name := "fillInStackTrace", desc := "()Ljava/lang/Throwable;" } : Jvm.MethodName)) ∈ jw_T := jw_mem 449 (by decide +kernel) (by decide +kernel)
theorem jq_451 : (Jvm.Cond.selects "java/lang/IllegalStateException" ({ cls := "java/lang/Throwable", name := "fillInStackTrace", desc := "()Ljava/lang/Throwable;" } : Jvm.MethodName) ({ cls := "java/lang/Throwable", name := "fillInStackTrace", desc := "()Ljava/lang/Throwable;" } : Jvm.MethodName)) ∈ jw_T := jw_mem 451 (by decide +kernel) (by decide +kernel)
theorem jq_452 : (Jvm.Cond.selects "java/lang/IndexOutOfBoundsException" ({ cls := "java/lang/Throwable", name := "fillInStackTrace", desc := "()Ljava/lang/Throwable;" } : Jvm.MethodName) ({ cls := "java/lang/Throwable", name := "fillInStackTrace", desc := "()Ljava/lang/Throwable;" } : Jvm.MethodName)) ∈ jw_T := jw_mem 452 (by decide +kernel) (by decide +kernel)
theorem jq_454 : (Jvm.Cond.methodLink "java/lang/Throwable" (202 : Nat) ({ cls := "java/lang/Throwable", name := "fillInStackTrace", desc := "(I)Ljava/lang/Throwable;" } : Jvm.MethodName)) ∈ jw_T := jw_mem 454 (by decide +kernel) (by decide +kernel)
theorem jq_456 : (Jvm.Cond.instanceMethod ({ cls := "java/lang/Throwable", name := "fillInStackTrace", desc := "(I)Ljava/lang/Throwable;" } : Jvm.MethodName)) ∈ jw_T := jw_mem 456 (by decide +kernel) (by decide +kernel)
theorem jq_457 : (Jvm.Cond.instantiable "java/lang/Throwable" (6 : Nat)) ∈ jw_T := jw_mem 457 (by decide +kernel) (by decide +kernel)
theorem jq_460 : (Jvm.Cond.methodLink "Branchwork" (96 : Nat) ({ cls := "java/lang/IllegalArgumentException", name := "<init>", desc := "(Ljava/lang/String;)V" } : Jvm.MethodName)) ∈ jw_T := jw_mem 460 (by decide +kernel) (by decide +kernel)
theorem jq_461 : (Jvm.Cond.instanceMethod ({ cls := "java/lang/IllegalArgumentException", name := "<init>", desc := "(Ljava/lang/String;)V" } : Jvm.MethodName)) ∈ jw_T := jw_mem 461 (by decide +kernel) (by decide +kernel)
theorem jq_462 : (Jvm.Cond.code ({ cls := "java/lang/IllegalArgumentException", name := "<init>", desc := "(Ljava/lang/String;)V" } : Jvm.MethodName) prog_19_method_2_code (2 : Nat) (Option.none : Option Jvm.ClassFile.FieldType)) ∈ jw_T := jw_mem 462 (by decide +kernel) (by decide +kernel)
theorem jq_463 : (Jvm.Cond.methodLink "java/lang/IllegalArgumentException" (7 : Nat) ({ cls := "java/lang/RuntimeException", name := "<init>", desc := "(Ljava/lang/String;)V" } : Jvm.MethodName)) ∈ jw_T := jw_mem 463 (by decide +kernel) (by decide +kernel)
theorem jq_464 : (Jvm.Cond.instanceMethod ({ cls := "java/lang/RuntimeException", name := "<init>", desc := "(Ljava/lang/String;)V" } : Jvm.MethodName)) ∈ jw_T := jw_mem 464 (by decide +kernel) (by decide +kernel)
theorem jq_465 : (Jvm.Cond.code ({ cls := "java/lang/RuntimeException", name := "<init>", desc := "(Ljava/lang/String;)V" } : Jvm.MethodName) prog_25_method_2_code (2 : Nat) (Option.none : Option Jvm.ClassFile.FieldType)) ∈ jw_T := jw_mem 465 (by decide +kernel) (by decide +kernel)
theorem jq_466 : (Jvm.Cond.methodLink "java/lang/RuntimeException" (7 : Nat) ({ cls := "java/lang/Exception", name := "<init>", desc := "(Ljava/lang/String;)V" } : Jvm.MethodName)) ∈ jw_T := jw_mem 466 (by decide +kernel) (by decide +kernel)
theorem jq_467 : (Jvm.Cond.instanceMethod ({ cls := "java/lang/Exception", name := "<init>", desc := "(Ljava/lang/String;)V" } : Jvm.MethodName)) ∈ jw_T := jw_mem 467 (by decide +kernel) (by decide +kernel)
theorem jq_468 : (Jvm.Cond.code ({ cls := "java/lang/Exception", name := "<init>", desc := "(Ljava/lang/String;)V" } : Jvm.MethodName) prog_18_method_2_code (2 : Nat) (Option.none : Option Jvm.ClassFile.FieldType)) ∈ jw_T := jw_mem 468 (by decide +kernel) (by decide +kernel)
theorem jq_469 : (Jvm.Cond.methodLink "java/lang/Exception" (7 : Nat) ({ cls := "java/lang/Throwable", name := "<init>", desc := "(Ljava/lang/String;)V" } : Jvm.MethodName)) ∈ jw_T := jw_mem 469 (by decide +kernel) (by decide +kernel)
theorem jq_470 : (Jvm.Cond.instanceMethod ({ cls := "java/lang/Throwable", name := "<init>", desc := "(Ljava/lang/String;)V" } : Jvm.MethodName)) ∈ jw_T := jw_mem 470 (by decide +kernel) (by decide +kernel)
theorem jq_471 : (Jvm.Cond.code ({ cls := "java/lang/Throwable", name := "<init>", desc := "(Ljava/lang/String;)V" } : Jvm.MethodName) prog_28_method_2_code (2 : Nat) (Option.none : Option Jvm.ClassFile.FieldType)) ∈ jw_T := jw_mem 471 (by decide +kernel) (by decide +kernel)
theorem jq_472 : (Jvm.Cond.fieldLink "java/lang/Throwable" (198 : Nat) "java/lang/Throwable" "backtrace" "Ljava/lang/Object;") ∈ jw_T := jw_mem 472 (by decide +kernel) (by decide +kernel)
theorem jq_473 : (Jvm.Cond.fieldLink "java/lang/Throwable" (31 : Nat) "java/lang/Throwable" "detailMessage" "Ljava/lang/String;") ∈ jw_T := jw_mem 473 (by decide +kernel) (by decide +kernel)
theorem jq_474 : (Jvm.Cond.fieldLink "java/lang/Throwable" (7 : Nat) "java/lang/Throwable" "cause" "Ljava/lang/Throwable;") ∈ jw_T := jw_mem 474 (by decide +kernel) (by decide +kernel)
theorem jq_475 : (Jvm.Cond.fieldLink "java/lang/Throwable" (17 : Nat) "java/lang/Throwable" "stackTrace" "[Ljava/lang/StackTraceElement;") ∈ jw_T := jw_mem 475 (by decide +kernel) (by decide +kernel)
theorem jq_476 : (Jvm.Cond.fieldLink "java/lang/Throwable" (24 : Nat) "java/lang/Throwable" "suppressedExceptions" "Ljava/util/List;") ∈ jw_T := jw_mem 476 (by decide +kernel) (by decide +kernel)
theorem jq_485 : (Jvm.Cond.arrayClass Jvm.ClassFile.FieldType.byte) ∈ jw_T := jw_mem 485 (by decide +kernel) (by decide +kernel)
theorem jq_486 : (Jvm.Cond.methodLink "Branchwork" (306 : Nat) ({ cls := "Branchwork", name := "fold", desc := "(JI)J" } : Jvm.MethodName)) ∈ jw_T := jw_mem 486 (by decide +kernel) (by decide +kernel)
theorem jq_487 : (Jvm.Cond.static ({ cls := "Branchwork", name := "fold", desc := "(JI)J" } : Jvm.MethodName)) ∈ jw_T := jw_mem 487 (by decide +kernel) (by decide +kernel)
theorem jq_488 : (Jvm.Cond.code ({ cls := "Branchwork", name := "fold", desc := "(JI)J" } : Jvm.MethodName) prog_1_method_30_code (3 : Nat) (Option.some Jvm.ClassFile.FieldType.long)) ∈ jw_T := jw_mem 488 (by decide +kernel) (by decide +kernel)
theorem jq_489 : (Jvm.Cond.constantLong "Branchwork" (329 : Nat) (31 : Int64)) ∈ jw_T := jw_mem 489 (by decide +kernel) (by decide +kernel)
theorem jq_490 : (Jvm.Cond.methodLink "Branchwork" (310 : Nat) ({ cls := "Branchwork", name := "now", desc := "(I)I" } : Jvm.MethodName)) ∈ jw_T := jw_mem 490 (by decide +kernel) (by decide +kernel)
theorem jq_491 : (Jvm.Cond.instanceMethod ({ cls := "Branchwork", name := "now", desc := "(I)I" } : Jvm.MethodName)) ∈ jw_T := jw_mem 491 (by decide +kernel) (by decide +kernel)
theorem jq_492 : (Jvm.Cond.selects "Branchwork" ({ cls := "Branchwork", name := "now", desc := "(I)I" } : Jvm.MethodName) ({ cls := "Branchwork", name := "now", desc := "(I)I" } : Jvm.MethodName)) ∈ jw_T := jw_mem 492 (by decide +kernel) (by decide +kernel)
theorem jq_493 : (Jvm.Cond.code ({ cls := "Branchwork", name := "now", desc := "(I)I" } : Jvm.MethodName) prog_1_method_15_code (2 : Nat) (Option.some Jvm.ClassFile.FieldType.int)) ∈ jw_T := jw_mem 493 (by decide +kernel) (by decide +kernel)
theorem jq_494 : (Jvm.Cond.methodLink "Branchwork" (137 : Nat) ({ cls := "Branchwork", name := "head", desc := "()I" } : Jvm.MethodName)) ∈ jw_T := jw_mem 494 (by decide +kernel) (by decide +kernel)
theorem jq_496 : (Jvm.Cond.instanceMethod ({ cls := "Branchwork", name := "head", desc := "()I" } : Jvm.MethodName)) ∈ jw_T := jw_mem 496 (by decide +kernel) (by decide +kernel)
theorem jq_497 : (Jvm.Cond.code ({ cls := "Branchwork", name := "head", desc := "()I" } : Jvm.MethodName) prog_1_method_33_code (1 : Nat) (Option.some Jvm.ClassFile.FieldType.int)) ∈ jw_T := jw_mem 497 (by decide +kernel) (by decide +kernel)
theorem jq_499 : (Jvm.Cond.methodLink "Branchwork" (313 : Nat) ({ cls := "Branchwork", name := "at", desc := "(I)I" } : Jvm.MethodName)) ∈ jw_T := jw_mem 499 (by decide +kernel) (by decide +kernel)
theorem jq_500 : (Jvm.Cond.instanceMethod ({ cls := "Branchwork", name := "at", desc := "(I)I" } : Jvm.MethodName)) ∈ jw_T := jw_mem 500 (by decide +kernel) (by decide +kernel)
theorem jq_501 : (Jvm.Cond.selects "Branchwork" ({ cls := "Branchwork", name := "at", desc := "(I)I" } : Jvm.MethodName) ({ cls := "Branchwork", name := "at", desc := "(I)I" } : Jvm.MethodName)) ∈ jw_T := jw_mem 501 (by decide +kernel) (by decide +kernel)
theorem jq_502 : (Jvm.Cond.code ({ cls := "Branchwork", name := "at", desc := "(I)I" } : Jvm.MethodName) prog_1_method_16_code (2 : Nat) (Option.some Jvm.ClassFile.FieldType.int)) ∈ jw_T := jw_mem 502 (by decide +kernel) (by decide +kernel)
theorem jq_503 : (Jvm.Cond.methodLink "Branchwork" (171 : Nat) ({ cls := "Branchwork", name := "requireBranch", desc := "(I)V" } : Jvm.MethodName)) ∈ jw_T := jw_mem 503 (by decide +kernel) (by decide +kernel)
theorem jq_505 : (Jvm.Cond.instanceMethod ({ cls := "Branchwork", name := "requireBranch", desc := "(I)V" } : Jvm.MethodName)) ∈ jw_T := jw_mem 505 (by decide +kernel) (by decide +kernel)
theorem jq_506 : (Jvm.Cond.code ({ cls := "Branchwork", name := "requireBranch", desc := "(I)V" } : Jvm.MethodName) prog_1_method_43_code (2 : Nat) (Option.none : Option Jvm.ClassFile.FieldType)) ∈ jw_T := jw_mem 506 (by decide +kernel) (by decide +kernel)
theorem jq_507 : (Jvm.Cond.classLink "Branchwork" (85 : Nat) "java/lang/IndexOutOfBoundsException") ∈ jw_T := jw_mem 507 (by decide +kernel) (by decide +kernel)
theorem jq_508 : (Jvm.Cond.instantiable "java/lang/IndexOutOfBoundsException" (6 : Nat)) ∈ jw_T := jw_mem 508 (by decide +kernel) (by decide +kernel)
theorem jq_510 : (Jvm.Cond.selects "java/lang/IndexOutOfBoundsException" ({ cls := "java/lang/Throwable", name := "fillInStackTrace", desc := "(I)Ljava/lang/Throwable;" } : Jvm.MethodName) ({ cls := "java/lang/Throwable", name := "fillInStackTrace", desc := "(I)Ljava/lang/Throwable;" } : Jvm.MethodName)) ∈ jw_T := jw_mem 510 (by decide +kernel) (by decide +kernel)
theorem jq_517 : (Jvm.Cond.methodLink "Branchwork" (89 : Nat) ({ cls := "java/lang/IndexOutOfBoundsException", name := "<init>", desc := "(Ljava/lang/String;)V" } : Jvm.MethodName)) ∈ jw_T := jw_mem 517 (by decide +kernel) (by decide +kernel)
theorem jq_518 : (Jvm.Cond.instanceMethod ({ cls := "java/lang/IndexOutOfBoundsException", name := "<init>", desc := "(Ljava/lang/String;)V" } : Jvm.MethodName)) ∈ jw_T := jw_mem 518 (by decide +kernel) (by decide +kernel)
theorem jq_519 : (Jvm.Cond.code ({ cls := "java/lang/IndexOutOfBoundsException", name := "<init>", desc := "(Ljava/lang/String;)V" } : Jvm.MethodName) prog_21_method_2_code (2 : Nat) (Option.none : Option Jvm.ClassFile.FieldType)) ∈ jw_T := jw_mem 519 (by decide +kernel) (by decide +kernel)
theorem jq_520 : (Jvm.Cond.methodLink "java/lang/IndexOutOfBoundsException" (7 : Nat) ({ cls := "java/lang/RuntimeException", name := "<init>", desc := "(Ljava/lang/String;)V" } : Jvm.MethodName)) ∈ jw_T := jw_mem 520 (by decide +kernel) (by decide +kernel)
theorem jq_523 : (Jvm.Cond.methodLink "Branchwork" (316 : Nat) ({ cls := "Branchwork", name := "status", desc := "(I)I" } : Jvm.MethodName)) ∈ jw_T := jw_mem 523 (by decide +kernel) (by decide +kernel)
theorem jq_524 : (Jvm.Cond.instanceMethod ({ cls := "Branchwork", name := "status", desc := "(I)I" } : Jvm.MethodName)) ∈ jw_T := jw_mem 524 (by decide +kernel) (by decide +kernel)
theorem jq_525 : (Jvm.Cond.selects "Branchwork" ({ cls := "Branchwork", name := "status", desc := "(I)I" } : Jvm.MethodName) ({ cls := "Branchwork", name := "status", desc := "(I)I" } : Jvm.MethodName)) ∈ jw_T := jw_mem 525 (by decide +kernel) (by decide +kernel)
theorem jq_526 : (Jvm.Cond.code ({ cls := "Branchwork", name := "status", desc := "(I)I" } : Jvm.MethodName) prog_1_method_6_code (3 : Nat) (Option.some Jvm.ClassFile.FieldType.int)) ∈ jw_T := jw_mem 526 (by decide +kernel) (by decide +kernel)
theorem jq_527 : (Jvm.Cond.methodLink "Branchwork" (71 : Nat) ({ cls := "Branchwork", name := "requirePath", desc := "(I)V" } : Jvm.MethodName)) ∈ jw_T := jw_mem 527 (by decide +kernel) (by decide +kernel)
theorem jq_528 : (Jvm.Cond.static ({ cls := "Branchwork", name := "requirePath", desc := "(I)V" } : Jvm.MethodName)) ∈ jw_T := jw_mem 528 (by decide +kernel) (by decide +kernel)
theorem jq_529 : (Jvm.Cond.code ({ cls := "Branchwork", name := "requirePath", desc := "(I)V" } : Jvm.MethodName) prog_1_method_39_code (1 : Nat) (Option.none : Option Jvm.ClassFile.FieldType)) ∈ jw_T := jw_mem 529 (by decide +kernel) (by decide +kernel)
theorem jq_531 : (Jvm.Cond.methodLink "Branchwork" (140 : Nat) ({ cls := "Branchwork$History", name := "treeOf", desc := "(I)LBranchwork$Tree;" } : Jvm.MethodName)) ∈ jw_T := jw_mem 531 (by decide +kernel) (by decide +kernel)
theorem jq_532 : (Jvm.Cond.methodLink "Branchwork" (75 : Nat) ({ cls := "Branchwork$Tree", name := "fileAt", desc := "(I)LBranchwork$Content;" } : Jvm.MethodName)) ∈ jw_T := jw_mem 532 (by decide +kernel) (by decide +kernel)
theorem jq_533 : (Jvm.Cond.methodLink "Branchwork" (144 : Nat) ({ cls := "Branchwork$Content", name := "sameAs", desc := "(LBranchwork$Content;)Z" } : Jvm.MethodName)) ∈ jw_T := jw_mem 533 (by decide +kernel) (by decide +kernel)
theorem jq_534 : (Jvm.Cond.instanceMethod ({ cls := "Branchwork$Content", name := "sameAs", desc := "(LBranchwork$Content;)Z" } : Jvm.MethodName)) ∈ jw_T := jw_mem 534 (by decide +kernel) (by decide +kernel)
theorem jq_535 : (Jvm.Cond.selects "Branchwork$Content" ({ cls := "Branchwork$Content", name := "sameAs", desc := "(LBranchwork$Content;)Z" } : Jvm.MethodName) ({ cls := "Branchwork$Content", name := "sameAs", desc := "(LBranchwork$Content;)Z" } : Jvm.MethodName)) ∈ jw_T := jw_mem 535 (by decide +kernel) (by decide +kernel)
theorem jq_536 : (Jvm.Cond.code ({ cls := "Branchwork$Content", name := "sameAs", desc := "(LBranchwork$Content;)Z" } : Jvm.MethodName) prog_4_method_15_code (3 : Nat) (Option.some Jvm.ClassFile.FieldType.boolean)) ∈ jw_T := jw_mem 536 (by decide +kernel) (by decide +kernel)
theorem jq_537 : (Jvm.Cond.methodLink "Branchwork$Content" (48 : Nat) ({ cls := "Branchwork$Content", name := "exists", desc := "()Z" } : Jvm.MethodName)) ∈ jw_T := jw_mem 537 (by decide +kernel) (by decide +kernel)
theorem jq_538 : (Jvm.Cond.methodLink "Branchwork$Content" (27 : Nat) ({ cls := "Branchwork$Content", name := "length", desc := "()I" } : Jvm.MethodName)) ∈ jw_T := jw_mem 538 (by decide +kernel) (by decide +kernel)
theorem jq_539 : (Jvm.Cond.methodLink "Branchwork$Content" (31 : Nat) ({ cls := "Branchwork$Content", name := "lineAt", desc := "(I)I" } : Jvm.MethodName)) ∈ jw_T := jw_mem 539 (by decide +kernel) (by decide +kernel)
theorem jq_540 : (Jvm.Cond.instanceMethod ({ cls := "Branchwork$Content", name := "lineAt", desc := "(I)I" } : Jvm.MethodName)) ∈ jw_T := jw_mem 540 (by decide +kernel) (by decide +kernel)
theorem jq_541 : (Jvm.Cond.selects "Branchwork$Content" ({ cls := "Branchwork$Content", name := "lineAt", desc := "(I)I" } : Jvm.MethodName) ({ cls := "Branchwork$Content", name := "lineAt", desc := "(I)I" } : Jvm.MethodName)) ∈ jw_T := jw_mem 541 (by decide +kernel) (by decide +kernel)
theorem jq_542 : (Jvm.Cond.code ({ cls := "Branchwork$Content", name := "lineAt", desc := "(I)I" } : Jvm.MethodName) prog_4_method_6_code (2 : Nat) (Option.some Jvm.ClassFile.FieldType.int)) ∈ jw_T := jw_mem 542 (by decide +kernel) (by decide +kernel)
theorem jq_543 : (Jvm.Cond.methodLink "Branchwork" (121 : Nat) ({ cls := "Branchwork$Tree", name := "has", desc := "(I)Z" } : Jvm.MethodName)) ∈ jw_T := jw_mem 543 (by decide +kernel) (by decide +kernel)
theorem jq_544 : (Jvm.Cond.methodLink "Branchwork" (319 : Nat) ({ cls := "Branchwork", name := "foldTree", desc := "(JLBranchwork$Tree;)J" } : Jvm.MethodName)) ∈ jw_T := jw_mem 544 (by decide +kernel) (by decide +kernel)
theorem jq_545 : (Jvm.Cond.static ({ cls := "Branchwork", name := "foldTree", desc := "(JLBranchwork$Tree;)J" } : Jvm.MethodName)) ∈ jw_T := jw_mem 545 (by decide +kernel) (by decide +kernel)
theorem jq_546 : (Jvm.Cond.code ({ cls := "Branchwork", name := "foldTree", desc := "(JLBranchwork$Tree;)J" } : Jvm.MethodName) prog_1_method_31_code (8 : Nat) (Option.some Jvm.ClassFile.FieldType.long)) ∈ jw_T := jw_mem 546 (by decide +kernel) (by decide +kernel)
theorem jq_547 : (Jvm.Cond.methodLink "Branchwork" (259 : Nat) ({ cls := "Branchwork$Content", name := "exists", desc := "()Z" } : Jvm.MethodName)) ∈ jw_T := jw_mem 547 (by decide +kernel) (by decide +kernel)
theorem jq_548 : (Jvm.Cond.methodLink "Branchwork" (79 : Nat) ({ cls := "Branchwork$Content", name := "length", desc := "()I" } : Jvm.MethodName)) ∈ jw_T := jw_mem 548 (by decide +kernel) (by decide +kernel)
theorem jq_549 : (Jvm.Cond.methodLink "Branchwork" (262 : Nat) ({ cls := "Branchwork$Content", name := "lineAt", desc := "(I)I" } : Jvm.MethodName)) ∈ jw_T := jw_mem 549 (by decide +kernel) (by decide +kernel)
theorem jq_550 : (Jvm.Cond.methodLink "Branchwork" (323 : Nat) ({ cls := "Branchwork$History", name := "holds", desc := "(I)Z" } : Jvm.MethodName)) ∈ jw_T := jw_mem 550 (by decide +kernel) (by decide +kernel)
theorem jq_551 : (Jvm.Cond.instanceMethod ({ cls := "Branchwork$History", name := "holds", desc := "(I)Z" } : Jvm.MethodName)) ∈ jw_T := jw_mem 551 (by decide +kernel) (by decide +kernel)
theorem jq_552 : (Jvm.Cond.selects "Branchwork$History" ({ cls := "Branchwork$History", name := "holds", desc := "(I)Z" } : Jvm.MethodName) ({ cls := "Branchwork$History", name := "holds", desc := "(I)Z" } : Jvm.MethodName)) ∈ jw_T := jw_mem 552 (by decide +kernel) (by decide +kernel)
theorem jq_553 : (Jvm.Cond.code ({ cls := "Branchwork$History", name := "holds", desc := "(I)Z" } : Jvm.MethodName) prog_5_method_6_code (2 : Nat) (Option.some Jvm.ClassFile.FieldType.boolean)) ∈ jw_T := jw_mem 553 (by decide +kernel) (by decide +kernel)
theorem jq_554 : (Jvm.Cond.methodLink "Branchwork" (326 : Nat) ({ cls := "Branchwork", name := "foldCommit", desc := "(JI)J" } : Jvm.MethodName)) ∈ jw_T := jw_mem 554 (by decide +kernel) (by decide +kernel)
theorem jq_556 : (Jvm.Cond.instanceMethod ({ cls := "Branchwork", name := "foldCommit", desc := "(JI)J" } : Jvm.MethodName)) ∈ jw_T := jw_mem 556 (by decide +kernel) (by decide +kernel)
theorem jq_557 : (Jvm.Cond.code ({ cls := "Branchwork", name := "foldCommit", desc := "(JI)J" } : Jvm.MethodName) prog_1_method_32_code (7 : Nat) (Option.some Jvm.ClassFile.FieldType.long)) ∈ jw_T := jw_mem 557 (by decide +kernel) (by decide +kernel)
theorem jq_558 : (Jvm.Cond.methodLink "Branchwork" (331 : Nat) ({ cls := "Branchwork", name := "ofCommit", desc := "(II)I" } : Jvm.MethodName)) ∈ jw_T := jw_mem 558 (by decide +kernel) (by decide +kernel)
theorem jq_559 : (Jvm.Cond.instanceMethod ({ cls := "Branchwork", name := "ofCommit", desc := "(II)I" } : Jvm.MethodName)) ∈ jw_T := jw_mem 559 (by decide +kernel) (by decide +kernel)
theorem jq_560 : (Jvm.Cond.selects "Branchwork" ({ cls := "Branchwork", name := "ofCommit", desc := "(II)I" } : Jvm.MethodName) ({ cls := "Branchwork", name := "ofCommit", desc := "(II)I" } : Jvm.MethodName)) ∈ jw_T := jw_mem 560 (by decide +kernel) (by decide +kernel)
theorem jq_561 : (Jvm.Cond.code ({ cls := "Branchwork", name := "ofCommit", desc := "(II)I" } : Jvm.MethodName) prog_1_method_17_code (3 : Nat) (Option.some Jvm.ClassFile.FieldType.int)) ∈ jw_T := jw_mem 561 (by decide +kernel) (by decide +kernel)
theorem jq_562 : (Jvm.Cond.methodLink "Branchwork" (180 : Nat) ({ cls := "Branchwork", name := "requireCommit", desc := "(I)V" } : Jvm.MethodName)) ∈ jw_T := jw_mem 562 (by decide +kernel) (by decide +kernel)
theorem jq_564 : (Jvm.Cond.instanceMethod ({ cls := "Branchwork", name := "requireCommit", desc := "(I)V" } : Jvm.MethodName)) ∈ jw_T := jw_mem 564 (by decide +kernel) (by decide +kernel)
theorem jq_565 : (Jvm.Cond.code ({ cls := "Branchwork", name := "requireCommit", desc := "(I)V" } : Jvm.MethodName) prog_1_method_42_code (2 : Nat) (Option.none : Option Jvm.ClassFile.FieldType)) ∈ jw_T := jw_mem 565 (by decide +kernel) (by decide +kernel)
theorem jq_567 : (Jvm.Cond.methodLink "Branchwork" (239 : Nat) ({ cls := "Branchwork$History", name := "firstParent", desc := "(I)I" } : Jvm.MethodName)) ∈ jw_T := jw_mem 567 (by decide +kernel) (by decide +kernel)
theorem jq_568 : (Jvm.Cond.instanceMethod ({ cls := "Branchwork$History", name := "firstParent", desc := "(I)I" } : Jvm.MethodName)) ∈ jw_T := jw_mem 568 (by decide +kernel) (by decide +kernel)
theorem jq_569 : (Jvm.Cond.selects "Branchwork$History" ({ cls := "Branchwork$History", name := "firstParent", desc := "(I)I" } : Jvm.MethodName) ({ cls := "Branchwork$History", name := "firstParent", desc := "(I)I" } : Jvm.MethodName)) ∈ jw_T := jw_mem 569 (by decide +kernel) (by decide +kernel)
theorem jq_570 : (Jvm.Cond.code ({ cls := "Branchwork$History", name := "firstParent", desc := "(I)I" } : Jvm.MethodName) prog_5_method_10_code (2 : Nat) (Option.some Jvm.ClassFile.FieldType.int)) ∈ jw_T := jw_mem 570 (by decide +kernel) (by decide +kernel)
theorem jq_571 : (Jvm.Cond.methodLink "Branchwork" (242 : Nat) ({ cls := "Branchwork$History", name := "secondParent", desc := "(I)I" } : Jvm.MethodName)) ∈ jw_T := jw_mem 571 (by decide +kernel) (by decide +kernel)
theorem jq_572 : (Jvm.Cond.instanceMethod ({ cls := "Branchwork$History", name := "secondParent", desc := "(I)I" } : Jvm.MethodName)) ∈ jw_T := jw_mem 572 (by decide +kernel) (by decide +kernel)
theorem jq_573 : (Jvm.Cond.selects "Branchwork$History" ({ cls := "Branchwork$History", name := "secondParent", desc := "(I)I" } : Jvm.MethodName) ({ cls := "Branchwork$History", name := "secondParent", desc := "(I)I" } : Jvm.MethodName)) ∈ jw_T := jw_mem 573 (by decide +kernel) (by decide +kernel)
theorem jq_574 : (Jvm.Cond.code ({ cls := "Branchwork$History", name := "secondParent", desc := "(I)I" } : Jvm.MethodName) prog_5_method_11_code (2 : Nat) (Option.some Jvm.ClassFile.FieldType.int)) ∈ jw_T := jw_mem 574 (by decide +kernel) (by decide +kernel)
theorem jq_575 : (Jvm.Cond.methodLink "Branchwork" (245 : Nat) ({ cls := "Branchwork$History", name := "noteOf", desc := "(I)I" } : Jvm.MethodName)) ∈ jw_T := jw_mem 575 (by decide +kernel) (by decide +kernel)
theorem jq_576 : (Jvm.Cond.instanceMethod ({ cls := "Branchwork$History", name := "noteOf", desc := "(I)I" } : Jvm.MethodName)) ∈ jw_T := jw_mem 576 (by decide +kernel) (by decide +kernel)
theorem jq_577 : (Jvm.Cond.selects "Branchwork$History" ({ cls := "Branchwork$History", name := "noteOf", desc := "(I)I" } : Jvm.MethodName) ({ cls := "Branchwork$History", name := "noteOf", desc := "(I)I" } : Jvm.MethodName)) ∈ jw_T := jw_mem 577 (by decide +kernel) (by decide +kernel)
theorem jq_578 : (Jvm.Cond.code ({ cls := "Branchwork$History", name := "noteOf", desc := "(I)I" } : Jvm.MethodName) prog_5_method_9_code (2 : Nat) (Option.some Jvm.ClassFile.FieldType.int)) ∈ jw_T := jw_mem 578 (by decide +kernel) (by decide +kernel)
theorem jq_579 : (Jvm.Cond.methodLink "Branchwork" (248 : Nat) ({ cls := "Branchwork$History", name := "ancestorsOf", desc := "(I)I" } : Jvm.MethodName)) ∈ jw_T := jw_mem 579 (by decide +kernel) (by decide +kernel)
theorem jq_580 : (Jvm.Cond.instanceMethod ({ cls := "Branchwork$History", name := "ancestorsOf", desc := "(I)I" } : Jvm.MethodName)) ∈ jw_T := jw_mem 580 (by decide +kernel) (by decide +kernel)
theorem jq_581 : (Jvm.Cond.selects "Branchwork$History" ({ cls := "Branchwork$History", name := "ancestorsOf", desc := "(I)I" } : Jvm.MethodName) ({ cls := "Branchwork$History", name := "ancestorsOf", desc := "(I)I" } : Jvm.MethodName)) ∈ jw_T := jw_mem 581 (by decide +kernel) (by decide +kernel)
theorem jq_582 : (Jvm.Cond.code ({ cls := "Branchwork$History", name := "ancestorsOf", desc := "(I)I" } : Jvm.MethodName) prog_5_method_14_code (2 : Nat) (Option.some Jvm.ClassFile.FieldType.int)) ∈ jw_T := jw_mem 582 (by decide +kernel) (by decide +kernel)
theorem jq_583 : (Jvm.Cond.methodLink "Branchwork$History" (67 : Nat) ({ cls := "Branchwork$History", name := "withAncestors", desc := "(I)I" } : Jvm.MethodName)) ∈ jw_T := jw_mem 583 (by decide +kernel) (by decide +kernel)
theorem jq_584 : (Jvm.Cond.methodLink "Branchwork" (251 : Nat) ({ cls := "Branchwork$History", name := "isIn", desc := "(II)Z" } : Jvm.MethodName)) ∈ jw_T := jw_mem 584 (by decide +kernel) (by decide +kernel)
theorem jq_585 : (Jvm.Cond.methodLink "Branchwork" (265 : Nat) ({ cls := "Branchwork$Conflicts", name := "codeOf", desc := "(I)I" } : Jvm.MethodName)) ∈ jw_T := jw_mem 585 (by decide +kernel) (by decide +kernel)
theorem jq_586 : (Jvm.Cond.instanceMethod ({ cls := "Branchwork$Conflicts", name := "codeOf", desc := "(I)I" } : Jvm.MethodName)) ∈ jw_T := jw_mem 586 (by decide +kernel) (by decide +kernel)
theorem jq_587 : (Jvm.Cond.selects "Branchwork$Conflicts" ({ cls := "Branchwork$Conflicts", name := "codeOf", desc := "(I)I" } : Jvm.MethodName) ({ cls := "Branchwork$Conflicts", name := "codeOf", desc := "(I)I" } : Jvm.MethodName)) ∈ jw_T := jw_mem 587 (by decide +kernel) (by decide +kernel)
theorem jq_588 : (Jvm.Cond.code ({ cls := "Branchwork$Conflicts", name := "codeOf", desc := "(I)I" } : Jvm.MethodName) prog_3_method_4_code (2 : Nat) (Option.some Jvm.ClassFile.FieldType.int)) ∈ jw_T := jw_mem 588 (by decide +kernel) (by decide +kernel)
theorem jq_589 : (Jvm.Cond.methodLink "Branchwork$Conflicts" (22 : Nat) ({ cls := "Branchwork$Conflicts", name := "holds", desc := "(I)Z" } : Jvm.MethodName)) ∈ jw_T := jw_mem 589 (by decide +kernel) (by decide +kernel)
theorem jq_590 : (Jvm.Cond.instanceMethod ({ cls := "Branchwork$Conflicts", name := "holds", desc := "(I)Z" } : Jvm.MethodName)) ∈ jw_T := jw_mem 590 (by decide +kernel) (by decide +kernel)
theorem jq_591 : (Jvm.Cond.selects "Branchwork$Conflicts" ({ cls := "Branchwork$Conflicts", name := "holds", desc := "(I)Z" } : Jvm.MethodName) ({ cls := "Branchwork$Conflicts", name := "holds", desc := "(I)Z" } : Jvm.MethodName)) ∈ jw_T := jw_mem 591 (by decide +kernel) (by decide +kernel)
theorem jq_592 : (Jvm.Cond.code ({ cls := "Branchwork$Conflicts", name := "holds", desc := "(I)Z" } : Jvm.MethodName) prog_3_method_3_code (2 : Nat) (Option.some Jvm.ClassFile.FieldType.boolean)) ∈ jw_T := jw_mem 592 (by decide +kernel) (by decide +kernel)
theorem jq_593 : (Jvm.Cond.methodLink "Branchwork" (268 : Nat) ({ cls := "Branchwork$Conflicts", name := "pathOf", desc := "(I)I" } : Jvm.MethodName)) ∈ jw_T := jw_mem 593 (by decide +kernel) (by decide +kernel)
theorem jq_594 : (Jvm.Cond.instanceMethod ({ cls := "Branchwork$Conflicts", name := "pathOf", desc := "(I)I" } : Jvm.MethodName)) ∈ jw_T := jw_mem 594 (by decide +kernel) (by decide +kernel)
theorem jq_595 : (Jvm.Cond.selects "Branchwork$Conflicts" ({ cls := "Branchwork$Conflicts", name := "pathOf", desc := "(I)I" } : Jvm.MethodName) ({ cls := "Branchwork$Conflicts", name := "pathOf", desc := "(I)I" } : Jvm.MethodName)) ∈ jw_T := jw_mem 595 (by decide +kernel) (by decide +kernel)
theorem jq_596 : (Jvm.Cond.code ({ cls := "Branchwork$Conflicts", name := "pathOf", desc := "(I)I" } : Jvm.MethodName) prog_3_method_5_code (2 : Nat) (Option.some Jvm.ClassFile.FieldType.int)) ∈ jw_T := jw_mem 596 (by decide +kernel) (by decide +kernel)
theorem jq_597 : (Jvm.Cond.methodLink "BranchworkLaw" (96 : Nat) ({ cls := "BranchworkLaw", name := "put", desc := "(LBranchwork;III[J)I" } : Jvm.MethodName)) ∈ jw_T := jw_mem 597 (by decide +kernel) (by decide +kernel)
theorem jq_598 : (Jvm.Cond.static ({ cls := "BranchworkLaw", name := "put", desc := "(LBranchwork;III[J)I" } : Jvm.MethodName)) ∈ jw_T := jw_mem 598 (by decide +kernel) (by decide +kernel)
theorem jq_599 : (Jvm.Cond.codeWith ({ cls := "BranchworkLaw", name := "put", desc := "(LBranchwork;III[J)I" } : Jvm.MethodName) method_3_code (6 : Nat) (Option.some Jvm.ClassFile.FieldType.int) [((0 : Nat), (12 : Nat), (15 : Nat), (13 : Nat)), ((0 : Nat), (12 : Nat), (19 : Nat), (15 : Nat)), ((0 : Nat), (12 : Nat), (23 : Nat), (17 : Nat))]) ∈ jw_T := jw_mem 599 (by decide +kernel) (by decide +kernel)
theorem jq_600 : (Jvm.Cond.classLink "BranchworkLaw" (13 : Nat) "java/lang/IndexOutOfBoundsException") ∈ jw_T := jw_mem 600 (by decide +kernel) (by decide +kernel)
theorem jq_601 : (Jvm.Cond.classLink "BranchworkLaw" (15 : Nat) "java/lang/IllegalArgumentException") ∈ jw_T := jw_mem 601 (by decide +kernel) (by decide +kernel)
theorem jq_602 : (Jvm.Cond.classLink "BranchworkLaw" (17 : Nat) "java/lang/IllegalStateException") ∈ jw_T := jw_mem 602 (by decide +kernel) (by decide +kernel)
theorem jq_603 : (Jvm.Cond.methodLink "BranchworkLaw" (7 : Nat) ({ cls := "Branchwork", name := "put", desc := "(III)I" } : Jvm.MethodName)) ∈ jw_T := jw_mem 603 (by decide +kernel) (by decide +kernel)
theorem jq_604 : (Jvm.Cond.instanceMethod ({ cls := "Branchwork", name := "put", desc := "(III)I" } : Jvm.MethodName)) ∈ jw_T := jw_mem 604 (by decide +kernel) (by decide +kernel)
theorem jq_605 : (Jvm.Cond.selects "Branchwork" ({ cls := "Branchwork", name := "put", desc := "(III)I" } : Jvm.MethodName) ({ cls := "Branchwork", name := "put", desc := "(III)I" } : Jvm.MethodName)) ∈ jw_T := jw_mem 605 (by decide +kernel) (by decide +kernel)
theorem jq_606 : (Jvm.Cond.code ({ cls := "Branchwork", name := "put", desc := "(III)I" } : Jvm.MethodName) prog_1_method_2_code (5 : Nat) (Option.some Jvm.ClassFile.FieldType.int)) ∈ jw_T := jw_mem 606 (by decide +kernel) (by decide +kernel)
theorem jq_609 : (Jvm.Cond.methodLink "Branchwork" (97 : Nat) ({ cls := "Branchwork$Content", name := "isFull", desc := "()Z" } : Jvm.MethodName)) ∈ jw_T := jw_mem 609 (by decide +kernel) (by decide +kernel)
theorem jq_610 : (Jvm.Cond.instanceMethod ({ cls := "Branchwork$Content", name := "isFull", desc := "()Z" } : Jvm.MethodName)) ∈ jw_T := jw_mem 610 (by decide +kernel) (by decide +kernel)
theorem jq_611 : (Jvm.Cond.selects "Branchwork$Content" ({ cls := "Branchwork$Content", name := "isFull", desc := "()Z" } : Jvm.MethodName) ({ cls := "Branchwork$Content", name := "isFull", desc := "()Z" } : Jvm.MethodName)) ∈ jw_T := jw_mem 611 (by decide +kernel) (by decide +kernel)
theorem jq_612 : (Jvm.Cond.code ({ cls := "Branchwork$Content", name := "isFull", desc := "()Z" } : Jvm.MethodName) prog_4_method_4_code (1 : Nat) (Option.some Jvm.ClassFile.FieldType.boolean)) ∈ jw_T := jw_mem 612 (by decide +kernel) (by decide +kernel)
theorem jq_613 : (Jvm.Cond.classLink "Branchwork" (101 : Nat) "java/lang/IllegalStateException") ∈ jw_T := jw_mem 613 (by decide +kernel) (by decide +kernel)
theorem jq_614 : (Jvm.Cond.instantiable "java/lang/IllegalStateException" (6 : Nat)) ∈ jw_T := jw_mem 614 (by decide +kernel) (by decide +kernel)
theorem jq_616 : (Jvm.Cond.selects "java/lang/IllegalStateException" ({ cls := "java/lang/Throwable", name := "fillInStackTrace", desc := "(I)Ljava/lang/Throwable;" } : Jvm.MethodName) ({ cls := "java/lang/Throwable", name := "fillInStackTrace", desc := "(I)Ljava/lang/Throwable;" } : Jvm.MethodName)) ∈ jw_T := jw_mem 616 (by decide +kernel) (by decide +kernel)
theorem jq_623 : (Jvm.Cond.methodLink "Branchwork" (105 : Nat) ({ cls := "java/lang/IllegalStateException", name := "<init>", desc := "(Ljava/lang/String;)V" } : Jvm.MethodName)) ∈ jw_T := jw_mem 623 (by decide +kernel) (by decide +kernel)
theorem jq_624 : (Jvm.Cond.instanceMethod ({ cls := "java/lang/IllegalStateException", name := "<init>", desc := "(Ljava/lang/String;)V" } : Jvm.MethodName)) ∈ jw_T := jw_mem 624 (by decide +kernel) (by decide +kernel)
theorem jq_625 : (Jvm.Cond.code ({ cls := "java/lang/IllegalStateException", name := "<init>", desc := "(Ljava/lang/String;)V" } : Jvm.MethodName) prog_20_method_2_code (2 : Nat) (Option.none : Option Jvm.ClassFile.FieldType)) ∈ jw_T := jw_mem 625 (by decide +kernel) (by decide +kernel)
theorem jq_626 : (Jvm.Cond.methodLink "java/lang/IllegalStateException" (7 : Nat) ({ cls := "java/lang/RuntimeException", name := "<init>", desc := "(Ljava/lang/String;)V" } : Jvm.MethodName)) ∈ jw_T := jw_mem 626 (by decide +kernel) (by decide +kernel)
theorem jq_629 : (Jvm.Cond.methodLink "Branchwork" (106 : Nat) ({ cls := "Branchwork$Content", name := "insert", desc := "(II)V" } : Jvm.MethodName)) ∈ jw_T := jw_mem 629 (by decide +kernel) (by decide +kernel)
theorem jq_630 : (Jvm.Cond.instanceMethod ({ cls := "Branchwork$Content", name := "insert", desc := "(II)V" } : Jvm.MethodName)) ∈ jw_T := jw_mem 630 (by decide +kernel) (by decide +kernel)
theorem jq_631 : (Jvm.Cond.selects "Branchwork$Content" ({ cls := "Branchwork$Content", name := "insert", desc := "(II)V" } : Jvm.MethodName) ({ cls := "Branchwork$Content", name := "insert", desc := "(II)V" } : Jvm.MethodName)) ∈ jw_T := jw_mem 631 (by decide +kernel) (by decide +kernel)
theorem jq_632 : (Jvm.Cond.code ({ cls := "Branchwork$Content", name := "insert", desc := "(II)V" } : Jvm.MethodName) prog_4_method_9_code (4 : Nat) (Option.none : Option Jvm.ClassFile.FieldType)) ∈ jw_T := jw_mem 632 (by decide +kernel) (by decide +kernel)
theorem jq_633 : (Jvm.Cond.methodLink "BranchworkLaw" (105 : Nat) ({ cls := "BranchworkLaw", name := "cut", desc := "(LBranchwork;II[J)I" } : Jvm.MethodName)) ∈ jw_T := jw_mem 633 (by decide +kernel) (by decide +kernel)
theorem jq_634 : (Jvm.Cond.static ({ cls := "BranchworkLaw", name := "cut", desc := "(LBranchwork;II[J)I" } : Jvm.MethodName)) ∈ jw_T := jw_mem 634 (by decide +kernel) (by decide +kernel)
theorem jq_635 : (Jvm.Cond.codeWith ({ cls := "BranchworkLaw", name := "cut", desc := "(LBranchwork;II[J)I" } : Jvm.MethodName) method_4_code (5 : Nat) (Option.some Jvm.ClassFile.FieldType.int) [((0 : Nat), (10 : Nat), (13 : Nat), (13 : Nat))]) ∈ jw_T := jw_mem 635 (by decide +kernel) (by decide +kernel)
theorem jq_636 : (Jvm.Cond.methodLink "BranchworkLaw" (19 : Nat) ({ cls := "Branchwork", name := "cut", desc := "(II)I" } : Jvm.MethodName)) ∈ jw_T := jw_mem 636 (by decide +kernel) (by decide +kernel)
theorem jq_637 : (Jvm.Cond.instanceMethod ({ cls := "Branchwork", name := "cut", desc := "(II)I" } : Jvm.MethodName)) ∈ jw_T := jw_mem 637 (by decide +kernel) (by decide +kernel)
theorem jq_638 : (Jvm.Cond.selects "Branchwork" ({ cls := "Branchwork", name := "cut", desc := "(II)I" } : Jvm.MethodName) ({ cls := "Branchwork", name := "cut", desc := "(II)I" } : Jvm.MethodName)) ∈ jw_T := jw_mem 638 (by decide +kernel) (by decide +kernel)
theorem jq_639 : (Jvm.Cond.code ({ cls := "Branchwork", name := "cut", desc := "(II)I" } : Jvm.MethodName) prog_1_method_3_code (4 : Nat) (Option.some Jvm.ClassFile.FieldType.int)) ∈ jw_T := jw_mem 639 (by decide +kernel) (by decide +kernel)
theorem jq_640 : (Jvm.Cond.methodLink "Branchwork" (110 : Nat) ({ cls := "Branchwork", name := "requireFile", desc := "(LBranchwork$Tree;I)V" } : Jvm.MethodName)) ∈ jw_T := jw_mem 640 (by decide +kernel) (by decide +kernel)
theorem jq_641 : (Jvm.Cond.static ({ cls := "Branchwork", name := "requireFile", desc := "(LBranchwork$Tree;I)V" } : Jvm.MethodName)) ∈ jw_T := jw_mem 641 (by decide +kernel) (by decide +kernel)
theorem jq_642 : (Jvm.Cond.code ({ cls := "Branchwork", name := "requireFile", desc := "(LBranchwork$Tree;I)V" } : Jvm.MethodName) prog_1_method_40_code (2 : Nat) (Option.none : Option Jvm.ClassFile.FieldType)) ∈ jw_T := jw_mem 642 (by decide +kernel) (by decide +kernel)
theorem jq_644 : (Jvm.Cond.methodLink "Branchwork" (114 : Nat) ({ cls := "Branchwork", name := "requirePlace", desc := "(LBranchwork$Content;I)V" } : Jvm.MethodName)) ∈ jw_T := jw_mem 644 (by decide +kernel) (by decide +kernel)
theorem jq_645 : (Jvm.Cond.static ({ cls := "Branchwork", name := "requirePlace", desc := "(LBranchwork$Content;I)V" } : Jvm.MethodName)) ∈ jw_T := jw_mem 645 (by decide +kernel) (by decide +kernel)
theorem jq_646 : (Jvm.Cond.code ({ cls := "Branchwork", name := "requirePlace", desc := "(LBranchwork$Content;I)V" } : Jvm.MethodName) prog_1_method_41_code (2 : Nat) (Option.none : Option Jvm.ClassFile.FieldType)) ∈ jw_T := jw_mem 646 (by decide +kernel) (by decide +kernel)
theorem jq_647 : (Jvm.Cond.methodLink "Branchwork" (357 : Nat) ({ cls := "Branchwork$Content", name := "holds", desc := "(I)Z" } : Jvm.MethodName)) ∈ jw_T := jw_mem 647 (by decide +kernel) (by decide +kernel)
theorem jq_648 : (Jvm.Cond.instanceMethod ({ cls := "Branchwork$Content", name := "holds", desc := "(I)Z" } : Jvm.MethodName)) ∈ jw_T := jw_mem 648 (by decide +kernel) (by decide +kernel)
theorem jq_649 : (Jvm.Cond.selects "Branchwork$Content" ({ cls := "Branchwork$Content", name := "holds", desc := "(I)Z" } : Jvm.MethodName) ({ cls := "Branchwork$Content", name := "holds", desc := "(I)Z" } : Jvm.MethodName)) ∈ jw_T := jw_mem 649 (by decide +kernel) (by decide +kernel)
theorem jq_650 : (Jvm.Cond.code ({ cls := "Branchwork$Content", name := "holds", desc := "(I)Z" } : Jvm.MethodName) prog_4_method_5_code (2 : Nat) (Option.some Jvm.ClassFile.FieldType.boolean)) ∈ jw_T := jw_mem 650 (by decide +kernel) (by decide +kernel)
theorem jq_651 : (Jvm.Cond.methodLink "Branchwork" (118 : Nat) ({ cls := "Branchwork$Content", name := "takeOut", desc := "(I)V" } : Jvm.MethodName)) ∈ jw_T := jw_mem 651 (by decide +kernel) (by decide +kernel)
theorem jq_652 : (Jvm.Cond.instanceMethod ({ cls := "Branchwork$Content", name := "takeOut", desc := "(I)V" } : Jvm.MethodName)) ∈ jw_T := jw_mem 652 (by decide +kernel) (by decide +kernel)
theorem jq_653 : (Jvm.Cond.selects "Branchwork$Content" ({ cls := "Branchwork$Content", name := "takeOut", desc := "(I)V" } : Jvm.MethodName) ({ cls := "Branchwork$Content", name := "takeOut", desc := "(I)V" } : Jvm.MethodName)) ∈ jw_T := jw_mem 653 (by decide +kernel) (by decide +kernel)
theorem jq_654 : (Jvm.Cond.code ({ cls := "Branchwork$Content", name := "takeOut", desc := "(I)V" } : Jvm.MethodName) prog_4_method_10_code (3 : Nat) (Option.none : Option Jvm.ClassFile.FieldType)) ∈ jw_T := jw_mem 654 (by decide +kernel) (by decide +kernel)
theorem jq_655 : (Jvm.Cond.methodLink "Branchwork$Content" (23 : Nat) ({ cls := "Branchwork$Content", name := "holds", desc := "(I)Z" } : Jvm.MethodName)) ∈ jw_T := jw_mem 655 (by decide +kernel) (by decide +kernel)
theorem jq_656 : (Jvm.Cond.methodLink "BranchworkLaw" (109 : Nat) ({ cls := "BranchworkLaw", name := "rename", desc := "(LBranchwork;II[J)I" } : Jvm.MethodName)) ∈ jw_T := jw_mem 656 (by decide +kernel) (by decide +kernel)
theorem jq_657 : (Jvm.Cond.static ({ cls := "BranchworkLaw", name := "rename", desc := "(LBranchwork;II[J)I" } : Jvm.MethodName)) ∈ jw_T := jw_mem 657 (by decide +kernel) (by decide +kernel)
theorem jq_658 : (Jvm.Cond.codeWith ({ cls := "BranchworkLaw", name := "rename", desc := "(LBranchwork;II[J)I" } : Jvm.MethodName) method_5_code (5 : Nat) (Option.some Jvm.ClassFile.FieldType.int) [((0 : Nat), (10 : Nat), (13 : Nat), (13 : Nat)), ((0 : Nat), (10 : Nat), (17 : Nat), (17 : Nat))]) ∈ jw_T := jw_mem 658 (by decide +kernel) (by decide +kernel)
theorem jq_659 : (Jvm.Cond.methodLink "BranchworkLaw" (23 : Nat) ({ cls := "Branchwork", name := "rename", desc := "(II)I" } : Jvm.MethodName)) ∈ jw_T := jw_mem 659 (by decide +kernel) (by decide +kernel)
theorem jq_660 : (Jvm.Cond.instanceMethod ({ cls := "Branchwork", name := "rename", desc := "(II)I" } : Jvm.MethodName)) ∈ jw_T := jw_mem 660 (by decide +kernel) (by decide +kernel)
theorem jq_661 : (Jvm.Cond.selects "Branchwork" ({ cls := "Branchwork", name := "rename", desc := "(II)I" } : Jvm.MethodName) ({ cls := "Branchwork", name := "rename", desc := "(II)I" } : Jvm.MethodName)) ∈ jw_T := jw_mem 661 (by decide +kernel) (by decide +kernel)
theorem jq_662 : (Jvm.Cond.code ({ cls := "Branchwork", name := "rename", desc := "(II)I" } : Jvm.MethodName) prog_1_method_4_code (4 : Nat) (Option.some Jvm.ClassFile.FieldType.int)) ∈ jw_T := jw_mem 662 (by decide +kernel) (by decide +kernel)
theorem jq_664 : (Jvm.Cond.methodLink "Branchwork" (127 : Nat) ({ cls := "Branchwork$Content", name := "copyFrom", desc := "(LBranchwork$Content;)V" } : Jvm.MethodName)) ∈ jw_T := jw_mem 664 (by decide +kernel) (by decide +kernel)
theorem jq_665 : (Jvm.Cond.instanceMethod ({ cls := "Branchwork$Content", name := "copyFrom", desc := "(LBranchwork$Content;)V" } : Jvm.MethodName)) ∈ jw_T := jw_mem 665 (by decide +kernel) (by decide +kernel)
theorem jq_666 : (Jvm.Cond.selects "Branchwork$Content" ({ cls := "Branchwork$Content", name := "copyFrom", desc := "(LBranchwork$Content;)V" } : Jvm.MethodName) ({ cls := "Branchwork$Content", name := "copyFrom", desc := "(LBranchwork$Content;)V" } : Jvm.MethodName)) ∈ jw_T := jw_mem 666 (by decide +kernel) (by decide +kernel)
theorem jq_667 : (Jvm.Cond.code ({ cls := "Branchwork$Content", name := "copyFrom", desc := "(LBranchwork$Content;)V" } : Jvm.MethodName) prog_4_method_14_code (3 : Nat) (Option.none : Option Jvm.ClassFile.FieldType)) ∈ jw_T := jw_mem 667 (by decide +kernel) (by decide +kernel)
theorem jq_668 : (Jvm.Cond.methodLink "Branchwork$Content" (42 : Nat) ({ cls := "java/lang/Math", name := "min", desc := "(II)I" } : Jvm.MethodName)) ∈ jw_T := jw_mem 668 (by decide +kernel) (by decide +kernel)
theorem jq_669 : (Jvm.Cond.static ({ cls := "java/lang/Math", name := "min", desc := "(II)I" } : Jvm.MethodName)) ∈ jw_T := jw_mem 669 (by decide +kernel) (by decide +kernel)
theorem jq_670 : (Jvm.Cond.code ({ cls := "java/lang/Math", name := "min", desc := "(II)I" } : Jvm.MethodName) prog_24_method_69_code (2 : Nat) (Option.some Jvm.ClassFile.FieldType.int)) ∈ jw_T := jw_mem 670 (by decide +kernel) (by decide +kernel)
theorem jq_671 : (Jvm.Cond.methodLink "Branchwork" (131 : Nat) ({ cls := "Branchwork$Content", name := "becomeAbsent", desc := "()V" } : Jvm.MethodName)) ∈ jw_T := jw_mem 671 (by decide +kernel) (by decide +kernel)
theorem jq_672 : (Jvm.Cond.instanceMethod ({ cls := "Branchwork$Content", name := "becomeAbsent", desc := "()V" } : Jvm.MethodName)) ∈ jw_T := jw_mem 672 (by decide +kernel) (by decide +kernel)
theorem jq_673 : (Jvm.Cond.selects "Branchwork$Content" ({ cls := "Branchwork$Content", name := "becomeAbsent", desc := "()V" } : Jvm.MethodName) ({ cls := "Branchwork$Content", name := "becomeAbsent", desc := "()V" } : Jvm.MethodName)) ∈ jw_T := jw_mem 673 (by decide +kernel) (by decide +kernel)
theorem jq_674 : (Jvm.Cond.code ({ cls := "Branchwork$Content", name := "becomeAbsent", desc := "()V" } : Jvm.MethodName) prog_4_method_7_code (1 : Nat) (Option.none : Option Jvm.ClassFile.FieldType)) ∈ jw_T := jw_mem 674 (by decide +kernel) (by decide +kernel)
theorem jq_675 : (Jvm.Cond.methodLink "BranchworkLaw" (112 : Nat) ({ cls := "BranchworkLaw", name := "remove", desc := "(LBranchwork;I[J)I" } : Jvm.MethodName)) ∈ jw_T := jw_mem 675 (by decide +kernel) (by decide +kernel)
theorem jq_676 : (Jvm.Cond.static ({ cls := "BranchworkLaw", name := "remove", desc := "(LBranchwork;I[J)I" } : Jvm.MethodName)) ∈ jw_T := jw_mem 676 (by decide +kernel) (by decide +kernel)
theorem jq_677 : (Jvm.Cond.codeWith ({ cls := "BranchworkLaw", name := "remove", desc := "(LBranchwork;I[J)I" } : Jvm.MethodName) method_6_code (4 : Nat) (Option.some Jvm.ClassFile.FieldType.int) [((0 : Nat), (9 : Nat), (12 : Nat), (13 : Nat))]) ∈ jw_T := jw_mem 677 (by decide +kernel) (by decide +kernel)
theorem jq_678 : (Jvm.Cond.methodLink "BranchworkLaw" (26 : Nat) ({ cls := "Branchwork", name := "remove", desc := "(I)I" } : Jvm.MethodName)) ∈ jw_T := jw_mem 678 (by decide +kernel) (by decide +kernel)
theorem jq_679 : (Jvm.Cond.instanceMethod ({ cls := "Branchwork", name := "remove", desc := "(I)I" } : Jvm.MethodName)) ∈ jw_T := jw_mem 679 (by decide +kernel) (by decide +kernel)
theorem jq_680 : (Jvm.Cond.selects "Branchwork" ({ cls := "Branchwork", name := "remove", desc := "(I)I" } : Jvm.MethodName) ({ cls := "Branchwork", name := "remove", desc := "(I)I" } : Jvm.MethodName)) ∈ jw_T := jw_mem 680 (by decide +kernel) (by decide +kernel)
theorem jq_681 : (Jvm.Cond.code ({ cls := "Branchwork", name := "remove", desc := "(I)I" } : Jvm.MethodName) prog_1_method_5_code (2 : Nat) (Option.some Jvm.ClassFile.FieldType.int)) ∈ jw_T := jw_mem 681 (by decide +kernel) (by decide +kernel)
theorem jq_682 : (Jvm.Cond.methodLink "BranchworkLaw" (116 : Nat) ({ cls := "BranchworkLaw", name := "status", desc := "(LBranchwork;I[J)I" } : Jvm.MethodName)) ∈ jw_T := jw_mem 682 (by decide +kernel) (by decide +kernel)
theorem jq_683 : (Jvm.Cond.static ({ cls := "BranchworkLaw", name := "status", desc := "(LBranchwork;I[J)I" } : Jvm.MethodName)) ∈ jw_T := jw_mem 683 (by decide +kernel) (by decide +kernel)
theorem jq_684 : (Jvm.Cond.codeWith ({ cls := "BranchworkLaw", name := "status", desc := "(LBranchwork;I[J)I" } : Jvm.MethodName) method_7_code (4 : Nat) (Option.some Jvm.ClassFile.FieldType.int) [((0 : Nat), (9 : Nat), (12 : Nat), (13 : Nat))]) ∈ jw_T := jw_mem 684 (by decide +kernel) (by decide +kernel)
theorem jq_685 : (Jvm.Cond.methodLink "BranchworkLaw" (30 : Nat) ({ cls := "Branchwork", name := "status", desc := "(I)I" } : Jvm.MethodName)) ∈ jw_T := jw_mem 685 (by decide +kernel) (by decide +kernel)
theorem jq_686 : (Jvm.Cond.methodLink "BranchworkLaw" (119 : Nat) ({ cls := "BranchworkLaw", name := "commit", desc := "(LBranchwork;I[J)I" } : Jvm.MethodName)) ∈ jw_T := jw_mem 686 (by decide +kernel) (by decide +kernel)
theorem jq_687 : (Jvm.Cond.static ({ cls := "BranchworkLaw", name := "commit", desc := "(LBranchwork;I[J)I" } : Jvm.MethodName)) ∈ jw_T := jw_mem 687 (by decide +kernel) (by decide +kernel)
theorem jq_688 : (Jvm.Cond.codeWith ({ cls := "BranchworkLaw", name := "commit", desc := "(LBranchwork;I[J)I" } : Jvm.MethodName) method_8_code (4 : Nat) (Option.some Jvm.ClassFile.FieldType.int) [((0 : Nat), (9 : Nat), (12 : Nat), (15 : Nat)), ((0 : Nat), (9 : Nat), (15 : Nat), (17 : Nat))]) ∈ jw_T := jw_mem 688 (by decide +kernel) (by decide +kernel)
theorem jq_689 : (Jvm.Cond.methodLink "BranchworkLaw" (33 : Nat) ({ cls := "Branchwork", name := "commit", desc := "(I)I" } : Jvm.MethodName)) ∈ jw_T := jw_mem 689 (by decide +kernel) (by decide +kernel)
theorem jq_690 : (Jvm.Cond.instanceMethod ({ cls := "Branchwork", name := "commit", desc := "(I)I" } : Jvm.MethodName)) ∈ jw_T := jw_mem 690 (by decide +kernel) (by decide +kernel)
theorem jq_691 : (Jvm.Cond.selects "Branchwork" ({ cls := "Branchwork", name := "commit", desc := "(I)I" } : Jvm.MethodName) ({ cls := "Branchwork", name := "commit", desc := "(I)I" } : Jvm.MethodName)) ∈ jw_T := jw_mem 691 (by decide +kernel) (by decide +kernel)
theorem jq_692 : (Jvm.Cond.code ({ cls := "Branchwork", name := "commit", desc := "(I)I" } : Jvm.MethodName) prog_1_method_7_code (3 : Nat) (Option.some Jvm.ClassFile.FieldType.int)) ∈ jw_T := jw_mem 692 (by decide +kernel) (by decide +kernel)
theorem jq_694 : (Jvm.Cond.methodLink "Branchwork" (150 : Nat) ({ cls := "Branchwork$History", name := "isFull", desc := "()Z" } : Jvm.MethodName)) ∈ jw_T := jw_mem 694 (by decide +kernel) (by decide +kernel)
theorem jq_695 : (Jvm.Cond.instanceMethod ({ cls := "Branchwork$History", name := "isFull", desc := "()Z" } : Jvm.MethodName)) ∈ jw_T := jw_mem 695 (by decide +kernel) (by decide +kernel)
theorem jq_696 : (Jvm.Cond.selects "Branchwork$History" ({ cls := "Branchwork$History", name := "isFull", desc := "()Z" } : Jvm.MethodName) ({ cls := "Branchwork$History", name := "isFull", desc := "()Z" } : Jvm.MethodName)) ∈ jw_T := jw_mem 696 (by decide +kernel) (by decide +kernel)
theorem jq_697 : (Jvm.Cond.code ({ cls := "Branchwork$History", name := "isFull", desc := "()Z" } : Jvm.MethodName) prog_5_method_4_code (1 : Nat) (Option.some Jvm.ClassFile.FieldType.boolean)) ∈ jw_T := jw_mem 697 (by decide +kernel) (by decide +kernel)
theorem jq_700 : (Jvm.Cond.methodLink "Branchwork" (158 : Nat) ({ cls := "Branchwork", name := "isClean", desc := "()Z" } : Jvm.MethodName)) ∈ jw_T := jw_mem 700 (by decide +kernel) (by decide +kernel)
theorem jq_702 : (Jvm.Cond.instanceMethod ({ cls := "Branchwork", name := "isClean", desc := "()Z" } : Jvm.MethodName)) ∈ jw_T := jw_mem 702 (by decide +kernel) (by decide +kernel)
theorem jq_703 : (Jvm.Cond.code ({ cls := "Branchwork", name := "isClean", desc := "()Z" } : Jvm.MethodName) prog_1_method_34_code (1 : Nat) (Option.some Jvm.ClassFile.FieldType.boolean)) ∈ jw_T := jw_mem 703 (by decide +kernel) (by decide +kernel)
theorem jq_704 : (Jvm.Cond.methodLink "Branchwork" (334 : Nat) ({ cls := "Branchwork$Tree", name := "sameAs", desc := "(LBranchwork$Tree;)Z" } : Jvm.MethodName)) ∈ jw_T := jw_mem 704 (by decide +kernel) (by decide +kernel)
theorem jq_705 : (Jvm.Cond.instanceMethod ({ cls := "Branchwork$Tree", name := "sameAs", desc := "(LBranchwork$Tree;)Z" } : Jvm.MethodName)) ∈ jw_T := jw_mem 705 (by decide +kernel) (by decide +kernel)
theorem jq_706 : (Jvm.Cond.selects "Branchwork$Tree" ({ cls := "Branchwork$Tree", name := "sameAs", desc := "(LBranchwork$Tree;)Z" } : Jvm.MethodName) ({ cls := "Branchwork$Tree", name := "sameAs", desc := "(LBranchwork$Tree;)Z" } : Jvm.MethodName)) ∈ jw_T := jw_mem 706 (by decide +kernel) (by decide +kernel)
theorem jq_707 : (Jvm.Cond.code ({ cls := "Branchwork$Tree", name := "sameAs", desc := "(LBranchwork$Tree;)Z" } : Jvm.MethodName) prog_9_method_7_code (3 : Nat) (Option.some Jvm.ClassFile.FieldType.boolean)) ∈ jw_T := jw_mem 707 (by decide +kernel) (by decide +kernel)
theorem jq_708 : (Jvm.Cond.methodLink "Branchwork$Tree" (41 : Nat) ({ cls := "Branchwork$Content", name := "sameAs", desc := "(LBranchwork$Content;)Z" } : Jvm.MethodName)) ∈ jw_T := jw_mem 708 (by decide +kernel) (by decide +kernel)
theorem jq_710 : (Jvm.Cond.methodLink "Branchwork" (163 : Nat) ({ cls := "Branchwork$History", name := "add", desc := "(LBranchwork$Tree;III)I" } : Jvm.MethodName)) ∈ jw_T := jw_mem 710 (by decide +kernel) (by decide +kernel)
theorem jq_711 : (Jvm.Cond.instanceMethod ({ cls := "Branchwork$History", name := "add", desc := "(LBranchwork$Tree;III)I" } : Jvm.MethodName)) ∈ jw_T := jw_mem 711 (by decide +kernel) (by decide +kernel)
theorem jq_712 : (Jvm.Cond.selects "Branchwork$History" ({ cls := "Branchwork$History", name := "add", desc := "(LBranchwork$Tree;III)I" } : Jvm.MethodName) ({ cls := "Branchwork$History", name := "add", desc := "(LBranchwork$Tree;III)I" } : Jvm.MethodName)) ∈ jw_T := jw_mem 712 (by decide +kernel) (by decide +kernel)
theorem jq_713 : (Jvm.Cond.code ({ cls := "Branchwork$History", name := "add", desc := "(LBranchwork$Tree;III)I" } : Jvm.MethodName) prog_5_method_12_code (7 : Nat) (Option.some Jvm.ClassFile.FieldType.int)) ∈ jw_T := jw_mem 713 (by decide +kernel) (by decide +kernel)
theorem jq_714 : (Jvm.Cond.methodLink "Branchwork$History" (56 : Nat) ({ cls := "Branchwork$Tree", name := "copyFrom", desc := "(LBranchwork$Tree;)V" } : Jvm.MethodName)) ∈ jw_T := jw_mem 714 (by decide +kernel) (by decide +kernel)
theorem jq_715 : (Jvm.Cond.instanceMethod ({ cls := "Branchwork$Tree", name := "copyFrom", desc := "(LBranchwork$Tree;)V" } : Jvm.MethodName)) ∈ jw_T := jw_mem 715 (by decide +kernel) (by decide +kernel)
theorem jq_716 : (Jvm.Cond.selects "Branchwork$Tree" ({ cls := "Branchwork$Tree", name := "copyFrom", desc := "(LBranchwork$Tree;)V" } : Jvm.MethodName) ({ cls := "Branchwork$Tree", name := "copyFrom", desc := "(LBranchwork$Tree;)V" } : Jvm.MethodName)) ∈ jw_T := jw_mem 716 (by decide +kernel) (by decide +kernel)
theorem jq_717 : (Jvm.Cond.code ({ cls := "Branchwork$Tree", name := "copyFrom", desc := "(LBranchwork$Tree;)V" } : Jvm.MethodName) prog_9_method_6_code (3 : Nat) (Option.none : Option Jvm.ClassFile.FieldType)) ∈ jw_T := jw_mem 717 (by decide +kernel) (by decide +kernel)
theorem jq_718 : (Jvm.Cond.methodLink "Branchwork$Tree" (37 : Nat) ({ cls := "Branchwork$Content", name := "copyFrom", desc := "(LBranchwork$Content;)V" } : Jvm.MethodName)) ∈ jw_T := jw_mem 718 (by decide +kernel) (by decide +kernel)
theorem jq_719 : (Jvm.Cond.methodLink "Branchwork$History" (60 : Nat) ({ cls := "Branchwork$History", name := "numberOfTree", desc := "(I)I" } : Jvm.MethodName)) ∈ jw_T := jw_mem 719 (by decide +kernel) (by decide +kernel)
theorem jq_721 : (Jvm.Cond.instanceMethod ({ cls := "Branchwork$History", name := "numberOfTree", desc := "(I)I" } : Jvm.MethodName)) ∈ jw_T := jw_mem 721 (by decide +kernel) (by decide +kernel)
theorem jq_722 : (Jvm.Cond.code ({ cls := "Branchwork$History", name := "numberOfTree", desc := "(I)I" } : Jvm.MethodName) prog_5_method_21_code (3 : Nat) (Option.some Jvm.ClassFile.FieldType.int)) ∈ jw_T := jw_mem 722 (by decide +kernel) (by decide +kernel)
theorem jq_723 : (Jvm.Cond.methodLink "Branchwork$History" (108 : Nat) ({ cls := "Branchwork$Tree", name := "sameAs", desc := "(LBranchwork$Tree;)Z" } : Jvm.MethodName)) ∈ jw_T := jw_mem 723 (by decide +kernel) (by decide +kernel)
theorem jq_724 : (Jvm.Cond.methodLink "Branchwork$History" (63 : Nat) ({ cls := "Branchwork$History", name := "numberOfContent", desc := "(II)I" } : Jvm.MethodName)) ∈ jw_T := jw_mem 724 (by decide +kernel) (by decide +kernel)
theorem jq_726 : (Jvm.Cond.instanceMethod ({ cls := "Branchwork$History", name := "numberOfContent", desc := "(II)I" } : Jvm.MethodName)) ∈ jw_T := jw_mem 726 (by decide +kernel) (by decide +kernel)
theorem jq_727 : (Jvm.Cond.code ({ cls := "Branchwork$History", name := "numberOfContent", desc := "(II)I" } : Jvm.MethodName) prog_5_method_22_code (6 : Nat) (Option.some Jvm.ClassFile.FieldType.int)) ∈ jw_T := jw_mem 727 (by decide +kernel) (by decide +kernel)
theorem jq_728 : (Jvm.Cond.methodLink "Branchwork$History" (112 : Nat) ({ cls := "Branchwork$Content", name := "exists", desc := "()Z" } : Jvm.MethodName)) ∈ jw_T := jw_mem 728 (by decide +kernel) (by decide +kernel)
theorem jq_729 : (Jvm.Cond.methodLink "Branchwork$History" (116 : Nat) ({ cls := "Branchwork$Content", name := "sameAs", desc := "(LBranchwork$Content;)Z" } : Jvm.MethodName)) ∈ jw_T := jw_mem 729 (by decide +kernel) (by decide +kernel)
theorem jq_730 : (Jvm.Cond.methodLink "BranchworkLaw" (122 : Nat) ({ cls := "BranchworkLaw", name := "branch", desc := "(LBranchwork;[J)I" } : Jvm.MethodName)) ∈ jw_T := jw_mem 730 (by decide +kernel) (by decide +kernel)
theorem jq_731 : (Jvm.Cond.static ({ cls := "BranchworkLaw", name := "branch", desc := "(LBranchwork;[J)I" } : Jvm.MethodName)) ∈ jw_T := jw_mem 731 (by decide +kernel) (by decide +kernel)
theorem jq_732 : (Jvm.Cond.codeWith ({ cls := "BranchworkLaw", name := "branch", desc := "(LBranchwork;[J)I" } : Jvm.MethodName) method_9_code (3 : Nat) (Option.some Jvm.ClassFile.FieldType.int) [((0 : Nat), (8 : Nat), (11 : Nat), (17 : Nat))]) ∈ jw_T := jw_mem 732 (by decide +kernel) (by decide +kernel)
theorem jq_733 : (Jvm.Cond.methodLink "BranchworkLaw" (36 : Nat) ({ cls := "Branchwork", name := "branch", desc := "()I" } : Jvm.MethodName)) ∈ jw_T := jw_mem 733 (by decide +kernel) (by decide +kernel)
theorem jq_734 : (Jvm.Cond.instanceMethod ({ cls := "Branchwork", name := "branch", desc := "()I" } : Jvm.MethodName)) ∈ jw_T := jw_mem 734 (by decide +kernel) (by decide +kernel)
theorem jq_735 : (Jvm.Cond.selects "Branchwork" ({ cls := "Branchwork", name := "branch", desc := "()I" } : Jvm.MethodName) ({ cls := "Branchwork", name := "branch", desc := "()I" } : Jvm.MethodName)) ∈ jw_T := jw_mem 735 (by decide +kernel) (by decide +kernel)
theorem jq_736 : (Jvm.Cond.code ({ cls := "Branchwork", name := "branch", desc := "()I" } : Jvm.MethodName) prog_1_method_8_code (1 : Nat) (Option.some Jvm.ClassFile.FieldType.int)) ∈ jw_T := jw_mem 736 (by decide +kernel) (by decide +kernel)
theorem jq_739 : (Jvm.Cond.methodLink "BranchworkLaw" (126 : Nat) ({ cls := "BranchworkLaw", name := "change", desc := "(LBranchwork;I[J)I" } : Jvm.MethodName)) ∈ jw_T := jw_mem 739 (by decide +kernel) (by decide +kernel)
theorem jq_740 : (Jvm.Cond.static ({ cls := "BranchworkLaw", name := "change", desc := "(LBranchwork;I[J)I" } : Jvm.MethodName)) ∈ jw_T := jw_mem 740 (by decide +kernel) (by decide +kernel)
theorem jq_741 : (Jvm.Cond.codeWith ({ cls := "BranchworkLaw", name := "change", desc := "(LBranchwork;I[J)I" } : Jvm.MethodName) method_10_code (4 : Nat) (Option.some Jvm.ClassFile.FieldType.int) [((0 : Nat), (9 : Nat), (12 : Nat), (13 : Nat)), ((0 : Nat), (9 : Nat), (15 : Nat), (17 : Nat))]) ∈ jw_T := jw_mem 741 (by decide +kernel) (by decide +kernel)
theorem jq_742 : (Jvm.Cond.methodLink "BranchworkLaw" (40 : Nat) ({ cls := "Branchwork", name := "change", desc := "(I)I" } : Jvm.MethodName)) ∈ jw_T := jw_mem 742 (by decide +kernel) (by decide +kernel)
theorem jq_743 : (Jvm.Cond.instanceMethod ({ cls := "Branchwork", name := "change", desc := "(I)I" } : Jvm.MethodName)) ∈ jw_T := jw_mem 743 (by decide +kernel) (by decide +kernel)
theorem jq_744 : (Jvm.Cond.selects "Branchwork" ({ cls := "Branchwork", name := "change", desc := "(I)I" } : Jvm.MethodName) ({ cls := "Branchwork", name := "change", desc := "(I)I" } : Jvm.MethodName)) ∈ jw_T := jw_mem 744 (by decide +kernel) (by decide +kernel)
theorem jq_745 : (Jvm.Cond.code ({ cls := "Branchwork", name := "change", desc := "(I)I" } : Jvm.MethodName) prog_1_method_9_code (3 : Nat) (Option.some Jvm.ClassFile.FieldType.int)) ∈ jw_T := jw_mem 745 (by decide +kernel) (by decide +kernel)
theorem jq_746 : (Jvm.Cond.methodLink "Branchwork" (174 : Nat) ({ cls := "Branchwork", name := "requireCleanAndUnmerged", desc := "()V" } : Jvm.MethodName)) ∈ jw_T := jw_mem 746 (by decide +kernel) (by decide +kernel)
theorem jq_748 : (Jvm.Cond.instanceMethod ({ cls := "Branchwork", name := "requireCleanAndUnmerged", desc := "()V" } : Jvm.MethodName)) ∈ jw_T := jw_mem 748 (by decide +kernel) (by decide +kernel)
theorem jq_749 : (Jvm.Cond.code ({ cls := "Branchwork", name := "requireCleanAndUnmerged", desc := "()V" } : Jvm.MethodName) prog_1_method_45_code (1 : Nat) (Option.none : Option Jvm.ClassFile.FieldType)) ∈ jw_T := jw_mem 749 (by decide +kernel) (by decide +kernel)
theorem jq_752 : (Jvm.Cond.methodLink "Branchwork" (177 : Nat) ({ cls := "Branchwork$Tree", name := "copyFrom", desc := "(LBranchwork$Tree;)V" } : Jvm.MethodName)) ∈ jw_T := jw_mem 752 (by decide +kernel) (by decide +kernel)
theorem jq_753 : (Jvm.Cond.methodLink "BranchworkLaw" (129 : Nat) ({ cls := "BranchworkLaw", name := "reset", desc := "(LBranchwork;I[J)I" } : Jvm.MethodName)) ∈ jw_T := jw_mem 753 (by decide +kernel) (by decide +kernel)
theorem jq_754 : (Jvm.Cond.static ({ cls := "BranchworkLaw", name := "reset", desc := "(LBranchwork;I[J)I" } : Jvm.MethodName)) ∈ jw_T := jw_mem 754 (by decide +kernel) (by decide +kernel)
theorem jq_755 : (Jvm.Cond.codeWith ({ cls := "BranchworkLaw", name := "reset", desc := "(LBranchwork;I[J)I" } : Jvm.MethodName) method_11_code (4 : Nat) (Option.some Jvm.ClassFile.FieldType.int) [((0 : Nat), (9 : Nat), (12 : Nat), (13 : Nat))]) ∈ jw_T := jw_mem 755 (by decide +kernel) (by decide +kernel)
theorem jq_756 : (Jvm.Cond.methodLink "BranchworkLaw" (43 : Nat) ({ cls := "Branchwork", name := "reset", desc := "(I)I" } : Jvm.MethodName)) ∈ jw_T := jw_mem 756 (by decide +kernel) (by decide +kernel)
theorem jq_757 : (Jvm.Cond.instanceMethod ({ cls := "Branchwork", name := "reset", desc := "(I)I" } : Jvm.MethodName)) ∈ jw_T := jw_mem 757 (by decide +kernel) (by decide +kernel)
theorem jq_758 : (Jvm.Cond.selects "Branchwork" ({ cls := "Branchwork", name := "reset", desc := "(I)I" } : Jvm.MethodName) ({ cls := "Branchwork", name := "reset", desc := "(I)I" } : Jvm.MethodName)) ∈ jw_T := jw_mem 758 (by decide +kernel) (by decide +kernel)
theorem jq_759 : (Jvm.Cond.code ({ cls := "Branchwork", name := "reset", desc := "(I)I" } : Jvm.MethodName) prog_1_method_10_code (3 : Nat) (Option.some Jvm.ClassFile.FieldType.int)) ∈ jw_T := jw_mem 759 (by decide +kernel) (by decide +kernel)
theorem jq_760 : (Jvm.Cond.methodLink "Branchwork" (183 : Nat) ({ cls := "Branchwork$Conflicts", name := "clear", desc := "()V" } : Jvm.MethodName)) ∈ jw_T := jw_mem 760 (by decide +kernel) (by decide +kernel)
theorem jq_761 : (Jvm.Cond.instanceMethod ({ cls := "Branchwork$Conflicts", name := "clear", desc := "()V" } : Jvm.MethodName)) ∈ jw_T := jw_mem 761 (by decide +kernel) (by decide +kernel)
theorem jq_762 : (Jvm.Cond.selects "Branchwork$Conflicts" ({ cls := "Branchwork$Conflicts", name := "clear", desc := "()V" } : Jvm.MethodName) ({ cls := "Branchwork$Conflicts", name := "clear", desc := "()V" } : Jvm.MethodName)) ∈ jw_T := jw_mem 762 (by decide +kernel) (by decide +kernel)
theorem jq_763 : (Jvm.Cond.code ({ cls := "Branchwork$Conflicts", name := "clear", desc := "()V" } : Jvm.MethodName) prog_3_method_8_code (1 : Nat) (Option.none : Option Jvm.ClassFile.FieldType)) ∈ jw_T := jw_mem 763 (by decide +kernel) (by decide +kernel)
theorem jq_764 : (Jvm.Cond.methodLink "BranchworkLaw" (132 : Nat) ({ cls := "BranchworkLaw", name := "merge", desc := "(LBranchwork;I[J)I" } : Jvm.MethodName)) ∈ jw_T := jw_mem 764 (by decide +kernel) (by decide +kernel)
theorem jq_765 : (Jvm.Cond.static ({ cls := "BranchworkLaw", name := "merge", desc := "(LBranchwork;I[J)I" } : Jvm.MethodName)) ∈ jw_T := jw_mem 765 (by decide +kernel) (by decide +kernel)
theorem jq_766 : (Jvm.Cond.codeWith ({ cls := "BranchworkLaw", name := "merge", desc := "(LBranchwork;I[J)I" } : Jvm.MethodName) method_12_code (4 : Nat) (Option.some Jvm.ClassFile.FieldType.int) [((0 : Nat), (9 : Nat), (12 : Nat), (13 : Nat)), ((0 : Nat), (9 : Nat), (15 : Nat), (17 : Nat))]) ∈ jw_T := jw_mem 766 (by decide +kernel) (by decide +kernel)
theorem jq_767 : (Jvm.Cond.methodLink "BranchworkLaw" (46 : Nat) ({ cls := "Branchwork", name := "merge", desc := "(I)I" } : Jvm.MethodName)) ∈ jw_T := jw_mem 767 (by decide +kernel) (by decide +kernel)
theorem jq_768 : (Jvm.Cond.instanceMethod ({ cls := "Branchwork", name := "merge", desc := "(I)I" } : Jvm.MethodName)) ∈ jw_T := jw_mem 768 (by decide +kernel) (by decide +kernel)
theorem jq_769 : (Jvm.Cond.selects "Branchwork" ({ cls := "Branchwork", name := "merge", desc := "(I)I" } : Jvm.MethodName) ({ cls := "Branchwork", name := "merge", desc := "(I)I" } : Jvm.MethodName)) ∈ jw_T := jw_mem 769 (by decide +kernel) (by decide +kernel)
theorem jq_770 : (Jvm.Cond.code ({ cls := "Branchwork", name := "merge", desc := "(I)I" } : Jvm.MethodName) prog_1_method_11_code (5 : Nat) (Option.some Jvm.ClassFile.FieldType.int)) ∈ jw_T := jw_mem 770 (by decide +kernel) (by decide +kernel)
theorem jq_771 : (Jvm.Cond.methodLink "Branchwork" (186 : Nat) ({ cls := "Branchwork$History", name := "commonAncestor", desc := "(II)I" } : Jvm.MethodName)) ∈ jw_T := jw_mem 771 (by decide +kernel) (by decide +kernel)
theorem jq_772 : (Jvm.Cond.instanceMethod ({ cls := "Branchwork$History", name := "commonAncestor", desc := "(II)I" } : Jvm.MethodName)) ∈ jw_T := jw_mem 772 (by decide +kernel) (by decide +kernel)
theorem jq_773 : (Jvm.Cond.selects "Branchwork$History" ({ cls := "Branchwork$History", name := "commonAncestor", desc := "(II)I" } : Jvm.MethodName) ({ cls := "Branchwork$History", name := "commonAncestor", desc := "(II)I" } : Jvm.MethodName)) ∈ jw_T := jw_mem 773 (by decide +kernel) (by decide +kernel)
theorem jq_774 : (Jvm.Cond.code ({ cls := "Branchwork$History", name := "commonAncestor", desc := "(II)I" } : Jvm.MethodName) prog_5_method_15_code (5 : Nat) (Option.some Jvm.ClassFile.FieldType.int)) ∈ jw_T := jw_mem 774 (by decide +kernel) (by decide +kernel)
theorem jq_775 : (Jvm.Cond.methodLink "Branchwork$History" (70 : Nat) ({ cls := "Branchwork$History", name := "ancestorsOf", desc := "(I)I" } : Jvm.MethodName)) ∈ jw_T := jw_mem 775 (by decide +kernel) (by decide +kernel)
theorem jq_776 : (Jvm.Cond.methodLink "Branchwork" (190 : Nat) ({ cls := "Branchwork$Merger", name := "mergeTrees", desc := "(LBranchwork$Tree;LBranchwork$Tree;LBranchwork$Tree;)V" } : Jvm.MethodName)) ∈ jw_T := jw_mem 776 (by decide +kernel) (by decide +kernel)
theorem jq_777 : (Jvm.Cond.instanceMethod ({ cls := "Branchwork$Merger", name := "mergeTrees", desc := "(LBranchwork$Tree;LBranchwork$Tree;LBranchwork$Tree;)V" } : Jvm.MethodName)) ∈ jw_T := jw_mem 777 (by decide +kernel) (by decide +kernel)
theorem jq_778 : (Jvm.Cond.selects "Branchwork$Merger" ({ cls := "Branchwork$Merger", name := "mergeTrees", desc := "(LBranchwork$Tree;LBranchwork$Tree;LBranchwork$Tree;)V" } : Jvm.MethodName) ({ cls := "Branchwork$Merger", name := "mergeTrees", desc := "(LBranchwork$Tree;LBranchwork$Tree;LBranchwork$Tree;)V" } : Jvm.MethodName)) ∈ jw_T := jw_mem 778 (by decide +kernel) (by decide +kernel)
theorem jq_779 : (Jvm.Cond.code ({ cls := "Branchwork$Merger", name := "mergeTrees", desc := "(LBranchwork$Tree;LBranchwork$Tree;LBranchwork$Tree;)V" } : Jvm.MethodName) prog_7_method_4_code (5 : Nat) (Option.none : Option Jvm.ClassFile.FieldType)) ∈ jw_T := jw_mem 779 (by decide +kernel) (by decide +kernel)
theorem jq_780 : (Jvm.Cond.methodLink "Branchwork$Merger" (53 : Nat) ({ cls := "Branchwork$Tree", name := "clear", desc := "()V" } : Jvm.MethodName)) ∈ jw_T := jw_mem 780 (by decide +kernel) (by decide +kernel)
theorem jq_781 : (Jvm.Cond.instanceMethod ({ cls := "Branchwork$Tree", name := "clear", desc := "()V" } : Jvm.MethodName)) ∈ jw_T := jw_mem 781 (by decide +kernel) (by decide +kernel)
theorem jq_782 : (Jvm.Cond.selects "Branchwork$Tree" ({ cls := "Branchwork$Tree", name := "clear", desc := "()V" } : Jvm.MethodName) ({ cls := "Branchwork$Tree", name := "clear", desc := "()V" } : Jvm.MethodName)) ∈ jw_T := jw_mem 782 (by decide +kernel) (by decide +kernel)
theorem jq_783 : (Jvm.Cond.code ({ cls := "Branchwork$Tree", name := "clear", desc := "()V" } : Jvm.MethodName) prog_9_method_5_code (2 : Nat) (Option.none : Option Jvm.ClassFile.FieldType)) ∈ jw_T := jw_mem 783 (by decide +kernel) (by decide +kernel)
theorem jq_784 : (Jvm.Cond.methodLink "Branchwork$Tree" (34 : Nat) ({ cls := "Branchwork$Content", name := "becomeAbsent", desc := "()V" } : Jvm.MethodName)) ∈ jw_T := jw_mem 784 (by decide +kernel) (by decide +kernel)
theorem jq_785 : (Jvm.Cond.methodLink "Branchwork$Merger" (56 : Nat) ({ cls := "Branchwork$Conflicts", name := "clear", desc := "()V" } : Jvm.MethodName)) ∈ jw_T := jw_mem 785 (by decide +kernel) (by decide +kernel)
theorem jq_786 : (Jvm.Cond.methodLink "Branchwork$Merger" (57 : Nat) ({ cls := "Branchwork$Renames", name := "trace", desc := "(LBranchwork$Tree;LBranchwork$Tree;)V" } : Jvm.MethodName)) ∈ jw_T := jw_mem 786 (by decide +kernel) (by decide +kernel)
theorem jq_787 : (Jvm.Cond.instanceMethod ({ cls := "Branchwork$Renames", name := "trace", desc := "(LBranchwork$Tree;LBranchwork$Tree;)V" } : Jvm.MethodName)) ∈ jw_T := jw_mem 787 (by decide +kernel) (by decide +kernel)
theorem jq_788 : (Jvm.Cond.selects "Branchwork$Renames" ({ cls := "Branchwork$Renames", name := "trace", desc := "(LBranchwork$Tree;LBranchwork$Tree;)V" } : Jvm.MethodName) ({ cls := "Branchwork$Renames", name := "trace", desc := "(LBranchwork$Tree;LBranchwork$Tree;)V" } : Jvm.MethodName)) ∈ jw_T := jw_mem 788 (by decide +kernel) (by decide +kernel)
theorem jq_789 : (Jvm.Cond.code ({ cls := "Branchwork$Renames", name := "trace", desc := "(LBranchwork$Tree;LBranchwork$Tree;)V" } : Jvm.MethodName) prog_8_method_2_code (4 : Nat) (Option.none : Option Jvm.ClassFile.FieldType)) ∈ jw_T := jw_mem 789 (by decide +kernel) (by decide +kernel)
theorem jq_790 : (Jvm.Cond.methodLink "Branchwork$Renames" (29 : Nat) ({ cls := "java/util/Arrays", name := "fill", desc := "([II)V" } : Jvm.MethodName)) ∈ jw_T := jw_mem 790 (by decide +kernel) (by decide +kernel)
theorem jq_791 : (Jvm.Cond.methodLink "Branchwork$Renames" (35 : Nat) ({ cls := "Branchwork$Tree", name := "has", desc := "(I)Z" } : Jvm.MethodName)) ∈ jw_T := jw_mem 791 (by decide +kernel) (by decide +kernel)
theorem jq_792 : (Jvm.Cond.methodLink "Branchwork$Renames" (41 : Nat) ({ cls := "Branchwork$Renames", name := "nearest", desc := "(LBranchwork$Tree;ILBranchwork$Tree;)I" } : Jvm.MethodName)) ∈ jw_T := jw_mem 792 (by decide +kernel) (by decide +kernel)
theorem jq_794 : (Jvm.Cond.instanceMethod ({ cls := "Branchwork$Renames", name := "nearest", desc := "(LBranchwork$Tree;ILBranchwork$Tree;)I" } : Jvm.MethodName)) ∈ jw_T := jw_mem 794 (by decide +kernel) (by decide +kernel)
theorem jq_795 : (Jvm.Cond.code ({ cls := "Branchwork$Renames", name := "nearest", desc := "(LBranchwork$Tree;ILBranchwork$Tree;)I" } : Jvm.MethodName) prog_8_method_6_code (8 : Nat) (Option.some Jvm.ClassFile.FieldType.int)) ∈ jw_T := jw_mem 795 (by decide +kernel) (by decide +kernel)
theorem jq_796 : (Jvm.Cond.methodLink "Branchwork$Renames" (45 : Nat) ({ cls := "Branchwork$Tree", name := "fileAt", desc := "(I)LBranchwork$Content;" } : Jvm.MethodName)) ∈ jw_T := jw_mem 796 (by decide +kernel) (by decide +kernel)
theorem jq_797 : (Jvm.Cond.methodLink "Branchwork$Renames" (49 : Nat) ({ cls := "Branchwork$Match", name := "nearnessOf", desc := "(LBranchwork$Content;LBranchwork$Content;)I" } : Jvm.MethodName)) ∈ jw_T := jw_mem 797 (by decide +kernel) (by decide +kernel)
theorem jq_798 : (Jvm.Cond.instanceMethod ({ cls := "Branchwork$Match", name := "nearnessOf", desc := "(LBranchwork$Content;LBranchwork$Content;)I" } : Jvm.MethodName)) ∈ jw_T := jw_mem 798 (by decide +kernel) (by decide +kernel)
theorem jq_799 : (Jvm.Cond.selects "Branchwork$Match" ({ cls := "Branchwork$Match", name := "nearnessOf", desc := "(LBranchwork$Content;LBranchwork$Content;)I" } : Jvm.MethodName) ({ cls := "Branchwork$Match", name := "nearnessOf", desc := "(LBranchwork$Content;LBranchwork$Content;)I" } : Jvm.MethodName)) ∈ jw_T := jw_mem 799 (by decide +kernel) (by decide +kernel)
theorem jq_800 : (Jvm.Cond.code ({ cls := "Branchwork$Match", name := "nearnessOf", desc := "(LBranchwork$Content;LBranchwork$Content;)I" } : Jvm.MethodName) prog_6_method_4_code (4 : Nat) (Option.some Jvm.ClassFile.FieldType.int)) ∈ jw_T := jw_mem 800 (by decide +kernel) (by decide +kernel)
theorem jq_801 : (Jvm.Cond.methodLink "Branchwork$Match" (21 : Nat) ({ cls := "Branchwork$Content", name := "length", desc := "()I" } : Jvm.MethodName)) ∈ jw_T := jw_mem 801 (by decide +kernel) (by decide +kernel)
theorem jq_802 : (Jvm.Cond.methodLink "Branchwork$Match" (27 : Nat) ({ cls := "Branchwork$Match", name := "measure", desc := "(LBranchwork$Content;LBranchwork$Content;)V" } : Jvm.MethodName)) ∈ jw_T := jw_mem 802 (by decide +kernel) (by decide +kernel)
theorem jq_804 : (Jvm.Cond.instanceMethod ({ cls := "Branchwork$Match", name := "measure", desc := "(LBranchwork$Content;LBranchwork$Content;)V" } : Jvm.MethodName)) ∈ jw_T := jw_mem 804 (by decide +kernel) (by decide +kernel)
theorem jq_805 : (Jvm.Cond.code ({ cls := "Branchwork$Match", name := "measure", desc := "(LBranchwork$Content;LBranchwork$Content;)V" } : Jvm.MethodName) prog_6_method_6_code (7 : Nat) (Option.none : Option Jvm.ClassFile.FieldType)) ∈ jw_T := jw_mem 805 (by decide +kernel) (by decide +kernel)
theorem jq_806 : (Jvm.Cond.methodLink "Branchwork$Match" (31 : Nat) ({ cls := "java/util/Arrays", name := "fill", desc := "([II)V" } : Jvm.MethodName)) ∈ jw_T := jw_mem 806 (by decide +kernel) (by decide +kernel)
theorem jq_807 : (Jvm.Cond.methodLink "Branchwork$Match" (37 : Nat) ({ cls := "Branchwork$Content", name := "lineAt", desc := "(I)I" } : Jvm.MethodName)) ∈ jw_T := jw_mem 807 (by decide +kernel) (by decide +kernel)
theorem jq_808 : (Jvm.Cond.methodLink "Branchwork$Match" (41 : Nat) ({ cls := "java/lang/Math", name := "max", desc := "(II)I" } : Jvm.MethodName)) ∈ jw_T := jw_mem 808 (by decide +kernel) (by decide +kernel)
theorem jq_809 : (Jvm.Cond.static ({ cls := "java/lang/Math", name := "max", desc := "(II)I" } : Jvm.MethodName)) ∈ jw_T := jw_mem 809 (by decide +kernel) (by decide +kernel)
theorem jq_810 : (Jvm.Cond.code ({ cls := "java/lang/Math", name := "max", desc := "(II)I" } : Jvm.MethodName) prog_24_method_65_code (2 : Nat) (Option.some Jvm.ClassFile.FieldType.int)) ∈ jw_T := jw_mem 810 (by decide +kernel) (by decide +kernel)
theorem jq_811 : (Jvm.Cond.methodLink "Branchwork$Merger" (61 : Nat) ({ cls := "Branchwork$Tree", name := "has", desc := "(I)Z" } : Jvm.MethodName)) ∈ jw_T := jw_mem 811 (by decide +kernel) (by decide +kernel)
theorem jq_812 : (Jvm.Cond.methodLink "Branchwork$Merger" (65 : Nat) ({ cls := "Branchwork$Merger", name := "mergeFile", desc := "(LBranchwork$Tree;LBranchwork$Tree;LBranchwork$Tree;I)V" } : Jvm.MethodName)) ∈ jw_T := jw_mem 812 (by decide +kernel) (by decide +kernel)
theorem jq_814 : (Jvm.Cond.instanceMethod ({ cls := "Branchwork$Merger", name := "mergeFile", desc := "(LBranchwork$Tree;LBranchwork$Tree;LBranchwork$Tree;I)V" } : Jvm.MethodName)) ∈ jw_T := jw_mem 814 (by decide +kernel) (by decide +kernel)
theorem jq_815 : (Jvm.Cond.code ({ cls := "Branchwork$Merger", name := "mergeFile", desc := "(LBranchwork$Tree;LBranchwork$Tree;LBranchwork$Tree;I)V" } : Jvm.MethodName) prog_7_method_6_code (9 : Nat) (Option.none : Option Jvm.ClassFile.FieldType)) ∈ jw_T := jw_mem 815 (by decide +kernel) (by decide +kernel)
theorem jq_816 : (Jvm.Cond.methodLink "Branchwork$Merger" (89 : Nat) ({ cls := "Branchwork$Renames", name := "fateOf", desc := "(I)I" } : Jvm.MethodName)) ∈ jw_T := jw_mem 816 (by decide +kernel) (by decide +kernel)
theorem jq_817 : (Jvm.Cond.instanceMethod ({ cls := "Branchwork$Renames", name := "fateOf", desc := "(I)I" } : Jvm.MethodName)) ∈ jw_T := jw_mem 817 (by decide +kernel) (by decide +kernel)
theorem jq_818 : (Jvm.Cond.selects "Branchwork$Renames" ({ cls := "Branchwork$Renames", name := "fateOf", desc := "(I)I" } : Jvm.MethodName) ({ cls := "Branchwork$Renames", name := "fateOf", desc := "(I)I" } : Jvm.MethodName)) ∈ jw_T := jw_mem 818 (by decide +kernel) (by decide +kernel)
theorem jq_819 : (Jvm.Cond.code ({ cls := "Branchwork$Renames", name := "fateOf", desc := "(I)I" } : Jvm.MethodName) prog_8_method_3_code (2 : Nat) (Option.some Jvm.ClassFile.FieldType.int)) ∈ jw_T := jw_mem 819 (by decide +kernel) (by decide +kernel)
theorem jq_820 : (Jvm.Cond.methodLink "Branchwork$Merger" (92 : Nat) ({ cls := "Branchwork$Merger", name := "mergeLeftOut", desc := "(LBranchwork$Tree;LBranchwork$Tree;II)V" } : Jvm.MethodName)) ∈ jw_T := jw_mem 820 (by decide +kernel) (by decide +kernel)
theorem jq_822 : (Jvm.Cond.instanceMethod ({ cls := "Branchwork$Merger", name := "mergeLeftOut", desc := "(LBranchwork$Tree;LBranchwork$Tree;II)V" } : Jvm.MethodName)) ∈ jw_T := jw_mem 822 (by decide +kernel) (by decide +kernel)
theorem jq_823 : (Jvm.Cond.code ({ cls := "Branchwork$Merger", name := "mergeLeftOut", desc := "(LBranchwork$Tree;LBranchwork$Tree;II)V" } : Jvm.MethodName) prog_7_method_7_code (6 : Nat) (Option.none : Option Jvm.ClassFile.FieldType)) ∈ jw_T := jw_mem 823 (by decide +kernel) (by decide +kernel)
theorem jq_824 : (Jvm.Cond.methodLink "Branchwork$Merger" (73 : Nat) ({ cls := "Branchwork$Tree", name := "fileAt", desc := "(I)LBranchwork$Content;" } : Jvm.MethodName)) ∈ jw_T := jw_mem 824 (by decide +kernel) (by decide +kernel)
theorem jq_825 : (Jvm.Cond.methodLink "Branchwork$Merger" (104 : Nat) ({ cls := "Branchwork$Content", name := "sameAs", desc := "(LBranchwork$Content;)Z" } : Jvm.MethodName)) ∈ jw_T := jw_mem 825 (by decide +kernel) (by decide +kernel)
theorem jq_826 : (Jvm.Cond.methodLink "Branchwork$Merger" (77 : Nat) ({ cls := "Branchwork$Merger", name := "bring", desc := "(LBranchwork$Content;I)Z" } : Jvm.MethodName)) ∈ jw_T := jw_mem 826 (by decide +kernel) (by decide +kernel)
theorem jq_828 : (Jvm.Cond.instanceMethod ({ cls := "Branchwork$Merger", name := "bring", desc := "(LBranchwork$Content;I)Z" } : Jvm.MethodName)) ∈ jw_T := jw_mem 828 (by decide +kernel) (by decide +kernel)
theorem jq_829 : (Jvm.Cond.code ({ cls := "Branchwork$Merger", name := "bring", desc := "(LBranchwork$Content;I)Z" } : Jvm.MethodName) prog_7_method_9_code (3 : Nat) (Option.some Jvm.ClassFile.FieldType.boolean)) ∈ jw_T := jw_mem 829 (by decide +kernel) (by decide +kernel)
theorem jq_830 : (Jvm.Cond.methodLink "Branchwork$Merger" (96 : Nat) ({ cls := "Branchwork$Conflicts", name := "tell", desc := "(II)V" } : Jvm.MethodName)) ∈ jw_T := jw_mem 830 (by decide +kernel) (by decide +kernel)
theorem jq_831 : (Jvm.Cond.instanceMethod ({ cls := "Branchwork$Conflicts", name := "tell", desc := "(II)V" } : Jvm.MethodName)) ∈ jw_T := jw_mem 831 (by decide +kernel) (by decide +kernel)
theorem jq_832 : (Jvm.Cond.selects "Branchwork$Conflicts" ({ cls := "Branchwork$Conflicts", name := "tell", desc := "(II)V" } : Jvm.MethodName) ({ cls := "Branchwork$Conflicts", name := "tell", desc := "(II)V" } : Jvm.MethodName)) ∈ jw_T := jw_mem 832 (by decide +kernel) (by decide +kernel)
theorem jq_833 : (Jvm.Cond.code ({ cls := "Branchwork$Conflicts", name := "tell", desc := "(II)V" } : Jvm.MethodName) prog_3_method_6_code (3 : Nat) (Option.none : Option Jvm.ClassFile.FieldType)) ∈ jw_T := jw_mem 833 (by decide +kernel) (by decide +kernel)
theorem jq_834 : (Jvm.Cond.methodLink "Branchwork$Merger" (108 : Nat) ({ cls := "Branchwork$Content", name := "copyFrom", desc := "(LBranchwork$Content;)V" } : Jvm.MethodName)) ∈ jw_T := jw_mem 834 (by decide +kernel) (by decide +kernel)
theorem jq_835 : (Jvm.Cond.methodLink "Branchwork$Merger" (100 : Nat) ({ cls := "Branchwork$Blender", name := "blendInto", desc := "(LBranchwork$Content;LBranchwork$Content;LBranchwork$Content;LBranchwork$Content;)Z" } : Jvm.MethodName)) ∈ jw_T := jw_mem 835 (by decide +kernel) (by decide +kernel)
theorem jq_836 : (Jvm.Cond.instanceMethod ({ cls := "Branchwork$Blender", name := "blendInto", desc := "(LBranchwork$Content;LBranchwork$Content;LBranchwork$Content;LBranchwork$Content;)Z" } : Jvm.MethodName)) ∈ jw_T := jw_mem 836 (by decide +kernel) (by decide +kernel)
theorem jq_837 : (Jvm.Cond.selects "Branchwork$Blender" ({ cls := "Branchwork$Blender", name := "blendInto", desc := "(LBranchwork$Content;LBranchwork$Content;LBranchwork$Content;LBranchwork$Content;)Z" } : Jvm.MethodName) ({ cls := "Branchwork$Blender", name := "blendInto", desc := "(LBranchwork$Content;LBranchwork$Content;LBranchwork$Content;LBranchwork$Content;)Z" } : Jvm.MethodName)) ∈ jw_T := jw_mem 837 (by decide +kernel) (by decide +kernel)
theorem jq_838 : (Jvm.Cond.code ({ cls := "Branchwork$Blender", name := "blendInto", desc := "(LBranchwork$Content;LBranchwork$Content;LBranchwork$Content;LBranchwork$Content;)Z" } : Jvm.MethodName) prog_2_method_2_code (13 : Nat) (Option.some Jvm.ClassFile.FieldType.boolean)) ∈ jw_T := jw_mem 838 (by decide +kernel) (by decide +kernel)
theorem jq_839 : (Jvm.Cond.methodLink "Branchwork$Blender" (34 : Nat) ({ cls := "Branchwork$Match", name := "pairUp", desc := "(LBranchwork$Content;LBranchwork$Content;)V" } : Jvm.MethodName)) ∈ jw_T := jw_mem 839 (by decide +kernel) (by decide +kernel)
theorem jq_840 : (Jvm.Cond.instanceMethod ({ cls := "Branchwork$Match", name := "pairUp", desc := "(LBranchwork$Content;LBranchwork$Content;)V" } : Jvm.MethodName)) ∈ jw_T := jw_mem 840 (by decide +kernel) (by decide +kernel)
theorem jq_841 : (Jvm.Cond.selects "Branchwork$Match" ({ cls := "Branchwork$Match", name := "pairUp", desc := "(LBranchwork$Content;LBranchwork$Content;)V" } : Jvm.MethodName) ({ cls := "Branchwork$Match", name := "pairUp", desc := "(LBranchwork$Content;LBranchwork$Content;)V" } : Jvm.MethodName)) ∈ jw_T := jw_mem 841 (by decide +kernel) (by decide +kernel)
theorem jq_842 : (Jvm.Cond.code ({ cls := "Branchwork$Match", name := "pairUp", desc := "(LBranchwork$Content;LBranchwork$Content;)V" } : Jvm.MethodName) prog_6_method_5_code (5 : Nat) (Option.none : Option Jvm.ClassFile.FieldType)) ∈ jw_T := jw_mem 842 (by decide +kernel) (by decide +kernel)
theorem jq_843 : (Jvm.Cond.methodLink "Branchwork$Blender" (38 : Nat) ({ cls := "Branchwork$Content", name := "becomeEmpty", desc := "()V" } : Jvm.MethodName)) ∈ jw_T := jw_mem 843 (by decide +kernel) (by decide +kernel)
theorem jq_844 : (Jvm.Cond.instanceMethod ({ cls := "Branchwork$Content", name := "becomeEmpty", desc := "()V" } : Jvm.MethodName)) ∈ jw_T := jw_mem 844 (by decide +kernel) (by decide +kernel)
theorem jq_845 : (Jvm.Cond.selects "Branchwork$Content" ({ cls := "Branchwork$Content", name := "becomeEmpty", desc := "()V" } : Jvm.MethodName) ({ cls := "Branchwork$Content", name := "becomeEmpty", desc := "()V" } : Jvm.MethodName)) ∈ jw_T := jw_mem 845 (by decide +kernel) (by decide +kernel)
theorem jq_846 : (Jvm.Cond.code ({ cls := "Branchwork$Content", name := "becomeEmpty", desc := "()V" } : Jvm.MethodName) prog_4_method_8_code (1 : Nat) (Option.none : Option Jvm.ClassFile.FieldType)) ∈ jw_T := jw_mem 846 (by decide +kernel) (by decide +kernel)
theorem jq_847 : (Jvm.Cond.methodLink "Branchwork$Blender" (41 : Nat) ({ cls := "Branchwork$Content", name := "length", desc := "()I" } : Jvm.MethodName)) ∈ jw_T := jw_mem 847 (by decide +kernel) (by decide +kernel)
theorem jq_848 : (Jvm.Cond.methodLink "Branchwork$Blender" (45 : Nat) ({ cls := "Branchwork$Match", name := "partnerInB", desc := "(I)I" } : Jvm.MethodName)) ∈ jw_T := jw_mem 848 (by decide +kernel) (by decide +kernel)
theorem jq_849 : (Jvm.Cond.instanceMethod ({ cls := "Branchwork$Match", name := "partnerInB", desc := "(I)I" } : Jvm.MethodName)) ∈ jw_T := jw_mem 849 (by decide +kernel) (by decide +kernel)
theorem jq_850 : (Jvm.Cond.selects "Branchwork$Match" ({ cls := "Branchwork$Match", name := "partnerInB", desc := "(I)I" } : Jvm.MethodName) ({ cls := "Branchwork$Match", name := "partnerInB", desc := "(I)I" } : Jvm.MethodName)) ∈ jw_T := jw_mem 850 (by decide +kernel) (by decide +kernel)
theorem jq_851 : (Jvm.Cond.code ({ cls := "Branchwork$Match", name := "partnerInB", desc := "(I)I" } : Jvm.MethodName) prog_6_method_2_code (2 : Nat) (Option.some Jvm.ClassFile.FieldType.int)) ∈ jw_T := jw_mem 851 (by decide +kernel) (by decide +kernel)
theorem jq_852 : (Jvm.Cond.methodLink "Branchwork$Blender" (49 : Nat) ({ cls := "Branchwork$Content", name := "becomePart", desc := "(LBranchwork$Content;II)V" } : Jvm.MethodName)) ∈ jw_T := jw_mem 852 (by decide +kernel) (by decide +kernel)
theorem jq_853 : (Jvm.Cond.instanceMethod ({ cls := "Branchwork$Content", name := "becomePart", desc := "(LBranchwork$Content;II)V" } : Jvm.MethodName)) ∈ jw_T := jw_mem 853 (by decide +kernel) (by decide +kernel)
theorem jq_854 : (Jvm.Cond.selects "Branchwork$Content" ({ cls := "Branchwork$Content", name := "becomePart", desc := "(LBranchwork$Content;II)V" } : Jvm.MethodName) ({ cls := "Branchwork$Content", name := "becomePart", desc := "(LBranchwork$Content;II)V" } : Jvm.MethodName)) ∈ jw_T := jw_mem 854 (by decide +kernel) (by decide +kernel)
theorem jq_855 : (Jvm.Cond.code ({ cls := "Branchwork$Content", name := "becomePart", desc := "(LBranchwork$Content;II)V" } : Jvm.MethodName) prog_4_method_13_code (5 : Nat) (Option.none : Option Jvm.ClassFile.FieldType)) ∈ jw_T := jw_mem 855 (by decide +kernel) (by decide +kernel)
theorem jq_856 : (Jvm.Cond.methodLink "Branchwork$Content" (39 : Nat) ({ cls := "Branchwork$Content", name := "becomeEmpty", desc := "()V" } : Jvm.MethodName)) ∈ jw_T := jw_mem 856 (by decide +kernel) (by decide +kernel)
theorem jq_857 : (Jvm.Cond.methodLink "Branchwork$Content" (35 : Nat) ({ cls := "Branchwork$Content", name := "append", desc := "(I)V" } : Jvm.MethodName)) ∈ jw_T := jw_mem 857 (by decide +kernel) (by decide +kernel)
theorem jq_858 : (Jvm.Cond.instanceMethod ({ cls := "Branchwork$Content", name := "append", desc := "(I)V" } : Jvm.MethodName)) ∈ jw_T := jw_mem 858 (by decide +kernel) (by decide +kernel)
theorem jq_859 : (Jvm.Cond.selects "Branchwork$Content" ({ cls := "Branchwork$Content", name := "append", desc := "(I)V" } : Jvm.MethodName) ({ cls := "Branchwork$Content", name := "append", desc := "(I)V" } : Jvm.MethodName)) ∈ jw_T := jw_mem 859 (by decide +kernel) (by decide +kernel)
theorem jq_860 : (Jvm.Cond.code ({ cls := "Branchwork$Content", name := "append", desc := "(I)V" } : Jvm.MethodName) prog_4_method_11_code (2 : Nat) (Option.none : Option Jvm.ClassFile.FieldType)) ∈ jw_T := jw_mem 860 (by decide +kernel) (by decide +kernel)
theorem jq_861 : (Jvm.Cond.methodLink "Branchwork$Blender" (53 : Nat) ({ cls := "Branchwork$Blender", name := "blendParts", desc := "(LBranchwork$Content;)Z" } : Jvm.MethodName)) ∈ jw_T := jw_mem 861 (by decide +kernel) (by decide +kernel)
theorem jq_863 : (Jvm.Cond.instanceMethod ({ cls := "Branchwork$Blender", name := "blendParts", desc := "(LBranchwork$Content;)Z" } : Jvm.MethodName)) ∈ jw_T := jw_mem 863 (by decide +kernel) (by decide +kernel)
theorem jq_864 : (Jvm.Cond.code ({ cls := "Branchwork$Blender", name := "blendParts", desc := "(LBranchwork$Content;)Z" } : Jvm.MethodName) prog_2_method_3_code (2 : Nat) (Option.some Jvm.ClassFile.FieldType.boolean)) ∈ jw_T := jw_mem 864 (by decide +kernel) (by decide +kernel)
theorem jq_865 : (Jvm.Cond.methodLink "Branchwork$Blender" (64 : Nat) ({ cls := "Branchwork$Content", name := "sameAs", desc := "(LBranchwork$Content;)Z" } : Jvm.MethodName)) ∈ jw_T := jw_mem 865 (by decide +kernel) (by decide +kernel)
theorem jq_866 : (Jvm.Cond.methodLink "Branchwork$Blender" (67 : Nat) ({ cls := "Branchwork$Content", name := "appendAll", desc := "(LBranchwork$Content;)V" } : Jvm.MethodName)) ∈ jw_T := jw_mem 866 (by decide +kernel) (by decide +kernel)
theorem jq_867 : (Jvm.Cond.instanceMethod ({ cls := "Branchwork$Content", name := "appendAll", desc := "(LBranchwork$Content;)V" } : Jvm.MethodName)) ∈ jw_T := jw_mem 867 (by decide +kernel) (by decide +kernel)
theorem jq_868 : (Jvm.Cond.selects "Branchwork$Content" ({ cls := "Branchwork$Content", name := "appendAll", desc := "(LBranchwork$Content;)V" } : Jvm.MethodName) ({ cls := "Branchwork$Content", name := "appendAll", desc := "(LBranchwork$Content;)V" } : Jvm.MethodName)) ∈ jw_T := jw_mem 868 (by decide +kernel) (by decide +kernel)
theorem jq_869 : (Jvm.Cond.code ({ cls := "Branchwork$Content", name := "appendAll", desc := "(LBranchwork$Content;)V" } : Jvm.MethodName) prog_4_method_12_code (3 : Nat) (Option.none : Option Jvm.ClassFile.FieldType)) ∈ jw_T := jw_mem 869 (by decide +kernel) (by decide +kernel)
theorem jq_870 : (Jvm.Cond.methodLink "Branchwork$Blender" (57 : Nat) ({ cls := "Branchwork$Content", name := "lineAt", desc := "(I)I" } : Jvm.MethodName)) ∈ jw_T := jw_mem 870 (by decide +kernel) (by decide +kernel)
theorem jq_871 : (Jvm.Cond.methodLink "Branchwork$Blender" (60 : Nat) ({ cls := "Branchwork$Content", name := "append", desc := "(I)V" } : Jvm.MethodName)) ∈ jw_T := jw_mem 871 (by decide +kernel) (by decide +kernel)
theorem jq_872 : (Jvm.Cond.methodLink "Branchwork$Merger" (69 : Nat) ({ cls := "Branchwork$Merger", name := "isNew", desc := "(LBranchwork$Tree;LBranchwork$Tree;LBranchwork$Renames;I)Z" } : Jvm.MethodName)) ∈ jw_T := jw_mem 872 (by decide +kernel) (by decide +kernel)
theorem jq_873 : (Jvm.Cond.static ({ cls := "Branchwork$Merger", name := "isNew", desc := "(LBranchwork$Tree;LBranchwork$Tree;LBranchwork$Renames;I)Z" } : Jvm.MethodName)) ∈ jw_T := jw_mem 873 (by decide +kernel) (by decide +kernel)
theorem jq_874 : (Jvm.Cond.code ({ cls := "Branchwork$Merger", name := "isNew", desc := "(LBranchwork$Tree;LBranchwork$Tree;LBranchwork$Renames;I)Z" } : Jvm.MethodName) prog_7_method_5_code (4 : Nat) (Option.some Jvm.ClassFile.FieldType.boolean)) ∈ jw_T := jw_mem 874 (by decide +kernel) (by decide +kernel)
theorem jq_875 : (Jvm.Cond.methodLink "Branchwork$Merger" (85 : Nat) ({ cls := "Branchwork$Renames", name := "sourceOf", desc := "(I)I" } : Jvm.MethodName)) ∈ jw_T := jw_mem 875 (by decide +kernel) (by decide +kernel)
theorem jq_876 : (Jvm.Cond.instanceMethod ({ cls := "Branchwork$Renames", name := "sourceOf", desc := "(I)I" } : Jvm.MethodName)) ∈ jw_T := jw_mem 876 (by decide +kernel) (by decide +kernel)
theorem jq_877 : (Jvm.Cond.selects "Branchwork$Renames" ({ cls := "Branchwork$Renames", name := "sourceOf", desc := "(I)I" } : Jvm.MethodName) ({ cls := "Branchwork$Renames", name := "sourceOf", desc := "(I)I" } : Jvm.MethodName)) ∈ jw_T := jw_mem 877 (by decide +kernel) (by decide +kernel)
theorem jq_878 : (Jvm.Cond.code ({ cls := "Branchwork$Renames", name := "sourceOf", desc := "(I)I" } : Jvm.MethodName) prog_8_method_4_code (2 : Nat) (Option.some Jvm.ClassFile.FieldType.int)) ∈ jw_T := jw_mem 878 (by decide +kernel) (by decide +kernel)
theorem jq_879 : (Jvm.Cond.methodLink "Branchwork$Merger" (81 : Nat) ({ cls := "Branchwork$Merger", name := "joinNew", desc := "(LBranchwork$Content;LBranchwork$Content;I)V" } : Jvm.MethodName)) ∈ jw_T := jw_mem 879 (by decide +kernel) (by decide +kernel)
theorem jq_881 : (Jvm.Cond.instanceMethod ({ cls := "Branchwork$Merger", name := "joinNew", desc := "(LBranchwork$Content;LBranchwork$Content;I)V" } : Jvm.MethodName)) ∈ jw_T := jw_mem 881 (by decide +kernel) (by decide +kernel)
theorem jq_882 : (Jvm.Cond.code ({ cls := "Branchwork$Merger", name := "joinNew", desc := "(LBranchwork$Content;LBranchwork$Content;I)V" } : Jvm.MethodName) prog_7_method_8_code (4 : Nat) (Option.none : Option Jvm.ClassFile.FieldType)) ∈ jw_T := jw_mem 882 (by decide +kernel) (by decide +kernel)
theorem jq_883 : (Jvm.Cond.methodLink "Branchwork" (194 : Nat) ({ cls := "Branchwork$Merger", name := "result", desc := "()LBranchwork$Tree;" } : Jvm.MethodName)) ∈ jw_T := jw_mem 883 (by decide +kernel) (by decide +kernel)
theorem jq_884 : (Jvm.Cond.instanceMethod ({ cls := "Branchwork$Merger", name := "result", desc := "()LBranchwork$Tree;" } : Jvm.MethodName)) ∈ jw_T := jw_mem 884 (by decide +kernel) (by decide +kernel)
theorem jq_885 : (Jvm.Cond.selects "Branchwork$Merger" ({ cls := "Branchwork$Merger", name := "result", desc := "()LBranchwork$Tree;" } : Jvm.MethodName) ({ cls := "Branchwork$Merger", name := "result", desc := "()LBranchwork$Tree;" } : Jvm.MethodName)) ∈ jw_T := jw_mem 885 (by decide +kernel) (by decide +kernel)
theorem jq_886 : (Jvm.Cond.code ({ cls := "Branchwork$Merger", name := "result", desc := "()LBranchwork$Tree;" } : Jvm.MethodName) prog_7_method_2_code (1 : Nat) (Option.some (Jvm.ClassFile.FieldType.object "Branchwork$Tree"))) ∈ jw_T := jw_mem 886 (by decide +kernel) (by decide +kernel)
theorem jq_887 : (Jvm.Cond.methodLink "Branchwork" (198 : Nat) ({ cls := "Branchwork$Merger", name := "told", desc := "()LBranchwork$Conflicts;" } : Jvm.MethodName)) ∈ jw_T := jw_mem 887 (by decide +kernel) (by decide +kernel)
theorem jq_888 : (Jvm.Cond.instanceMethod ({ cls := "Branchwork$Merger", name := "told", desc := "()LBranchwork$Conflicts;" } : Jvm.MethodName)) ∈ jw_T := jw_mem 888 (by decide +kernel) (by decide +kernel)
theorem jq_889 : (Jvm.Cond.selects "Branchwork$Merger" ({ cls := "Branchwork$Merger", name := "told", desc := "()LBranchwork$Conflicts;" } : Jvm.MethodName) ({ cls := "Branchwork$Merger", name := "told", desc := "()LBranchwork$Conflicts;" } : Jvm.MethodName)) ∈ jw_T := jw_mem 889 (by decide +kernel) (by decide +kernel)
theorem jq_890 : (Jvm.Cond.code ({ cls := "Branchwork$Merger", name := "told", desc := "()LBranchwork$Conflicts;" } : Jvm.MethodName) prog_7_method_3_code (1 : Nat) (Option.some (Jvm.ClassFile.FieldType.object "Branchwork$Conflicts"))) ∈ jw_T := jw_mem 890 (by decide +kernel) (by decide +kernel)
theorem jq_891 : (Jvm.Cond.methodLink "Branchwork" (202 : Nat) ({ cls := "Branchwork$Conflicts", name := "copyFrom", desc := "(LBranchwork$Conflicts;)V" } : Jvm.MethodName)) ∈ jw_T := jw_mem 891 (by decide +kernel) (by decide +kernel)
theorem jq_892 : (Jvm.Cond.instanceMethod ({ cls := "Branchwork$Conflicts", name := "copyFrom", desc := "(LBranchwork$Conflicts;)V" } : Jvm.MethodName)) ∈ jw_T := jw_mem 892 (by decide +kernel) (by decide +kernel)
theorem jq_893 : (Jvm.Cond.selects "Branchwork$Conflicts" ({ cls := "Branchwork$Conflicts", name := "copyFrom", desc := "(LBranchwork$Conflicts;)V" } : Jvm.MethodName) ({ cls := "Branchwork$Conflicts", name := "copyFrom", desc := "(LBranchwork$Conflicts;)V" } : Jvm.MethodName)) ∈ jw_T := jw_mem 893 (by decide +kernel) (by decide +kernel)
theorem jq_894 : (Jvm.Cond.code ({ cls := "Branchwork$Conflicts", name := "copyFrom", desc := "(LBranchwork$Conflicts;)V" } : Jvm.MethodName) prog_3_method_9_code (3 : Nat) (Option.none : Option Jvm.ClassFile.FieldType)) ∈ jw_T := jw_mem 894 (by decide +kernel) (by decide +kernel)
theorem jq_895 : (Jvm.Cond.methodLink "Branchwork$Conflicts" (26 : Nat) ({ cls := "Branchwork$Conflicts", name := "clear", desc := "()V" } : Jvm.MethodName)) ∈ jw_T := jw_mem 895 (by decide +kernel) (by decide +kernel)
theorem jq_896 : (Jvm.Cond.methodLink "Branchwork$Conflicts" (29 : Nat) ({ cls := "Branchwork$Conflicts", name := "howMany", desc := "()I" } : Jvm.MethodName)) ∈ jw_T := jw_mem 896 (by decide +kernel) (by decide +kernel)
theorem jq_897 : (Jvm.Cond.methodLink "Branchwork$Conflicts" (33 : Nat) ({ cls := "Branchwork$Conflicts", name := "codeOf", desc := "(I)I" } : Jvm.MethodName)) ∈ jw_T := jw_mem 897 (by decide +kernel) (by decide +kernel)
theorem jq_898 : (Jvm.Cond.methodLink "Branchwork$Conflicts" (37 : Nat) ({ cls := "Branchwork$Conflicts", name := "pathOf", desc := "(I)I" } : Jvm.MethodName)) ∈ jw_T := jw_mem 898 (by decide +kernel) (by decide +kernel)
theorem jq_899 : (Jvm.Cond.methodLink "Branchwork$Conflicts" (40 : Nat) ({ cls := "Branchwork$Conflicts", name := "tell", desc := "(II)V" } : Jvm.MethodName)) ∈ jw_T := jw_mem 899 (by decide +kernel) (by decide +kernel)
theorem jq_900 : (Jvm.Cond.methodLink "BranchworkLaw" (135 : Nat) ({ cls := "BranchworkLaw", name := "settle", desc := "(LBranchwork;I[J)I" } : Jvm.MethodName)) ∈ jw_T := jw_mem 900 (by decide +kernel) (by decide +kernel)
theorem jq_901 : (Jvm.Cond.static ({ cls := "BranchworkLaw", name := "settle", desc := "(LBranchwork;I[J)I" } : Jvm.MethodName)) ∈ jw_T := jw_mem 901 (by decide +kernel) (by decide +kernel)
theorem jq_902 : (Jvm.Cond.codeWith ({ cls := "BranchworkLaw", name := "settle", desc := "(LBranchwork;I[J)I" } : Jvm.MethodName) method_13_code (4 : Nat) (Option.some Jvm.ClassFile.FieldType.int) [((0 : Nat), (9 : Nat), (12 : Nat), (13 : Nat))]) ∈ jw_T := jw_mem 902 (by decide +kernel) (by decide +kernel)
theorem jq_903 : (Jvm.Cond.methodLink "BranchworkLaw" (49 : Nat) ({ cls := "Branchwork", name := "settle", desc := "(I)I" } : Jvm.MethodName)) ∈ jw_T := jw_mem 903 (by decide +kernel) (by decide +kernel)
theorem jq_904 : (Jvm.Cond.instanceMethod ({ cls := "Branchwork", name := "settle", desc := "(I)I" } : Jvm.MethodName)) ∈ jw_T := jw_mem 904 (by decide +kernel) (by decide +kernel)
theorem jq_905 : (Jvm.Cond.selects "Branchwork" ({ cls := "Branchwork", name := "settle", desc := "(I)I" } : Jvm.MethodName) ({ cls := "Branchwork", name := "settle", desc := "(I)I" } : Jvm.MethodName)) ∈ jw_T := jw_mem 905 (by decide +kernel) (by decide +kernel)
theorem jq_906 : (Jvm.Cond.code ({ cls := "Branchwork", name := "settle", desc := "(I)I" } : Jvm.MethodName) prog_1_method_12_code (2 : Nat) (Option.some Jvm.ClassFile.FieldType.int)) ∈ jw_T := jw_mem 906 (by decide +kernel) (by decide +kernel)
theorem jq_907 : (Jvm.Cond.methodLink "Branchwork" (205 : Nat) ({ cls := "Branchwork", name := "requireConflict", desc := "(I)V" } : Jvm.MethodName)) ∈ jw_T := jw_mem 907 (by decide +kernel) (by decide +kernel)
theorem jq_909 : (Jvm.Cond.instanceMethod ({ cls := "Branchwork", name := "requireConflict", desc := "(I)V" } : Jvm.MethodName)) ∈ jw_T := jw_mem 909 (by decide +kernel) (by decide +kernel)
theorem jq_910 : (Jvm.Cond.code ({ cls := "Branchwork", name := "requireConflict", desc := "(I)V" } : Jvm.MethodName) prog_1_method_44_code (2 : Nat) (Option.none : Option Jvm.ClassFile.FieldType)) ∈ jw_T := jw_mem 910 (by decide +kernel) (by decide +kernel)
theorem jq_911 : (Jvm.Cond.methodLink "Branchwork" (362 : Nat) ({ cls := "Branchwork$Conflicts", name := "holds", desc := "(I)Z" } : Jvm.MethodName)) ∈ jw_T := jw_mem 911 (by decide +kernel) (by decide +kernel)
theorem jq_913 : (Jvm.Cond.methodLink "Branchwork" (208 : Nat) ({ cls := "Branchwork$Conflicts", name := "drop", desc := "(I)V" } : Jvm.MethodName)) ∈ jw_T := jw_mem 913 (by decide +kernel) (by decide +kernel)
theorem jq_914 : (Jvm.Cond.instanceMethod ({ cls := "Branchwork$Conflicts", name := "drop", desc := "(I)V" } : Jvm.MethodName)) ∈ jw_T := jw_mem 914 (by decide +kernel) (by decide +kernel)
theorem jq_915 : (Jvm.Cond.selects "Branchwork$Conflicts" ({ cls := "Branchwork$Conflicts", name := "drop", desc := "(I)V" } : Jvm.MethodName) ({ cls := "Branchwork$Conflicts", name := "drop", desc := "(I)V" } : Jvm.MethodName)) ∈ jw_T := jw_mem 915 (by decide +kernel) (by decide +kernel)
theorem jq_916 : (Jvm.Cond.code ({ cls := "Branchwork$Conflicts", name := "drop", desc := "(I)V" } : Jvm.MethodName) prog_3_method_7_code (3 : Nat) (Option.none : Option Jvm.ClassFile.FieldType)) ∈ jw_T := jw_mem 916 (by decide +kernel) (by decide +kernel)
theorem jq_917 : (Jvm.Cond.methodLink "BranchworkLaw" (142 : Nat) ({ cls := "BranchworkLaw", name := "many", desc := "(LBranchwork;I[J)I" } : Jvm.MethodName)) ∈ jw_T := jw_mem 917 (by decide +kernel) (by decide +kernel)
theorem jq_918 : (Jvm.Cond.static ({ cls := "BranchworkLaw", name := "many", desc := "(LBranchwork;I[J)I" } : Jvm.MethodName)) ∈ jw_T := jw_mem 918 (by decide +kernel) (by decide +kernel)
theorem jq_919 : (Jvm.Cond.codeWith ({ cls := "BranchworkLaw", name := "many", desc := "(LBranchwork;I[J)I" } : Jvm.MethodName) method_14_code (4 : Nat) (Option.some Jvm.ClassFile.FieldType.int) [((0 : Nat), (9 : Nat), (12 : Nat), (15 : Nat))]) ∈ jw_T := jw_mem 919 (by decide +kernel) (by decide +kernel)
theorem jq_920 : (Jvm.Cond.methodLink "BranchworkLaw" (52 : Nat) ({ cls := "Branchwork", name := "many", desc := "(I)I" } : Jvm.MethodName)) ∈ jw_T := jw_mem 920 (by decide +kernel) (by decide +kernel)
theorem jq_921 : (Jvm.Cond.methodLink "BranchworkLaw" (145 : Nat) ({ cls := "BranchworkLaw", name := "now", desc := "(LBranchwork;I[J)I" } : Jvm.MethodName)) ∈ jw_T := jw_mem 921 (by decide +kernel) (by decide +kernel)
theorem jq_922 : (Jvm.Cond.static ({ cls := "BranchworkLaw", name := "now", desc := "(LBranchwork;I[J)I" } : Jvm.MethodName)) ∈ jw_T := jw_mem 922 (by decide +kernel) (by decide +kernel)
theorem jq_923 : (Jvm.Cond.codeWith ({ cls := "BranchworkLaw", name := "now", desc := "(LBranchwork;I[J)I" } : Jvm.MethodName) method_15_code (4 : Nat) (Option.some Jvm.ClassFile.FieldType.int) [((0 : Nat), (9 : Nat), (12 : Nat), (15 : Nat))]) ∈ jw_T := jw_mem 923 (by decide +kernel) (by decide +kernel)
theorem jq_924 : (Jvm.Cond.methodLink "BranchworkLaw" (55 : Nat) ({ cls := "Branchwork", name := "now", desc := "(I)I" } : Jvm.MethodName)) ∈ jw_T := jw_mem 924 (by decide +kernel) (by decide +kernel)
theorem jq_925 : (Jvm.Cond.methodLink "BranchworkLaw" (148 : Nat) ({ cls := "BranchworkLaw", name := "at", desc := "(LBranchwork;I[J)I" } : Jvm.MethodName)) ∈ jw_T := jw_mem 925 (by decide +kernel) (by decide +kernel)
theorem jq_926 : (Jvm.Cond.static ({ cls := "BranchworkLaw", name := "at", desc := "(LBranchwork;I[J)I" } : Jvm.MethodName)) ∈ jw_T := jw_mem 926 (by decide +kernel) (by decide +kernel)
theorem jq_927 : (Jvm.Cond.codeWith ({ cls := "BranchworkLaw", name := "at", desc := "(LBranchwork;I[J)I" } : Jvm.MethodName) method_16_code (4 : Nat) (Option.some Jvm.ClassFile.FieldType.int) [((0 : Nat), (9 : Nat), (12 : Nat), (13 : Nat))]) ∈ jw_T := jw_mem 927 (by decide +kernel) (by decide +kernel)
theorem jq_928 : (Jvm.Cond.methodLink "BranchworkLaw" (58 : Nat) ({ cls := "Branchwork", name := "at", desc := "(I)I" } : Jvm.MethodName)) ∈ jw_T := jw_mem 928 (by decide +kernel) (by decide +kernel)
theorem jq_929 : (Jvm.Cond.methodLink "BranchworkLaw" (151 : Nat) ({ cls := "BranchworkLaw", name := "ofCommit", desc := "(LBranchwork;II[J)I" } : Jvm.MethodName)) ∈ jw_T := jw_mem 929 (by decide +kernel) (by decide +kernel)
theorem jq_930 : (Jvm.Cond.static ({ cls := "BranchworkLaw", name := "ofCommit", desc := "(LBranchwork;II[J)I" } : Jvm.MethodName)) ∈ jw_T := jw_mem 930 (by decide +kernel) (by decide +kernel)
theorem jq_931 : (Jvm.Cond.codeWith ({ cls := "BranchworkLaw", name := "ofCommit", desc := "(LBranchwork;II[J)I" } : Jvm.MethodName) method_17_code (5 : Nat) (Option.some Jvm.ClassFile.FieldType.int) [((0 : Nat), (10 : Nat), (13 : Nat), (13 : Nat)), ((0 : Nat), (10 : Nat), (17 : Nat), (15 : Nat))]) ∈ jw_T := jw_mem 931 (by decide +kernel) (by decide +kernel)
theorem jq_932 : (Jvm.Cond.methodLink "BranchworkLaw" (61 : Nat) ({ cls := "Branchwork", name := "ofCommit", desc := "(II)I" } : Jvm.MethodName)) ∈ jw_T := jw_mem 932 (by decide +kernel) (by decide +kernel)
theorem jq_933 : (Jvm.Cond.methodLink "BranchworkLaw" (154 : Nat) ({ cls := "BranchworkLaw", name := "line", desc := "(LBranchwork;III[J)I" } : Jvm.MethodName)) ∈ jw_T := jw_mem 933 (by decide +kernel) (by decide +kernel)
theorem jq_934 : (Jvm.Cond.static ({ cls := "BranchworkLaw", name := "line", desc := "(LBranchwork;III[J)I" } : Jvm.MethodName)) ∈ jw_T := jw_mem 934 (by decide +kernel) (by decide +kernel)
theorem jq_935 : (Jvm.Cond.codeWith ({ cls := "BranchworkLaw", name := "line", desc := "(LBranchwork;III[J)I" } : Jvm.MethodName) method_18_code (6 : Nat) (Option.some Jvm.ClassFile.FieldType.int) [((0 : Nat), (12 : Nat), (15 : Nat), (13 : Nat))]) ∈ jw_T := jw_mem 935 (by decide +kernel) (by decide +kernel)
theorem jq_936 : (Jvm.Cond.methodLink "BranchworkLaw" (64 : Nat) ({ cls := "Branchwork", name := "line", desc := "(III)I" } : Jvm.MethodName)) ∈ jw_T := jw_mem 936 (by decide +kernel) (by decide +kernel)
theorem jq_937 : (Jvm.Cond.instanceMethod ({ cls := "Branchwork", name := "line", desc := "(III)I" } : Jvm.MethodName)) ∈ jw_T := jw_mem 937 (by decide +kernel) (by decide +kernel)
theorem jq_938 : (Jvm.Cond.selects "Branchwork" ({ cls := "Branchwork", name := "line", desc := "(III)I" } : Jvm.MethodName) ({ cls := "Branchwork", name := "line", desc := "(III)I" } : Jvm.MethodName)) ∈ jw_T := jw_mem 938 (by decide +kernel) (by decide +kernel)
theorem jq_939 : (Jvm.Cond.code ({ cls := "Branchwork", name := "line", desc := "(III)I" } : Jvm.MethodName) prog_1_method_18_code (5 : Nat) (Option.some Jvm.ClassFile.FieldType.int)) ∈ jw_T := jw_mem 939 (by decide +kernel) (by decide +kernel)
theorem jq_940 : (Jvm.Cond.methodLink "Branchwork" (255 : Nat) ({ cls := "Branchwork", name := "fileToShow", desc := "(II)LBranchwork$Content;" } : Jvm.MethodName)) ∈ jw_T := jw_mem 940 (by decide +kernel) (by decide +kernel)
theorem jq_942 : (Jvm.Cond.instanceMethod ({ cls := "Branchwork", name := "fileToShow", desc := "(II)LBranchwork$Content;" } : Jvm.MethodName)) ∈ jw_T := jw_mem 942 (by decide +kernel) (by decide +kernel)
theorem jq_943 : (Jvm.Cond.code ({ cls := "Branchwork", name := "fileToShow", desc := "(II)LBranchwork$Content;" } : Jvm.MethodName) prog_1_method_36_code (3 : Nat) (Option.some (Jvm.ClassFile.FieldType.object "Branchwork$Content"))) ∈ jw_T := jw_mem 943 (by decide +kernel) (by decide +kernel)
theorem jq_944 : (Jvm.Cond.methodLink "BranchworkLaw" (157 : Nat) ({ cls := "BranchworkLaw", name := "size", desc := "(LBranchwork;II[J)I" } : Jvm.MethodName)) ∈ jw_T := jw_mem 944 (by decide +kernel) (by decide +kernel)
theorem jq_945 : (Jvm.Cond.static ({ cls := "BranchworkLaw", name := "size", desc := "(LBranchwork;II[J)I" } : Jvm.MethodName)) ∈ jw_T := jw_mem 945 (by decide +kernel) (by decide +kernel)
theorem jq_946 : (Jvm.Cond.codeWith ({ cls := "BranchworkLaw", name := "size", desc := "(LBranchwork;II[J)I" } : Jvm.MethodName) method_19_code (5 : Nat) (Option.some Jvm.ClassFile.FieldType.int) [((0 : Nat), (10 : Nat), (13 : Nat), (13 : Nat))]) ∈ jw_T := jw_mem 946 (by decide +kernel) (by decide +kernel)
theorem jq_947 : (Jvm.Cond.methodLink "BranchworkLaw" (67 : Nat) ({ cls := "Branchwork", name := "size", desc := "(II)I" } : Jvm.MethodName)) ∈ jw_T := jw_mem 947 (by decide +kernel) (by decide +kernel)
theorem jq_948 : (Jvm.Cond.instanceMethod ({ cls := "Branchwork", name := "size", desc := "(II)I" } : Jvm.MethodName)) ∈ jw_T := jw_mem 948 (by decide +kernel) (by decide +kernel)
theorem jq_949 : (Jvm.Cond.selects "Branchwork" ({ cls := "Branchwork", name := "size", desc := "(II)I" } : Jvm.MethodName) ({ cls := "Branchwork", name := "size", desc := "(II)I" } : Jvm.MethodName)) ∈ jw_T := jw_mem 949 (by decide +kernel) (by decide +kernel)
theorem jq_950 : (Jvm.Cond.code ({ cls := "Branchwork", name := "size", desc := "(II)I" } : Jvm.MethodName) prog_1_method_19_code (4 : Nat) (Option.some Jvm.ClassFile.FieldType.int)) ∈ jw_T := jw_mem 950 (by decide +kernel) (by decide +kernel)
theorem jq_951 : (Jvm.Cond.methodLink "BranchworkLaw" (160 : Nat) ({ cls := "BranchworkLaw", name := "conflict", desc := "(LBranchwork;II[J)I" } : Jvm.MethodName)) ∈ jw_T := jw_mem 951 (by decide +kernel) (by decide +kernel)
theorem jq_952 : (Jvm.Cond.static ({ cls := "BranchworkLaw", name := "conflict", desc := "(LBranchwork;II[J)I" } : Jvm.MethodName)) ∈ jw_T := jw_mem 952 (by decide +kernel) (by decide +kernel)
theorem jq_953 : (Jvm.Cond.codeWith ({ cls := "BranchworkLaw", name := "conflict", desc := "(LBranchwork;II[J)I" } : Jvm.MethodName) method_20_code (5 : Nat) (Option.some Jvm.ClassFile.FieldType.int) [((0 : Nat), (10 : Nat), (13 : Nat), (13 : Nat)), ((0 : Nat), (10 : Nat), (17 : Nat), (15 : Nat))]) ∈ jw_T := jw_mem 953 (by decide +kernel) (by decide +kernel)
theorem jq_954 : (Jvm.Cond.methodLink "BranchworkLaw" (70 : Nat) ({ cls := "Branchwork", name := "conflict", desc := "(II)I" } : Jvm.MethodName)) ∈ jw_T := jw_mem 954 (by decide +kernel) (by decide +kernel)
theorem jq_955 : (Jvm.Cond.instanceMethod ({ cls := "Branchwork", name := "conflict", desc := "(II)I" } : Jvm.MethodName)) ∈ jw_T := jw_mem 955 (by decide +kernel) (by decide +kernel)
theorem jq_956 : (Jvm.Cond.selects "Branchwork" ({ cls := "Branchwork", name := "conflict", desc := "(II)I" } : Jvm.MethodName) ({ cls := "Branchwork", name := "conflict", desc := "(II)I" } : Jvm.MethodName)) ∈ jw_T := jw_mem 956 (by decide +kernel) (by decide +kernel)
theorem jq_957 : (Jvm.Cond.code ({ cls := "Branchwork", name := "conflict", desc := "(II)I" } : Jvm.MethodName) prog_1_method_20_code (3 : Nat) (Option.some Jvm.ClassFile.FieldType.int)) ∈ jw_T := jw_mem 957 (by decide +kernel) (by decide +kernel)
theorem jq_959 : (Jvm.Cond.methodLink "BranchworkLaw" (163 : Nat) ({ cls := "BranchworkLaw", name := "base", desc := "(LBranchwork;II[J)I" } : Jvm.MethodName)) ∈ jw_T := jw_mem 959 (by decide +kernel) (by decide +kernel)
theorem jq_960 : (Jvm.Cond.static ({ cls := "BranchworkLaw", name := "base", desc := "(LBranchwork;II[J)I" } : Jvm.MethodName)) ∈ jw_T := jw_mem 960 (by decide +kernel) (by decide +kernel)
theorem jq_961 : (Jvm.Cond.codeWith ({ cls := "BranchworkLaw", name := "base", desc := "(LBranchwork;II[J)I" } : Jvm.MethodName) method_21_code (5 : Nat) (Option.some Jvm.ClassFile.FieldType.int) [((0 : Nat), (10 : Nat), (13 : Nat), (13 : Nat))]) ∈ jw_T := jw_mem 961 (by decide +kernel) (by decide +kernel)
theorem jq_962 : (Jvm.Cond.methodLink "BranchworkLaw" (73 : Nat) ({ cls := "Branchwork", name := "base", desc := "(II)I" } : Jvm.MethodName)) ∈ jw_T := jw_mem 962 (by decide +kernel) (by decide +kernel)
theorem jq_963 : (Jvm.Cond.instanceMethod ({ cls := "Branchwork", name := "base", desc := "(II)I" } : Jvm.MethodName)) ∈ jw_T := jw_mem 963 (by decide +kernel) (by decide +kernel)
theorem jq_964 : (Jvm.Cond.selects "Branchwork" ({ cls := "Branchwork", name := "base", desc := "(II)I" } : Jvm.MethodName) ({ cls := "Branchwork", name := "base", desc := "(II)I" } : Jvm.MethodName)) ∈ jw_T := jw_mem 964 (by decide +kernel) (by decide +kernel)
theorem jq_965 : (Jvm.Cond.code ({ cls := "Branchwork", name := "base", desc := "(II)I" } : Jvm.MethodName) prog_1_method_21_code (3 : Nat) (Option.some Jvm.ClassFile.FieldType.int)) ∈ jw_T := jw_mem 965 (by decide +kernel) (by decide +kernel)
theorem jq_966 : (Jvm.Cond.methodLink "BranchworkLaw" (166 : Nat) ({ cls := "BranchworkLaw", name := "went", desc := "(LBranchwork;III[J)I" } : Jvm.MethodName)) ∈ jw_T := jw_mem 966 (by decide +kernel) (by decide +kernel)
theorem jq_967 : (Jvm.Cond.static ({ cls := "BranchworkLaw", name := "went", desc := "(LBranchwork;III[J)I" } : Jvm.MethodName)) ∈ jw_T := jw_mem 967 (by decide +kernel) (by decide +kernel)
theorem jq_968 : (Jvm.Cond.codeWith ({ cls := "BranchworkLaw", name := "went", desc := "(LBranchwork;III[J)I" } : Jvm.MethodName) method_22_code (6 : Nat) (Option.some Jvm.ClassFile.FieldType.int) [((0 : Nat), (12 : Nat), (15 : Nat), (13 : Nat))]) ∈ jw_T := jw_mem 968 (by decide +kernel) (by decide +kernel)
theorem jq_969 : (Jvm.Cond.methodLink "BranchworkLaw" (76 : Nat) ({ cls := "Branchwork", name := "went", desc := "(III)I" } : Jvm.MethodName)) ∈ jw_T := jw_mem 969 (by decide +kernel) (by decide +kernel)
theorem jq_970 : (Jvm.Cond.instanceMethod ({ cls := "Branchwork", name := "went", desc := "(III)I" } : Jvm.MethodName)) ∈ jw_T := jw_mem 970 (by decide +kernel) (by decide +kernel)
theorem jq_971 : (Jvm.Cond.selects "Branchwork" ({ cls := "Branchwork", name := "went", desc := "(III)I" } : Jvm.MethodName) ({ cls := "Branchwork", name := "went", desc := "(III)I" } : Jvm.MethodName)) ∈ jw_T := jw_mem 971 (by decide +kernel) (by decide +kernel)
theorem jq_972 : (Jvm.Cond.code ({ cls := "Branchwork", name := "went", desc := "(III)I" } : Jvm.MethodName) prog_1_method_22_code (4 : Nat) (Option.some Jvm.ClassFile.FieldType.int)) ∈ jw_T := jw_mem 972 (by decide +kernel) (by decide +kernel)
theorem jq_973 : (Jvm.Cond.methodLink "Branchwork" (273 : Nat) ({ cls := "Branchwork$Renames", name := "trace", desc := "(LBranchwork$Tree;LBranchwork$Tree;)V" } : Jvm.MethodName)) ∈ jw_T := jw_mem 973 (by decide +kernel) (by decide +kernel)
theorem jq_974 : (Jvm.Cond.methodLink "Branchwork" (277 : Nat) ({ cls := "Branchwork$Renames", name := "fateOf", desc := "(I)I" } : Jvm.MethodName)) ∈ jw_T := jw_mem 974 (by decide +kernel) (by decide +kernel)
theorem jq_975 : (Jvm.Cond.methodLink "BranchworkLaw" (169 : Nat) ({ cls := "BranchworkLaw", name := "changes", desc := "(LBranchwork;III[J)I" } : Jvm.MethodName)) ∈ jw_T := jw_mem 975 (by decide +kernel) (by decide +kernel)
theorem jq_976 : (Jvm.Cond.static ({ cls := "BranchworkLaw", name := "changes", desc := "(LBranchwork;III[J)I" } : Jvm.MethodName)) ∈ jw_T := jw_mem 976 (by decide +kernel) (by decide +kernel)
theorem jq_977 : (Jvm.Cond.codeWith ({ cls := "BranchworkLaw", name := "changes", desc := "(LBranchwork;III[J)I" } : Jvm.MethodName) method_23_code (6 : Nat) (Option.some Jvm.ClassFile.FieldType.int) [((0 : Nat), (12 : Nat), (15 : Nat), (13 : Nat)), ((0 : Nat), (12 : Nat), (19 : Nat), (15 : Nat))]) ∈ jw_T := jw_mem 977 (by decide +kernel) (by decide +kernel)
theorem jq_978 : (Jvm.Cond.methodLink "BranchworkLaw" (79 : Nat) ({ cls := "Branchwork", name := "changes", desc := "(III)I" } : Jvm.MethodName)) ∈ jw_T := jw_mem 978 (by decide +kernel) (by decide +kernel)
theorem jq_979 : (Jvm.Cond.instanceMethod ({ cls := "Branchwork", name := "changes", desc := "(III)I" } : Jvm.MethodName)) ∈ jw_T := jw_mem 979 (by decide +kernel) (by decide +kernel)
theorem jq_980 : (Jvm.Cond.selects "Branchwork" ({ cls := "Branchwork", name := "changes", desc := "(III)I" } : Jvm.MethodName) ({ cls := "Branchwork", name := "changes", desc := "(III)I" } : Jvm.MethodName)) ∈ jw_T := jw_mem 980 (by decide +kernel) (by decide +kernel)
theorem jq_981 : (Jvm.Cond.code ({ cls := "Branchwork", name := "changes", desc := "(III)I" } : Jvm.MethodName) prog_1_method_23_code (8 : Nat) (Option.some Jvm.ClassFile.FieldType.int)) ∈ jw_T := jw_mem 981 (by decide +kernel) (by decide +kernel)
theorem jq_983 : (Jvm.Cond.methodLink "Branchwork" (282 : Nat) ({ cls := "Branchwork", name := "kindOfChange", desc := "(LBranchwork$Tree;LBranchwork$Tree;I)I" } : Jvm.MethodName)) ∈ jw_T := jw_mem 983 (by decide +kernel) (by decide +kernel)
theorem jq_985 : (Jvm.Cond.instanceMethod ({ cls := "Branchwork", name := "kindOfChange", desc := "(LBranchwork$Tree;LBranchwork$Tree;I)I" } : Jvm.MethodName)) ∈ jw_T := jw_mem 985 (by decide +kernel) (by decide +kernel)
theorem jq_986 : (Jvm.Cond.code ({ cls := "Branchwork", name := "kindOfChange", desc := "(LBranchwork$Tree;LBranchwork$Tree;I)I" } : Jvm.MethodName) prog_1_method_37_code (4 : Nat) (Option.some Jvm.ClassFile.FieldType.int)) ∈ jw_T := jw_mem 986 (by decide +kernel) (by decide +kernel)
theorem jq_987 : (Jvm.Cond.methodLink "Branchwork" (343 : Nat) ({ cls := "Branchwork$Renames", name := "sourceOf", desc := "(I)I" } : Jvm.MethodName)) ∈ jw_T := jw_mem 987 (by decide +kernel) (by decide +kernel)
theorem jq_988 : (Jvm.Cond.methodLink "Branchwork" (286 : Nat) ({ cls := "Branchwork$Renames", name := "howMany", desc := "()I" } : Jvm.MethodName)) ∈ jw_T := jw_mem 988 (by decide +kernel) (by decide +kernel)
theorem jq_989 : (Jvm.Cond.instanceMethod ({ cls := "Branchwork$Renames", name := "howMany", desc := "()I" } : Jvm.MethodName)) ∈ jw_T := jw_mem 989 (by decide +kernel) (by decide +kernel)
theorem jq_990 : (Jvm.Cond.selects "Branchwork$Renames" ({ cls := "Branchwork$Renames", name := "howMany", desc := "()I" } : Jvm.MethodName) ({ cls := "Branchwork$Renames", name := "howMany", desc := "()I" } : Jvm.MethodName)) ∈ jw_T := jw_mem 990 (by decide +kernel) (by decide +kernel)
theorem jq_991 : (Jvm.Cond.code ({ cls := "Branchwork$Renames", name := "howMany", desc := "()I" } : Jvm.MethodName) prog_8_method_5_code (1 : Nat) (Option.some Jvm.ClassFile.FieldType.int)) ∈ jw_T := jw_mem 991 (by decide +kernel) (by decide +kernel)
theorem jq_992 : (Jvm.Cond.methodLink "BranchworkLaw" (172 : Nat) ({ cls := "BranchworkLaw", name := "nearness", desc := "(LBranchwork;IIII[J)I" } : Jvm.MethodName)) ∈ jw_T := jw_mem 992 (by decide +kernel) (by decide +kernel)
theorem jq_993 : (Jvm.Cond.static ({ cls := "BranchworkLaw", name := "nearness", desc := "(LBranchwork;IIII[J)I" } : Jvm.MethodName)) ∈ jw_T := jw_mem 993 (by decide +kernel) (by decide +kernel)
theorem jq_994 : (Jvm.Cond.codeWith ({ cls := "BranchworkLaw", name := "nearness", desc := "(LBranchwork;IIII[J)I" } : Jvm.MethodName) method_24_code (7 : Nat) (Option.some Jvm.ClassFile.FieldType.int) [((0 : Nat), (14 : Nat), (17 : Nat), (13 : Nat))]) ∈ jw_T := jw_mem 994 (by decide +kernel) (by decide +kernel)
theorem jq_995 : (Jvm.Cond.methodLink "BranchworkLaw" (82 : Nat) ({ cls := "Branchwork", name := "nearness", desc := "(IIII)I" } : Jvm.MethodName)) ∈ jw_T := jw_mem 995 (by decide +kernel) (by decide +kernel)
theorem jq_996 : (Jvm.Cond.instanceMethod ({ cls := "Branchwork", name := "nearness", desc := "(IIII)I" } : Jvm.MethodName)) ∈ jw_T := jw_mem 996 (by decide +kernel) (by decide +kernel)
theorem jq_997 : (Jvm.Cond.selects "Branchwork" ({ cls := "Branchwork", name := "nearness", desc := "(IIII)I" } : Jvm.MethodName) ({ cls := "Branchwork", name := "nearness", desc := "(IIII)I" } : Jvm.MethodName)) ∈ jw_T := jw_mem 997 (by decide +kernel) (by decide +kernel)
theorem jq_998 : (Jvm.Cond.code ({ cls := "Branchwork", name := "nearness", desc := "(IIII)I" } : Jvm.MethodName) prog_1_method_24_code (5 : Nat) (Option.some Jvm.ClassFile.FieldType.int)) ∈ jw_T := jw_mem 998 (by decide +kernel) (by decide +kernel)
theorem jq_999 : (Jvm.Cond.methodLink "Branchwork" (287 : Nat) ({ cls := "Branchwork$Match", name := "nearnessOf", desc := "(LBranchwork$Content;LBranchwork$Content;)I" } : Jvm.MethodName)) ∈ jw_T := jw_mem 999 (by decide +kernel) (by decide +kernel)
theorem jq_1000 : (Jvm.Cond.methodLink "BranchworkLaw" (176 : Nat) ({ cls := "BranchworkLaw", name := "origin", desc := "(LBranchwork;III[J)I" } : Jvm.MethodName)) ∈ jw_T := jw_mem 1000 (by decide +kernel) (by decide +kernel)
theorem jq_1001 : (Jvm.Cond.static ({ cls := "BranchworkLaw", name := "origin", desc := "(LBranchwork;III[J)I" } : Jvm.MethodName)) ∈ jw_T := jw_mem 1001 (by decide +kernel) (by decide +kernel)
theorem jq_1002 : (Jvm.Cond.codeWith ({ cls := "BranchworkLaw", name := "origin", desc := "(LBranchwork;III[J)I" } : Jvm.MethodName) method_25_code (6 : Nat) (Option.some Jvm.ClassFile.FieldType.int) [((0 : Nat), (12 : Nat), (15 : Nat), (13 : Nat))]) ∈ jw_T := jw_mem 1002 (by decide +kernel) (by decide +kernel)
theorem jq_1003 : (Jvm.Cond.methodLink "BranchworkLaw" (86 : Nat) ({ cls := "Branchwork", name := "origin", desc := "(III)I" } : Jvm.MethodName)) ∈ jw_T := jw_mem 1003 (by decide +kernel) (by decide +kernel)
theorem jq_1004 : (Jvm.Cond.instanceMethod ({ cls := "Branchwork", name := "origin", desc := "(III)I" } : Jvm.MethodName)) ∈ jw_T := jw_mem 1004 (by decide +kernel) (by decide +kernel)
theorem jq_1005 : (Jvm.Cond.selects "Branchwork" ({ cls := "Branchwork", name := "origin", desc := "(III)I" } : Jvm.MethodName) ({ cls := "Branchwork", name := "origin", desc := "(III)I" } : Jvm.MethodName)) ∈ jw_T := jw_mem 1005 (by decide +kernel) (by decide +kernel)
theorem jq_1006 : (Jvm.Cond.code ({ cls := "Branchwork", name := "origin", desc := "(III)I" } : Jvm.MethodName) prog_1_method_25_code (9 : Nat) (Option.some Jvm.ClassFile.FieldType.int)) ∈ jw_T := jw_mem 1006 (by decide +kernel) (by decide +kernel)
theorem jq_1007 : (Jvm.Cond.methodLink "Branchwork" (291 : Nat) ({ cls := "Branchwork", name := "spotInParent", desc := "(III)I" } : Jvm.MethodName)) ∈ jw_T := jw_mem 1007 (by decide +kernel) (by decide +kernel)
theorem jq_1009 : (Jvm.Cond.instanceMethod ({ cls := "Branchwork", name := "spotInParent", desc := "(III)I" } : Jvm.MethodName)) ∈ jw_T := jw_mem 1009 (by decide +kernel) (by decide +kernel)
theorem jq_1010 : (Jvm.Cond.code ({ cls := "Branchwork", name := "spotInParent", desc := "(III)I" } : Jvm.MethodName) prog_1_method_38_code (9 : Nat) (Option.some Jvm.ClassFile.FieldType.int)) ∈ jw_T := jw_mem 1010 (by decide +kernel) (by decide +kernel)
theorem jq_1011 : (Jvm.Cond.methodLink "Branchwork" (346 : Nat) ({ cls := "Branchwork$Match", name := "pairUp", desc := "(LBranchwork$Content;LBranchwork$Content;)V" } : Jvm.MethodName)) ∈ jw_T := jw_mem 1011 (by decide +kernel) (by decide +kernel)
theorem jq_1012 : (Jvm.Cond.methodLink "Branchwork" (350 : Nat) ({ cls := "Branchwork$Match", name := "partnerInA", desc := "(I)I" } : Jvm.MethodName)) ∈ jw_T := jw_mem 1012 (by decide +kernel) (by decide +kernel)
theorem jq_1013 : (Jvm.Cond.instanceMethod ({ cls := "Branchwork$Match", name := "partnerInA", desc := "(I)I" } : Jvm.MethodName)) ∈ jw_T := jw_mem 1013 (by decide +kernel) (by decide +kernel)
theorem jq_1014 : (Jvm.Cond.selects "Branchwork$Match" ({ cls := "Branchwork$Match", name := "partnerInA", desc := "(I)I" } : Jvm.MethodName) ({ cls := "Branchwork$Match", name := "partnerInA", desc := "(I)I" } : Jvm.MethodName)) ∈ jw_T := jw_mem 1014 (by decide +kernel) (by decide +kernel)
theorem jq_1015 : (Jvm.Cond.code ({ cls := "Branchwork$Match", name := "partnerInA", desc := "(I)I" } : Jvm.MethodName) prog_6_method_3_code (2 : Nat) (Option.some Jvm.ClassFile.FieldType.int)) ∈ jw_T := jw_mem 1015 (by decide +kernel) (by decide +kernel)
theorem jq_1016 : (Jvm.Cond.methodLink "BranchworkLaw" (179 : Nat) ({ cls := "BranchworkLaw", name := "conflictsOf", desc := "(LBranchwork;II[J)I" } : Jvm.MethodName)) ∈ jw_T := jw_mem 1016 (by decide +kernel) (by decide +kernel)
theorem jq_1017 : (Jvm.Cond.static ({ cls := "BranchworkLaw", name := "conflictsOf", desc := "(LBranchwork;II[J)I" } : Jvm.MethodName)) ∈ jw_T := jw_mem 1017 (by decide +kernel) (by decide +kernel)
theorem jq_1018 : (Jvm.Cond.codeWith ({ cls := "BranchworkLaw", name := "conflictsOf", desc := "(LBranchwork;II[J)I" } : Jvm.MethodName) method_26_code (5 : Nat) (Option.some Jvm.ClassFile.FieldType.int) [((0 : Nat), (10 : Nat), (13 : Nat), (13 : Nat))]) ∈ jw_T := jw_mem 1018 (by decide +kernel) (by decide +kernel)
theorem jq_1019 : (Jvm.Cond.methodLink "BranchworkLaw" (89 : Nat) ({ cls := "Branchwork", name := "conflictsOf", desc := "(II)I" } : Jvm.MethodName)) ∈ jw_T := jw_mem 1019 (by decide +kernel) (by decide +kernel)
theorem jq_1020 : (Jvm.Cond.instanceMethod ({ cls := "Branchwork", name := "conflictsOf", desc := "(II)I" } : Jvm.MethodName)) ∈ jw_T := jw_mem 1020 (by decide +kernel) (by decide +kernel)
theorem jq_1021 : (Jvm.Cond.selects "Branchwork" ({ cls := "Branchwork", name := "conflictsOf", desc := "(II)I" } : Jvm.MethodName) ({ cls := "Branchwork", name := "conflictsOf", desc := "(II)I" } : Jvm.MethodName)) ∈ jw_T := jw_mem 1021 (by decide +kernel) (by decide +kernel)
theorem jq_1022 : (Jvm.Cond.code ({ cls := "Branchwork", name := "conflictsOf", desc := "(II)I" } : Jvm.MethodName) prog_1_method_26_code (4 : Nat) (Option.some Jvm.ClassFile.FieldType.int)) ∈ jw_T := jw_mem 1022 (by decide +kernel) (by decide +kernel)
theorem jq_1023 : (Jvm.Cond.classLink "BranchworkLaw" (93 : Nat) "BranchworkModel") ∈ jw_T := jw_mem 1023 (by decide +kernel) (by decide +kernel)
theorem jq_1024 : (Jvm.Cond.instantiable "BranchworkModel" (7 : Nat)) ∈ jw_T := jw_mem 1024 (by decide +kernel) (by decide +kernel)
theorem jq_1025 : (Jvm.Cond.methodLink "BranchworkLaw" (95 : Nat) ({ cls := "BranchworkModel", name := "<init>", desc := "()V" } : Jvm.MethodName)) ∈ jw_T := jw_mem 1025 (by decide +kernel) (by decide +kernel)
theorem jq_1026 : (Jvm.Cond.instanceMethod ({ cls := "BranchworkModel", name := "<init>", desc := "()V" } : Jvm.MethodName)) ∈ jw_T := jw_mem 1026 (by decide +kernel) (by decide +kernel)
theorem jq_1027 : (Jvm.Cond.code ({ cls := "BranchworkModel", name := "<init>", desc := "()V" } : Jvm.MethodName) prog_11_method_6_code (1 : Nat) (Option.none : Option Jvm.ClassFile.FieldType)) ∈ jw_T := jw_mem 1027 (by decide +kernel) (by decide +kernel)
theorem jq_1028 : (Jvm.Cond.methodLink "BranchworkModel" (21 : Nat) ({ cls := "java/lang/Object", name := "<init>", desc := "()V" } : Jvm.MethodName)) ∈ jw_T := jw_mem 1028 (by decide +kernel) (by decide +kernel)
theorem jq_1029 : (Jvm.Cond.classLink "BranchworkModel" (27 : Nat) "java/util/ArrayList") ∈ jw_T := jw_mem 1029 (by decide +kernel) (by decide +kernel)
theorem jq_1030 : (Jvm.Cond.instantiable "java/util/ArrayList" (3 : Nat)) ∈ jw_T := jw_mem 1030 (by decide +kernel) (by decide +kernel)
theorem jq_1031 : (Jvm.Cond.methodLink "BranchworkModel" (29 : Nat) ({ cls := "java/util/ArrayList", name := "<init>", desc := "()V" } : Jvm.MethodName)) ∈ jw_T := jw_mem 1031 (by decide +kernel) (by decide +kernel)
theorem jq_1032 : (Jvm.Cond.instanceMethod ({ cls := "java/util/ArrayList", name := "<init>", desc := "()V" } : Jvm.MethodName)) ∈ jw_T := jw_mem 1032 (by decide +kernel) (by decide +kernel)
theorem jq_1033 : (Jvm.Cond.code ({ cls := "java/util/ArrayList", name := "<init>", desc := "()V" } : Jvm.MethodName) prog_31_method_2_code (1 : Nat) (Option.none : Option Jvm.ClassFile.FieldType)) ∈ jw_T := jw_mem 1033 (by decide +kernel) (by decide +kernel)
theorem jq_1034 : (Jvm.Cond.methodLink "java/util/ArrayList" (1 : Nat) ({ cls := "java/util/AbstractList", name := "<init>", desc := "()V" } : Jvm.MethodName)) ∈ jw_T := jw_mem 1034 (by decide +kernel) (by decide +kernel)
theorem jq_1035 : (Jvm.Cond.instanceMethod ({ cls := "java/util/AbstractList", name := "<init>", desc := "()V" } : Jvm.MethodName)) ∈ jw_T := jw_mem 1035 (by decide +kernel) (by decide +kernel)
theorem jq_1036 : (Jvm.Cond.code ({ cls := "java/util/AbstractList", name := "<init>", desc := "()V" } : Jvm.MethodName) prog_30_method_1_code (1 : Nat) (Option.none : Option Jvm.ClassFile.FieldType)) ∈ jw_T := jw_mem 1036 (by decide +kernel) (by decide +kernel)
theorem jq_1037 : (Jvm.Cond.methodLink "java/util/AbstractList" (1 : Nat) ({ cls := "java/util/AbstractCollection", name := "<init>", desc := "()V" } : Jvm.MethodName)) ∈ jw_T := jw_mem 1037 (by decide +kernel) (by decide +kernel)
theorem jq_1038 : (Jvm.Cond.instanceMethod ({ cls := "java/util/AbstractCollection", name := "<init>", desc := "()V" } : Jvm.MethodName)) ∈ jw_T := jw_mem 1038 (by decide +kernel) (by decide +kernel)
theorem jq_1039 : (Jvm.Cond.code ({ cls := "java/util/AbstractCollection", name := "<init>", desc := "()V" } : Jvm.MethodName) prog_29_method_1_code (1 : Nat) (Option.none : Option Jvm.ClassFile.FieldType)) ∈ jw_T := jw_mem 1039 (by decide +kernel) (by decide +kernel)
theorem jq_1040 : (Jvm.Cond.methodLink "java/util/AbstractCollection" (1 : Nat) ({ cls := "java/lang/Object", name := "<init>", desc := "()V" } : Jvm.MethodName)) ∈ jw_T := jw_mem 1040 (by decide +kernel) (by decide +kernel)
theorem jq_1041 : (Jvm.Cond.fieldLink "java/util/ArrayList" (39 : Nat) "java/util/ArrayList" "DEFAULTCAPACITY_EMPTY_ELEMENTDATA" "[Ljava/lang/Object;") ∈ jw_T := jw_mem 1041 (by decide +kernel) (by decide +kernel)
theorem jq_1043 : (Jvm.Cond.fieldLink "java/util/ArrayList" (9 : Nat) "java/util/ArrayList" "elementData" "[Ljava/lang/Object;") ∈ jw_T := jw_mem 1043 (by decide +kernel) (by decide +kernel)
theorem jq_1044 : (Jvm.Cond.fieldLink "java/util/ArrayList" (48 : Nat) "java/util/ArrayList" "size" "I") ∈ jw_T := jw_mem 1044 (by decide +kernel) (by decide +kernel)
theorem jq_1045 : (Jvm.Cond.fieldLink "java/util/AbstractList" (7 : Nat) "java/util/AbstractList" "modCount" "I") ∈ jw_T := jw_mem 1045 (by decide +kernel) (by decide +kernel)
theorem jq_1046 : (Jvm.Cond.fieldLink "java/util/ArrayList" (63 : Nat) "java/util/ArrayList" "modCount" "I") ∈ jw_T := jw_mem 1046 (by decide +kernel) (by decide +kernel)
theorem jq_1055 : (Jvm.Cond.classLink "BranchworkModel" (37 : Nat) "BranchworkModel$Tree") ∈ jw_T := jw_mem 1055 (by decide +kernel) (by decide +kernel)
theorem jq_1056 : (Jvm.Cond.instantiable "BranchworkModel$Tree" (1 : Nat)) ∈ jw_T := jw_mem 1056 (by decide +kernel) (by decide +kernel)
theorem jq_1058 : (Jvm.Cond.instanceMethod ({ cls := "BranchworkModel$Tree", name := "<init>", desc := "()V" } : Jvm.MethodName)) ∈ jw_T := jw_mem 1058 (by decide +kernel) (by decide +kernel)
theorem jq_1059 : (Jvm.Cond.code ({ cls := "BranchworkModel$Tree", name := "<init>", desc := "()V" } : Jvm.MethodName) prog_15_method_1_code (1 : Nat) (Option.none : Option Jvm.ClassFile.FieldType)) ∈ jw_T := jw_mem 1059 (by decide +kernel) (by decide +kernel)
theorem jq_1060 : (Jvm.Cond.methodLink "BranchworkModel$Tree" (3 : Nat) ({ cls := "java/lang/Object", name := "<init>", desc := "()V" } : Jvm.MethodName)) ∈ jw_T := jw_mem 1060 (by decide +kernel) (by decide +kernel)
theorem jq_1061 : (Jvm.Cond.classLink "BranchworkModel$Tree" (9 : Nat) "[I") ∈ jw_T := jw_mem 1061 (by decide +kernel) (by decide +kernel)
theorem jq_1063 : (Jvm.Cond.fieldLink "BranchworkModel$Tree" (11 : Nat) "BranchworkModel$Tree" "files" "[[I") ∈ jw_T := jw_mem 1063 (by decide +kernel) (by decide +kernel)
theorem jq_1064 : (Jvm.Cond.fieldLink "BranchworkModel$Merge" (29 : Nat) "BranchworkModel$Tree" "files" "[[I") ∈ jw_T := jw_mem 1064 (by decide +kernel) (by decide +kernel)
theorem jq_1065 : (Jvm.Cond.fieldLink "BranchworkModel" (105 : Nat) "BranchworkModel$Tree" "files" "[[I") ∈ jw_T := jw_mem 1065 (by decide +kernel) (by decide +kernel)
theorem jq_1069 : (Jvm.Cond.methodLink "BranchworkModel" (47 : Nat) ({ cls := "java/util/ArrayList", name := "add", desc := "(Ljava/lang/Object;)Z" } : Jvm.MethodName)) ∈ jw_T := jw_mem 1069 (by decide +kernel) (by decide +kernel)
theorem jq_1070 : (Jvm.Cond.instanceMethod ({ cls := "java/util/ArrayList", name := "add", desc := "(Ljava/lang/Object;)Z" } : Jvm.MethodName)) ∈ jw_T := jw_mem 1070 (by decide +kernel) (by decide +kernel)
theorem jq_1071 : (Jvm.Cond.selects "java/util/ArrayList" ({ cls := "java/util/ArrayList", name := "add", desc := "(Ljava/lang/Object;)Z" } : Jvm.MethodName) ({ cls := "java/util/ArrayList", name := "add", desc := "(Ljava/lang/Object;)Z" } : Jvm.MethodName)) ∈ jw_T := jw_mem 1071 (by decide +kernel) (by decide +kernel)
theorem jq_1072 : (Jvm.Cond.code ({ cls := "java/util/ArrayList", name := "add", desc := "(Ljava/lang/Object;)Z" } : Jvm.MethodName) prog_31_method_25_code (2 : Nat) (Option.some Jvm.ClassFile.FieldType.boolean)) ∈ jw_T := jw_mem 1072 (by decide +kernel) (by decide +kernel)
theorem jq_1073 : (Jvm.Cond.methodLink "java/util/ArrayList" (131 : Nat) ({ cls := "java/util/ArrayList", name := "add", desc := "(Ljava/lang/Object;[Ljava/lang/Object;I)V" } : Jvm.MethodName)) ∈ jw_T := jw_mem 1073 (by decide +kernel) (by decide +kernel)
theorem jq_1075 : (Jvm.Cond.instanceMethod ({ cls := "java/util/ArrayList", name := "add", desc := "(Ljava/lang/Object;[Ljava/lang/Object;I)V" } : Jvm.MethodName)) ∈ jw_T := jw_mem 1075 (by decide +kernel) (by decide +kernel)
theorem jq_1076 : (Jvm.Cond.code ({ cls := "java/util/ArrayList", name := "add", desc := "(Ljava/lang/Object;[Ljava/lang/Object;I)V" } : Jvm.MethodName) prog_31_method_24_code (4 : Nat) (Option.none : Option Jvm.ClassFile.FieldType)) ∈ jw_T := jw_mem 1076 (by decide +kernel) (by decide +kernel)
theorem jq_1077 : (Jvm.Cond.methodLink "java/util/ArrayList" (129 : Nat) ({ cls := "java/util/ArrayList", name := "grow", desc := "()[Ljava/lang/Object;" } : Jvm.MethodName)) ∈ jw_T := jw_mem 1077 (by decide +kernel) (by decide +kernel)
theorem jq_1079 : (Jvm.Cond.instanceMethod ({ cls := "java/util/ArrayList", name := "grow", desc := "()[Ljava/lang/Object;" } : Jvm.MethodName)) ∈ jw_T := jw_mem 1079 (by decide +kernel) (by decide +kernel)
theorem jq_1080 : (Jvm.Cond.code ({ cls := "java/util/ArrayList", name := "grow", desc := "()[Ljava/lang/Object;" } : Jvm.MethodName) prog_31_method_7_code (1 : Nat) (Option.some (Jvm.ClassFile.FieldType.array (Jvm.ClassFile.FieldType.object "java/lang/Object")))) ∈ jw_T := jw_mem 1080 (by decide +kernel) (by decide +kernel)
theorem jq_1081 : (Jvm.Cond.methodLink "java/util/ArrayList" (69 : Nat) ({ cls := "java/util/ArrayList", name := "grow", desc := "(I)[Ljava/lang/Object;" } : Jvm.MethodName)) ∈ jw_T := jw_mem 1081 (by decide +kernel) (by decide +kernel)
theorem jq_1083 : (Jvm.Cond.instanceMethod ({ cls := "java/util/ArrayList", name := "grow", desc := "(I)[Ljava/lang/Object;" } : Jvm.MethodName)) ∈ jw_T := jw_mem 1083 (by decide +kernel) (by decide +kernel)
theorem jq_1084 : (Jvm.Cond.code ({ cls := "java/util/ArrayList", name := "grow", desc := "(I)[Ljava/lang/Object;" } : Jvm.MethodName) prog_31_method_6_code (4 : Nat) (Option.some (Jvm.ClassFile.FieldType.array (Jvm.ClassFile.FieldType.object "java/lang/Object")))) ∈ jw_T := jw_mem 1084 (by decide +kernel) (by decide +kernel)
theorem jq_1085 : (Jvm.Cond.methodLink "java/util/ArrayList" (73 : Nat) ({ cls := "jdk/internal/util/ArraysSupport", name := "newLength", desc := "(III)I" } : Jvm.MethodName)) ∈ jw_T := jw_mem 1085 (by decide +kernel) (by decide +kernel)
theorem jq_1086 : (Jvm.Cond.static ({ cls := "jdk/internal/util/ArraysSupport", name := "newLength", desc := "(III)I" } : Jvm.MethodName)) ∈ jw_T := jw_mem 1086 (by decide +kernel) (by decide +kernel)
theorem jq_1087 : (Jvm.Cond.code ({ cls := "jdk/internal/util/ArraysSupport", name := "newLength", desc := "(III)I" } : Jvm.MethodName) prog_38_method_27_code (4 : Nat) (Option.some Jvm.ClassFile.FieldType.int)) ∈ jw_T := jw_mem 1087 (by decide +kernel) (by decide +kernel)
theorem jq_1088 : (Jvm.Cond.methodLink "jdk/internal/util/ArraysSupport" (194 : Nat) ({ cls := "java/lang/Math", name := "max", desc := "(II)I" } : Jvm.MethodName)) ∈ jw_T := jw_mem 1088 (by decide +kernel) (by decide +kernel)
theorem jq_1089 : (Jvm.Cond.constant "jdk/internal/util/ArraysSupport" (200 : Nat) (2147483639 : Int32)) ∈ jw_T := jw_mem 1089 (by decide +kernel) (by decide +kernel)
theorem jq_1090 : (Jvm.Cond.methodLink "jdk/internal/util/ArraysSupport" (201 : Nat) ({ cls := "jdk/internal/util/ArraysSupport", name := "hugeLength", desc := "(II)I" } : Jvm.MethodName)) ∈ jw_T := jw_mem 1090 (by decide +kernel) (by decide +kernel)
theorem jq_1091 : (Jvm.Cond.static ({ cls := "jdk/internal/util/ArraysSupport", name := "hugeLength", desc := "(II)I" } : Jvm.MethodName)) ∈ jw_T := jw_mem 1091 (by decide +kernel) (by decide +kernel)
theorem jq_1092 : (Jvm.Cond.code ({ cls := "jdk/internal/util/ArraysSupport", name := "hugeLength", desc := "(II)I" } : Jvm.MethodName) prog_38_method_28_code (3 : Nat) (Option.some Jvm.ClassFile.FieldType.int)) ∈ jw_T := jw_mem 1092 (by decide +kernel) (by decide +kernel)
theorem jq_1093 : (Jvm.Cond.methodLink "java/util/ArrayList" (66 : Nat) ({ cls := "java/util/Arrays", name := "copyOf", desc := "([Ljava/lang/Object;I)[Ljava/lang/Object;" } : Jvm.MethodName)) ∈ jw_T := jw_mem 1093 (by decide +kernel) (by decide +kernel)
theorem jq_1094 : (Jvm.Cond.static ({ cls := "java/util/Arrays", name := "copyOf", desc := "([Ljava/lang/Object;I)[Ljava/lang/Object;" } : Jvm.MethodName)) ∈ jw_T := jw_mem 1094 (by decide +kernel) (by decide +kernel)
theorem jq_1095 : (Jvm.Cond.code ({ cls := "java/util/Arrays", name := "copyOf", desc := "([Ljava/lang/Object;I)[Ljava/lang/Object;" } : Jvm.MethodName) prog_32_method_119_code (2 : Nat) (Option.some (Jvm.ClassFile.FieldType.array (Jvm.ClassFile.FieldType.object "java/lang/Object")))) ∈ jw_T := jw_mem 1095 (by decide +kernel) (by decide +kernel)
theorem jq_1096 : (Jvm.Cond.methodLink "java/util/Arrays" (86 : Nat) ({ cls := "java/lang/Object", name := "getClass", desc := "()Ljava/lang/Class;" } : Jvm.MethodName)) ∈ jw_T := jw_mem 1096 (by decide +kernel) (by decide +kernel)
theorem jq_1097 : (Jvm.Cond.instanceMethod ({ cls := "java/lang/Object", name := "getClass", desc := "()Ljava/lang/Class;" } : Jvm.MethodName)) ∈ jw_T := jw_mem 1097 (by decide +kernel) (by decide +kernel)
theorem jq_1099 : (Jvm.Cond.selects "Branchwork" ({ cls := "java/lang/Object", name := "getClass", desc := "()Ljava/lang/Class;" } : Jvm.MethodName) ({ cls := "java/lang/Object", name := "getClass", desc := "()Ljava/lang/Class;" } : Jvm.MethodName)) ∈ jw_T := jw_mem 1099 (by decide +kernel) (by decide +kernel)
theorem jq_1100 : (Jvm.Cond.selects "Branchwork$Blender" ({ cls := "java/lang/Object", name := "getClass", desc := "()Ljava/lang/Class;" } : Jvm.MethodName) ({ cls := "java/lang/Object", name := "getClass", desc := "()Ljava/lang/Class;" } : Jvm.MethodName)) ∈ jw_T := jw_mem 1100 (by decide +kernel) (by decide +kernel)
theorem jq_1101 : (Jvm.Cond.selects "Branchwork$Conflicts" ({ cls := "java/lang/Object", name := "getClass", desc := "()Ljava/lang/Class;" } : Jvm.MethodName) ({ cls := "java/lang/Object", name := "getClass", desc := "()Ljava/lang/Class;" } : Jvm.MethodName)) ∈ jw_T := jw_mem 1101 (by decide +kernel) (by decide +kernel)
theorem jq_1102 : (Jvm.Cond.selects "Branchwork$Content" ({ cls := "java/lang/Object", name := "getClass", desc := "()Ljava/lang/Class;" } : Jvm.MethodName) ({ cls := "java/lang/Object", name := "getClass", desc := "()Ljava/lang/Class;" } : Jvm.MethodName)) ∈ jw_T := jw_mem 1102 (by decide +kernel) (by decide +kernel)
theorem jq_1103 : (Jvm.Cond.selects "Branchwork$History" ({ cls := "java/lang/Object", name := "getClass", desc := "()Ljava/lang/Class;" } : Jvm.MethodName) ({ cls := "java/lang/Object", name := "getClass", desc := "()Ljava/lang/Class;" } : Jvm.MethodName)) ∈ jw_T := jw_mem 1103 (by decide +kernel) (by decide +kernel)
theorem jq_1104 : (Jvm.Cond.selects "Branchwork$Match" ({ cls := "java/lang/Object", name := "getClass", desc := "()Ljava/lang/Class;" } : Jvm.MethodName) ({ cls := "java/lang/Object", name := "getClass", desc := "()Ljava/lang/Class;" } : Jvm.MethodName)) ∈ jw_T := jw_mem 1104 (by decide +kernel) (by decide +kernel)
theorem jq_1105 : (Jvm.Cond.selects "Branchwork$Merger" ({ cls := "java/lang/Object", name := "getClass", desc := "()Ljava/lang/Class;" } : Jvm.MethodName) ({ cls := "java/lang/Object", name := "getClass", desc := "()Ljava/lang/Class;" } : Jvm.MethodName)) ∈ jw_T := jw_mem 1105 (by decide +kernel) (by decide +kernel)
theorem jq_1106 : (Jvm.Cond.selects "Branchwork$Renames" ({ cls := "java/lang/Object", name := "getClass", desc := "()Ljava/lang/Class;" } : Jvm.MethodName) ({ cls := "java/lang/Object", name := "getClass", desc := "()Ljava/lang/Class;" } : Jvm.MethodName)) ∈ jw_T := jw_mem 1106 (by decide +kernel) (by decide +kernel)
theorem jq_1107 : (Jvm.Cond.selects "Branchwork$Tree" ({ cls := "java/lang/Object", name := "getClass", desc := "()Ljava/lang/Class;" } : Jvm.MethodName) ({ cls := "java/lang/Object", name := "getClass", desc := "()Ljava/lang/Class;" } : Jvm.MethodName)) ∈ jw_T := jw_mem 1107 (by decide +kernel) (by decide +kernel)
theorem jq_1108 : (Jvm.Cond.selects "BranchworkModel" ({ cls := "java/lang/Object", name := "getClass", desc := "()Ljava/lang/Class;" } : Jvm.MethodName) ({ cls := "java/lang/Object", name := "getClass", desc := "()Ljava/lang/Class;" } : Jvm.MethodName)) ∈ jw_T := jw_mem 1108 (by decide +kernel) (by decide +kernel)
theorem jq_1109 : (Jvm.Cond.selects "BranchworkModel$Blend" ({ cls := "java/lang/Object", name := "getClass", desc := "()Ljava/lang/Class;" } : Jvm.MethodName) ({ cls := "java/lang/Object", name := "getClass", desc := "()Ljava/lang/Class;" } : Jvm.MethodName)) ∈ jw_T := jw_mem 1109 (by decide +kernel) (by decide +kernel)
theorem jq_1110 : (Jvm.Cond.selects "BranchworkModel$Commit" ({ cls := "java/lang/Object", name := "getClass", desc := "()Ljava/lang/Class;" } : Jvm.MethodName) ({ cls := "java/lang/Object", name := "getClass", desc := "()Ljava/lang/Class;" } : Jvm.MethodName)) ∈ jw_T := jw_mem 1110 (by decide +kernel) (by decide +kernel)
theorem jq_1111 : (Jvm.Cond.selects "BranchworkModel$Merge" ({ cls := "java/lang/Object", name := "getClass", desc := "()Ljava/lang/Class;" } : Jvm.MethodName) ({ cls := "java/lang/Object", name := "getClass", desc := "()Ljava/lang/Class;" } : Jvm.MethodName)) ∈ jw_T := jw_mem 1111 (by decide +kernel) (by decide +kernel)
theorem jq_1112 : (Jvm.Cond.selects "BranchworkModel$Tree" ({ cls := "java/lang/Object", name := "getClass", desc := "()Ljava/lang/Class;" } : Jvm.MethodName) ({ cls := "java/lang/Object", name := "getClass", desc := "()Ljava/lang/Class;" } : Jvm.MethodName)) ∈ jw_T := jw_mem 1112 (by decide +kernel) (by decide +kernel)
theorem jq_1113 : (Jvm.Cond.selects "java/lang/IllegalArgumentException" ({ cls := "java/lang/Object", name := "getClass", desc := "()Ljava/lang/Class;" } : Jvm.MethodName) ({ cls := "java/lang/Object", name := "getClass", desc := "()Ljava/lang/Class;" } : Jvm.MethodName)) ∈ jw_T := jw_mem 1113 (by decide +kernel) (by decide +kernel)
theorem jq_1114 : (Jvm.Cond.selects "java/lang/IllegalStateException" ({ cls := "java/lang/Object", name := "getClass", desc := "()Ljava/lang/Class;" } : Jvm.MethodName) ({ cls := "java/lang/Object", name := "getClass", desc := "()Ljava/lang/Class;" } : Jvm.MethodName)) ∈ jw_T := jw_mem 1114 (by decide +kernel) (by decide +kernel)
theorem jq_1115 : (Jvm.Cond.selects "java/lang/IndexOutOfBoundsException" ({ cls := "java/lang/Object", name := "getClass", desc := "()Ljava/lang/Class;" } : Jvm.MethodName) ({ cls := "java/lang/Object", name := "getClass", desc := "()Ljava/lang/Class;" } : Jvm.MethodName)) ∈ jw_T := jw_mem 1115 (by decide +kernel) (by decide +kernel)
theorem jq_1116 : (Jvm.Cond.selects "java/util/ArrayList" ({ cls := "java/lang/Object", name := "getClass", desc := "()Ljava/lang/Class;" } : Jvm.MethodName) ({ cls := "java/lang/Object", name := "getClass", desc := "()Ljava/lang/Class;" } : Jvm.MethodName)) ∈ jw_T := jw_mem 1116 (by decide +kernel) (by decide +kernel)
theorem jq_1118 : (Jvm.Cond.methodLink "java/util/Arrays" (300 : Nat) ({ cls := "java/util/Arrays", name := "copyOf", desc := "([Ljava/lang/Object;ILjava/lang/Class;)[Ljava/lang/Object;" } : Jvm.MethodName)) ∈ jw_T := jw_mem 1118 (by decide +kernel) (by decide +kernel)
theorem jq_1119 : (Jvm.Cond.static ({ cls := "java/util/Arrays", name := "copyOf", desc := "([Ljava/lang/Object;ILjava/lang/Class;)[Ljava/lang/Object;" } : Jvm.MethodName)) ∈ jw_T := jw_mem 1119 (by decide +kernel) (by decide +kernel)
theorem jq_1120 : (Jvm.Cond.code ({ cls := "java/util/Arrays", name := "copyOf", desc := "([Ljava/lang/Object;ILjava/lang/Class;)[Ljava/lang/Object;" } : Jvm.MethodName) prog_32_method_120_code (4 : Nat) (Option.some (Jvm.ClassFile.FieldType.array (Jvm.ClassFile.FieldType.object "java/lang/Object")))) ∈ jw_T := jw_mem 1120 (by decide +kernel) (by decide +kernel)
theorem jq_1121 : (Jvm.Cond.classLink "java/util/Arrays" (110 : Nat) "[Ljava/lang/Object;") ∈ jw_T := jw_mem 1121 (by decide +kernel) (by decide +kernel)
theorem jq_1123 : (Jvm.Cond.classLink "java/util/Arrays" (2 : Nat) "java/lang/Object") ∈ jw_T := jw_mem 1123 (by decide +kernel) (by decide +kernel)
theorem jq_1124 : (Jvm.Cond.methodLink "java/util/Arrays" (304 : Nat) ({ cls := "java/lang/Math", name := "min", desc := "(II)I" } : Jvm.MethodName)) ∈ jw_T := jw_mem 1124 (by decide +kernel) (by decide +kernel)
theorem jq_1125 : (Jvm.Cond.methodLink "java/util/Arrays" (150 : Nat) ({ cls := "java/lang/System", name := "arraycopy", desc := "(Ljava/lang/Object;ILjava/lang/Object;II)V" } : Jvm.MethodName)) ∈ jw_T := jw_mem 1125 (by decide +kernel) (by decide +kernel)
theorem jq_1126 : (Jvm.Cond.static ({ cls := "java/lang/System", name := "arraycopy", desc := "(Ljava/lang/Object;ILjava/lang/Object;II)V" } : Jvm.MethodName)) ∈ jw_T := jw_mem 1126 (by decide +kernel) (by decide +kernel)
theorem jq_1128 : (Jvm.Cond.methodLink "java/util/ArrayList" (79 : Nat) ({ cls := "java/lang/Math", name := "max", desc := "(II)I" } : Jvm.MethodName)) ∈ jw_T := jw_mem 1128 (by decide +kernel) (by decide +kernel)
theorem jq_1129 : (Jvm.Cond.classLink "java/util/ArrayList" (7 : Nat) "java/lang/Object") ∈ jw_T := jw_mem 1129 (by decide +kernel) (by decide +kernel)
theorem jq_1130 : (Jvm.Cond.fieldLink "BranchworkModel" (51 : Nat) "BranchworkModel" "thrown" "I") ∈ jw_T := jw_mem 1130 (by decide +kernel) (by decide +kernel)
theorem jq_1131 : (Jvm.Cond.fieldLink "BranchworkModel" (30 : Nat) "BranchworkModel" "commits" "Ljava/util/ArrayList;") ∈ jw_T := jw_mem 1131 (by decide +kernel) (by decide +kernel)
theorem jq_1132 : (Jvm.Cond.fieldLink "BranchworkModel" (34 : Nat) "BranchworkModel" "branches" "Ljava/util/ArrayList;") ∈ jw_T := jw_mem 1132 (by decide +kernel) (by decide +kernel)
theorem jq_1133 : (Jvm.Cond.fieldLink "BranchworkModel" (84 : Nat) "BranchworkModel" "current" "I") ∈ jw_T := jw_mem 1133 (by decide +kernel) (by decide +kernel)
theorem jq_1134 : (Jvm.Cond.fieldLink "BranchworkModel" (40 : Nat) "BranchworkModel" "working" "LBranchworkModel$Tree;") ∈ jw_T := jw_mem 1134 (by decide +kernel) (by decide +kernel)
theorem jq_1135 : (Jvm.Cond.fieldLink "BranchworkModel" (145 : Nat) "BranchworkModel" "merged" "LBranchworkModel$Commit;") ∈ jw_T := jw_mem 1135 (by decide +kernel) (by decide +kernel)
theorem jq_1136 : (Jvm.Cond.fieldLink "BranchworkModel" (44 : Nat) "BranchworkModel" "conflicts" "Ljava/util/ArrayList;") ∈ jw_T := jw_mem 1136 (by decide +kernel) (by decide +kernel)
theorem jq_1152 : (Jvm.Cond.methodLink "BranchworkLaw" (102 : Nat) ({ cls := "BranchworkModel", name := "thrown", desc := "()I" } : Jvm.MethodName)) ∈ jw_T := jw_mem 1152 (by decide +kernel) (by decide +kernel)
theorem jq_1153 : (Jvm.Cond.instanceMethod ({ cls := "BranchworkModel", name := "thrown", desc := "()I" } : Jvm.MethodName)) ∈ jw_T := jw_mem 1153 (by decide +kernel) (by decide +kernel)
theorem jq_1154 : (Jvm.Cond.selects "BranchworkModel" ({ cls := "BranchworkModel", name := "thrown", desc := "()I" } : Jvm.MethodName) ({ cls := "BranchworkModel", name := "thrown", desc := "()I" } : Jvm.MethodName)) ∈ jw_T := jw_mem 1154 (by decide +kernel) (by decide +kernel)
theorem jq_1155 : (Jvm.Cond.code ({ cls := "BranchworkModel", name := "thrown", desc := "()I" } : Jvm.MethodName) prog_11_method_7_code (1 : Nat) (Option.some Jvm.ClassFile.FieldType.int)) ∈ jw_T := jw_mem 1155 (by decide +kernel) (by decide +kernel)
theorem jq_1156 : (Jvm.Cond.methodLink "BranchworkLaw" (101 : Nat) ({ cls := "BranchworkModel", name := "put", desc := "(III)I" } : Jvm.MethodName)) ∈ jw_T := jw_mem 1156 (by decide +kernel) (by decide +kernel)
theorem jq_1157 : (Jvm.Cond.instanceMethod ({ cls := "BranchworkModel", name := "put", desc := "(III)I" } : Jvm.MethodName)) ∈ jw_T := jw_mem 1157 (by decide +kernel) (by decide +kernel)
theorem jq_1158 : (Jvm.Cond.selects "BranchworkModel" ({ cls := "BranchworkModel", name := "put", desc := "(III)I" } : Jvm.MethodName) ({ cls := "BranchworkModel", name := "put", desc := "(III)I" } : Jvm.MethodName)) ∈ jw_T := jw_mem 1158 (by decide +kernel) (by decide +kernel)
theorem jq_1159 : (Jvm.Cond.code ({ cls := "BranchworkModel", name := "put", desc := "(III)I" } : Jvm.MethodName) prog_11_method_18_code (5 : Nat) (Option.some Jvm.ClassFile.FieldType.int)) ∈ jw_T := jw_mem 1159 (by decide +kernel) (by decide +kernel)
theorem jq_1160 : (Jvm.Cond.methodLink "BranchworkModel" (63 : Nat) ({ cls := "BranchworkModel", name := "isNoPath", desc := "(I)Z" } : Jvm.MethodName)) ∈ jw_T := jw_mem 1160 (by decide +kernel) (by decide +kernel)
theorem jq_1161 : (Jvm.Cond.static ({ cls := "BranchworkModel", name := "isNoPath", desc := "(I)Z" } : Jvm.MethodName)) ∈ jw_T := jw_mem 1161 (by decide +kernel) (by decide +kernel)
theorem jq_1162 : (Jvm.Cond.code ({ cls := "BranchworkModel", name := "isNoPath", desc := "(I)Z" } : Jvm.MethodName) prog_11_method_11_code (1 : Nat) (Option.some Jvm.ClassFile.FieldType.boolean)) ∈ jw_T := jw_mem 1162 (by decide +kernel) (by decide +kernel)
theorem jq_1163 : (Jvm.Cond.methodLink "BranchworkModel" (59 : Nat) ({ cls := "BranchworkModel", name := "isIn", desc := "(III)Z" } : Jvm.MethodName)) ∈ jw_T := jw_mem 1163 (by decide +kernel) (by decide +kernel)
theorem jq_1164 : (Jvm.Cond.static ({ cls := "BranchworkModel", name := "isIn", desc := "(III)Z" } : Jvm.MethodName)) ∈ jw_T := jw_mem 1164 (by decide +kernel) (by decide +kernel)
theorem jq_1165 : (Jvm.Cond.code ({ cls := "BranchworkModel", name := "isIn", desc := "(III)Z" } : Jvm.MethodName) prog_11_method_8_code (3 : Nat) (Option.some Jvm.ClassFile.FieldType.boolean)) ∈ jw_T := jw_mem 1165 (by decide +kernel) (by decide +kernel)
theorem jq_1166 : (Jvm.Cond.methodLink "BranchworkModel" (108 : Nat) ({ cls := "BranchworkModel", name := "start", desc := "(ZI)Z" } : Jvm.MethodName)) ∈ jw_T := jw_mem 1166 (by decide +kernel) (by decide +kernel)
theorem jq_1168 : (Jvm.Cond.instanceMethod ({ cls := "BranchworkModel", name := "start", desc := "(ZI)Z" } : Jvm.MethodName)) ∈ jw_T := jw_mem 1168 (by decide +kernel) (by decide +kernel)
theorem jq_1169 : (Jvm.Cond.code ({ cls := "BranchworkModel", name := "start", desc := "(ZI)Z" } : Jvm.MethodName) prog_11_method_10_code (3 : Nat) (Option.some Jvm.ClassFile.FieldType.boolean)) ∈ jw_T := jw_mem 1169 (by decide +kernel) (by decide +kernel)
theorem jq_1170 : (Jvm.Cond.methodLink "BranchworkModel" (55 : Nat) ({ cls := "BranchworkModel", name := "refuse", desc := "(ZI)Z" } : Jvm.MethodName)) ∈ jw_T := jw_mem 1170 (by decide +kernel) (by decide +kernel)
theorem jq_1172 : (Jvm.Cond.instanceMethod ({ cls := "BranchworkModel", name := "refuse", desc := "(ZI)Z" } : Jvm.MethodName)) ∈ jw_T := jw_mem 1172 (by decide +kernel) (by decide +kernel)
theorem jq_1173 : (Jvm.Cond.code ({ cls := "BranchworkModel", name := "refuse", desc := "(ZI)Z" } : Jvm.MethodName) prog_11_method_9_code (3 : Nat) (Option.some Jvm.ClassFile.FieldType.boolean)) ∈ jw_T := jw_mem 1173 (by decide +kernel) (by decide +kernel)
theorem jq_1174 : (Jvm.Cond.methodLink "BranchworkModel" (67 : Nat) ({ cls := "BranchworkModel$Tree", name := "has", desc := "(I)Z" } : Jvm.MethodName)) ∈ jw_T := jw_mem 1174 (by decide +kernel) (by decide +kernel)
theorem jq_1175 : (Jvm.Cond.instanceMethod ({ cls := "BranchworkModel$Tree", name := "has", desc := "(I)Z" } : Jvm.MethodName)) ∈ jw_T := jw_mem 1175 (by decide +kernel) (by decide +kernel)
theorem jq_1176 : (Jvm.Cond.selects "BranchworkModel$Tree" ({ cls := "BranchworkModel$Tree", name := "has", desc := "(I)Z" } : Jvm.MethodName) ({ cls := "BranchworkModel$Tree", name := "has", desc := "(I)Z" } : Jvm.MethodName)) ∈ jw_T := jw_mem 1176 (by decide +kernel) (by decide +kernel)
theorem jq_1177 : (Jvm.Cond.code ({ cls := "BranchworkModel$Tree", name := "has", desc := "(I)Z" } : Jvm.MethodName) prog_15_method_3_code (2 : Nat) (Option.some Jvm.ClassFile.FieldType.boolean)) ∈ jw_T := jw_mem 1177 (by decide +kernel) (by decide +kernel)
theorem jq_1178 : (Jvm.Cond.methodLink "BranchworkModel" (111 : Nat) ({ cls := "BranchworkModel", name := "cut", desc := "([III)[I" } : Jvm.MethodName)) ∈ jw_T := jw_mem 1178 (by decide +kernel) (by decide +kernel)
theorem jq_1179 : (Jvm.Cond.static ({ cls := "BranchworkModel", name := "cut", desc := "([III)[I" } : Jvm.MethodName)) ∈ jw_T := jw_mem 1179 (by decide +kernel) (by decide +kernel)
theorem jq_1180 : (Jvm.Cond.code ({ cls := "BranchworkModel", name := "cut", desc := "([III)[I" } : Jvm.MethodName) prog_11_method_4_code (4 : Nat) (Option.some (Jvm.ClassFile.FieldType.array Jvm.ClassFile.FieldType.int))) ∈ jw_T := jw_mem 1180 (by decide +kernel) (by decide +kernel)
theorem jq_1181 : (Jvm.Cond.methodLink "BranchworkModel" (15 : Nat) ({ cls := "java/lang/System", name := "arraycopy", desc := "(Ljava/lang/Object;ILjava/lang/Object;II)V" } : Jvm.MethodName)) ∈ jw_T := jw_mem 1181 (by decide +kernel) (by decide +kernel)
theorem jq_1182 : (Jvm.Cond.methodLink "BranchworkModel" (115 : Nat) ({ cls := "BranchworkModel", name := "joined", desc := "([I[I)[I" } : Jvm.MethodName)) ∈ jw_T := jw_mem 1182 (by decide +kernel) (by decide +kernel)
theorem jq_1183 : (Jvm.Cond.static ({ cls := "BranchworkModel", name := "joined", desc := "([I[I)[I" } : Jvm.MethodName)) ∈ jw_T := jw_mem 1183 (by decide +kernel) (by decide +kernel)
theorem jq_1184 : (Jvm.Cond.code ({ cls := "BranchworkModel", name := "joined", desc := "([I[I)[I" } : Jvm.MethodName) prog_11_method_5_code (3 : Nat) (Option.some (Jvm.ClassFile.FieldType.array Jvm.ClassFile.FieldType.int))) ∈ jw_T := jw_mem 1184 (by decide +kernel) (by decide +kernel)
theorem jq_1185 : (Jvm.Cond.methodLink "BranchworkModel" (118 : Nat) ({ cls := "BranchworkModel", name := "write", desc := "(I[I)V" } : Jvm.MethodName)) ∈ jw_T := jw_mem 1185 (by decide +kernel) (by decide +kernel)
theorem jq_1187 : (Jvm.Cond.instanceMethod ({ cls := "BranchworkModel", name := "write", desc := "(I[I)V" } : Jvm.MethodName)) ∈ jw_T := jw_mem 1187 (by decide +kernel) (by decide +kernel)
theorem jq_1188 : (Jvm.Cond.code ({ cls := "BranchworkModel", name := "write", desc := "(I[I)V" } : Jvm.MethodName) prog_11_method_17_code (3 : Nat) (Option.none : Option Jvm.ClassFile.FieldType)) ∈ jw_T := jw_mem 1188 (by decide +kernel) (by decide +kernel)
theorem jq_1189 : (Jvm.Cond.methodLink "BranchworkModel" (102 : Nat) ({ cls := "BranchworkModel$Tree", name := "copy", desc := "()LBranchworkModel$Tree;" } : Jvm.MethodName)) ∈ jw_T := jw_mem 1189 (by decide +kernel) (by decide +kernel)
theorem jq_1190 : (Jvm.Cond.instanceMethod ({ cls := "BranchworkModel$Tree", name := "copy", desc := "()LBranchworkModel$Tree;" } : Jvm.MethodName)) ∈ jw_T := jw_mem 1190 (by decide +kernel) (by decide +kernel)
theorem jq_1191 : (Jvm.Cond.selects "BranchworkModel$Tree" ({ cls := "BranchworkModel$Tree", name := "copy", desc := "()LBranchworkModel$Tree;" } : Jvm.MethodName) ({ cls := "BranchworkModel$Tree", name := "copy", desc := "()LBranchworkModel$Tree;" } : Jvm.MethodName)) ∈ jw_T := jw_mem 1191 (by decide +kernel) (by decide +kernel)
theorem jq_1192 : (Jvm.Cond.code ({ cls := "BranchworkModel$Tree", name := "copy", desc := "()LBranchworkModel$Tree;" } : Jvm.MethodName) prog_15_method_2_code (2 : Nat) (Option.some (Jvm.ClassFile.FieldType.object "BranchworkModel$Tree"))) ∈ jw_T := jw_mem 1192 (by decide +kernel) (by decide +kernel)
theorem jq_1193 : (Jvm.Cond.classLink "BranchworkModel$Tree" (12 : Nat) "BranchworkModel$Tree") ∈ jw_T := jw_mem 1193 (by decide +kernel) (by decide +kernel)
theorem jq_1194 : (Jvm.Cond.methodLink "BranchworkModel$Tree" (17 : Nat) ({ cls := "BranchworkModel$Tree", name := "<init>", desc := "()V" } : Jvm.MethodName)) ∈ jw_T := jw_mem 1194 (by decide +kernel) (by decide +kernel)
theorem jq_1195 : (Jvm.Cond.methodLink "BranchworkModel$Tree" (18 : Nat) ({ cls := "java/lang/System", name := "arraycopy", desc := "(Ljava/lang/Object;ILjava/lang/Object;II)V" } : Jvm.MethodName)) ∈ jw_T := jw_mem 1195 (by decide +kernel) (by decide +kernel)
theorem jq_1196 : (Jvm.Cond.methodLink "BranchworkLaw" (108 : Nat) ({ cls := "BranchworkModel", name := "cut", desc := "(II)I" } : Jvm.MethodName)) ∈ jw_T := jw_mem 1196 (by decide +kernel) (by decide +kernel)
theorem jq_1197 : (Jvm.Cond.instanceMethod ({ cls := "BranchworkModel", name := "cut", desc := "(II)I" } : Jvm.MethodName)) ∈ jw_T := jw_mem 1197 (by decide +kernel) (by decide +kernel)
theorem jq_1198 : (Jvm.Cond.selects "BranchworkModel" ({ cls := "BranchworkModel", name := "cut", desc := "(II)I" } : Jvm.MethodName) ({ cls := "BranchworkModel", name := "cut", desc := "(II)I" } : Jvm.MethodName)) ∈ jw_T := jw_mem 1198 (by decide +kernel) (by decide +kernel)
theorem jq_1199 : (Jvm.Cond.code ({ cls := "BranchworkModel", name := "cut", desc := "(II)I" } : Jvm.MethodName) prog_11_method_19_code (4 : Nat) (Option.some Jvm.ClassFile.FieldType.int)) ∈ jw_T := jw_mem 1199 (by decide +kernel) (by decide +kernel)
theorem jq_1200 : (Jvm.Cond.methodLink "BranchworkModel" (122 : Nat) ({ cls := "BranchworkModel", name := "isNoFile", desc := "(I)Z" } : Jvm.MethodName)) ∈ jw_T := jw_mem 1200 (by decide +kernel) (by decide +kernel)
theorem jq_1202 : (Jvm.Cond.instanceMethod ({ cls := "BranchworkModel", name := "isNoFile", desc := "(I)Z" } : Jvm.MethodName)) ∈ jw_T := jw_mem 1202 (by decide +kernel) (by decide +kernel)
theorem jq_1203 : (Jvm.Cond.code ({ cls := "BranchworkModel", name := "isNoFile", desc := "(I)Z" } : Jvm.MethodName) prog_11_method_12_code (2 : Nat) (Option.some Jvm.ClassFile.FieldType.boolean)) ∈ jw_T := jw_mem 1203 (by decide +kernel) (by decide +kernel)
theorem jq_1204 : (Jvm.Cond.methodLink "BranchworkLaw" (111 : Nat) ({ cls := "BranchworkModel", name := "rename", desc := "(II)I" } : Jvm.MethodName)) ∈ jw_T := jw_mem 1204 (by decide +kernel) (by decide +kernel)
theorem jq_1205 : (Jvm.Cond.instanceMethod ({ cls := "BranchworkModel", name := "rename", desc := "(II)I" } : Jvm.MethodName)) ∈ jw_T := jw_mem 1205 (by decide +kernel) (by decide +kernel)
theorem jq_1206 : (Jvm.Cond.selects "BranchworkModel" ({ cls := "BranchworkModel", name := "rename", desc := "(II)I" } : Jvm.MethodName) ({ cls := "BranchworkModel", name := "rename", desc := "(II)I" } : Jvm.MethodName)) ∈ jw_T := jw_mem 1206 (by decide +kernel) (by decide +kernel)
theorem jq_1207 : (Jvm.Cond.code ({ cls := "BranchworkModel", name := "rename", desc := "(II)I" } : Jvm.MethodName) prog_11_method_20_code (4 : Nat) (Option.some Jvm.ClassFile.FieldType.int)) ∈ jw_T := jw_mem 1207 (by decide +kernel) (by decide +kernel)
theorem jq_1208 : (Jvm.Cond.methodLink "BranchworkLaw" (115 : Nat) ({ cls := "BranchworkModel", name := "remove", desc := "(I)I" } : Jvm.MethodName)) ∈ jw_T := jw_mem 1208 (by decide +kernel) (by decide +kernel)
theorem jq_1209 : (Jvm.Cond.instanceMethod ({ cls := "BranchworkModel", name := "remove", desc := "(I)I" } : Jvm.MethodName)) ∈ jw_T := jw_mem 1209 (by decide +kernel) (by decide +kernel)
theorem jq_1210 : (Jvm.Cond.selects "BranchworkModel" ({ cls := "BranchworkModel", name := "remove", desc := "(I)I" } : Jvm.MethodName) ({ cls := "BranchworkModel", name := "remove", desc := "(I)I" } : Jvm.MethodName)) ∈ jw_T := jw_mem 1210 (by decide +kernel) (by decide +kernel)
theorem jq_1211 : (Jvm.Cond.code ({ cls := "BranchworkModel", name := "remove", desc := "(I)I" } : Jvm.MethodName) prog_11_method_21_code (2 : Nat) (Option.some Jvm.ClassFile.FieldType.int)) ∈ jw_T := jw_mem 1211 (by decide +kernel) (by decide +kernel)
theorem jq_1212 : (Jvm.Cond.methodLink "BranchworkModel" (125 : Nat) ({ cls := "BranchworkModel$Tree", name := "size", desc := "()I" } : Jvm.MethodName)) ∈ jw_T := jw_mem 1212 (by decide +kernel) (by decide +kernel)
theorem jq_1213 : (Jvm.Cond.instanceMethod ({ cls := "BranchworkModel$Tree", name := "size", desc := "()I" } : Jvm.MethodName)) ∈ jw_T := jw_mem 1213 (by decide +kernel) (by decide +kernel)
theorem jq_1214 : (Jvm.Cond.selects "BranchworkModel$Tree" ({ cls := "BranchworkModel$Tree", name := "size", desc := "()I" } : Jvm.MethodName) ({ cls := "BranchworkModel$Tree", name := "size", desc := "()I" } : Jvm.MethodName)) ∈ jw_T := jw_mem 1214 (by decide +kernel) (by decide +kernel)
theorem jq_1215 : (Jvm.Cond.code ({ cls := "BranchworkModel$Tree", name := "size", desc := "()I" } : Jvm.MethodName) prog_15_method_5_code (3 : Nat) (Option.some Jvm.ClassFile.FieldType.int)) ∈ jw_T := jw_mem 1215 (by decide +kernel) (by decide +kernel)
theorem jq_1216 : (Jvm.Cond.methodLink "BranchworkModel$Tree" (28 : Nat) ({ cls := "BranchworkModel$Tree", name := "has", desc := "(I)Z" } : Jvm.MethodName)) ∈ jw_T := jw_mem 1216 (by decide +kernel) (by decide +kernel)
theorem jq_1217 : (Jvm.Cond.methodLink "BranchworkLaw" (118 : Nat) ({ cls := "BranchworkModel", name := "status", desc := "(I)I" } : Jvm.MethodName)) ∈ jw_T := jw_mem 1217 (by decide +kernel) (by decide +kernel)
theorem jq_1218 : (Jvm.Cond.instanceMethod ({ cls := "BranchworkModel", name := "status", desc := "(I)I" } : Jvm.MethodName)) ∈ jw_T := jw_mem 1218 (by decide +kernel) (by decide +kernel)
theorem jq_1219 : (Jvm.Cond.selects "BranchworkModel" ({ cls := "BranchworkModel", name := "status", desc := "(I)I" } : Jvm.MethodName) ({ cls := "BranchworkModel", name := "status", desc := "(I)I" } : Jvm.MethodName)) ∈ jw_T := jw_mem 1219 (by decide +kernel) (by decide +kernel)
theorem jq_1220 : (Jvm.Cond.code ({ cls := "BranchworkModel", name := "status", desc := "(I)I" } : Jvm.MethodName) prog_11_method_23_code (2 : Nat) (Option.some Jvm.ClassFile.FieldType.int)) ∈ jw_T := jw_mem 1220 (by decide +kernel) (by decide +kernel)
theorem jq_1221 : (Jvm.Cond.methodLink "BranchworkModel" (130 : Nat) ({ cls := "BranchworkModel", name := "statusOf", desc := "(I)I" } : Jvm.MethodName)) ∈ jw_T := jw_mem 1221 (by decide +kernel) (by decide +kernel)
theorem jq_1223 : (Jvm.Cond.instanceMethod ({ cls := "BranchworkModel", name := "statusOf", desc := "(I)I" } : Jvm.MethodName)) ∈ jw_T := jw_mem 1223 (by decide +kernel) (by decide +kernel)
theorem jq_1224 : (Jvm.Cond.code ({ cls := "BranchworkModel", name := "statusOf", desc := "(I)I" } : Jvm.MethodName) prog_11_method_22_code (3 : Nat) (Option.some Jvm.ClassFile.FieldType.int)) ∈ jw_T := jw_mem 1224 (by decide +kernel) (by decide +kernel)
theorem jq_1225 : (Jvm.Cond.methodLink "BranchworkModel" (94 : Nat) ({ cls := "BranchworkModel", name := "headTree", desc := "()LBranchworkModel$Tree;" } : Jvm.MethodName)) ∈ jw_T := jw_mem 1225 (by decide +kernel) (by decide +kernel)
theorem jq_1227 : (Jvm.Cond.instanceMethod ({ cls := "BranchworkModel", name := "headTree", desc := "()LBranchworkModel$Tree;" } : Jvm.MethodName)) ∈ jw_T := jw_mem 1227 (by decide +kernel) (by decide +kernel)
theorem jq_1228 : (Jvm.Cond.code ({ cls := "BranchworkModel", name := "headTree", desc := "()LBranchworkModel$Tree;" } : Jvm.MethodName) prog_11_method_15_code (1 : Nat) (Option.some (Jvm.ClassFile.FieldType.object "BranchworkModel$Tree"))) ∈ jw_T := jw_mem 1228 (by decide +kernel) (by decide +kernel)
theorem jq_1229 : (Jvm.Cond.methodLink "BranchworkModel" (87 : Nat) ({ cls := "BranchworkModel", name := "head", desc := "()LBranchworkModel$Commit;" } : Jvm.MethodName)) ∈ jw_T := jw_mem 1229 (by decide +kernel) (by decide +kernel)
theorem jq_1231 : (Jvm.Cond.instanceMethod ({ cls := "BranchworkModel", name := "head", desc := "()LBranchworkModel$Commit;" } : Jvm.MethodName)) ∈ jw_T := jw_mem 1231 (by decide +kernel) (by decide +kernel)
theorem jq_1232 : (Jvm.Cond.code ({ cls := "BranchworkModel", name := "head", desc := "()LBranchworkModel$Commit;" } : Jvm.MethodName) prog_11_method_14_code (1 : Nat) (Option.some (Jvm.ClassFile.FieldType.object "BranchworkModel$Commit"))) ∈ jw_T := jw_mem 1232 (by decide +kernel) (by decide +kernel)
theorem jq_1233 : (Jvm.Cond.methodLink "BranchworkModel" (74 : Nat) ({ cls := "java/util/ArrayList", name := "get", desc := "(I)Ljava/lang/Object;" } : Jvm.MethodName)) ∈ jw_T := jw_mem 1233 (by decide +kernel) (by decide +kernel)
theorem jq_1234 : (Jvm.Cond.instanceMethod ({ cls := "java/util/ArrayList", name := "get", desc := "(I)Ljava/lang/Object;" } : Jvm.MethodName)) ∈ jw_T := jw_mem 1234 (by decide +kernel) (by decide +kernel)
theorem jq_1235 : (Jvm.Cond.selects "java/util/ArrayList" ({ cls := "java/util/ArrayList", name := "get", desc := "(I)Ljava/lang/Object;" } : Jvm.MethodName) ({ cls := "java/util/ArrayList", name := "get", desc := "(I)Ljava/lang/Object;" } : Jvm.MethodName)) ∈ jw_T := jw_mem 1235 (by decide +kernel) (by decide +kernel)
theorem jq_1236 : (Jvm.Cond.code ({ cls := "java/util/ArrayList", name := "get", desc := "(I)Ljava/lang/Object;" } : Jvm.MethodName) prog_31_method_20_code (2 : Nat) (Option.some (Jvm.ClassFile.FieldType.object "java/lang/Object"))) ∈ jw_T := jw_mem 1236 (by decide +kernel) (by decide +kernel)
theorem jq_1237 : (Jvm.Cond.methodLink "java/util/ArrayList" (118 : Nat) ({ cls := "java/util/Objects", name := "checkIndex", desc := "(II)I" } : Jvm.MethodName)) ∈ jw_T := jw_mem 1237 (by decide +kernel) (by decide +kernel)
theorem jq_1238 : (Jvm.Cond.static ({ cls := "java/util/Objects", name := "checkIndex", desc := "(II)I" } : Jvm.MethodName)) ∈ jw_T := jw_mem 1238 (by decide +kernel) (by decide +kernel)
theorem jq_1239 : (Jvm.Cond.code ({ cls := "java/util/Objects", name := "checkIndex", desc := "(II)I" } : Jvm.MethodName) prog_35_method_17_code (2 : Nat) (Option.some Jvm.ClassFile.FieldType.int)) ∈ jw_T := jw_mem 1239 (by decide +kernel) (by decide +kernel)
theorem jq_1240 : (Jvm.Cond.methodLink "java/util/Objects" (105 : Nat) ({ cls := "jdk/internal/util/Preconditions", name := "checkIndex", desc := "(IILjava/util/function/BiFunction;)I" } : Jvm.MethodName)) ∈ jw_T := jw_mem 1240 (by decide +kernel) (by decide +kernel)
theorem jq_1241 : (Jvm.Cond.static ({ cls := "jdk/internal/util/Preconditions", name := "checkIndex", desc := "(IILjava/util/function/BiFunction;)I" } : Jvm.MethodName)) ∈ jw_T := jw_mem 1241 (by decide +kernel) (by decide +kernel)
theorem jq_1242 : (Jvm.Cond.code ({ cls := "jdk/internal/util/Preconditions", name := "checkIndex", desc := "(IILjava/util/function/BiFunction;)I" } : Jvm.MethodName) prog_39_method_11_code (3 : Nat) (Option.some Jvm.ClassFile.FieldType.int)) ∈ jw_T := jw_mem 1242 (by decide +kernel) (by decide +kernel)
theorem jq_1243 : (Jvm.Cond.methodLink "java/util/ArrayList" (123 : Nat) ({ cls := "java/util/ArrayList", name := "elementData", desc := "(I)Ljava/lang/Object;" } : Jvm.MethodName)) ∈ jw_T := jw_mem 1243 (by decide +kernel) (by decide +kernel)
theorem jq_1244 : (Jvm.Cond.instanceMethod ({ cls := "java/util/ArrayList", name := "elementData", desc := "(I)Ljava/lang/Object;" } : Jvm.MethodName)) ∈ jw_T := jw_mem 1244 (by decide +kernel) (by decide +kernel)
theorem jq_1245 : (Jvm.Cond.selects "java/util/ArrayList" ({ cls := "java/util/ArrayList", name := "elementData", desc := "(I)Ljava/lang/Object;" } : Jvm.MethodName) ({ cls := "java/util/ArrayList", name := "elementData", desc := "(I)Ljava/lang/Object;" } : Jvm.MethodName)) ∈ jw_T := jw_mem 1245 (by decide +kernel) (by decide +kernel)
theorem jq_1246 : (Jvm.Cond.code ({ cls := "java/util/ArrayList", name := "elementData", desc := "(I)Ljava/lang/Object;" } : Jvm.MethodName) prog_31_method_18_code (2 : Nat) (Option.some (Jvm.ClassFile.FieldType.object "java/lang/Object"))) ∈ jw_T := jw_mem 1246 (by decide +kernel) (by decide +kernel)
theorem jq_1247 : (Jvm.Cond.classLink "BranchworkModel" (78 : Nat) "BranchworkModel$Commit") ∈ jw_T := jw_mem 1247 (by decide +kernel) (by decide +kernel)
theorem jq_1248 : (Jvm.Cond.methodLink "BranchworkModel" (126 : Nat) ({ cls := "BranchworkModel", name := "areSame", desc := "([I[I)Z" } : Jvm.MethodName)) ∈ jw_T := jw_mem 1248 (by decide +kernel) (by decide +kernel)
theorem jq_1249 : (Jvm.Cond.static ({ cls := "BranchworkModel", name := "areSame", desc := "([I[I)Z" } : Jvm.MethodName)) ∈ jw_T := jw_mem 1249 (by decide +kernel) (by decide +kernel)
theorem jq_1250 : (Jvm.Cond.code ({ cls := "BranchworkModel", name := "areSame", desc := "([I[I)Z" } : Jvm.MethodName) prog_11_method_1_code (3 : Nat) (Option.some Jvm.ClassFile.FieldType.boolean)) ∈ jw_T := jw_mem 1250 (by decide +kernel) (by decide +kernel)
theorem jq_1251 : (Jvm.Cond.methodLink "BranchworkLaw" (121 : Nat) ({ cls := "BranchworkModel", name := "commit", desc := "(I)I" } : Jvm.MethodName)) ∈ jw_T := jw_mem 1251 (by decide +kernel) (by decide +kernel)
theorem jq_1252 : (Jvm.Cond.instanceMethod ({ cls := "BranchworkModel", name := "commit", desc := "(I)I" } : Jvm.MethodName)) ∈ jw_T := jw_mem 1252 (by decide +kernel) (by decide +kernel)
theorem jq_1253 : (Jvm.Cond.selects "BranchworkModel" ({ cls := "BranchworkModel", name := "commit", desc := "(I)I" } : Jvm.MethodName) ({ cls := "BranchworkModel", name := "commit", desc := "(I)I" } : Jvm.MethodName)) ∈ jw_T := jw_mem 1253 (by decide +kernel) (by decide +kernel)
theorem jq_1254 : (Jvm.Cond.code ({ cls := "BranchworkModel", name := "commit", desc := "(I)I" } : Jvm.MethodName) prog_11_method_25_code (3 : Nat) (Option.some Jvm.ClassFile.FieldType.int)) ∈ jw_T := jw_mem 1254 (by decide +kernel) (by decide +kernel)
theorem jq_1255 : (Jvm.Cond.methodLink "BranchworkModel" (70 : Nat) ({ cls := "java/util/ArrayList", name := "size", desc := "()I" } : Jvm.MethodName)) ∈ jw_T := jw_mem 1255 (by decide +kernel) (by decide +kernel)
theorem jq_1256 : (Jvm.Cond.instanceMethod ({ cls := "java/util/ArrayList", name := "size", desc := "()I" } : Jvm.MethodName)) ∈ jw_T := jw_mem 1256 (by decide +kernel) (by decide +kernel)
theorem jq_1257 : (Jvm.Cond.selects "java/util/ArrayList" ({ cls := "java/util/ArrayList", name := "size", desc := "()I" } : Jvm.MethodName) ({ cls := "java/util/ArrayList", name := "size", desc := "()I" } : Jvm.MethodName)) ∈ jw_T := jw_mem 1257 (by decide +kernel) (by decide +kernel)
theorem jq_1258 : (Jvm.Cond.code ({ cls := "java/util/ArrayList", name := "size", desc := "()I" } : Jvm.MethodName) prog_31_method_8_code (1 : Nat) (Option.some Jvm.ClassFile.FieldType.int)) ∈ jw_T := jw_mem 1258 (by decide +kernel) (by decide +kernel)
theorem jq_1259 : (Jvm.Cond.methodLink "BranchworkModel" (138 : Nat) ({ cls := "java/util/ArrayList", name := "isEmpty", desc := "()Z" } : Jvm.MethodName)) ∈ jw_T := jw_mem 1259 (by decide +kernel) (by decide +kernel)
theorem jq_1260 : (Jvm.Cond.instanceMethod ({ cls := "java/util/ArrayList", name := "isEmpty", desc := "()Z" } : Jvm.MethodName)) ∈ jw_T := jw_mem 1260 (by decide +kernel) (by decide +kernel)
theorem jq_1261 : (Jvm.Cond.selects "java/util/ArrayList" ({ cls := "java/util/ArrayList", name := "isEmpty", desc := "()Z" } : Jvm.MethodName) ({ cls := "java/util/ArrayList", name := "isEmpty", desc := "()Z" } : Jvm.MethodName)) ∈ jw_T := jw_mem 1261 (by decide +kernel) (by decide +kernel)
theorem jq_1262 : (Jvm.Cond.code ({ cls := "java/util/ArrayList", name := "isEmpty", desc := "()Z" } : Jvm.MethodName) prog_31_method_9_code (1 : Nat) (Option.some Jvm.ClassFile.FieldType.boolean)) ∈ jw_T := jw_mem 1262 (by decide +kernel) (by decide +kernel)
theorem jq_1263 : (Jvm.Cond.methodLink "BranchworkModel" (142 : Nat) ({ cls := "BranchworkModel", name := "isClean", desc := "()Z" } : Jvm.MethodName)) ∈ jw_T := jw_mem 1263 (by decide +kernel) (by decide +kernel)
theorem jq_1265 : (Jvm.Cond.instanceMethod ({ cls := "BranchworkModel", name := "isClean", desc := "()Z" } : Jvm.MethodName)) ∈ jw_T := jw_mem 1265 (by decide +kernel) (by decide +kernel)
theorem jq_1266 : (Jvm.Cond.code ({ cls := "BranchworkModel", name := "isClean", desc := "()Z" } : Jvm.MethodName) prog_11_method_16_code (1 : Nat) (Option.some Jvm.ClassFile.FieldType.boolean)) ∈ jw_T := jw_mem 1266 (by decide +kernel) (by decide +kernel)
theorem jq_1267 : (Jvm.Cond.methodLink "BranchworkModel" (98 : Nat) ({ cls := "BranchworkModel$Tree", name := "isAs", desc := "(LBranchworkModel$Tree;)Z" } : Jvm.MethodName)) ∈ jw_T := jw_mem 1267 (by decide +kernel) (by decide +kernel)
theorem jq_1268 : (Jvm.Cond.instanceMethod ({ cls := "BranchworkModel$Tree", name := "isAs", desc := "(LBranchworkModel$Tree;)Z" } : Jvm.MethodName)) ∈ jw_T := jw_mem 1268 (by decide +kernel) (by decide +kernel)
theorem jq_1269 : (Jvm.Cond.selects "BranchworkModel$Tree" ({ cls := "BranchworkModel$Tree", name := "isAs", desc := "(LBranchworkModel$Tree;)Z" } : Jvm.MethodName) ({ cls := "BranchworkModel$Tree", name := "isAs", desc := "(LBranchworkModel$Tree;)Z" } : Jvm.MethodName)) ∈ jw_T := jw_mem 1269 (by decide +kernel) (by decide +kernel)
theorem jq_1270 : (Jvm.Cond.code ({ cls := "BranchworkModel$Tree", name := "isAs", desc := "(LBranchworkModel$Tree;)Z" } : Jvm.MethodName) prog_15_method_4_code (3 : Nat) (Option.some Jvm.ClassFile.FieldType.boolean)) ∈ jw_T := jw_mem 1270 (by decide +kernel) (by decide +kernel)
theorem jq_1272 : (Jvm.Cond.instantiable "BranchworkModel$Commit" (6 : Nat)) ∈ jw_T := jw_mem 1272 (by decide +kernel) (by decide +kernel)
theorem jq_1273 : (Jvm.Cond.methodLink "BranchworkModel" (149 : Nat) ({ cls := "BranchworkModel$Commit", name := "<init>", desc := "(ILBranchworkModel$Tree;ILBranchworkModel$Commit;LBranchworkModel$Commit;)V" } : Jvm.MethodName)) ∈ jw_T := jw_mem 1273 (by decide +kernel) (by decide +kernel)
theorem jq_1274 : (Jvm.Cond.instanceMethod ({ cls := "BranchworkModel$Commit", name := "<init>", desc := "(ILBranchworkModel$Tree;ILBranchworkModel$Commit;LBranchworkModel$Commit;)V" } : Jvm.MethodName)) ∈ jw_T := jw_mem 1274 (by decide +kernel) (by decide +kernel)
theorem jq_1275 : (Jvm.Cond.code ({ cls := "BranchworkModel$Commit", name := "<init>", desc := "(ILBranchworkModel$Tree;ILBranchworkModel$Commit;LBranchworkModel$Commit;)V" } : Jvm.MethodName) prog_13_method_1_code (6 : Nat) (Option.none : Option Jvm.ClassFile.FieldType)) ∈ jw_T := jw_mem 1275 (by decide +kernel) (by decide +kernel)
theorem jq_1276 : (Jvm.Cond.methodLink "BranchworkModel$Commit" (3 : Nat) ({ cls := "java/lang/Object", name := "<init>", desc := "()V" } : Jvm.MethodName)) ∈ jw_T := jw_mem 1276 (by decide +kernel) (by decide +kernel)
theorem jq_1277 : (Jvm.Cond.fieldLink "BranchworkModel$Commit" (9 : Nat) "BranchworkModel$Commit" "number" "I") ∈ jw_T := jw_mem 1277 (by decide +kernel) (by decide +kernel)
theorem jq_1278 : (Jvm.Cond.fieldLink "BranchworkModel" (152 : Nat) "BranchworkModel$Commit" "number" "I") ∈ jw_T := jw_mem 1278 (by decide +kernel) (by decide +kernel)
theorem jq_1279 : (Jvm.Cond.fieldLink "BranchworkModel$Commit" (15 : Nat) "BranchworkModel$Commit" "tree" "LBranchworkModel$Tree;") ∈ jw_T := jw_mem 1279 (by decide +kernel) (by decide +kernel)
theorem jq_1280 : (Jvm.Cond.fieldLink "BranchworkModel" (91 : Nat) "BranchworkModel$Commit" "tree" "LBranchworkModel$Tree;") ∈ jw_T := jw_mem 1280 (by decide +kernel) (by decide +kernel)
theorem jq_1281 : (Jvm.Cond.fieldLink "BranchworkModel$Commit" (19 : Nat) "BranchworkModel$Commit" "note" "I") ∈ jw_T := jw_mem 1281 (by decide +kernel) (by decide +kernel)
theorem jq_1282 : (Jvm.Cond.fieldLink "BranchworkModel" (237 : Nat) "BranchworkModel$Commit" "note" "I") ∈ jw_T := jw_mem 1282 (by decide +kernel) (by decide +kernel)
theorem jq_1283 : (Jvm.Cond.fieldLink "BranchworkModel$Commit" (22 : Nat) "BranchworkModel$Commit" "first" "LBranchworkModel$Commit;") ∈ jw_T := jw_mem 1283 (by decide +kernel) (by decide +kernel)
theorem jq_1284 : (Jvm.Cond.fieldLink "BranchworkModel" (231 : Nat) "BranchworkModel$Commit" "first" "LBranchworkModel$Commit;") ∈ jw_T := jw_mem 1284 (by decide +kernel) (by decide +kernel)
theorem jq_1285 : (Jvm.Cond.fieldLink "BranchworkModel$Commit" (26 : Nat) "BranchworkModel$Commit" "second" "LBranchworkModel$Commit;") ∈ jw_T := jw_mem 1285 (by decide +kernel) (by decide +kernel)
theorem jq_1286 : (Jvm.Cond.fieldLink "BranchworkModel" (234 : Nat) "BranchworkModel$Commit" "second" "LBranchworkModel$Commit;") ∈ jw_T := jw_mem 1286 (by decide +kernel) (by decide +kernel)
theorem jq_1287 : (Jvm.Cond.fieldLink "BranchworkModel" (80 : Nat) "BranchworkModel$Commit" "isGone" "Z") ∈ jw_T := jw_mem 1287 (by decide +kernel) (by decide +kernel)
theorem jq_1301 : (Jvm.Cond.methodLink "BranchworkModel" (134 : Nat) ({ cls := "java/util/ArrayList", name := "set", desc := "(ILjava/lang/Object;)Ljava/lang/Object;" } : Jvm.MethodName)) ∈ jw_T := jw_mem 1301 (by decide +kernel) (by decide +kernel)
theorem jq_1302 : (Jvm.Cond.instanceMethod ({ cls := "java/util/ArrayList", name := "set", desc := "(ILjava/lang/Object;)Ljava/lang/Object;" } : Jvm.MethodName)) ∈ jw_T := jw_mem 1302 (by decide +kernel) (by decide +kernel)
theorem jq_1303 : (Jvm.Cond.selects "java/util/ArrayList" ({ cls := "java/util/ArrayList", name := "set", desc := "(ILjava/lang/Object;)Ljava/lang/Object;" } : Jvm.MethodName) ({ cls := "java/util/ArrayList", name := "set", desc := "(ILjava/lang/Object;)Ljava/lang/Object;" } : Jvm.MethodName)) ∈ jw_T := jw_mem 1303 (by decide +kernel) (by decide +kernel)
theorem jq_1304 : (Jvm.Cond.code ({ cls := "java/util/ArrayList", name := "set", desc := "(ILjava/lang/Object;)Ljava/lang/Object;" } : Jvm.MethodName) prog_31_method_23_code (4 : Nat) (Option.some (Jvm.ClassFile.FieldType.object "java/lang/Object"))) ∈ jw_T := jw_mem 1304 (by decide +kernel) (by decide +kernel)
theorem jq_1305 : (Jvm.Cond.methodLink "BranchworkLaw" (125 : Nat) ({ cls := "BranchworkModel", name := "branch", desc := "()I" } : Jvm.MethodName)) ∈ jw_T := jw_mem 1305 (by decide +kernel) (by decide +kernel)
theorem jq_1306 : (Jvm.Cond.instanceMethod ({ cls := "BranchworkModel", name := "branch", desc := "()I" } : Jvm.MethodName)) ∈ jw_T := jw_mem 1306 (by decide +kernel) (by decide +kernel)
theorem jq_1307 : (Jvm.Cond.selects "BranchworkModel" ({ cls := "BranchworkModel", name := "branch", desc := "()I" } : Jvm.MethodName) ({ cls := "BranchworkModel", name := "branch", desc := "()I" } : Jvm.MethodName)) ∈ jw_T := jw_mem 1307 (by decide +kernel) (by decide +kernel)
theorem jq_1308 : (Jvm.Cond.code ({ cls := "BranchworkModel", name := "branch", desc := "()I" } : Jvm.MethodName) prog_11_method_26_code (1 : Nat) (Option.some Jvm.ClassFile.FieldType.int)) ∈ jw_T := jw_mem 1308 (by decide +kernel) (by decide +kernel)
theorem jq_1309 : (Jvm.Cond.methodLink "BranchworkLaw" (128 : Nat) ({ cls := "BranchworkModel", name := "change", desc := "(I)I" } : Jvm.MethodName)) ∈ jw_T := jw_mem 1309 (by decide +kernel) (by decide +kernel)
theorem jq_1310 : (Jvm.Cond.instanceMethod ({ cls := "BranchworkModel", name := "change", desc := "(I)I" } : Jvm.MethodName)) ∈ jw_T := jw_mem 1310 (by decide +kernel) (by decide +kernel)
theorem jq_1311 : (Jvm.Cond.selects "BranchworkModel" ({ cls := "BranchworkModel", name := "change", desc := "(I)I" } : Jvm.MethodName) ({ cls := "BranchworkModel", name := "change", desc := "(I)I" } : Jvm.MethodName)) ∈ jw_T := jw_mem 1311 (by decide +kernel) (by decide +kernel)
theorem jq_1312 : (Jvm.Cond.code ({ cls := "BranchworkModel", name := "change", desc := "(I)I" } : Jvm.MethodName) prog_11_method_28_code (3 : Nat) (Option.some Jvm.ClassFile.FieldType.int)) ∈ jw_T := jw_mem 1312 (by decide +kernel) (by decide +kernel)
theorem jq_1313 : (Jvm.Cond.methodLink "BranchworkModel" (155 : Nat) ({ cls := "BranchworkModel", name := "isNoBranch", desc := "(I)Z" } : Jvm.MethodName)) ∈ jw_T := jw_mem 1313 (by decide +kernel) (by decide +kernel)
theorem jq_1315 : (Jvm.Cond.instanceMethod ({ cls := "BranchworkModel", name := "isNoBranch", desc := "(I)Z" } : Jvm.MethodName)) ∈ jw_T := jw_mem 1315 (by decide +kernel) (by decide +kernel)
theorem jq_1316 : (Jvm.Cond.code ({ cls := "BranchworkModel", name := "isNoBranch", desc := "(I)Z" } : Jvm.MethodName) prog_11_method_27_code (2 : Nat) (Option.some Jvm.ClassFile.FieldType.boolean)) ∈ jw_T := jw_mem 1316 (by decide +kernel) (by decide +kernel)
theorem jq_1317 : (Jvm.Cond.methodLink "BranchworkLaw" (131 : Nat) ({ cls := "BranchworkModel", name := "reset", desc := "(I)I" } : Jvm.MethodName)) ∈ jw_T := jw_mem 1317 (by decide +kernel) (by decide +kernel)
theorem jq_1318 : (Jvm.Cond.instanceMethod ({ cls := "BranchworkModel", name := "reset", desc := "(I)I" } : Jvm.MethodName)) ∈ jw_T := jw_mem 1318 (by decide +kernel) (by decide +kernel)
theorem jq_1319 : (Jvm.Cond.selects "BranchworkModel" ({ cls := "BranchworkModel", name := "reset", desc := "(I)I" } : Jvm.MethodName) ({ cls := "BranchworkModel", name := "reset", desc := "(I)I" } : Jvm.MethodName)) ∈ jw_T := jw_mem 1319 (by decide +kernel) (by decide +kernel)
theorem jq_1320 : (Jvm.Cond.code ({ cls := "BranchworkModel", name := "reset", desc := "(I)I" } : Jvm.MethodName) prog_11_method_29_code (3 : Nat) (Option.some Jvm.ClassFile.FieldType.int)) ∈ jw_T := jw_mem 1320 (by decide +kernel) (by decide +kernel)
theorem jq_1321 : (Jvm.Cond.methodLink "BranchworkModel" (158 : Nat) ({ cls := "BranchworkModel", name := "isNoCommit", desc := "(I)Z" } : Jvm.MethodName)) ∈ jw_T := jw_mem 1321 (by decide +kernel) (by decide +kernel)
theorem jq_1323 : (Jvm.Cond.instanceMethod ({ cls := "BranchworkModel", name := "isNoCommit", desc := "(I)Z" } : Jvm.MethodName)) ∈ jw_T := jw_mem 1323 (by decide +kernel) (by decide +kernel)
theorem jq_1324 : (Jvm.Cond.code ({ cls := "BranchworkModel", name := "isNoCommit", desc := "(I)Z" } : Jvm.MethodName) prog_11_method_13_code (2 : Nat) (Option.some Jvm.ClassFile.FieldType.boolean)) ∈ jw_T := jw_mem 1324 (by decide +kernel) (by decide +kernel)
theorem jq_1325 : (Jvm.Cond.methodLink "BranchworkModel" (161 : Nat) ({ cls := "BranchworkModel", name := "set", desc := "(LBranchworkModel$Commit;)V" } : Jvm.MethodName)) ∈ jw_T := jw_mem 1325 (by decide +kernel) (by decide +kernel)
theorem jq_1327 : (Jvm.Cond.instanceMethod ({ cls := "BranchworkModel", name := "set", desc := "(LBranchworkModel$Commit;)V" } : Jvm.MethodName)) ∈ jw_T := jw_mem 1327 (by decide +kernel) (by decide +kernel)
theorem jq_1328 : (Jvm.Cond.code ({ cls := "BranchworkModel", name := "set", desc := "(LBranchworkModel$Commit;)V" } : Jvm.MethodName) prog_11_method_24_code (2 : Nat) (Option.none : Option Jvm.ClassFile.FieldType)) ∈ jw_T := jw_mem 1328 (by decide +kernel) (by decide +kernel)
theorem jq_1329 : (Jvm.Cond.methodLink "BranchworkModel" (164 : Nat) ({ cls := "java/util/ArrayList", name := "clear", desc := "()V" } : Jvm.MethodName)) ∈ jw_T := jw_mem 1329 (by decide +kernel) (by decide +kernel)
theorem jq_1330 : (Jvm.Cond.instanceMethod ({ cls := "java/util/ArrayList", name := "clear", desc := "()V" } : Jvm.MethodName)) ∈ jw_T := jw_mem 1330 (by decide +kernel) (by decide +kernel)
theorem jq_1331 : (Jvm.Cond.selects "java/util/ArrayList" ({ cls := "java/util/ArrayList", name := "clear", desc := "()V" } : Jvm.MethodName) ({ cls := "java/util/ArrayList", name := "clear", desc := "()V" } : Jvm.MethodName)) ∈ jw_T := jw_mem 1331 (by decide +kernel) (by decide +kernel)
theorem jq_1332 : (Jvm.Cond.code ({ cls := "java/util/ArrayList", name := "clear", desc := "()V" } : Jvm.MethodName) prog_31_method_40_code (4 : Nat) (Option.none : Option Jvm.ClassFile.FieldType)) ∈ jw_T := jw_mem 1332 (by decide +kernel) (by decide +kernel)
theorem jq_1333 : (Jvm.Cond.methodLink "BranchworkLaw" (134 : Nat) ({ cls := "BranchworkModel", name := "merge", desc := "(I)I" } : Jvm.MethodName)) ∈ jw_T := jw_mem 1333 (by decide +kernel) (by decide +kernel)
theorem jq_1334 : (Jvm.Cond.instanceMethod ({ cls := "BranchworkModel", name := "merge", desc := "(I)I" } : Jvm.MethodName)) ∈ jw_T := jw_mem 1334 (by decide +kernel) (by decide +kernel)
theorem jq_1335 : (Jvm.Cond.selects "BranchworkModel" ({ cls := "BranchworkModel", name := "merge", desc := "(I)I" } : Jvm.MethodName) ({ cls := "BranchworkModel", name := "merge", desc := "(I)I" } : Jvm.MethodName)) ∈ jw_T := jw_mem 1335 (by decide +kernel) (by decide +kernel)
theorem jq_1336 : (Jvm.Cond.code ({ cls := "BranchworkModel", name := "merge", desc := "(I)I" } : Jvm.MethodName) prog_11_method_30_code (4 : Nat) (Option.some Jvm.ClassFile.FieldType.int)) ∈ jw_T := jw_mem 1336 (by decide +kernel) (by decide +kernel)
theorem jq_1337 : (Jvm.Cond.methodLink "BranchworkModel" (167 : Nat) ({ cls := "BranchworkModel$Commit", name := "comesOf", desc := "(LBranchworkModel$Commit;)Z" } : Jvm.MethodName)) ∈ jw_T := jw_mem 1337 (by decide +kernel) (by decide +kernel)
theorem jq_1338 : (Jvm.Cond.instanceMethod ({ cls := "BranchworkModel$Commit", name := "comesOf", desc := "(LBranchworkModel$Commit;)Z" } : Jvm.MethodName)) ∈ jw_T := jw_mem 1338 (by decide +kernel) (by decide +kernel)
theorem jq_1339 : (Jvm.Cond.selects "BranchworkModel$Commit" ({ cls := "BranchworkModel$Commit", name := "comesOf", desc := "(LBranchworkModel$Commit;)Z" } : Jvm.MethodName) ({ cls := "BranchworkModel$Commit", name := "comesOf", desc := "(LBranchworkModel$Commit;)Z" } : Jvm.MethodName)) ∈ jw_T := jw_mem 1339 (by decide +kernel) (by decide +kernel)
theorem jq_1340 : (Jvm.Cond.code ({ cls := "BranchworkModel$Commit", name := "comesOf", desc := "(LBranchworkModel$Commit;)Z" } : Jvm.MethodName) prog_13_method_4_code (2 : Nat) (Option.some Jvm.ClassFile.FieldType.boolean)) ∈ jw_T := jw_mem 1340 (by decide +kernel) (by decide +kernel)
theorem jq_1341 : (Jvm.Cond.methodLink "BranchworkModel$Commit" (33 : Nat) ({ cls := "BranchworkModel$Commit", name := "ancestors", desc := "()[Z" } : Jvm.MethodName)) ∈ jw_T := jw_mem 1341 (by decide +kernel) (by decide +kernel)
theorem jq_1342 : (Jvm.Cond.instanceMethod ({ cls := "BranchworkModel$Commit", name := "ancestors", desc := "()[Z" } : Jvm.MethodName)) ∈ jw_T := jw_mem 1342 (by decide +kernel) (by decide +kernel)
theorem jq_1343 : (Jvm.Cond.selects "BranchworkModel$Commit" ({ cls := "BranchworkModel$Commit", name := "ancestors", desc := "()[Z" } : Jvm.MethodName) ({ cls := "BranchworkModel$Commit", name := "ancestors", desc := "()[Z" } : Jvm.MethodName)) ∈ jw_T := jw_mem 1343 (by decide +kernel) (by decide +kernel)
theorem jq_1344 : (Jvm.Cond.code ({ cls := "BranchworkModel$Commit", name := "ancestors", desc := "()[Z" } : Jvm.MethodName) prog_13_method_3_code (2 : Nat) (Option.some (Jvm.ClassFile.FieldType.array Jvm.ClassFile.FieldType.boolean))) ∈ jw_T := jw_mem 1344 (by decide +kernel) (by decide +kernel)
theorem jq_1345 : (Jvm.Cond.methodLink "BranchworkModel$Commit" (29 : Nat) ({ cls := "BranchworkModel$Commit", name := "reach", desc := "([Z)V" } : Jvm.MethodName)) ∈ jw_T := jw_mem 1345 (by decide +kernel) (by decide +kernel)
theorem jq_1346 : (Jvm.Cond.instanceMethod ({ cls := "BranchworkModel$Commit", name := "reach", desc := "([Z)V" } : Jvm.MethodName)) ∈ jw_T := jw_mem 1346 (by decide +kernel) (by decide +kernel)
theorem jq_1347 : (Jvm.Cond.selects "BranchworkModel$Commit" ({ cls := "BranchworkModel$Commit", name := "reach", desc := "([Z)V" } : Jvm.MethodName) ({ cls := "BranchworkModel$Commit", name := "reach", desc := "([Z)V" } : Jvm.MethodName)) ∈ jw_T := jw_mem 1347 (by decide +kernel) (by decide +kernel)
theorem jq_1348 : (Jvm.Cond.code ({ cls := "BranchworkModel$Commit", name := "reach", desc := "([Z)V" } : Jvm.MethodName) prog_13_method_2_code (2 : Nat) (Option.none : Option Jvm.ClassFile.FieldType)) ∈ jw_T := jw_mem 1348 (by decide +kernel) (by decide +kernel)
theorem jq_1349 : (Jvm.Cond.classLink "BranchworkModel" (171 : Nat) "BranchworkModel$Merge") ∈ jw_T := jw_mem 1349 (by decide +kernel) (by decide +kernel)
theorem jq_1350 : (Jvm.Cond.instantiable "BranchworkModel$Merge" (2 : Nat)) ∈ jw_T := jw_mem 1350 (by decide +kernel) (by decide +kernel)
theorem jq_1351 : (Jvm.Cond.methodLink "BranchworkModel" (173 : Nat) ({ cls := "BranchworkModel", name := "baseTree", desc := "(LBranchworkModel$Commit;LBranchworkModel$Commit;)LBranchworkModel$Tree;" } : Jvm.MethodName)) ∈ jw_T := jw_mem 1351 (by decide +kernel) (by decide +kernel)
theorem jq_1353 : (Jvm.Cond.instanceMethod ({ cls := "BranchworkModel", name := "baseTree", desc := "(LBranchworkModel$Commit;LBranchworkModel$Commit;)LBranchworkModel$Tree;" } : Jvm.MethodName)) ∈ jw_T := jw_mem 1353 (by decide +kernel) (by decide +kernel)
theorem jq_1354 : (Jvm.Cond.code ({ cls := "BranchworkModel", name := "baseTree", desc := "(LBranchworkModel$Commit;LBranchworkModel$Commit;)LBranchworkModel$Tree;" } : Jvm.MethodName) prog_11_method_53_code (3 : Nat) (Option.some (Jvm.ClassFile.FieldType.object "BranchworkModel$Tree"))) ∈ jw_T := jw_mem 1354 (by decide +kernel) (by decide +kernel)
theorem jq_1355 : (Jvm.Cond.methodLink "BranchworkModel" (251 : Nat) ({ cls := "BranchworkModel", name := "baseOf", desc := "(LBranchworkModel$Commit;LBranchworkModel$Commit;)LBranchworkModel$Commit;" } : Jvm.MethodName)) ∈ jw_T := jw_mem 1355 (by decide +kernel) (by decide +kernel)
theorem jq_1357 : (Jvm.Cond.instanceMethod ({ cls := "BranchworkModel", name := "baseOf", desc := "(LBranchworkModel$Commit;LBranchworkModel$Commit;)LBranchworkModel$Commit;" } : Jvm.MethodName)) ∈ jw_T := jw_mem 1357 (by decide +kernel) (by decide +kernel)
theorem jq_1358 : (Jvm.Cond.code ({ cls := "BranchworkModel", name := "baseOf", desc := "(LBranchworkModel$Commit;LBranchworkModel$Commit;)LBranchworkModel$Commit;" } : Jvm.MethodName) prog_11_method_52_code (6 : Nat) (Option.some (Jvm.ClassFile.FieldType.object "BranchworkModel$Commit"))) ∈ jw_T := jw_mem 1358 (by decide +kernel) (by decide +kernel)
theorem jq_1359 : (Jvm.Cond.methodLink "BranchworkModel" (228 : Nat) ({ cls := "BranchworkModel$Commit", name := "ancestors", desc := "()[Z" } : Jvm.MethodName)) ∈ jw_T := jw_mem 1359 (by decide +kernel) (by decide +kernel)
theorem jq_1360 : (Jvm.Cond.methodLink "BranchworkModel" (177 : Nat) ({ cls := "BranchworkModel$Merge", name := "<init>", desc := "(LBranchworkModel$Tree;LBranchworkModel$Tree;LBranchworkModel$Tree;)V" } : Jvm.MethodName)) ∈ jw_T := jw_mem 1360 (by decide +kernel) (by decide +kernel)
theorem jq_1361 : (Jvm.Cond.instanceMethod ({ cls := "BranchworkModel$Merge", name := "<init>", desc := "(LBranchworkModel$Tree;LBranchworkModel$Tree;LBranchworkModel$Tree;)V" } : Jvm.MethodName)) ∈ jw_T := jw_mem 1361 (by decide +kernel) (by decide +kernel)
theorem jq_1362 : (Jvm.Cond.code ({ cls := "BranchworkModel$Merge", name := "<init>", desc := "(LBranchworkModel$Tree;LBranchworkModel$Tree;LBranchworkModel$Tree;)V" } : Jvm.MethodName) prog_14_method_1_code (6 : Nat) (Option.none : Option Jvm.ClassFile.FieldType)) ∈ jw_T := jw_mem 1362 (by decide +kernel) (by decide +kernel)
theorem jq_1363 : (Jvm.Cond.methodLink "BranchworkModel$Merge" (3 : Nat) ({ cls := "java/lang/Object", name := "<init>", desc := "()V" } : Jvm.MethodName)) ∈ jw_T := jw_mem 1363 (by decide +kernel) (by decide +kernel)
theorem jq_1364 : (Jvm.Cond.classLink "BranchworkModel$Merge" (9 : Nat) "BranchworkModel$Tree") ∈ jw_T := jw_mem 1364 (by decide +kernel) (by decide +kernel)
theorem jq_1366 : (Jvm.Cond.classLink "BranchworkModel$Merge" (18 : Nat) "java/util/ArrayList") ∈ jw_T := jw_mem 1366 (by decide +kernel) (by decide +kernel)
theorem jq_1367 : (Jvm.Cond.methodLink "BranchworkModel$Merge" (20 : Nat) ({ cls := "java/util/ArrayList", name := "<init>", desc := "()V" } : Jvm.MethodName)) ∈ jw_T := jw_mem 1367 (by decide +kernel) (by decide +kernel)
theorem jq_1368 : (Jvm.Cond.methodLink "BranchworkModel$Merge" (25 : Nat) ({ cls := "BranchworkModel$Tree", name := "has", desc := "(I)Z" } : Jvm.MethodName)) ∈ jw_T := jw_mem 1368 (by decide +kernel) (by decide +kernel)
theorem jq_1369 : (Jvm.Cond.methodLink "BranchworkModel$Merge" (33 : Nat) ({ cls := "BranchworkModel$Tree", name := "went", desc := "(LBranchworkModel$Tree;I)I" } : Jvm.MethodName)) ∈ jw_T := jw_mem 1369 (by decide +kernel) (by decide +kernel)
theorem jq_1370 : (Jvm.Cond.instanceMethod ({ cls := "BranchworkModel$Tree", name := "went", desc := "(LBranchworkModel$Tree;I)I" } : Jvm.MethodName)) ∈ jw_T := jw_mem 1370 (by decide +kernel) (by decide +kernel)
theorem jq_1371 : (Jvm.Cond.selects "BranchworkModel$Tree" ({ cls := "BranchworkModel$Tree", name := "went", desc := "(LBranchworkModel$Tree;I)I" } : Jvm.MethodName) ({ cls := "BranchworkModel$Tree", name := "went", desc := "(LBranchworkModel$Tree;I)I" } : Jvm.MethodName)) ∈ jw_T := jw_mem 1371 (by decide +kernel) (by decide +kernel)
theorem jq_1372 : (Jvm.Cond.code ({ cls := "BranchworkModel$Tree", name := "went", desc := "(LBranchworkModel$Tree;I)I" } : Jvm.MethodName) prog_15_method_7_code (3 : Nat) (Option.some Jvm.ClassFile.FieldType.int)) ∈ jw_T := jw_mem 1372 (by decide +kernel) (by decide +kernel)
theorem jq_1373 : (Jvm.Cond.methodLink "BranchworkModel$Tree" (36 : Nat) ({ cls := "BranchworkModel$Tree", name := "renames", desc := "(LBranchworkModel$Tree;)[I" } : Jvm.MethodName)) ∈ jw_T := jw_mem 1373 (by decide +kernel) (by decide +kernel)
theorem jq_1374 : (Jvm.Cond.instanceMethod ({ cls := "BranchworkModel$Tree", name := "renames", desc := "(LBranchworkModel$Tree;)[I" } : Jvm.MethodName)) ∈ jw_T := jw_mem 1374 (by decide +kernel) (by decide +kernel)
theorem jq_1375 : (Jvm.Cond.selects "BranchworkModel$Tree" ({ cls := "BranchworkModel$Tree", name := "renames", desc := "(LBranchworkModel$Tree;)[I" } : Jvm.MethodName) ({ cls := "BranchworkModel$Tree", name := "renames", desc := "(LBranchworkModel$Tree;)[I" } : Jvm.MethodName)) ∈ jw_T := jw_mem 1375 (by decide +kernel) (by decide +kernel)
theorem jq_1376 : (Jvm.Cond.code ({ cls := "BranchworkModel$Tree", name := "renames", desc := "(LBranchworkModel$Tree;)[I" } : Jvm.MethodName) prog_15_method_6_code (9 : Nat) (Option.some (Jvm.ClassFile.FieldType.array Jvm.ClassFile.FieldType.int))) ∈ jw_T := jw_mem 1376 (by decide +kernel) (by decide +kernel)
theorem jq_1378 : (Jvm.Cond.static ({ cls := "BranchworkModel", name := "nearness", desc := "([I[I)I" } : Jvm.MethodName)) ∈ jw_T := jw_mem 1378 (by decide +kernel) (by decide +kernel)
theorem jq_1379 : (Jvm.Cond.code ({ cls := "BranchworkModel", name := "nearness", desc := "([I[I)I" } : Jvm.MethodName) prog_11_method_3_code (7 : Nat) (Option.some Jvm.ClassFile.FieldType.int)) ∈ jw_T := jw_mem 1379 (by decide +kernel) (by decide +kernel)
theorem jq_1380 : (Jvm.Cond.methodLink "BranchworkModel" (11 : Nat) ({ cls := "BranchworkModel", name := "match", desc := "([I[I)[I" } : Jvm.MethodName)) ∈ jw_T := jw_mem 1380 (by decide +kernel) (by decide +kernel)
theorem jq_1381 : (Jvm.Cond.static ({ cls := "BranchworkModel", name := "match", desc := "([I[I)[I" } : Jvm.MethodName)) ∈ jw_T := jw_mem 1381 (by decide +kernel) (by decide +kernel)
theorem jq_1382 : (Jvm.Cond.code ({ cls := "BranchworkModel", name := "match", desc := "([I[I)[I" } : Jvm.MethodName) prog_11_method_2_code (6 : Nat) (Option.some (Jvm.ClassFile.FieldType.array Jvm.ClassFile.FieldType.int))) ∈ jw_T := jw_mem 1382 (by decide +kernel) (by decide +kernel)
theorem jq_1383 : (Jvm.Cond.classLink "BranchworkModel" (1 : Nat) "[[I") ∈ jw_T := jw_mem 1383 (by decide +kernel) (by decide +kernel)
theorem jq_1384 : (Jvm.Cond.methodLink "BranchworkModel" (3 : Nat) ({ cls := "java/lang/Math", name := "max", desc := "(II)I" } : Jvm.MethodName)) ∈ jw_T := jw_mem 1384 (by decide +kernel) (by decide +kernel)
theorem jq_1385 : (Jvm.Cond.methodLink "BranchworkModel$Merge" (37 : Nat) ({ cls := "BranchworkModel$Merge", name := "file", desc := "(I[ILBranchworkModel$Tree;ILBranchworkModel$Tree;I)V" } : Jvm.MethodName)) ∈ jw_T := jw_mem 1385 (by decide +kernel) (by decide +kernel)
theorem jq_1387 : (Jvm.Cond.instanceMethod ({ cls := "BranchworkModel$Merge", name := "file", desc := "(I[ILBranchworkModel$Tree;ILBranchworkModel$Tree;I)V" } : Jvm.MethodName)) ∈ jw_T := jw_mem 1387 (by decide +kernel) (by decide +kernel)
theorem jq_1388 : (Jvm.Cond.code ({ cls := "BranchworkModel$Merge", name := "file", desc := "(I[ILBranchworkModel$Tree;ILBranchworkModel$Tree;I)V" } : Jvm.MethodName) prog_14_method_4_code (9 : Nat) (Option.none : Option Jvm.ClassFile.FieldType)) ∈ jw_T := jw_mem 1388 (by decide +kernel) (by decide +kernel)
theorem jq_1390 : (Jvm.Cond.methodLink "BranchworkModel$Merge" (45 : Nat) ({ cls := "BranchworkModel$Merge", name := "come", desc := "(I[I)Z" } : Jvm.MethodName)) ∈ jw_T := jw_mem 1390 (by decide +kernel) (by decide +kernel)
theorem jq_1392 : (Jvm.Cond.instanceMethod ({ cls := "BranchworkModel$Merge", name := "come", desc := "(I[I)Z" } : Jvm.MethodName)) ∈ jw_T := jw_mem 1392 (by decide +kernel) (by decide +kernel)
theorem jq_1393 : (Jvm.Cond.code ({ cls := "BranchworkModel$Merge", name := "come", desc := "(I[I)Z" } : Jvm.MethodName) prog_14_method_3_code (3 : Nat) (Option.some Jvm.ClassFile.FieldType.boolean)) ∈ jw_T := jw_mem 1393 (by decide +kernel) (by decide +kernel)
theorem jq_1394 : (Jvm.Cond.methodLink "BranchworkModel$Merge" (62 : Nat) ({ cls := "BranchworkModel$Merge", name := "tell", desc := "(II)V" } : Jvm.MethodName)) ∈ jw_T := jw_mem 1394 (by decide +kernel) (by decide +kernel)
theorem jq_1396 : (Jvm.Cond.instanceMethod ({ cls := "BranchworkModel$Merge", name := "tell", desc := "(II)V" } : Jvm.MethodName)) ∈ jw_T := jw_mem 1396 (by decide +kernel) (by decide +kernel)
theorem jq_1397 : (Jvm.Cond.code ({ cls := "BranchworkModel$Merge", name := "tell", desc := "(II)V" } : Jvm.MethodName) prog_14_method_2_code (3 : Nat) (Option.none : Option Jvm.ClassFile.FieldType)) ∈ jw_T := jw_mem 1397 (by decide +kernel) (by decide +kernel)
theorem jq_1398 : (Jvm.Cond.methodLink "BranchworkModel$Merge" (66 : Nat) ({ cls := "java/util/ArrayList", name := "add", desc := "(Ljava/lang/Object;)Z" } : Jvm.MethodName)) ∈ jw_T := jw_mem 1398 (by decide +kernel) (by decide +kernel)
theorem jq_1399 : (Jvm.Cond.classLink "BranchworkModel$Merge" (53 : Nat) "BranchworkModel$Blend") ∈ jw_T := jw_mem 1399 (by decide +kernel) (by decide +kernel)
theorem jq_1400 : (Jvm.Cond.instantiable "BranchworkModel$Blend" (2 : Nat)) ∈ jw_T := jw_mem 1400 (by decide +kernel) (by decide +kernel)
theorem jq_1401 : (Jvm.Cond.methodLink "BranchworkModel$Merge" (55 : Nat) ({ cls := "BranchworkModel$Blend", name := "<init>", desc := "([I[I[I)V" } : Jvm.MethodName)) ∈ jw_T := jw_mem 1401 (by decide +kernel) (by decide +kernel)
theorem jq_1402 : (Jvm.Cond.instanceMethod ({ cls := "BranchworkModel$Blend", name := "<init>", desc := "([I[I[I)V" } : Jvm.MethodName)) ∈ jw_T := jw_mem 1402 (by decide +kernel) (by decide +kernel)
theorem jq_1403 : (Jvm.Cond.code ({ cls := "BranchworkModel$Blend", name := "<init>", desc := "([I[I[I)V" } : Jvm.MethodName) prog_12_method_1_code (10 : Nat) (Option.none : Option Jvm.ClassFile.FieldType)) ∈ jw_T := jw_mem 1403 (by decide +kernel) (by decide +kernel)
theorem jq_1404 : (Jvm.Cond.methodLink "BranchworkModel$Blend" (3 : Nat) ({ cls := "java/lang/Object", name := "<init>", desc := "()V" } : Jvm.MethodName)) ∈ jw_T := jw_mem 1404 (by decide +kernel) (by decide +kernel)
theorem jq_1407 : (Jvm.Cond.methodLink "BranchworkModel$Blend" (23 : Nat) ({ cls := "BranchworkModel$Blend", name := "part", desc := "([I[I[I)V" } : Jvm.MethodName)) ∈ jw_T := jw_mem 1407 (by decide +kernel) (by decide +kernel)
theorem jq_1409 : (Jvm.Cond.instanceMethod ({ cls := "BranchworkModel$Blend", name := "part", desc := "([I[I[I)V" } : Jvm.MethodName)) ∈ jw_T := jw_mem 1409 (by decide +kernel) (by decide +kernel)
theorem jq_1410 : (Jvm.Cond.code ({ cls := "BranchworkModel$Blend", name := "part", desc := "([I[I[I)V" } : Jvm.MethodName) prog_12_method_2_code (4 : Nat) (Option.none : Option Jvm.ClassFile.FieldType)) ∈ jw_T := jw_mem 1410 (by decide +kernel) (by decide +kernel)
theorem jq_1413 : (Jvm.Cond.fieldLink "BranchworkModel$Blend" (9 : Nat) "BranchworkModel$Blend" "lines" "[I") ∈ jw_T := jw_mem 1413 (by decide +kernel) (by decide +kernel)
theorem jq_1414 : (Jvm.Cond.fieldLink "BranchworkModel$Merge" (58 : Nat) "BranchworkModel$Blend" "lines" "[I") ∈ jw_T := jw_mem 1414 (by decide +kernel) (by decide +kernel)
theorem jq_1415 : (Jvm.Cond.fieldLink "BranchworkModel$Blend" (34 : Nat) "BranchworkModel$Blend" "isConflict" "Z") ∈ jw_T := jw_mem 1415 (by decide +kernel) (by decide +kernel)
theorem jq_1416 : (Jvm.Cond.fieldLink "BranchworkModel$Merge" (70 : Nat) "BranchworkModel$Blend" "isConflict" "Z") ∈ jw_T := jw_mem 1416 (by decide +kernel) (by decide +kernel)
theorem jq_1424 : (Jvm.Cond.instanceMethod ({ cls := "BranchworkModel$Tree", name := "isNew", desc := "(LBranchworkModel$Tree;I)Z" } : Jvm.MethodName)) ∈ jw_T := jw_mem 1424 (by decide +kernel) (by decide +kernel)
theorem jq_1425 : (Jvm.Cond.code ({ cls := "BranchworkModel$Tree", name := "isNew", desc := "(LBranchworkModel$Tree;I)Z" } : Jvm.MethodName) prog_15_method_8_code (7 : Nat) (Option.some Jvm.ClassFile.FieldType.boolean)) ∈ jw_T := jw_mem 1425 (by decide +kernel) (by decide +kernel)
theorem jq_1426 : (Jvm.Cond.fieldLink "BranchworkModel$Merge" (12 : Nat) "BranchworkModel$Merge" "made" "LBranchworkModel$Tree;") ∈ jw_T := jw_mem 1426 (by decide +kernel) (by decide +kernel)
theorem jq_1427 : (Jvm.Cond.fieldLink "BranchworkModel" (180 : Nat) "BranchworkModel$Merge" "made" "LBranchworkModel$Tree;") ∈ jw_T := jw_mem 1427 (by decide +kernel) (by decide +kernel)
theorem jq_1428 : (Jvm.Cond.fieldLink "BranchworkModel$Merge" (21 : Nat) "BranchworkModel$Merge" "conflicts" "Ljava/util/ArrayList;") ∈ jw_T := jw_mem 1428 (by decide +kernel) (by decide +kernel)
theorem jq_1429 : (Jvm.Cond.fieldLink "BranchworkModel" (183 : Nat) "BranchworkModel$Merge" "conflicts" "Ljava/util/ArrayList;") ∈ jw_T := jw_mem 1429 (by decide +kernel) (by decide +kernel)
theorem jq_1435 : (Jvm.Cond.methodLink "BranchworkModel" (184 : Nat) ({ cls := "java/util/ArrayList", name := "addAll", desc := "(Ljava/util/Collection;)Z" } : Jvm.MethodName)) ∈ jw_T := jw_mem 1435 (by decide +kernel) (by decide +kernel)
theorem jq_1436 : (Jvm.Cond.instanceMethod ({ cls := "java/util/ArrayList", name := "addAll", desc := "(Ljava/util/Collection;)Z" } : Jvm.MethodName)) ∈ jw_T := jw_mem 1436 (by decide +kernel) (by decide +kernel)
theorem jq_1437 : (Jvm.Cond.selects "java/util/ArrayList" ({ cls := "java/util/ArrayList", name := "addAll", desc := "(Ljava/util/Collection;)Z" } : Jvm.MethodName) ({ cls := "java/util/ArrayList", name := "addAll", desc := "(Ljava/util/Collection;)Z" } : Jvm.MethodName)) ∈ jw_T := jw_mem 1437 (by decide +kernel) (by decide +kernel)
theorem jq_1438 : (Jvm.Cond.code ({ cls := "java/util/ArrayList", name := "addAll", desc := "(Ljava/util/Collection;)Z" } : Jvm.MethodName) prog_31_method_41_code (6 : Nat) (Option.some Jvm.ClassFile.FieldType.boolean)) ∈ jw_T := jw_mem 1438 (by decide +kernel) (by decide +kernel)
theorem jq_1440 : (Jvm.Cond.methodLink "java/util/ArrayList" (42 : Nat) ({ cls := "java/util/Collection", name := "toArray", desc := "()[Ljava/lang/Object;" } : Jvm.MethodName)) ∈ jw_T := jw_mem 1440 (by decide +kernel) (by decide +kernel)
theorem jq_1444 : (Jvm.Cond.selects "java/util/ArrayList" ({ cls := "java/util/Collection", name := "toArray", desc := "()[Ljava/lang/Object;" } : Jvm.MethodName) ({ cls := "java/util/ArrayList", name := "toArray", desc := "()[Ljava/lang/Object;" } : Jvm.MethodName)) ∈ jw_T := jw_mem 1444 (by decide +kernel) (by decide +kernel)
theorem jq_1446 : (Jvm.Cond.instanceMethod ({ cls := "java/util/ArrayList", name := "toArray", desc := "()[Ljava/lang/Object;" } : Jvm.MethodName)) ∈ jw_T := jw_mem 1446 (by decide +kernel) (by decide +kernel)
theorem jq_1448 : (Jvm.Cond.code ({ cls := "java/util/ArrayList", name := "toArray", desc := "()[Ljava/lang/Object;" } : Jvm.MethodName) prog_31_method_16_code (1 : Nat) (Option.some (Jvm.ClassFile.FieldType.array (Jvm.ClassFile.FieldType.object "java/lang/Object")))) ∈ jw_T := jw_mem 1448 (by decide +kernel) (by decide +kernel)
theorem jq_1449 : (Jvm.Cond.methodLink "java/util/ArrayList" (112 : Nat) ({ cls := "java/lang/System", name := "arraycopy", desc := "(Ljava/lang/Object;ILjava/lang/Object;II)V" } : Jvm.MethodName)) ∈ jw_T := jw_mem 1449 (by decide +kernel) (by decide +kernel)
theorem jq_1450 : (Jvm.Cond.methodLink "BranchworkLaw" (137 : Nat) ({ cls := "BranchworkModel", name := "settle", desc := "(I)I" } : Jvm.MethodName)) ∈ jw_T := jw_mem 1450 (by decide +kernel) (by decide +kernel)
theorem jq_1451 : (Jvm.Cond.instanceMethod ({ cls := "BranchworkModel", name := "settle", desc := "(I)I" } : Jvm.MethodName)) ∈ jw_T := jw_mem 1451 (by decide +kernel) (by decide +kernel)
theorem jq_1452 : (Jvm.Cond.selects "BranchworkModel" ({ cls := "BranchworkModel", name := "settle", desc := "(I)I" } : Jvm.MethodName) ({ cls := "BranchworkModel", name := "settle", desc := "(I)I" } : Jvm.MethodName)) ∈ jw_T := jw_mem 1452 (by decide +kernel) (by decide +kernel)
theorem jq_1453 : (Jvm.Cond.code ({ cls := "BranchworkModel", name := "settle", desc := "(I)I" } : Jvm.MethodName) prog_11_method_31_code (2 : Nat) (Option.some Jvm.ClassFile.FieldType.int)) ∈ jw_T := jw_mem 1453 (by decide +kernel) (by decide +kernel)
theorem jq_1454 : (Jvm.Cond.methodLink "BranchworkModel" (188 : Nat) ({ cls := "java/util/ArrayList", name := "remove", desc := "(I)Ljava/lang/Object;" } : Jvm.MethodName)) ∈ jw_T := jw_mem 1454 (by decide +kernel) (by decide +kernel)
theorem jq_1455 : (Jvm.Cond.instanceMethod ({ cls := "java/util/ArrayList", name := "remove", desc := "(I)Ljava/lang/Object;" } : Jvm.MethodName)) ∈ jw_T := jw_mem 1455 (by decide +kernel) (by decide +kernel)
theorem jq_1456 : (Jvm.Cond.selects "java/util/ArrayList" ({ cls := "java/util/ArrayList", name := "remove", desc := "(I)Ljava/lang/Object;" } : Jvm.MethodName) ({ cls := "java/util/ArrayList", name := "remove", desc := "(I)Ljava/lang/Object;" } : Jvm.MethodName)) ∈ jw_T := jw_mem 1456 (by decide +kernel) (by decide +kernel)
theorem jq_1457 : (Jvm.Cond.code ({ cls := "java/util/ArrayList", name := "remove", desc := "(I)Ljava/lang/Object;" } : Jvm.MethodName) prog_31_method_29_code (4 : Nat) (Option.some (Jvm.ClassFile.FieldType.object "java/lang/Object"))) ∈ jw_T := jw_mem 1457 (by decide +kernel) (by decide +kernel)
theorem jq_1458 : (Jvm.Cond.methodLink "java/util/ArrayList" (144 : Nat) ({ cls := "java/util/ArrayList", name := "fastRemove", desc := "([Ljava/lang/Object;I)V" } : Jvm.MethodName)) ∈ jw_T := jw_mem 1458 (by decide +kernel) (by decide +kernel)
theorem jq_1460 : (Jvm.Cond.instanceMethod ({ cls := "java/util/ArrayList", name := "fastRemove", desc := "([Ljava/lang/Object;I)V" } : Jvm.MethodName)) ∈ jw_T := jw_mem 1460 (by decide +kernel) (by decide +kernel)
theorem jq_1461 : (Jvm.Cond.code ({ cls := "java/util/ArrayList", name := "fastRemove", desc := "([Ljava/lang/Object;I)V" } : Jvm.MethodName) prog_31_method_39_code (4 : Nat) (Option.none : Option Jvm.ClassFile.FieldType)) ∈ jw_T := jw_mem 1461 (by decide +kernel) (by decide +kernel)
theorem jq_1462 : (Jvm.Cond.methodLink "BranchworkLaw" (141 : Nat) ({ cls := "BranchworkModel", name := "collect", desc := "()I" } : Jvm.MethodName)) ∈ jw_T := jw_mem 1462 (by decide +kernel) (by decide +kernel)
theorem jq_1463 : (Jvm.Cond.instanceMethod ({ cls := "BranchworkModel", name := "collect", desc := "()I" } : Jvm.MethodName)) ∈ jw_T := jw_mem 1463 (by decide +kernel) (by decide +kernel)
theorem jq_1464 : (Jvm.Cond.selects "BranchworkModel" ({ cls := "BranchworkModel", name := "collect", desc := "()I" } : Jvm.MethodName) ({ cls := "BranchworkModel", name := "collect", desc := "()I" } : Jvm.MethodName)) ∈ jw_T := jw_mem 1464 (by decide +kernel) (by decide +kernel)
theorem jq_1465 : (Jvm.Cond.code ({ cls := "BranchworkModel", name := "collect", desc := "()I" } : Jvm.MethodName) prog_11_method_38_code (4 : Nat) (Option.some Jvm.ClassFile.FieldType.int)) ∈ jw_T := jw_mem 1465 (by decide +kernel) (by decide +kernel)
theorem jq_1466 : (Jvm.Cond.methodLink "BranchworkModel" (216 : Nat) ({ cls := "BranchworkModel", name := "garbageNow", desc := "()I" } : Jvm.MethodName)) ∈ jw_T := jw_mem 1466 (by decide +kernel) (by decide +kernel)
theorem jq_1468 : (Jvm.Cond.instanceMethod ({ cls := "BranchworkModel", name := "garbageNow", desc := "()I" } : Jvm.MethodName)) ∈ jw_T := jw_mem 1468 (by decide +kernel) (by decide +kernel)
theorem jq_1469 : (Jvm.Cond.code ({ cls := "BranchworkModel", name := "garbageNow", desc := "()I" } : Jvm.MethodName) prog_11_method_37_code (1 : Nat) (Option.some Jvm.ClassFile.FieldType.int)) ∈ jw_T := jw_mem 1469 (by decide +kernel) (by decide +kernel)
theorem jq_1470 : (Jvm.Cond.methodLink "BranchworkModel" (213 : Nat) ({ cls := "BranchworkModel", name := "objects", desc := "(Z)I" } : Jvm.MethodName)) ∈ jw_T := jw_mem 1470 (by decide +kernel) (by decide +kernel)
theorem jq_1472 : (Jvm.Cond.instanceMethod ({ cls := "BranchworkModel", name := "objects", desc := "(Z)I" } : Jvm.MethodName)) ∈ jw_T := jw_mem 1472 (by decide +kernel) (by decide +kernel)
theorem jq_1473 : (Jvm.Cond.code ({ cls := "BranchworkModel", name := "objects", desc := "(Z)I" } : Jvm.MethodName) prog_11_method_36_code (3 : Nat) (Option.some Jvm.ClassFile.FieldType.int)) ∈ jw_T := jw_mem 1473 (by decide +kernel) (by decide +kernel)
theorem jq_1474 : (Jvm.Cond.methodLink "BranchworkModel" (201 : Nat) ({ cls := "BranchworkModel", name := "trees", desc := "(Z)Ljava/util/ArrayList;" } : Jvm.MethodName)) ∈ jw_T := jw_mem 1474 (by decide +kernel) (by decide +kernel)
theorem jq_1476 : (Jvm.Cond.instanceMethod ({ cls := "BranchworkModel", name := "trees", desc := "(Z)Ljava/util/ArrayList;" } : Jvm.MethodName)) ∈ jw_T := jw_mem 1476 (by decide +kernel) (by decide +kernel)
theorem jq_1477 : (Jvm.Cond.code ({ cls := "BranchworkModel", name := "trees", desc := "(Z)Ljava/util/ArrayList;" } : Jvm.MethodName) prog_11_method_33_code (8 : Nat) (Option.some (Jvm.ClassFile.FieldType.object "java/util/ArrayList"))) ∈ jw_T := jw_mem 1477 (by decide +kernel) (by decide +kernel)
theorem jq_1478 : (Jvm.Cond.methodLink "BranchworkModel" (195 : Nat) ({ cls := "BranchworkModel", name := "reached", desc := "()[Z" } : Jvm.MethodName)) ∈ jw_T := jw_mem 1478 (by decide +kernel) (by decide +kernel)
theorem jq_1480 : (Jvm.Cond.instanceMethod ({ cls := "BranchworkModel", name := "reached", desc := "()[Z" } : Jvm.MethodName)) ∈ jw_T := jw_mem 1480 (by decide +kernel) (by decide +kernel)
theorem jq_1481 : (Jvm.Cond.code ({ cls := "BranchworkModel", name := "reached", desc := "()[Z" } : Jvm.MethodName) prog_11_method_32_code (3 : Nat) (Option.some (Jvm.ClassFile.FieldType.array Jvm.ClassFile.FieldType.boolean))) ∈ jw_T := jw_mem 1481 (by decide +kernel) (by decide +kernel)
theorem jq_1482 : (Jvm.Cond.methodLink "BranchworkModel" (191 : Nat) ({ cls := "BranchworkModel$Commit", name := "reach", desc := "([Z)V" } : Jvm.MethodName)) ∈ jw_T := jw_mem 1482 (by decide +kernel) (by decide +kernel)
theorem jq_1483 : (Jvm.Cond.methodLink "BranchworkModel" (205 : Nat) ({ cls := "BranchworkModel", name := "commitsNow", desc := "(Z)I" } : Jvm.MethodName)) ∈ jw_T := jw_mem 1483 (by decide +kernel) (by decide +kernel)
theorem jq_1485 : (Jvm.Cond.instanceMethod ({ cls := "BranchworkModel", name := "commitsNow", desc := "(Z)I" } : Jvm.MethodName)) ∈ jw_T := jw_mem 1485 (by decide +kernel) (by decide +kernel)
theorem jq_1486 : (Jvm.Cond.code ({ cls := "BranchworkModel", name := "commitsNow", desc := "(Z)I" } : Jvm.MethodName) prog_11_method_35_code (5 : Nat) (Option.some Jvm.ClassFile.FieldType.int)) ∈ jw_T := jw_mem 1486 (by decide +kernel) (by decide +kernel)
theorem jq_1487 : (Jvm.Cond.methodLink "BranchworkModel" (209 : Nat) ({ cls := "BranchworkModel", name := "contents", desc := "(Ljava/util/ArrayList;)Ljava/util/ArrayList;" } : Jvm.MethodName)) ∈ jw_T := jw_mem 1487 (by decide +kernel) (by decide +kernel)
theorem jq_1488 : (Jvm.Cond.static ({ cls := "BranchworkModel", name := "contents", desc := "(Ljava/util/ArrayList;)Ljava/util/ArrayList;" } : Jvm.MethodName)) ∈ jw_T := jw_mem 1488 (by decide +kernel) (by decide +kernel)
theorem jq_1489 : (Jvm.Cond.code ({ cls := "BranchworkModel", name := "contents", desc := "(Ljava/util/ArrayList;)Ljava/util/ArrayList;" } : Jvm.MethodName) prog_11_method_34_code (7 : Nat) (Option.some (Jvm.ClassFile.FieldType.object "java/util/ArrayList"))) ∈ jw_T := jw_mem 1489 (by decide +kernel) (by decide +kernel)
theorem jq_1490 : (Jvm.Cond.classLink "BranchworkModel" (199 : Nat) "[I") ∈ jw_T := jw_mem 1490 (by decide +kernel) (by decide +kernel)
theorem jq_1491 : (Jvm.Cond.methodLink "BranchworkLaw" (144 : Nat) ({ cls := "BranchworkModel", name := "many", desc := "(I)I" } : Jvm.MethodName)) ∈ jw_T := jw_mem 1491 (by decide +kernel) (by decide +kernel)
theorem jq_1492 : (Jvm.Cond.instanceMethod ({ cls := "BranchworkModel", name := "many", desc := "(I)I" } : Jvm.MethodName)) ∈ jw_T := jw_mem 1492 (by decide +kernel) (by decide +kernel)
theorem jq_1493 : (Jvm.Cond.selects "BranchworkModel" ({ cls := "BranchworkModel", name := "many", desc := "(I)I" } : Jvm.MethodName) ({ cls := "BranchworkModel", name := "many", desc := "(I)I" } : Jvm.MethodName)) ∈ jw_T := jw_mem 1493 (by decide +kernel) (by decide +kernel)
theorem jq_1494 : (Jvm.Cond.code ({ cls := "BranchworkModel", name := "many", desc := "(I)I" } : Jvm.MethodName) prog_11_method_40_code (2 : Nat) (Option.some Jvm.ClassFile.FieldType.int)) ∈ jw_T := jw_mem 1494 (by decide +kernel) (by decide +kernel)
theorem jq_1495 : (Jvm.Cond.methodLink "BranchworkModel" (219 : Nat) ({ cls := "BranchworkModel", name := "count", desc := "(I)I" } : Jvm.MethodName)) ∈ jw_T := jw_mem 1495 (by decide +kernel) (by decide +kernel)
theorem jq_1497 : (Jvm.Cond.instanceMethod ({ cls := "BranchworkModel", name := "count", desc := "(I)I" } : Jvm.MethodName)) ∈ jw_T := jw_mem 1497 (by decide +kernel) (by decide +kernel)
theorem jq_1498 : (Jvm.Cond.code ({ cls := "BranchworkModel", name := "count", desc := "(I)I" } : Jvm.MethodName) prog_11_method_39_code (3 : Nat) (Option.some Jvm.ClassFile.FieldType.int)) ∈ jw_T := jw_mem 1498 (by decide +kernel) (by decide +kernel)
theorem jq_1499 : (Jvm.Cond.methodLink "BranchworkLaw" (147 : Nat) ({ cls := "BranchworkModel", name := "now", desc := "(I)I" } : Jvm.MethodName)) ∈ jw_T := jw_mem 1499 (by decide +kernel) (by decide +kernel)
theorem jq_1500 : (Jvm.Cond.instanceMethod ({ cls := "BranchworkModel", name := "now", desc := "(I)I" } : Jvm.MethodName)) ∈ jw_T := jw_mem 1500 (by decide +kernel) (by decide +kernel)
theorem jq_1501 : (Jvm.Cond.selects "BranchworkModel" ({ cls := "BranchworkModel", name := "now", desc := "(I)I" } : Jvm.MethodName) ({ cls := "BranchworkModel", name := "now", desc := "(I)I" } : Jvm.MethodName)) ∈ jw_T := jw_mem 1501 (by decide +kernel) (by decide +kernel)
theorem jq_1502 : (Jvm.Cond.code ({ cls := "BranchworkModel", name := "now", desc := "(I)I" } : Jvm.MethodName) prog_11_method_43_code (2 : Nat) (Option.some Jvm.ClassFile.FieldType.int)) ∈ jw_T := jw_mem 1502 (by decide +kernel) (by decide +kernel)
theorem jq_1503 : (Jvm.Cond.methodLink "BranchworkModel" (225 : Nat) ({ cls := "BranchworkModel", name := "nowOf", desc := "(I)I" } : Jvm.MethodName)) ∈ jw_T := jw_mem 1503 (by decide +kernel) (by decide +kernel)
theorem jq_1505 : (Jvm.Cond.instanceMethod ({ cls := "BranchworkModel", name := "nowOf", desc := "(I)I" } : Jvm.MethodName)) ∈ jw_T := jw_mem 1505 (by decide +kernel) (by decide +kernel)
theorem jq_1506 : (Jvm.Cond.code ({ cls := "BranchworkModel", name := "nowOf", desc := "(I)I" } : Jvm.MethodName) prog_11_method_42_code (2 : Nat) (Option.some Jvm.ClassFile.FieldType.int)) ∈ jw_T := jw_mem 1506 (by decide +kernel) (by decide +kernel)
theorem jq_1507 : (Jvm.Cond.methodLink "BranchworkModel" (222 : Nat) ({ cls := "BranchworkModel", name := "number", desc := "(LBranchworkModel$Commit;)I" } : Jvm.MethodName)) ∈ jw_T := jw_mem 1507 (by decide +kernel) (by decide +kernel)
theorem jq_1508 : (Jvm.Cond.static ({ cls := "BranchworkModel", name := "number", desc := "(LBranchworkModel$Commit;)I" } : Jvm.MethodName)) ∈ jw_T := jw_mem 1508 (by decide +kernel) (by decide +kernel)
theorem jq_1509 : (Jvm.Cond.code ({ cls := "BranchworkModel", name := "number", desc := "(LBranchworkModel$Commit;)I" } : Jvm.MethodName) prog_11_method_41_code (1 : Nat) (Option.some Jvm.ClassFile.FieldType.int)) ∈ jw_T := jw_mem 1509 (by decide +kernel) (by decide +kernel)
theorem jq_1510 : (Jvm.Cond.methodLink "BranchworkLaw" (150 : Nat) ({ cls := "BranchworkModel", name := "at", desc := "(I)I" } : Jvm.MethodName)) ∈ jw_T := jw_mem 1510 (by decide +kernel) (by decide +kernel)
theorem jq_1511 : (Jvm.Cond.instanceMethod ({ cls := "BranchworkModel", name := "at", desc := "(I)I" } : Jvm.MethodName)) ∈ jw_T := jw_mem 1511 (by decide +kernel) (by decide +kernel)
theorem jq_1512 : (Jvm.Cond.selects "BranchworkModel" ({ cls := "BranchworkModel", name := "at", desc := "(I)I" } : Jvm.MethodName) ({ cls := "BranchworkModel", name := "at", desc := "(I)I" } : Jvm.MethodName)) ∈ jw_T := jw_mem 1512 (by decide +kernel) (by decide +kernel)
theorem jq_1513 : (Jvm.Cond.code ({ cls := "BranchworkModel", name := "at", desc := "(I)I" } : Jvm.MethodName) prog_11_method_44_code (2 : Nat) (Option.some Jvm.ClassFile.FieldType.int)) ∈ jw_T := jw_mem 1513 (by decide +kernel) (by decide +kernel)
theorem jq_1514 : (Jvm.Cond.methodLink "BranchworkLaw" (153 : Nat) ({ cls := "BranchworkModel", name := "ofCommit", desc := "(II)I" } : Jvm.MethodName)) ∈ jw_T := jw_mem 1514 (by decide +kernel) (by decide +kernel)
theorem jq_1515 : (Jvm.Cond.instanceMethod ({ cls := "BranchworkModel", name := "ofCommit", desc := "(II)I" } : Jvm.MethodName)) ∈ jw_T := jw_mem 1515 (by decide +kernel) (by decide +kernel)
theorem jq_1516 : (Jvm.Cond.selects "BranchworkModel" ({ cls := "BranchworkModel", name := "ofCommit", desc := "(II)I" } : Jvm.MethodName) ({ cls := "BranchworkModel", name := "ofCommit", desc := "(II)I" } : Jvm.MethodName)) ∈ jw_T := jw_mem 1516 (by decide +kernel) (by decide +kernel)
theorem jq_1517 : (Jvm.Cond.code ({ cls := "BranchworkModel", name := "ofCommit", desc := "(II)I" } : Jvm.MethodName) prog_11_method_46_code (3 : Nat) (Option.some Jvm.ClassFile.FieldType.int)) ∈ jw_T := jw_mem 1517 (by decide +kernel) (by decide +kernel)
theorem jq_1518 : (Jvm.Cond.methodLink "BranchworkModel" (240 : Nat) ({ cls := "BranchworkModel", name := "of", desc := "(LBranchworkModel$Commit;I)I" } : Jvm.MethodName)) ∈ jw_T := jw_mem 1518 (by decide +kernel) (by decide +kernel)
theorem jq_1520 : (Jvm.Cond.instanceMethod ({ cls := "BranchworkModel", name := "of", desc := "(LBranchworkModel$Commit;I)I" } : Jvm.MethodName)) ∈ jw_T := jw_mem 1520 (by decide +kernel) (by decide +kernel)
theorem jq_1521 : (Jvm.Cond.code ({ cls := "BranchworkModel", name := "of", desc := "(LBranchworkModel$Commit;I)I" } : Jvm.MethodName) prog_11_method_45_code (8 : Nat) (Option.some Jvm.ClassFile.FieldType.int)) ∈ jw_T := jw_mem 1521 (by decide +kernel) (by decide +kernel)
theorem jq_1522 : (Jvm.Cond.methodLink "BranchworkLaw" (156 : Nat) ({ cls := "BranchworkModel", name := "line", desc := "(III)I" } : Jvm.MethodName)) ∈ jw_T := jw_mem 1522 (by decide +kernel) (by decide +kernel)
theorem jq_1523 : (Jvm.Cond.instanceMethod ({ cls := "BranchworkModel", name := "line", desc := "(III)I" } : Jvm.MethodName)) ∈ jw_T := jw_mem 1523 (by decide +kernel) (by decide +kernel)
theorem jq_1524 : (Jvm.Cond.selects "BranchworkModel" ({ cls := "BranchworkModel", name := "line", desc := "(III)I" } : Jvm.MethodName) ({ cls := "BranchworkModel", name := "line", desc := "(III)I" } : Jvm.MethodName)) ∈ jw_T := jw_mem 1524 (by decide +kernel) (by decide +kernel)
theorem jq_1525 : (Jvm.Cond.code ({ cls := "BranchworkModel", name := "line", desc := "(III)I" } : Jvm.MethodName) prog_11_method_49_code (5 : Nat) (Option.some Jvm.ClassFile.FieldType.int)) ∈ jw_T := jw_mem 1525 (by decide +kernel) (by decide +kernel)
theorem jq_1526 : (Jvm.Cond.methodLink "BranchworkModel" (244 : Nat) ({ cls := "BranchworkModel", name := "isNoTree", desc := "(II)Z" } : Jvm.MethodName)) ∈ jw_T := jw_mem 1526 (by decide +kernel) (by decide +kernel)
theorem jq_1528 : (Jvm.Cond.instanceMethod ({ cls := "BranchworkModel", name := "isNoTree", desc := "(II)Z" } : Jvm.MethodName)) ∈ jw_T := jw_mem 1528 (by decide +kernel) (by decide +kernel)
theorem jq_1529 : (Jvm.Cond.code ({ cls := "BranchworkModel", name := "isNoTree", desc := "(II)Z" } : Jvm.MethodName) prog_11_method_47_code (3 : Nat) (Option.some Jvm.ClassFile.FieldType.boolean)) ∈ jw_T := jw_mem 1529 (by decide +kernel) (by decide +kernel)
theorem jq_1530 : (Jvm.Cond.methodLink "BranchworkModel" (248 : Nat) ({ cls := "BranchworkModel", name := "tree", desc := "(I)LBranchworkModel$Tree;" } : Jvm.MethodName)) ∈ jw_T := jw_mem 1530 (by decide +kernel) (by decide +kernel)
theorem jq_1532 : (Jvm.Cond.instanceMethod ({ cls := "BranchworkModel", name := "tree", desc := "(I)LBranchworkModel$Tree;" } : Jvm.MethodName)) ∈ jw_T := jw_mem 1532 (by decide +kernel) (by decide +kernel)
theorem jq_1533 : (Jvm.Cond.code ({ cls := "BranchworkModel", name := "tree", desc := "(I)LBranchworkModel$Tree;" } : Jvm.MethodName) prog_11_method_48_code (2 : Nat) (Option.some (Jvm.ClassFile.FieldType.object "BranchworkModel$Tree"))) ∈ jw_T := jw_mem 1533 (by decide +kernel) (by decide +kernel)
theorem jq_1534 : (Jvm.Cond.methodLink "BranchworkLaw" (159 : Nat) ({ cls := "BranchworkModel", name := "size", desc := "(II)I" } : Jvm.MethodName)) ∈ jw_T := jw_mem 1534 (by decide +kernel) (by decide +kernel)
theorem jq_1535 : (Jvm.Cond.instanceMethod ({ cls := "BranchworkModel", name := "size", desc := "(II)I" } : Jvm.MethodName)) ∈ jw_T := jw_mem 1535 (by decide +kernel) (by decide +kernel)
theorem jq_1536 : (Jvm.Cond.selects "BranchworkModel" ({ cls := "BranchworkModel", name := "size", desc := "(II)I" } : Jvm.MethodName) ({ cls := "BranchworkModel", name := "size", desc := "(II)I" } : Jvm.MethodName)) ∈ jw_T := jw_mem 1536 (by decide +kernel) (by decide +kernel)
theorem jq_1537 : (Jvm.Cond.code ({ cls := "BranchworkModel", name := "size", desc := "(II)I" } : Jvm.MethodName) prog_11_method_50_code (3 : Nat) (Option.some Jvm.ClassFile.FieldType.int)) ∈ jw_T := jw_mem 1537 (by decide +kernel) (by decide +kernel)
theorem jq_1538 : (Jvm.Cond.methodLink "BranchworkLaw" (162 : Nat) ({ cls := "BranchworkModel", name := "conflict", desc := "(II)I" } : Jvm.MethodName)) ∈ jw_T := jw_mem 1538 (by decide +kernel) (by decide +kernel)
theorem jq_1539 : (Jvm.Cond.instanceMethod ({ cls := "BranchworkModel", name := "conflict", desc := "(II)I" } : Jvm.MethodName)) ∈ jw_T := jw_mem 1539 (by decide +kernel) (by decide +kernel)
theorem jq_1540 : (Jvm.Cond.selects "BranchworkModel" ({ cls := "BranchworkModel", name := "conflict", desc := "(II)I" } : Jvm.MethodName) ({ cls := "BranchworkModel", name := "conflict", desc := "(II)I" } : Jvm.MethodName)) ∈ jw_T := jw_mem 1540 (by decide +kernel) (by decide +kernel)
theorem jq_1541 : (Jvm.Cond.code ({ cls := "BranchworkModel", name := "conflict", desc := "(II)I" } : Jvm.MethodName) prog_11_method_51_code (3 : Nat) (Option.some Jvm.ClassFile.FieldType.int)) ∈ jw_T := jw_mem 1541 (by decide +kernel) (by decide +kernel)
theorem jq_1542 : (Jvm.Cond.methodLink "BranchworkLaw" (165 : Nat) ({ cls := "BranchworkModel", name := "base", desc := "(II)I" } : Jvm.MethodName)) ∈ jw_T := jw_mem 1542 (by decide +kernel) (by decide +kernel)
theorem jq_1543 : (Jvm.Cond.instanceMethod ({ cls := "BranchworkModel", name := "base", desc := "(II)I" } : Jvm.MethodName)) ∈ jw_T := jw_mem 1543 (by decide +kernel) (by decide +kernel)
theorem jq_1544 : (Jvm.Cond.selects "BranchworkModel" ({ cls := "BranchworkModel", name := "base", desc := "(II)I" } : Jvm.MethodName) ({ cls := "BranchworkModel", name := "base", desc := "(II)I" } : Jvm.MethodName)) ∈ jw_T := jw_mem 1544 (by decide +kernel) (by decide +kernel)
theorem jq_1545 : (Jvm.Cond.code ({ cls := "BranchworkModel", name := "base", desc := "(II)I" } : Jvm.MethodName) prog_11_method_54_code (3 : Nat) (Option.some Jvm.ClassFile.FieldType.int)) ∈ jw_T := jw_mem 1545 (by decide +kernel) (by decide +kernel)
theorem jq_1546 : (Jvm.Cond.methodLink "BranchworkLaw" (168 : Nat) ({ cls := "BranchworkModel", name := "went", desc := "(III)I" } : Jvm.MethodName)) ∈ jw_T := jw_mem 1546 (by decide +kernel) (by decide +kernel)
theorem jq_1547 : (Jvm.Cond.instanceMethod ({ cls := "BranchworkModel", name := "went", desc := "(III)I" } : Jvm.MethodName)) ∈ jw_T := jw_mem 1547 (by decide +kernel) (by decide +kernel)
theorem jq_1548 : (Jvm.Cond.selects "BranchworkModel" ({ cls := "BranchworkModel", name := "went", desc := "(III)I" } : Jvm.MethodName) ({ cls := "BranchworkModel", name := "went", desc := "(III)I" } : Jvm.MethodName)) ∈ jw_T := jw_mem 1548 (by decide +kernel) (by decide +kernel)
theorem jq_1549 : (Jvm.Cond.code ({ cls := "BranchworkModel", name := "went", desc := "(III)I" } : Jvm.MethodName) prog_11_method_55_code (5 : Nat) (Option.some Jvm.ClassFile.FieldType.int)) ∈ jw_T := jw_mem 1549 (by decide +kernel) (by decide +kernel)
theorem jq_1550 : (Jvm.Cond.methodLink "BranchworkModel" (255 : Nat) ({ cls := "BranchworkModel$Tree", name := "went", desc := "(LBranchworkModel$Tree;I)I" } : Jvm.MethodName)) ∈ jw_T := jw_mem 1550 (by decide +kernel) (by decide +kernel)
theorem jq_1551 : (Jvm.Cond.methodLink "BranchworkLaw" (171 : Nat) ({ cls := "BranchworkModel", name := "changes", desc := "(III)I" } : Jvm.MethodName)) ∈ jw_T := jw_mem 1551 (by decide +kernel) (by decide +kernel)
theorem jq_1552 : (Jvm.Cond.instanceMethod ({ cls := "BranchworkModel", name := "changes", desc := "(III)I" } : Jvm.MethodName)) ∈ jw_T := jw_mem 1552 (by decide +kernel) (by decide +kernel)
theorem jq_1553 : (Jvm.Cond.selects "BranchworkModel" ({ cls := "BranchworkModel", name := "changes", desc := "(III)I" } : Jvm.MethodName) ({ cls := "BranchworkModel", name := "changes", desc := "(III)I" } : Jvm.MethodName)) ∈ jw_T := jw_mem 1553 (by decide +kernel) (by decide +kernel)
theorem jq_1554 : (Jvm.Cond.code ({ cls := "BranchworkModel", name := "changes", desc := "(III)I" } : Jvm.MethodName) prog_11_method_56_code (9 : Nat) (Option.some Jvm.ClassFile.FieldType.int)) ∈ jw_T := jw_mem 1554 (by decide +kernel) (by decide +kernel)
theorem jq_1555 : (Jvm.Cond.methodLink "BranchworkModel" (259 : Nat) ({ cls := "BranchworkModel$Tree", name := "renames", desc := "(LBranchworkModel$Tree;)[I" } : Jvm.MethodName)) ∈ jw_T := jw_mem 1555 (by decide +kernel) (by decide +kernel)
theorem jq_1557 : (Jvm.Cond.methodLink "BranchworkLaw" (175 : Nat) ({ cls := "BranchworkModel", name := "nearness", desc := "(IIII)I" } : Jvm.MethodName)) ∈ jw_T := jw_mem 1557 (by decide +kernel) (by decide +kernel)
theorem jq_1558 : (Jvm.Cond.instanceMethod ({ cls := "BranchworkModel", name := "nearness", desc := "(IIII)I" } : Jvm.MethodName)) ∈ jw_T := jw_mem 1558 (by decide +kernel) (by decide +kernel)
theorem jq_1559 : (Jvm.Cond.selects "BranchworkModel" ({ cls := "BranchworkModel", name := "nearness", desc := "(IIII)I" } : Jvm.MethodName) ({ cls := "BranchworkModel", name := "nearness", desc := "(IIII)I" } : Jvm.MethodName)) ∈ jw_T := jw_mem 1559 (by decide +kernel) (by decide +kernel)
theorem jq_1560 : (Jvm.Cond.code ({ cls := "BranchworkModel", name := "nearness", desc := "(IIII)I" } : Jvm.MethodName) prog_11_method_57_code (7 : Nat) (Option.some Jvm.ClassFile.FieldType.int)) ∈ jw_T := jw_mem 1560 (by decide +kernel) (by decide +kernel)
theorem jq_1561 : (Jvm.Cond.methodLink "BranchworkModel" (267 : Nat) ({ cls := "BranchworkModel", name := "nearness", desc := "([I[I)I" } : Jvm.MethodName)) ∈ jw_T := jw_mem 1561 (by decide +kernel) (by decide +kernel)
theorem jq_1562 : (Jvm.Cond.methodLink "BranchworkLaw" (178 : Nat) ({ cls := "BranchworkModel", name := "origin", desc := "(III)I" } : Jvm.MethodName)) ∈ jw_T := jw_mem 1562 (by decide +kernel) (by decide +kernel)
theorem jq_1563 : (Jvm.Cond.instanceMethod ({ cls := "BranchworkModel", name := "origin", desc := "(III)I" } : Jvm.MethodName)) ∈ jw_T := jw_mem 1563 (by decide +kernel) (by decide +kernel)
theorem jq_1564 : (Jvm.Cond.selects "BranchworkModel" ({ cls := "BranchworkModel", name := "origin", desc := "(III)I" } : Jvm.MethodName) ({ cls := "BranchworkModel", name := "origin", desc := "(III)I" } : Jvm.MethodName)) ∈ jw_T := jw_mem 1564 (by decide +kernel) (by decide +kernel)
theorem jq_1565 : (Jvm.Cond.code ({ cls := "BranchworkModel", name := "origin", desc := "(III)I" } : Jvm.MethodName) prog_11_method_61_code (5 : Nat) (Option.some Jvm.ClassFile.FieldType.int)) ∈ jw_T := jw_mem 1565 (by decide +kernel) (by decide +kernel)
theorem jq_1566 : (Jvm.Cond.methodLink "BranchworkModel" (279 : Nat) ({ cls := "BranchworkModel", name := "originOf", desc := "(LBranchworkModel$Commit;II)I" } : Jvm.MethodName)) ∈ jw_T := jw_mem 1566 (by decide +kernel) (by decide +kernel)
theorem jq_1567 : (Jvm.Cond.static ({ cls := "BranchworkModel", name := "originOf", desc := "(LBranchworkModel$Commit;II)I" } : Jvm.MethodName)) ∈ jw_T := jw_mem 1567 (by decide +kernel) (by decide +kernel)
theorem jq_1568 : (Jvm.Cond.code ({ cls := "BranchworkModel", name := "originOf", desc := "(LBranchworkModel$Commit;II)I" } : Jvm.MethodName) prog_11_method_60_code (10 : Nat) (Option.some Jvm.ClassFile.FieldType.int)) ∈ jw_T := jw_mem 1568 (by decide +kernel) (by decide +kernel)
theorem jq_1570 : (Jvm.Cond.methodLink "BranchworkModel" (271 : Nat) ({ cls := "BranchworkModel", name := "cameFrom", desc := "(LBranchworkModel$Commit;LBranchworkModel$Commit;I)I" } : Jvm.MethodName)) ∈ jw_T := jw_mem 1570 (by decide +kernel) (by decide +kernel)
theorem jq_1571 : (Jvm.Cond.static ({ cls := "BranchworkModel", name := "cameFrom", desc := "(LBranchworkModel$Commit;LBranchworkModel$Commit;I)I" } : Jvm.MethodName)) ∈ jw_T := jw_mem 1571 (by decide +kernel) (by decide +kernel)
theorem jq_1572 : (Jvm.Cond.code ({ cls := "BranchworkModel", name := "cameFrom", desc := "(LBranchworkModel$Commit;LBranchworkModel$Commit;I)I" } : Jvm.MethodName) prog_11_method_58_code (5 : Nat) (Option.some Jvm.ClassFile.FieldType.int)) ∈ jw_T := jw_mem 1572 (by decide +kernel) (by decide +kernel)
theorem jq_1573 : (Jvm.Cond.methodLink "BranchworkModel" (275 : Nat) ({ cls := "BranchworkModel", name := "pairOf", desc := "(LBranchworkModel$Commit;ILBranchworkModel$Commit;II)I" } : Jvm.MethodName)) ∈ jw_T := jw_mem 1573 (by decide +kernel) (by decide +kernel)
theorem jq_1574 : (Jvm.Cond.static ({ cls := "BranchworkModel", name := "pairOf", desc := "(LBranchworkModel$Commit;ILBranchworkModel$Commit;II)I" } : Jvm.MethodName)) ∈ jw_T := jw_mem 1574 (by decide +kernel) (by decide +kernel)
theorem jq_1575 : (Jvm.Cond.code ({ cls := "BranchworkModel", name := "pairOf", desc := "(LBranchworkModel$Commit;ILBranchworkModel$Commit;II)I" } : Jvm.MethodName) prog_11_method_59_code (7 : Nat) (Option.some Jvm.ClassFile.FieldType.int)) ∈ jw_T := jw_mem 1575 (by decide +kernel) (by decide +kernel)
theorem jq_1576 : (Jvm.Cond.methodLink "BranchworkLaw" (181 : Nat) ({ cls := "BranchworkModel", name := "conflictsOf", desc := "(II)I" } : Jvm.MethodName)) ∈ jw_T := jw_mem 1576 (by decide +kernel) (by decide +kernel)
theorem jq_1577 : (Jvm.Cond.instanceMethod ({ cls := "BranchworkModel", name := "conflictsOf", desc := "(II)I" } : Jvm.MethodName)) ∈ jw_T := jw_mem 1577 (by decide +kernel) (by decide +kernel)
theorem jq_1578 : (Jvm.Cond.selects "BranchworkModel" ({ cls := "BranchworkModel", name := "conflictsOf", desc := "(II)I" } : Jvm.MethodName) ({ cls := "BranchworkModel", name := "conflictsOf", desc := "(II)I" } : Jvm.MethodName)) ∈ jw_T := jw_mem 1578 (by decide +kernel) (by decide +kernel)
theorem jq_1579 : (Jvm.Cond.code ({ cls := "BranchworkModel", name := "conflictsOf", desc := "(II)I" } : Jvm.MethodName) prog_11_method_62_code (5 : Nat) (Option.some Jvm.ClassFile.FieldType.int)) ∈ jw_T := jw_mem 1579 (by decide +kernel) (by decide +kernel)
theorem jq_1580 : (Jvm.Cond.methodLink "BranchworkLaw" (185 : Nat) ({ cls := "BranchworkModel", name := "garbage", desc := "()I" } : Jvm.MethodName)) ∈ jw_T := jw_mem 1580 (by decide +kernel) (by decide +kernel)
theorem jq_1581 : (Jvm.Cond.instanceMethod ({ cls := "BranchworkModel", name := "garbage", desc := "()I" } : Jvm.MethodName)) ∈ jw_T := jw_mem 1581 (by decide +kernel) (by decide +kernel)
theorem jq_1582 : (Jvm.Cond.selects "BranchworkModel" ({ cls := "BranchworkModel", name := "garbage", desc := "()I" } : Jvm.MethodName) ({ cls := "BranchworkModel", name := "garbage", desc := "()I" } : Jvm.MethodName)) ∈ jw_T := jw_mem 1582 (by decide +kernel) (by decide +kernel)
theorem jq_1583 : (Jvm.Cond.code ({ cls := "BranchworkModel", name := "garbage", desc := "()I" } : Jvm.MethodName) prog_11_method_63_code (1 : Nat) (Option.some Jvm.ClassFile.FieldType.int)) ∈ jw_T := jw_mem 1583 (by decide +kernel) (by decide +kernel)
theorem jq_1584 : (Jvm.Cond.methodLink "BranchworkLaw" (190 : Nat) ({ cls := "BranchworkModel", name := "meanLines", desc := "()D" } : Jvm.MethodName)) ∈ jw_T := jw_mem 1584 (by decide +kernel) (by decide +kernel)
theorem jq_1585 : (Jvm.Cond.instanceMethod ({ cls := "BranchworkModel", name := "meanLines", desc := "()D" } : Jvm.MethodName)) ∈ jw_T := jw_mem 1585 (by decide +kernel) (by decide +kernel)
theorem jq_1586 : (Jvm.Cond.selects "BranchworkModel" ({ cls := "BranchworkModel", name := "meanLines", desc := "()D" } : Jvm.MethodName) ({ cls := "BranchworkModel", name := "meanLines", desc := "()D" } : Jvm.MethodName)) ∈ jw_T := jw_mem 1586 (by decide +kernel) (by decide +kernel)
theorem jq_1587 : (Jvm.Cond.code ({ cls := "BranchworkModel", name := "meanLines", desc := "()D" } : Jvm.MethodName) prog_11_method_64_code (4 : Nat) (Option.some Jvm.ClassFile.FieldType.double)) ∈ jw_T := jw_mem 1587 (by decide +kernel) (by decide +kernel)
theorem jq_1588 : (Jvm.Cond.methodLink "BranchworkLaw" (195 : Nat) ({ cls := "BranchworkModel", name := "digest", desc := "()J" } : Jvm.MethodName)) ∈ jw_T := jw_mem 1588 (by decide +kernel) (by decide +kernel)
theorem jq_1589 : (Jvm.Cond.instanceMethod ({ cls := "BranchworkModel", name := "digest", desc := "()J" } : Jvm.MethodName)) ∈ jw_T := jw_mem 1589 (by decide +kernel) (by decide +kernel)
theorem jq_1590 : (Jvm.Cond.selects "BranchworkModel" ({ cls := "BranchworkModel", name := "digest", desc := "()J" } : Jvm.MethodName) ({ cls := "BranchworkModel", name := "digest", desc := "()J" } : Jvm.MethodName)) ∈ jw_T := jw_mem 1590 (by decide +kernel) (by decide +kernel)
theorem jq_1591 : (Jvm.Cond.code ({ cls := "BranchworkModel", name := "digest", desc := "()J" } : Jvm.MethodName) prog_11_method_67_code (5 : Nat) (Option.some Jvm.ClassFile.FieldType.long)) ∈ jw_T := jw_mem 1591 (by decide +kernel) (by decide +kernel)
theorem jq_1592 : (Jvm.Cond.constantLong "BranchworkModel" (290 : Nat) (58087 : Int64)) ∈ jw_T := jw_mem 1592 (by decide +kernel) (by decide +kernel)
theorem jq_1593 : (Jvm.Cond.methodLink "BranchworkModel" (287 : Nat) ({ cls := "BranchworkModel", name := "add", desc := "(JJ)J" } : Jvm.MethodName)) ∈ jw_T := jw_mem 1593 (by decide +kernel) (by decide +kernel)
theorem jq_1594 : (Jvm.Cond.static ({ cls := "BranchworkModel", name := "add", desc := "(JJ)J" } : Jvm.MethodName)) ∈ jw_T := jw_mem 1594 (by decide +kernel) (by decide +kernel)
theorem jq_1595 : (Jvm.Cond.code ({ cls := "BranchworkModel", name := "add", desc := "(JJ)J" } : Jvm.MethodName) prog_11_method_65_code (4 : Nat) (Option.some Jvm.ClassFile.FieldType.long)) ∈ jw_T := jw_mem 1595 (by decide +kernel) (by decide +kernel)
theorem jq_1596 : (Jvm.Cond.constantLong "BranchworkModel" (283 : Nat) (31 : Int64)) ∈ jw_T := jw_mem 1596 (by decide +kernel) (by decide +kernel)
theorem jq_1597 : (Jvm.Cond.methodLink "BranchworkModel" (292 : Nat) ({ cls := "BranchworkModel", name := "digestTree", desc := "(JLBranchworkModel$Tree;)J" } : Jvm.MethodName)) ∈ jw_T := jw_mem 1597 (by decide +kernel) (by decide +kernel)
theorem jq_1598 : (Jvm.Cond.static ({ cls := "BranchworkModel", name := "digestTree", desc := "(JLBranchworkModel$Tree;)J" } : Jvm.MethodName)) ∈ jw_T := jw_mem 1598 (by decide +kernel) (by decide +kernel)
theorem jq_1599 : (Jvm.Cond.code ({ cls := "BranchworkModel", name := "digestTree", desc := "(JLBranchworkModel$Tree;)J" } : Jvm.MethodName) prog_11_method_66_code (7 : Nat) (Option.some Jvm.ClassFile.FieldType.long)) ∈ jw_T := jw_mem 1599 (by decide +kernel) (by decide +kernel)
theorem jq_1600 : (Jvm.Cond.constantLong "BranchworkModel" (285 : Nat) (-1 : Int64)) ∈ jw_T := jw_mem 1600 (by decide +kernel) (by decide +kernel)
theorem jq_1601 : (Jvm.Cond.arrayClass Jvm.ClassFile.FieldType.long) ∈ jw_T := jw_mem 1601 (by decide +kernel) (by decide +kernel)
theorem jq_1624 : (Jvm.Cond.selects "[Ljava/lang/Object;" ({ cls := "java/lang/Object", name := "getClass", desc := "()Ljava/lang/Class;" } : Jvm.MethodName) ({ cls := "java/lang/Object", name := "getClass", desc := "()Ljava/lang/Class;" } : Jvm.MethodName)) ∈ jw_T := jw_mem 1624 (by decide +kernel) (by decide +kernel)
theorem jw_oi1 : Cond.instanceMethod objectInit ∈ jw_T := jq_91
theorem jw_oi2 : Cond.code objectInit ⟨#[0xb1]⟩ 1 none ∈ jw_T := jq_92
def mi_Branchwork_init : MethodName × ByteArray × Nat × Option FieldType := (⟨"Branchwork", "<init>", "()V"⟩, prog_1_method_1_code, 1, (Option.none : Option Jvm.ClassFile.FieldType))
def mi_Object_init : MethodName × ByteArray × Nat × Option FieldType := (⟨"java/lang/Object", "<init>", "()V"⟩, object_method_1_code, 1, (Option.none : Option Jvm.ClassFile.FieldType))
def mi_Tree_init : MethodName × ByteArray × Nat × Option FieldType := (⟨"Branchwork$Tree", "<init>", "()V"⟩, prog_9_method_1_code, 2, (Option.none : Option Jvm.ClassFile.FieldType))
def mi_Content_init : MethodName × ByteArray × Nat × Option FieldType := (⟨"Branchwork$Content", "<init>", "()V"⟩, prog_4_method_1_code, 1, (Option.none : Option Jvm.ClassFile.FieldType))
def mi_History_init : MethodName × ByteArray × Nat × Option FieldType := (⟨"Branchwork$History", "<init>", "()V"⟩, prog_5_method_1_code, 2, (Option.none : Option Jvm.ClassFile.FieldType))
def mi_Merger_init : MethodName × ByteArray × Nat × Option FieldType := (⟨"Branchwork$Merger", "<init>", "()V"⟩, prog_7_method_1_code, 1, (Option.none : Option Jvm.ClassFile.FieldType))
def mi_Conflicts_init : MethodName × ByteArray × Nat × Option FieldType := (⟨"Branchwork$Conflicts", "<init>", "()V"⟩, prog_3_method_1_code, 1, (Option.none : Option Jvm.ClassFile.FieldType))
def mi_Renames_init : MethodName × ByteArray × Nat × Option FieldType := (⟨"Branchwork$Renames", "<init>", "()V"⟩, prog_8_method_1_code, 1, (Option.none : Option Jvm.ClassFile.FieldType))
def mi_Match_init : MethodName × ByteArray × Nat × Option FieldType := (⟨"Branchwork$Match", "<init>", "()V"⟩, prog_6_method_1_code, 1, (Option.none : Option Jvm.ClassFile.FieldType))
def mi_Blender_init : MethodName × ByteArray × Nat × Option FieldType := (⟨"Branchwork$Blender", "<init>", "()V"⟩, prog_2_method_1_code, 1, (Option.none : Option Jvm.ClassFile.FieldType))
def mi_Arrays_fill : MethodName × ByteArray × Nat × Option FieldType := (⟨"java/util/Arrays", "fill", "([II)V"⟩, prog_32_method_103_code, 4, (Option.none : Option Jvm.ClassFile.FieldType))
def mi_Branchwork_collect : MethodName × ByteArray × Nat × Option FieldType := (⟨"Branchwork", "collect", "()I"⟩, prog_1_method_13_code, 2, (Option.some Jvm.ClassFile.FieldType.int))
def mi_Branchwork_garbage : MethodName × ByteArray × Nat × Option FieldType := (⟨"Branchwork", "garbage", "()I"⟩, prog_1_method_27_code, 1, (Option.some Jvm.ClassFile.FieldType.int))
def mi_History_kept : MethodName × ByteArray × Nat × Option FieldType := (⟨"Branchwork$History", "kept", "()I"⟩, prog_5_method_5_code, 1, (Option.some Jvm.ClassFile.FieldType.int))
def mi_History_countObjects : MethodName × ByteArray × Nat × Option FieldType := (⟨"Branchwork$History", "countObjects", "(I)I"⟩, prog_5_method_16_code, 2, (Option.some Jvm.ClassFile.FieldType.int))
def mi_Integer_bitCount : MethodName × ByteArray × Nat × Option FieldType := (⟨"java/lang/Integer", "bitCount", "(I)I"⟩, prog_22_method_49_code, 1, (Option.some Jvm.ClassFile.FieldType.int))
def mi_History_countTrees : MethodName × ByteArray × Nat × Option FieldType := (⟨"Branchwork$History", "countTrees", "(I)I"⟩, prog_5_method_17_code, 4, (Option.some Jvm.ClassFile.FieldType.int))
def mi_History_isIn : MethodName × ByteArray × Nat × Option FieldType := (⟨"Branchwork$History", "isIn", "(II)Z"⟩, prog_5_method_3_code, 2, (Option.some Jvm.ClassFile.FieldType.boolean))
def mi_History_setOf : MethodName × ByteArray × Nat × Option FieldType := (⟨"Branchwork$History", "setOf", "(I)I"⟩, prog_5_method_2_code, 1, (Option.some Jvm.ClassFile.FieldType.int))
def mi_History_countContents : MethodName × ByteArray × Nat × Option FieldType := (⟨"Branchwork$History", "countContents", "(I)I"⟩, prog_5_method_18_code, 4, (Option.some Jvm.ClassFile.FieldType.int))
def mi_History_meetContents : MethodName × ByteArray × Nat × Option FieldType := (⟨"Branchwork$History", "meetContents", "(I)V"⟩, prog_5_method_20_code, 5, (Option.none : Option Jvm.ClassFile.FieldType))
def mi_Branchwork_reached : MethodName × ByteArray × Nat × Option FieldType := (⟨"Branchwork", "reached", "()I"⟩, prog_1_method_35_code, 3, (Option.some Jvm.ClassFile.FieldType.int))
def mi_History_withAncestors : MethodName × ByteArray × Nat × Option FieldType := (⟨"Branchwork$History", "withAncestors", "(I)I"⟩, prog_5_method_13_code, 4, (Option.some Jvm.ClassFile.FieldType.int))
def mi_History_keepOnly : MethodName × ByteArray × Nat × Option FieldType := (⟨"Branchwork$History", "keepOnly", "(I)V"⟩, prog_5_method_7_code, 2, (Option.none : Option Jvm.ClassFile.FieldType))
def mi_Branchwork_meanLines : MethodName × ByteArray × Nat × Option FieldType := (⟨"Branchwork", "meanLines", "()D"⟩, prog_1_method_28_code, 2, (Option.some Jvm.ClassFile.FieldType.double))
def mi_History_sumLines : MethodName × ByteArray × Nat × Option FieldType := (⟨"Branchwork$History", "sumLines", "(I)I"⟩, prog_5_method_19_code, 4, (Option.some Jvm.ClassFile.FieldType.int))
def mi_History_treeOf : MethodName × ByteArray × Nat × Option FieldType := (⟨"Branchwork$History", "treeOf", "(I)LBranchwork$Tree;"⟩, prog_5_method_8_code, 2, (Option.some (Jvm.ClassFile.FieldType.object "Branchwork$Tree")))
def mi_Tree_fileAt : MethodName × ByteArray × Nat × Option FieldType := (⟨"Branchwork$Tree", "fileAt", "(I)LBranchwork$Content;"⟩, prog_9_method_2_code, 2, (Option.some (Jvm.ClassFile.FieldType.object "Branchwork$Content")))
def mi_Content_length : MethodName × ByteArray × Nat × Option FieldType := (⟨"Branchwork$Content", "length", "()I"⟩, prog_4_method_3_code, 1, (Option.some Jvm.ClassFile.FieldType.int))
def mi_Branchwork_digest : MethodName × ByteArray × Nat × Option FieldType := (⟨"Branchwork", "digest", "()J"⟩, prog_1_method_29_code, 4, (Option.some Jvm.ClassFile.FieldType.long))
def mi_Branchwork_many : MethodName × ByteArray × Nat × Option FieldType := (⟨"Branchwork", "many", "(I)I"⟩, prog_1_method_14_code, 2, (Option.some Jvm.ClassFile.FieldType.int))
def mi_Tree_countFiles : MethodName × ByteArray × Nat × Option FieldType := (⟨"Branchwork$Tree", "countFiles", "()I"⟩, prog_9_method_4_code, 3, (Option.some Jvm.ClassFile.FieldType.int))
def mi_Tree_has : MethodName × ByteArray × Nat × Option FieldType := (⟨"Branchwork$Tree", "has", "(I)Z"⟩, prog_9_method_3_code, 2, (Option.some Jvm.ClassFile.FieldType.boolean))
def mi_Content_exists : MethodName × ByteArray × Nat × Option FieldType := (⟨"Branchwork$Content", "exists", "()Z"⟩, prog_4_method_2_code, 1, (Option.some Jvm.ClassFile.FieldType.boolean))
def mi_Conflicts_howMany : MethodName × ByteArray × Nat × Option FieldType := (⟨"Branchwork$Conflicts", "howMany", "()I"⟩, prog_3_method_2_code, 1, (Option.some Jvm.ClassFile.FieldType.int))
def mi_Throwable_init0 : MethodName × ByteArray × Nat × Option FieldType := (⟨"java/lang/Throwable", "<init>", "()V"⟩, prog_28_method_1_code, 1, (Option.none : Option Jvm.ClassFile.FieldType))
def mi_IllegalArgumentException_init : MethodName × ByteArray × Nat × Option FieldType := (⟨"java/lang/IllegalArgumentException", "<init>", "(Ljava/lang/String;)V"⟩, prog_19_method_2_code, 2, (Option.none : Option Jvm.ClassFile.FieldType))
def mi_RuntimeException_init : MethodName × ByteArray × Nat × Option FieldType := (⟨"java/lang/RuntimeException", "<init>", "(Ljava/lang/String;)V"⟩, prog_25_method_2_code, 2, (Option.none : Option Jvm.ClassFile.FieldType))
def mi_Exception_init : MethodName × ByteArray × Nat × Option FieldType := (⟨"java/lang/Exception", "<init>", "(Ljava/lang/String;)V"⟩, prog_18_method_2_code, 2, (Option.none : Option Jvm.ClassFile.FieldType))
def mi_Throwable_init1 : MethodName × ByteArray × Nat × Option FieldType := (⟨"java/lang/Throwable", "<init>", "(Ljava/lang/String;)V"⟩, prog_28_method_2_code, 2, (Option.none : Option Jvm.ClassFile.FieldType))
def mi_Branchwork_fold : MethodName × ByteArray × Nat × Option FieldType := (⟨"Branchwork", "fold", "(JI)J"⟩, prog_1_method_30_code, 3, (Option.some Jvm.ClassFile.FieldType.long))
def mi_Branchwork_now : MethodName × ByteArray × Nat × Option FieldType := (⟨"Branchwork", "now", "(I)I"⟩, prog_1_method_15_code, 2, (Option.some Jvm.ClassFile.FieldType.int))
def mi_Branchwork_head : MethodName × ByteArray × Nat × Option FieldType := (⟨"Branchwork", "head", "()I"⟩, prog_1_method_33_code, 1, (Option.some Jvm.ClassFile.FieldType.int))
def mi_Branchwork_at : MethodName × ByteArray × Nat × Option FieldType := (⟨"Branchwork", "at", "(I)I"⟩, prog_1_method_16_code, 2, (Option.some Jvm.ClassFile.FieldType.int))
def mi_Branchwork_requireBranch : MethodName × ByteArray × Nat × Option FieldType := (⟨"Branchwork", "requireBranch", "(I)V"⟩, prog_1_method_43_code, 2, (Option.none : Option Jvm.ClassFile.FieldType))
def mi_IndexOutOfBoundsException_init : MethodName × ByteArray × Nat × Option FieldType := (⟨"java/lang/IndexOutOfBoundsException", "<init>", "(Ljava/lang/String;)V"⟩, prog_21_method_2_code, 2, (Option.none : Option Jvm.ClassFile.FieldType))
def mi_Branchwork_status : MethodName × ByteArray × Nat × Option FieldType := (⟨"Branchwork", "status", "(I)I"⟩, prog_1_method_6_code, 3, (Option.some Jvm.ClassFile.FieldType.int))
def mi_Branchwork_requirePath : MethodName × ByteArray × Nat × Option FieldType := (⟨"Branchwork", "requirePath", "(I)V"⟩, prog_1_method_39_code, 1, (Option.none : Option Jvm.ClassFile.FieldType))
def mi_Content_sameAs : MethodName × ByteArray × Nat × Option FieldType := (⟨"Branchwork$Content", "sameAs", "(LBranchwork$Content;)Z"⟩, prog_4_method_15_code, 3, (Option.some Jvm.ClassFile.FieldType.boolean))
def mi_Content_lineAt : MethodName × ByteArray × Nat × Option FieldType := (⟨"Branchwork$Content", "lineAt", "(I)I"⟩, prog_4_method_6_code, 2, (Option.some Jvm.ClassFile.FieldType.int))
def mi_Branchwork_foldTree : MethodName × ByteArray × Nat × Option FieldType := (⟨"Branchwork", "foldTree", "(JLBranchwork$Tree;)J"⟩, prog_1_method_31_code, 8, (Option.some Jvm.ClassFile.FieldType.long))
def mi_History_holds : MethodName × ByteArray × Nat × Option FieldType := (⟨"Branchwork$History", "holds", "(I)Z"⟩, prog_5_method_6_code, 2, (Option.some Jvm.ClassFile.FieldType.boolean))
def mi_Branchwork_foldCommit : MethodName × ByteArray × Nat × Option FieldType := (⟨"Branchwork", "foldCommit", "(JI)J"⟩, prog_1_method_32_code, 7, (Option.some Jvm.ClassFile.FieldType.long))
def mi_Branchwork_ofCommit : MethodName × ByteArray × Nat × Option FieldType := (⟨"Branchwork", "ofCommit", "(II)I"⟩, prog_1_method_17_code, 3, (Option.some Jvm.ClassFile.FieldType.int))
def mi_Branchwork_requireCommit : MethodName × ByteArray × Nat × Option FieldType := (⟨"Branchwork", "requireCommit", "(I)V"⟩, prog_1_method_42_code, 2, (Option.none : Option Jvm.ClassFile.FieldType))
def mi_History_firstParent : MethodName × ByteArray × Nat × Option FieldType := (⟨"Branchwork$History", "firstParent", "(I)I"⟩, prog_5_method_10_code, 2, (Option.some Jvm.ClassFile.FieldType.int))
def mi_History_secondParent : MethodName × ByteArray × Nat × Option FieldType := (⟨"Branchwork$History", "secondParent", "(I)I"⟩, prog_5_method_11_code, 2, (Option.some Jvm.ClassFile.FieldType.int))
def mi_History_noteOf : MethodName × ByteArray × Nat × Option FieldType := (⟨"Branchwork$History", "noteOf", "(I)I"⟩, prog_5_method_9_code, 2, (Option.some Jvm.ClassFile.FieldType.int))
def mi_History_ancestorsOf : MethodName × ByteArray × Nat × Option FieldType := (⟨"Branchwork$History", "ancestorsOf", "(I)I"⟩, prog_5_method_14_code, 2, (Option.some Jvm.ClassFile.FieldType.int))
def mi_Conflicts_codeOf : MethodName × ByteArray × Nat × Option FieldType := (⟨"Branchwork$Conflicts", "codeOf", "(I)I"⟩, prog_3_method_4_code, 2, (Option.some Jvm.ClassFile.FieldType.int))
def mi_Conflicts_holds : MethodName × ByteArray × Nat × Option FieldType := (⟨"Branchwork$Conflicts", "holds", "(I)Z"⟩, prog_3_method_3_code, 2, (Option.some Jvm.ClassFile.FieldType.boolean))
def mi_Conflicts_pathOf : MethodName × ByteArray × Nat × Option FieldType := (⟨"Branchwork$Conflicts", "pathOf", "(I)I"⟩, prog_3_method_5_code, 2, (Option.some Jvm.ClassFile.FieldType.int))
def mi_Branchwork_put : MethodName × ByteArray × Nat × Option FieldType := (⟨"Branchwork", "put", "(III)I"⟩, prog_1_method_2_code, 5, (Option.some Jvm.ClassFile.FieldType.int))
def mi_Content_isFull : MethodName × ByteArray × Nat × Option FieldType := (⟨"Branchwork$Content", "isFull", "()Z"⟩, prog_4_method_4_code, 1, (Option.some Jvm.ClassFile.FieldType.boolean))
def mi_IllegalStateException_init : MethodName × ByteArray × Nat × Option FieldType := (⟨"java/lang/IllegalStateException", "<init>", "(Ljava/lang/String;)V"⟩, prog_20_method_2_code, 2, (Option.none : Option Jvm.ClassFile.FieldType))
def mi_Content_insert : MethodName × ByteArray × Nat × Option FieldType := (⟨"Branchwork$Content", "insert", "(II)V"⟩, prog_4_method_9_code, 4, (Option.none : Option Jvm.ClassFile.FieldType))
def mi_Branchwork_cut : MethodName × ByteArray × Nat × Option FieldType := (⟨"Branchwork", "cut", "(II)I"⟩, prog_1_method_3_code, 4, (Option.some Jvm.ClassFile.FieldType.int))
def mi_Branchwork_requireFile : MethodName × ByteArray × Nat × Option FieldType := (⟨"Branchwork", "requireFile", "(LBranchwork$Tree;I)V"⟩, prog_1_method_40_code, 2, (Option.none : Option Jvm.ClassFile.FieldType))
def mi_Branchwork_requirePlace : MethodName × ByteArray × Nat × Option FieldType := (⟨"Branchwork", "requirePlace", "(LBranchwork$Content;I)V"⟩, prog_1_method_41_code, 2, (Option.none : Option Jvm.ClassFile.FieldType))
def mi_Content_holds : MethodName × ByteArray × Nat × Option FieldType := (⟨"Branchwork$Content", "holds", "(I)Z"⟩, prog_4_method_5_code, 2, (Option.some Jvm.ClassFile.FieldType.boolean))
def mi_Content_takeOut : MethodName × ByteArray × Nat × Option FieldType := (⟨"Branchwork$Content", "takeOut", "(I)V"⟩, prog_4_method_10_code, 3, (Option.none : Option Jvm.ClassFile.FieldType))
def mi_Branchwork_rename : MethodName × ByteArray × Nat × Option FieldType := (⟨"Branchwork", "rename", "(II)I"⟩, prog_1_method_4_code, 4, (Option.some Jvm.ClassFile.FieldType.int))
def mi_Content_copyFrom : MethodName × ByteArray × Nat × Option FieldType := (⟨"Branchwork$Content", "copyFrom", "(LBranchwork$Content;)V"⟩, prog_4_method_14_code, 3, (Option.none : Option Jvm.ClassFile.FieldType))
def mi_Math_min : MethodName × ByteArray × Nat × Option FieldType := (⟨"java/lang/Math", "min", "(II)I"⟩, prog_24_method_69_code, 2, (Option.some Jvm.ClassFile.FieldType.int))
def mi_Content_becomeAbsent : MethodName × ByteArray × Nat × Option FieldType := (⟨"Branchwork$Content", "becomeAbsent", "()V"⟩, prog_4_method_7_code, 1, (Option.none : Option Jvm.ClassFile.FieldType))
def mi_Branchwork_remove : MethodName × ByteArray × Nat × Option FieldType := (⟨"Branchwork", "remove", "(I)I"⟩, prog_1_method_5_code, 2, (Option.some Jvm.ClassFile.FieldType.int))
def mi_Branchwork_commit : MethodName × ByteArray × Nat × Option FieldType := (⟨"Branchwork", "commit", "(I)I"⟩, prog_1_method_7_code, 3, (Option.some Jvm.ClassFile.FieldType.int))
def mi_History_isFull : MethodName × ByteArray × Nat × Option FieldType := (⟨"Branchwork$History", "isFull", "()Z"⟩, prog_5_method_4_code, 1, (Option.some Jvm.ClassFile.FieldType.boolean))
def mi_Branchwork_isClean : MethodName × ByteArray × Nat × Option FieldType := (⟨"Branchwork", "isClean", "()Z"⟩, prog_1_method_34_code, 1, (Option.some Jvm.ClassFile.FieldType.boolean))
def mi_Tree_sameAs : MethodName × ByteArray × Nat × Option FieldType := (⟨"Branchwork$Tree", "sameAs", "(LBranchwork$Tree;)Z"⟩, prog_9_method_7_code, 3, (Option.some Jvm.ClassFile.FieldType.boolean))
def mi_History_add : MethodName × ByteArray × Nat × Option FieldType := (⟨"Branchwork$History", "add", "(LBranchwork$Tree;III)I"⟩, prog_5_method_12_code, 7, (Option.some Jvm.ClassFile.FieldType.int))
def mi_Tree_copyFrom : MethodName × ByteArray × Nat × Option FieldType := (⟨"Branchwork$Tree", "copyFrom", "(LBranchwork$Tree;)V"⟩, prog_9_method_6_code, 3, (Option.none : Option Jvm.ClassFile.FieldType))
def mi_History_numberOfTree : MethodName × ByteArray × Nat × Option FieldType := (⟨"Branchwork$History", "numberOfTree", "(I)I"⟩, prog_5_method_21_code, 3, (Option.some Jvm.ClassFile.FieldType.int))
def mi_History_numberOfContent : MethodName × ByteArray × Nat × Option FieldType := (⟨"Branchwork$History", "numberOfContent", "(II)I"⟩, prog_5_method_22_code, 6, (Option.some Jvm.ClassFile.FieldType.int))
def mi_Branchwork_branch : MethodName × ByteArray × Nat × Option FieldType := (⟨"Branchwork", "branch", "()I"⟩, prog_1_method_8_code, 1, (Option.some Jvm.ClassFile.FieldType.int))
def mi_Branchwork_change : MethodName × ByteArray × Nat × Option FieldType := (⟨"Branchwork", "change", "(I)I"⟩, prog_1_method_9_code, 3, (Option.some Jvm.ClassFile.FieldType.int))
def mi_Branchwork_requireCleanAndUnmerged : MethodName × ByteArray × Nat × Option FieldType := (⟨"Branchwork", "requireCleanAndUnmerged", "()V"⟩, prog_1_method_45_code, 1, (Option.none : Option Jvm.ClassFile.FieldType))
def mi_Branchwork_reset : MethodName × ByteArray × Nat × Option FieldType := (⟨"Branchwork", "reset", "(I)I"⟩, prog_1_method_10_code, 3, (Option.some Jvm.ClassFile.FieldType.int))
def mi_Conflicts_clear : MethodName × ByteArray × Nat × Option FieldType := (⟨"Branchwork$Conflicts", "clear", "()V"⟩, prog_3_method_8_code, 1, (Option.none : Option Jvm.ClassFile.FieldType))
def mi_Branchwork_merge : MethodName × ByteArray × Nat × Option FieldType := (⟨"Branchwork", "merge", "(I)I"⟩, prog_1_method_11_code, 5, (Option.some Jvm.ClassFile.FieldType.int))
def mi_History_commonAncestor : MethodName × ByteArray × Nat × Option FieldType := (⟨"Branchwork$History", "commonAncestor", "(II)I"⟩, prog_5_method_15_code, 5, (Option.some Jvm.ClassFile.FieldType.int))
def mi_Merger_mergeTrees : MethodName × ByteArray × Nat × Option FieldType := (⟨"Branchwork$Merger", "mergeTrees", "(LBranchwork$Tree;LBranchwork$Tree;LBranchwork$Tree;)V"⟩, prog_7_method_4_code, 5, (Option.none : Option Jvm.ClassFile.FieldType))
def mi_Tree_clear : MethodName × ByteArray × Nat × Option FieldType := (⟨"Branchwork$Tree", "clear", "()V"⟩, prog_9_method_5_code, 2, (Option.none : Option Jvm.ClassFile.FieldType))
def mi_Renames_trace : MethodName × ByteArray × Nat × Option FieldType := (⟨"Branchwork$Renames", "trace", "(LBranchwork$Tree;LBranchwork$Tree;)V"⟩, prog_8_method_2_code, 4, (Option.none : Option Jvm.ClassFile.FieldType))
def mi_Renames_nearest : MethodName × ByteArray × Nat × Option FieldType := (⟨"Branchwork$Renames", "nearest", "(LBranchwork$Tree;ILBranchwork$Tree;)I"⟩, prog_8_method_6_code, 8, (Option.some Jvm.ClassFile.FieldType.int))
def mi_Match_nearnessOf : MethodName × ByteArray × Nat × Option FieldType := (⟨"Branchwork$Match", "nearnessOf", "(LBranchwork$Content;LBranchwork$Content;)I"⟩, prog_6_method_4_code, 4, (Option.some Jvm.ClassFile.FieldType.int))
def mi_Match_measure : MethodName × ByteArray × Nat × Option FieldType := (⟨"Branchwork$Match", "measure", "(LBranchwork$Content;LBranchwork$Content;)V"⟩, prog_6_method_6_code, 7, (Option.none : Option Jvm.ClassFile.FieldType))
def mi_Math_max : MethodName × ByteArray × Nat × Option FieldType := (⟨"java/lang/Math", "max", "(II)I"⟩, prog_24_method_65_code, 2, (Option.some Jvm.ClassFile.FieldType.int))
def mi_Merger_mergeFile : MethodName × ByteArray × Nat × Option FieldType := (⟨"Branchwork$Merger", "mergeFile", "(LBranchwork$Tree;LBranchwork$Tree;LBranchwork$Tree;I)V"⟩, prog_7_method_6_code, 9, (Option.none : Option Jvm.ClassFile.FieldType))
def mi_Renames_fateOf : MethodName × ByteArray × Nat × Option FieldType := (⟨"Branchwork$Renames", "fateOf", "(I)I"⟩, prog_8_method_3_code, 2, (Option.some Jvm.ClassFile.FieldType.int))
def mi_Merger_mergeLeftOut : MethodName × ByteArray × Nat × Option FieldType := (⟨"Branchwork$Merger", "mergeLeftOut", "(LBranchwork$Tree;LBranchwork$Tree;II)V"⟩, prog_7_method_7_code, 6, (Option.none : Option Jvm.ClassFile.FieldType))
def mi_Merger_bring : MethodName × ByteArray × Nat × Option FieldType := (⟨"Branchwork$Merger", "bring", "(LBranchwork$Content;I)Z"⟩, prog_7_method_9_code, 3, (Option.some Jvm.ClassFile.FieldType.boolean))
def mi_Conflicts_tell : MethodName × ByteArray × Nat × Option FieldType := (⟨"Branchwork$Conflicts", "tell", "(II)V"⟩, prog_3_method_6_code, 3, (Option.none : Option Jvm.ClassFile.FieldType))
def mi_Blender_blendInto : MethodName × ByteArray × Nat × Option FieldType := (⟨"Branchwork$Blender", "blendInto", "(LBranchwork$Content;LBranchwork$Content;LBranchwork$Content;LBranchwork$Content;)Z"⟩, prog_2_method_2_code, 13, (Option.some Jvm.ClassFile.FieldType.boolean))
def mi_Match_pairUp : MethodName × ByteArray × Nat × Option FieldType := (⟨"Branchwork$Match", "pairUp", "(LBranchwork$Content;LBranchwork$Content;)V"⟩, prog_6_method_5_code, 5, (Option.none : Option Jvm.ClassFile.FieldType))
def mi_Content_becomeEmpty : MethodName × ByteArray × Nat × Option FieldType := (⟨"Branchwork$Content", "becomeEmpty", "()V"⟩, prog_4_method_8_code, 1, (Option.none : Option Jvm.ClassFile.FieldType))
def mi_Match_partnerInB : MethodName × ByteArray × Nat × Option FieldType := (⟨"Branchwork$Match", "partnerInB", "(I)I"⟩, prog_6_method_2_code, 2, (Option.some Jvm.ClassFile.FieldType.int))
def mi_Content_becomePart : MethodName × ByteArray × Nat × Option FieldType := (⟨"Branchwork$Content", "becomePart", "(LBranchwork$Content;II)V"⟩, prog_4_method_13_code, 5, (Option.none : Option Jvm.ClassFile.FieldType))
def mi_Content_append : MethodName × ByteArray × Nat × Option FieldType := (⟨"Branchwork$Content", "append", "(I)V"⟩, prog_4_method_11_code, 2, (Option.none : Option Jvm.ClassFile.FieldType))
def mi_Blender_blendParts : MethodName × ByteArray × Nat × Option FieldType := (⟨"Branchwork$Blender", "blendParts", "(LBranchwork$Content;)Z"⟩, prog_2_method_3_code, 2, (Option.some Jvm.ClassFile.FieldType.boolean))
def mi_Content_appendAll : MethodName × ByteArray × Nat × Option FieldType := (⟨"Branchwork$Content", "appendAll", "(LBranchwork$Content;)V"⟩, prog_4_method_12_code, 3, (Option.none : Option Jvm.ClassFile.FieldType))
def mi_Merger_isNew : MethodName × ByteArray × Nat × Option FieldType := (⟨"Branchwork$Merger", "isNew", "(LBranchwork$Tree;LBranchwork$Tree;LBranchwork$Renames;I)Z"⟩, prog_7_method_5_code, 4, (Option.some Jvm.ClassFile.FieldType.boolean))
def mi_Renames_sourceOf : MethodName × ByteArray × Nat × Option FieldType := (⟨"Branchwork$Renames", "sourceOf", "(I)I"⟩, prog_8_method_4_code, 2, (Option.some Jvm.ClassFile.FieldType.int))
def mi_Merger_joinNew : MethodName × ByteArray × Nat × Option FieldType := (⟨"Branchwork$Merger", "joinNew", "(LBranchwork$Content;LBranchwork$Content;I)V"⟩, prog_7_method_8_code, 4, (Option.none : Option Jvm.ClassFile.FieldType))
def mi_Merger_result : MethodName × ByteArray × Nat × Option FieldType := (⟨"Branchwork$Merger", "result", "()LBranchwork$Tree;"⟩, prog_7_method_2_code, 1, (Option.some (Jvm.ClassFile.FieldType.object "Branchwork$Tree")))
def mi_Merger_told : MethodName × ByteArray × Nat × Option FieldType := (⟨"Branchwork$Merger", "told", "()LBranchwork$Conflicts;"⟩, prog_7_method_3_code, 1, (Option.some (Jvm.ClassFile.FieldType.object "Branchwork$Conflicts")))
def mi_Conflicts_copyFrom : MethodName × ByteArray × Nat × Option FieldType := (⟨"Branchwork$Conflicts", "copyFrom", "(LBranchwork$Conflicts;)V"⟩, prog_3_method_9_code, 3, (Option.none : Option Jvm.ClassFile.FieldType))
def mi_Branchwork_settle : MethodName × ByteArray × Nat × Option FieldType := (⟨"Branchwork", "settle", "(I)I"⟩, prog_1_method_12_code, 2, (Option.some Jvm.ClassFile.FieldType.int))
def mi_Branchwork_requireConflict : MethodName × ByteArray × Nat × Option FieldType := (⟨"Branchwork", "requireConflict", "(I)V"⟩, prog_1_method_44_code, 2, (Option.none : Option Jvm.ClassFile.FieldType))
def mi_Conflicts_drop : MethodName × ByteArray × Nat × Option FieldType := (⟨"Branchwork$Conflicts", "drop", "(I)V"⟩, prog_3_method_7_code, 3, (Option.none : Option Jvm.ClassFile.FieldType))
def mi_Branchwork_line : MethodName × ByteArray × Nat × Option FieldType := (⟨"Branchwork", "line", "(III)I"⟩, prog_1_method_18_code, 5, (Option.some Jvm.ClassFile.FieldType.int))
def mi_Branchwork_fileToShow : MethodName × ByteArray × Nat × Option FieldType := (⟨"Branchwork", "fileToShow", "(II)LBranchwork$Content;"⟩, prog_1_method_36_code, 3, (Option.some (Jvm.ClassFile.FieldType.object "Branchwork$Content")))
def mi_Branchwork_size : MethodName × ByteArray × Nat × Option FieldType := (⟨"Branchwork", "size", "(II)I"⟩, prog_1_method_19_code, 4, (Option.some Jvm.ClassFile.FieldType.int))
def mi_Branchwork_conflict : MethodName × ByteArray × Nat × Option FieldType := (⟨"Branchwork", "conflict", "(II)I"⟩, prog_1_method_20_code, 3, (Option.some Jvm.ClassFile.FieldType.int))
def mi_Branchwork_base : MethodName × ByteArray × Nat × Option FieldType := (⟨"Branchwork", "base", "(II)I"⟩, prog_1_method_21_code, 3, (Option.some Jvm.ClassFile.FieldType.int))
def mi_Branchwork_went : MethodName × ByteArray × Nat × Option FieldType := (⟨"Branchwork", "went", "(III)I"⟩, prog_1_method_22_code, 4, (Option.some Jvm.ClassFile.FieldType.int))
def mi_Branchwork_changes : MethodName × ByteArray × Nat × Option FieldType := (⟨"Branchwork", "changes", "(III)I"⟩, prog_1_method_23_code, 8, (Option.some Jvm.ClassFile.FieldType.int))
def mi_Branchwork_kindOfChange : MethodName × ByteArray × Nat × Option FieldType := (⟨"Branchwork", "kindOfChange", "(LBranchwork$Tree;LBranchwork$Tree;I)I"⟩, prog_1_method_37_code, 4, (Option.some Jvm.ClassFile.FieldType.int))
def mi_Renames_howMany : MethodName × ByteArray × Nat × Option FieldType := (⟨"Branchwork$Renames", "howMany", "()I"⟩, prog_8_method_5_code, 1, (Option.some Jvm.ClassFile.FieldType.int))
def mi_Branchwork_nearness : MethodName × ByteArray × Nat × Option FieldType := (⟨"Branchwork", "nearness", "(IIII)I"⟩, prog_1_method_24_code, 5, (Option.some Jvm.ClassFile.FieldType.int))
def mi_Branchwork_origin : MethodName × ByteArray × Nat × Option FieldType := (⟨"Branchwork", "origin", "(III)I"⟩, prog_1_method_25_code, 9, (Option.some Jvm.ClassFile.FieldType.int))
def mi_Branchwork_spotInParent : MethodName × ByteArray × Nat × Option FieldType := (⟨"Branchwork", "spotInParent", "(III)I"⟩, prog_1_method_38_code, 9, (Option.some Jvm.ClassFile.FieldType.int))
def mi_Match_partnerInA : MethodName × ByteArray × Nat × Option FieldType := (⟨"Branchwork$Match", "partnerInA", "(I)I"⟩, prog_6_method_3_code, 2, (Option.some Jvm.ClassFile.FieldType.int))
def mi_Branchwork_conflictsOf : MethodName × ByteArray × Nat × Option FieldType := (⟨"Branchwork", "conflictsOf", "(II)I"⟩, prog_1_method_26_code, 4, (Option.some Jvm.ClassFile.FieldType.int))
def mi_BranchworkModel_init : MethodName × ByteArray × Nat × Option FieldType := (⟨"BranchworkModel", "<init>", "()V"⟩, prog_11_method_6_code, 1, (Option.none : Option Jvm.ClassFile.FieldType))
def mi_ArrayList_init : MethodName × ByteArray × Nat × Option FieldType := (⟨"java/util/ArrayList", "<init>", "()V"⟩, prog_31_method_2_code, 1, (Option.none : Option Jvm.ClassFile.FieldType))
def mi_AbstractList_init : MethodName × ByteArray × Nat × Option FieldType := (⟨"java/util/AbstractList", "<init>", "()V"⟩, prog_30_method_1_code, 1, (Option.none : Option Jvm.ClassFile.FieldType))
def mi_AbstractCollection_init : MethodName × ByteArray × Nat × Option FieldType := (⟨"java/util/AbstractCollection", "<init>", "()V"⟩, prog_29_method_1_code, 1, (Option.none : Option Jvm.ClassFile.FieldType))
def mi_MTree_init : MethodName × ByteArray × Nat × Option FieldType := (⟨"BranchworkModel$Tree", "<init>", "()V"⟩, prog_15_method_1_code, 1, (Option.none : Option Jvm.ClassFile.FieldType))
def mi_ArrayList_add0 : MethodName × ByteArray × Nat × Option FieldType := (⟨"java/util/ArrayList", "add", "(Ljava/lang/Object;)Z"⟩, prog_31_method_25_code, 2, (Option.some Jvm.ClassFile.FieldType.boolean))
def mi_ArrayList_add1 : MethodName × ByteArray × Nat × Option FieldType := (⟨"java/util/ArrayList", "add", "(Ljava/lang/Object;[Ljava/lang/Object;I)V"⟩, prog_31_method_24_code, 4, (Option.none : Option Jvm.ClassFile.FieldType))
def mi_ArrayList_grow0 : MethodName × ByteArray × Nat × Option FieldType := (⟨"java/util/ArrayList", "grow", "()[Ljava/lang/Object;"⟩, prog_31_method_7_code, 1, (Option.some (Jvm.ClassFile.FieldType.array (Jvm.ClassFile.FieldType.object "java/lang/Object"))))
def mi_ArrayList_grow1 : MethodName × ByteArray × Nat × Option FieldType := (⟨"java/util/ArrayList", "grow", "(I)[Ljava/lang/Object;"⟩, prog_31_method_6_code, 4, (Option.some (Jvm.ClassFile.FieldType.array (Jvm.ClassFile.FieldType.object "java/lang/Object"))))
def mi_ArraysSupport_newLength : MethodName × ByteArray × Nat × Option FieldType := (⟨"jdk/internal/util/ArraysSupport", "newLength", "(III)I"⟩, prog_38_method_27_code, 4, (Option.some Jvm.ClassFile.FieldType.int))
def mi_ArraysSupport_hugeLength : MethodName × ByteArray × Nat × Option FieldType := (⟨"jdk/internal/util/ArraysSupport", "hugeLength", "(II)I"⟩, prog_38_method_28_code, 3, (Option.some Jvm.ClassFile.FieldType.int))
def mi_Arrays_copyOf0 : MethodName × ByteArray × Nat × Option FieldType := (⟨"java/util/Arrays", "copyOf", "([Ljava/lang/Object;I)[Ljava/lang/Object;"⟩, prog_32_method_119_code, 2, (Option.some (Jvm.ClassFile.FieldType.array (Jvm.ClassFile.FieldType.object "java/lang/Object"))))
def mi_Arrays_copyOf1 : MethodName × ByteArray × Nat × Option FieldType := (⟨"java/util/Arrays", "copyOf", "([Ljava/lang/Object;ILjava/lang/Class;)[Ljava/lang/Object;"⟩, prog_32_method_120_code, 4, (Option.some (Jvm.ClassFile.FieldType.array (Jvm.ClassFile.FieldType.object "java/lang/Object"))))
def mi_BranchworkModel_thrown : MethodName × ByteArray × Nat × Option FieldType := (⟨"BranchworkModel", "thrown", "()I"⟩, prog_11_method_7_code, 1, (Option.some Jvm.ClassFile.FieldType.int))
def mi_BranchworkModel_put : MethodName × ByteArray × Nat × Option FieldType := (⟨"BranchworkModel", "put", "(III)I"⟩, prog_11_method_18_code, 5, (Option.some Jvm.ClassFile.FieldType.int))
def mi_BranchworkModel_isNoPath : MethodName × ByteArray × Nat × Option FieldType := (⟨"BranchworkModel", "isNoPath", "(I)Z"⟩, prog_11_method_11_code, 1, (Option.some Jvm.ClassFile.FieldType.boolean))
def mi_BranchworkModel_isIn : MethodName × ByteArray × Nat × Option FieldType := (⟨"BranchworkModel", "isIn", "(III)Z"⟩, prog_11_method_8_code, 3, (Option.some Jvm.ClassFile.FieldType.boolean))
def mi_BranchworkModel_start : MethodName × ByteArray × Nat × Option FieldType := (⟨"BranchworkModel", "start", "(ZI)Z"⟩, prog_11_method_10_code, 3, (Option.some Jvm.ClassFile.FieldType.boolean))
def mi_BranchworkModel_refuse : MethodName × ByteArray × Nat × Option FieldType := (⟨"BranchworkModel", "refuse", "(ZI)Z"⟩, prog_11_method_9_code, 3, (Option.some Jvm.ClassFile.FieldType.boolean))
def mi_MTree_has : MethodName × ByteArray × Nat × Option FieldType := (⟨"BranchworkModel$Tree", "has", "(I)Z"⟩, prog_15_method_3_code, 2, (Option.some Jvm.ClassFile.FieldType.boolean))
def mi_BranchworkModel_cut1 : MethodName × ByteArray × Nat × Option FieldType := (⟨"BranchworkModel", "cut", "([III)[I"⟩, prog_11_method_4_code, 4, (Option.some (Jvm.ClassFile.FieldType.array Jvm.ClassFile.FieldType.int)))
def mi_BranchworkModel_joined : MethodName × ByteArray × Nat × Option FieldType := (⟨"BranchworkModel", "joined", "([I[I)[I"⟩, prog_11_method_5_code, 3, (Option.some (Jvm.ClassFile.FieldType.array Jvm.ClassFile.FieldType.int)))
def mi_BranchworkModel_write : MethodName × ByteArray × Nat × Option FieldType := (⟨"BranchworkModel", "write", "(I[I)V"⟩, prog_11_method_17_code, 3, (Option.none : Option Jvm.ClassFile.FieldType))
def mi_MTree_copy : MethodName × ByteArray × Nat × Option FieldType := (⟨"BranchworkModel$Tree", "copy", "()LBranchworkModel$Tree;"⟩, prog_15_method_2_code, 2, (Option.some (Jvm.ClassFile.FieldType.object "BranchworkModel$Tree")))
def mi_BranchworkModel_cut0 : MethodName × ByteArray × Nat × Option FieldType := (⟨"BranchworkModel", "cut", "(II)I"⟩, prog_11_method_19_code, 4, (Option.some Jvm.ClassFile.FieldType.int))
def mi_BranchworkModel_isNoFile : MethodName × ByteArray × Nat × Option FieldType := (⟨"BranchworkModel", "isNoFile", "(I)Z"⟩, prog_11_method_12_code, 2, (Option.some Jvm.ClassFile.FieldType.boolean))
def mi_BranchworkModel_rename : MethodName × ByteArray × Nat × Option FieldType := (⟨"BranchworkModel", "rename", "(II)I"⟩, prog_11_method_20_code, 4, (Option.some Jvm.ClassFile.FieldType.int))
def mi_BranchworkModel_remove : MethodName × ByteArray × Nat × Option FieldType := (⟨"BranchworkModel", "remove", "(I)I"⟩, prog_11_method_21_code, 2, (Option.some Jvm.ClassFile.FieldType.int))
def mi_MTree_size : MethodName × ByteArray × Nat × Option FieldType := (⟨"BranchworkModel$Tree", "size", "()I"⟩, prog_15_method_5_code, 3, (Option.some Jvm.ClassFile.FieldType.int))
def mi_BranchworkModel_status : MethodName × ByteArray × Nat × Option FieldType := (⟨"BranchworkModel", "status", "(I)I"⟩, prog_11_method_23_code, 2, (Option.some Jvm.ClassFile.FieldType.int))
def mi_BranchworkModel_statusOf : MethodName × ByteArray × Nat × Option FieldType := (⟨"BranchworkModel", "statusOf", "(I)I"⟩, prog_11_method_22_code, 3, (Option.some Jvm.ClassFile.FieldType.int))
def mi_BranchworkModel_headTree : MethodName × ByteArray × Nat × Option FieldType := (⟨"BranchworkModel", "headTree", "()LBranchworkModel$Tree;"⟩, prog_11_method_15_code, 1, (Option.some (Jvm.ClassFile.FieldType.object "BranchworkModel$Tree")))
def mi_BranchworkModel_head : MethodName × ByteArray × Nat × Option FieldType := (⟨"BranchworkModel", "head", "()LBranchworkModel$Commit;"⟩, prog_11_method_14_code, 1, (Option.some (Jvm.ClassFile.FieldType.object "BranchworkModel$Commit")))
def mi_ArrayList_get : MethodName × ByteArray × Nat × Option FieldType := (⟨"java/util/ArrayList", "get", "(I)Ljava/lang/Object;"⟩, prog_31_method_20_code, 2, (Option.some (Jvm.ClassFile.FieldType.object "java/lang/Object")))
def mi_Objects_checkIndex : MethodName × ByteArray × Nat × Option FieldType := (⟨"java/util/Objects", "checkIndex", "(II)I"⟩, prog_35_method_17_code, 2, (Option.some Jvm.ClassFile.FieldType.int))
def mi_Preconditions_checkIndex : MethodName × ByteArray × Nat × Option FieldType := (⟨"jdk/internal/util/Preconditions", "checkIndex", "(IILjava/util/function/BiFunction;)I"⟩, prog_39_method_11_code, 3, (Option.some Jvm.ClassFile.FieldType.int))
def mi_ArrayList_elementData : MethodName × ByteArray × Nat × Option FieldType := (⟨"java/util/ArrayList", "elementData", "(I)Ljava/lang/Object;"⟩, prog_31_method_18_code, 2, (Option.some (Jvm.ClassFile.FieldType.object "java/lang/Object")))
def mi_BranchworkModel_areSame : MethodName × ByteArray × Nat × Option FieldType := (⟨"BranchworkModel", "areSame", "([I[I)Z"⟩, prog_11_method_1_code, 3, (Option.some Jvm.ClassFile.FieldType.boolean))
def mi_BranchworkModel_commit : MethodName × ByteArray × Nat × Option FieldType := (⟨"BranchworkModel", "commit", "(I)I"⟩, prog_11_method_25_code, 3, (Option.some Jvm.ClassFile.FieldType.int))
def mi_ArrayList_size : MethodName × ByteArray × Nat × Option FieldType := (⟨"java/util/ArrayList", "size", "()I"⟩, prog_31_method_8_code, 1, (Option.some Jvm.ClassFile.FieldType.int))
def mi_ArrayList_isEmpty : MethodName × ByteArray × Nat × Option FieldType := (⟨"java/util/ArrayList", "isEmpty", "()Z"⟩, prog_31_method_9_code, 1, (Option.some Jvm.ClassFile.FieldType.boolean))
def mi_BranchworkModel_isClean : MethodName × ByteArray × Nat × Option FieldType := (⟨"BranchworkModel", "isClean", "()Z"⟩, prog_11_method_16_code, 1, (Option.some Jvm.ClassFile.FieldType.boolean))
def mi_MTree_isAs : MethodName × ByteArray × Nat × Option FieldType := (⟨"BranchworkModel$Tree", "isAs", "(LBranchworkModel$Tree;)Z"⟩, prog_15_method_4_code, 3, (Option.some Jvm.ClassFile.FieldType.boolean))
def mi_MCommit_init : MethodName × ByteArray × Nat × Option FieldType := (⟨"BranchworkModel$Commit", "<init>", "(ILBranchworkModel$Tree;ILBranchworkModel$Commit;LBranchworkModel$Commit;)V"⟩, prog_13_method_1_code, 6, (Option.none : Option Jvm.ClassFile.FieldType))
def mi_ArrayList_set : MethodName × ByteArray × Nat × Option FieldType := (⟨"java/util/ArrayList", "set", "(ILjava/lang/Object;)Ljava/lang/Object;"⟩, prog_31_method_23_code, 4, (Option.some (Jvm.ClassFile.FieldType.object "java/lang/Object")))
def mi_BranchworkModel_branch : MethodName × ByteArray × Nat × Option FieldType := (⟨"BranchworkModel", "branch", "()I"⟩, prog_11_method_26_code, 1, (Option.some Jvm.ClassFile.FieldType.int))
def mi_BranchworkModel_change : MethodName × ByteArray × Nat × Option FieldType := (⟨"BranchworkModel", "change", "(I)I"⟩, prog_11_method_28_code, 3, (Option.some Jvm.ClassFile.FieldType.int))
def mi_BranchworkModel_isNoBranch : MethodName × ByteArray × Nat × Option FieldType := (⟨"BranchworkModel", "isNoBranch", "(I)Z"⟩, prog_11_method_27_code, 2, (Option.some Jvm.ClassFile.FieldType.boolean))
def mi_BranchworkModel_reset : MethodName × ByteArray × Nat × Option FieldType := (⟨"BranchworkModel", "reset", "(I)I"⟩, prog_11_method_29_code, 3, (Option.some Jvm.ClassFile.FieldType.int))
def mi_BranchworkModel_isNoCommit : MethodName × ByteArray × Nat × Option FieldType := (⟨"BranchworkModel", "isNoCommit", "(I)Z"⟩, prog_11_method_13_code, 2, (Option.some Jvm.ClassFile.FieldType.boolean))
def mi_BranchworkModel_set : MethodName × ByteArray × Nat × Option FieldType := (⟨"BranchworkModel", "set", "(LBranchworkModel$Commit;)V"⟩, prog_11_method_24_code, 2, (Option.none : Option Jvm.ClassFile.FieldType))
def mi_ArrayList_clear : MethodName × ByteArray × Nat × Option FieldType := (⟨"java/util/ArrayList", "clear", "()V"⟩, prog_31_method_40_code, 4, (Option.none : Option Jvm.ClassFile.FieldType))
def mi_BranchworkModel_merge : MethodName × ByteArray × Nat × Option FieldType := (⟨"BranchworkModel", "merge", "(I)I"⟩, prog_11_method_30_code, 4, (Option.some Jvm.ClassFile.FieldType.int))
def mi_MCommit_comesOf : MethodName × ByteArray × Nat × Option FieldType := (⟨"BranchworkModel$Commit", "comesOf", "(LBranchworkModel$Commit;)Z"⟩, prog_13_method_4_code, 2, (Option.some Jvm.ClassFile.FieldType.boolean))
def mi_MCommit_ancestors : MethodName × ByteArray × Nat × Option FieldType := (⟨"BranchworkModel$Commit", "ancestors", "()[Z"⟩, prog_13_method_3_code, 2, (Option.some (Jvm.ClassFile.FieldType.array Jvm.ClassFile.FieldType.boolean)))
def mi_MCommit_reach : MethodName × ByteArray × Nat × Option FieldType := (⟨"BranchworkModel$Commit", "reach", "([Z)V"⟩, prog_13_method_2_code, 2, (Option.none : Option Jvm.ClassFile.FieldType))
def mi_BranchworkModel_baseTree : MethodName × ByteArray × Nat × Option FieldType := (⟨"BranchworkModel", "baseTree", "(LBranchworkModel$Commit;LBranchworkModel$Commit;)LBranchworkModel$Tree;"⟩, prog_11_method_53_code, 3, (Option.some (Jvm.ClassFile.FieldType.object "BranchworkModel$Tree")))
def mi_BranchworkModel_baseOf : MethodName × ByteArray × Nat × Option FieldType := (⟨"BranchworkModel", "baseOf", "(LBranchworkModel$Commit;LBranchworkModel$Commit;)LBranchworkModel$Commit;"⟩, prog_11_method_52_code, 6, (Option.some (Jvm.ClassFile.FieldType.object "BranchworkModel$Commit")))
def mi_MMerge_init : MethodName × ByteArray × Nat × Option FieldType := (⟨"BranchworkModel$Merge", "<init>", "(LBranchworkModel$Tree;LBranchworkModel$Tree;LBranchworkModel$Tree;)V"⟩, prog_14_method_1_code, 6, (Option.none : Option Jvm.ClassFile.FieldType))
def mi_MTree_went : MethodName × ByteArray × Nat × Option FieldType := (⟨"BranchworkModel$Tree", "went", "(LBranchworkModel$Tree;I)I"⟩, prog_15_method_7_code, 3, (Option.some Jvm.ClassFile.FieldType.int))
def mi_MTree_renames : MethodName × ByteArray × Nat × Option FieldType := (⟨"BranchworkModel$Tree", "renames", "(LBranchworkModel$Tree;)[I"⟩, prog_15_method_6_code, 9, (Option.some (Jvm.ClassFile.FieldType.array Jvm.ClassFile.FieldType.int)))
def mi_BranchworkModel_nearness1 : MethodName × ByteArray × Nat × Option FieldType := (⟨"BranchworkModel", "nearness", "([I[I)I"⟩, prog_11_method_3_code, 7, (Option.some Jvm.ClassFile.FieldType.int))
def mi_BranchworkModel_match : MethodName × ByteArray × Nat × Option FieldType := (⟨"BranchworkModel", "match", "([I[I)[I"⟩, prog_11_method_2_code, 6, (Option.some (Jvm.ClassFile.FieldType.array Jvm.ClassFile.FieldType.int)))
def mi_MMerge_file : MethodName × ByteArray × Nat × Option FieldType := (⟨"BranchworkModel$Merge", "file", "(I[ILBranchworkModel$Tree;ILBranchworkModel$Tree;I)V"⟩, prog_14_method_4_code, 9, (Option.none : Option Jvm.ClassFile.FieldType))
def mi_MMerge_come : MethodName × ByteArray × Nat × Option FieldType := (⟨"BranchworkModel$Merge", "come", "(I[I)Z"⟩, prog_14_method_3_code, 3, (Option.some Jvm.ClassFile.FieldType.boolean))
def mi_MMerge_tell : MethodName × ByteArray × Nat × Option FieldType := (⟨"BranchworkModel$Merge", "tell", "(II)V"⟩, prog_14_method_2_code, 3, (Option.none : Option Jvm.ClassFile.FieldType))
def mi_MBlend_init : MethodName × ByteArray × Nat × Option FieldType := (⟨"BranchworkModel$Blend", "<init>", "([I[I[I)V"⟩, prog_12_method_1_code, 10, (Option.none : Option Jvm.ClassFile.FieldType))
def mi_MBlend_part : MethodName × ByteArray × Nat × Option FieldType := (⟨"BranchworkModel$Blend", "part", "([I[I[I)V"⟩, prog_12_method_2_code, 4, (Option.none : Option Jvm.ClassFile.FieldType))
def mi_MTree_isNew : MethodName × ByteArray × Nat × Option FieldType := (⟨"BranchworkModel$Tree", "isNew", "(LBranchworkModel$Tree;I)Z"⟩, prog_15_method_8_code, 7, (Option.some Jvm.ClassFile.FieldType.boolean))
def mi_ArrayList_addAll : MethodName × ByteArray × Nat × Option FieldType := (⟨"java/util/ArrayList", "addAll", "(Ljava/util/Collection;)Z"⟩, prog_31_method_41_code, 6, (Option.some Jvm.ClassFile.FieldType.boolean))
def mi_ArrayList_toArray : MethodName × ByteArray × Nat × Option FieldType := (⟨"java/util/ArrayList", "toArray", "()[Ljava/lang/Object;"⟩, prog_31_method_16_code, 1, (Option.some (Jvm.ClassFile.FieldType.array (Jvm.ClassFile.FieldType.object "java/lang/Object"))))
def mi_BranchworkModel_settle : MethodName × ByteArray × Nat × Option FieldType := (⟨"BranchworkModel", "settle", "(I)I"⟩, prog_11_method_31_code, 2, (Option.some Jvm.ClassFile.FieldType.int))
def mi_ArrayList_remove : MethodName × ByteArray × Nat × Option FieldType := (⟨"java/util/ArrayList", "remove", "(I)Ljava/lang/Object;"⟩, prog_31_method_29_code, 4, (Option.some (Jvm.ClassFile.FieldType.object "java/lang/Object")))
def mi_ArrayList_fastRemove : MethodName × ByteArray × Nat × Option FieldType := (⟨"java/util/ArrayList", "fastRemove", "([Ljava/lang/Object;I)V"⟩, prog_31_method_39_code, 4, (Option.none : Option Jvm.ClassFile.FieldType))
def mi_BranchworkModel_collect : MethodName × ByteArray × Nat × Option FieldType := (⟨"BranchworkModel", "collect", "()I"⟩, prog_11_method_38_code, 4, (Option.some Jvm.ClassFile.FieldType.int))
def mi_BranchworkModel_garbageNow : MethodName × ByteArray × Nat × Option FieldType := (⟨"BranchworkModel", "garbageNow", "()I"⟩, prog_11_method_37_code, 1, (Option.some Jvm.ClassFile.FieldType.int))
def mi_BranchworkModel_objects : MethodName × ByteArray × Nat × Option FieldType := (⟨"BranchworkModel", "objects", "(Z)I"⟩, prog_11_method_36_code, 3, (Option.some Jvm.ClassFile.FieldType.int))
def mi_BranchworkModel_trees : MethodName × ByteArray × Nat × Option FieldType := (⟨"BranchworkModel", "trees", "(Z)Ljava/util/ArrayList;"⟩, prog_11_method_33_code, 8, (Option.some (Jvm.ClassFile.FieldType.object "java/util/ArrayList")))
def mi_BranchworkModel_reached : MethodName × ByteArray × Nat × Option FieldType := (⟨"BranchworkModel", "reached", "()[Z"⟩, prog_11_method_32_code, 3, (Option.some (Jvm.ClassFile.FieldType.array Jvm.ClassFile.FieldType.boolean)))
def mi_BranchworkModel_commitsNow : MethodName × ByteArray × Nat × Option FieldType := (⟨"BranchworkModel", "commitsNow", "(Z)I"⟩, prog_11_method_35_code, 5, (Option.some Jvm.ClassFile.FieldType.int))
def mi_BranchworkModel_contents : MethodName × ByteArray × Nat × Option FieldType := (⟨"BranchworkModel", "contents", "(Ljava/util/ArrayList;)Ljava/util/ArrayList;"⟩, prog_11_method_34_code, 7, (Option.some (Jvm.ClassFile.FieldType.object "java/util/ArrayList")))
def mi_BranchworkModel_many : MethodName × ByteArray × Nat × Option FieldType := (⟨"BranchworkModel", "many", "(I)I"⟩, prog_11_method_40_code, 2, (Option.some Jvm.ClassFile.FieldType.int))
def mi_BranchworkModel_count : MethodName × ByteArray × Nat × Option FieldType := (⟨"BranchworkModel", "count", "(I)I"⟩, prog_11_method_39_code, 3, (Option.some Jvm.ClassFile.FieldType.int))
def mi_BranchworkModel_now : MethodName × ByteArray × Nat × Option FieldType := (⟨"BranchworkModel", "now", "(I)I"⟩, prog_11_method_43_code, 2, (Option.some Jvm.ClassFile.FieldType.int))
def mi_BranchworkModel_nowOf : MethodName × ByteArray × Nat × Option FieldType := (⟨"BranchworkModel", "nowOf", "(I)I"⟩, prog_11_method_42_code, 2, (Option.some Jvm.ClassFile.FieldType.int))
def mi_BranchworkModel_number : MethodName × ByteArray × Nat × Option FieldType := (⟨"BranchworkModel", "number", "(LBranchworkModel$Commit;)I"⟩, prog_11_method_41_code, 1, (Option.some Jvm.ClassFile.FieldType.int))
def mi_BranchworkModel_at : MethodName × ByteArray × Nat × Option FieldType := (⟨"BranchworkModel", "at", "(I)I"⟩, prog_11_method_44_code, 2, (Option.some Jvm.ClassFile.FieldType.int))
def mi_BranchworkModel_ofCommit : MethodName × ByteArray × Nat × Option FieldType := (⟨"BranchworkModel", "ofCommit", "(II)I"⟩, prog_11_method_46_code, 3, (Option.some Jvm.ClassFile.FieldType.int))
def mi_BranchworkModel_of : MethodName × ByteArray × Nat × Option FieldType := (⟨"BranchworkModel", "of", "(LBranchworkModel$Commit;I)I"⟩, prog_11_method_45_code, 8, (Option.some Jvm.ClassFile.FieldType.int))
def mi_BranchworkModel_line : MethodName × ByteArray × Nat × Option FieldType := (⟨"BranchworkModel", "line", "(III)I"⟩, prog_11_method_49_code, 5, (Option.some Jvm.ClassFile.FieldType.int))
def mi_BranchworkModel_isNoTree : MethodName × ByteArray × Nat × Option FieldType := (⟨"BranchworkModel", "isNoTree", "(II)Z"⟩, prog_11_method_47_code, 3, (Option.some Jvm.ClassFile.FieldType.boolean))
def mi_BranchworkModel_tree : MethodName × ByteArray × Nat × Option FieldType := (⟨"BranchworkModel", "tree", "(I)LBranchworkModel$Tree;"⟩, prog_11_method_48_code, 2, (Option.some (Jvm.ClassFile.FieldType.object "BranchworkModel$Tree")))
def mi_BranchworkModel_size : MethodName × ByteArray × Nat × Option FieldType := (⟨"BranchworkModel", "size", "(II)I"⟩, prog_11_method_50_code, 3, (Option.some Jvm.ClassFile.FieldType.int))
def mi_BranchworkModel_conflict : MethodName × ByteArray × Nat × Option FieldType := (⟨"BranchworkModel", "conflict", "(II)I"⟩, prog_11_method_51_code, 3, (Option.some Jvm.ClassFile.FieldType.int))
def mi_BranchworkModel_base : MethodName × ByteArray × Nat × Option FieldType := (⟨"BranchworkModel", "base", "(II)I"⟩, prog_11_method_54_code, 3, (Option.some Jvm.ClassFile.FieldType.int))
def mi_BranchworkModel_went : MethodName × ByteArray × Nat × Option FieldType := (⟨"BranchworkModel", "went", "(III)I"⟩, prog_11_method_55_code, 5, (Option.some Jvm.ClassFile.FieldType.int))
def mi_BranchworkModel_changes : MethodName × ByteArray × Nat × Option FieldType := (⟨"BranchworkModel", "changes", "(III)I"⟩, prog_11_method_56_code, 9, (Option.some Jvm.ClassFile.FieldType.int))
def mi_BranchworkModel_nearness0 : MethodName × ByteArray × Nat × Option FieldType := (⟨"BranchworkModel", "nearness", "(IIII)I"⟩, prog_11_method_57_code, 7, (Option.some Jvm.ClassFile.FieldType.int))
def mi_BranchworkModel_origin : MethodName × ByteArray × Nat × Option FieldType := (⟨"BranchworkModel", "origin", "(III)I"⟩, prog_11_method_61_code, 5, (Option.some Jvm.ClassFile.FieldType.int))
def mi_BranchworkModel_originOf : MethodName × ByteArray × Nat × Option FieldType := (⟨"BranchworkModel", "originOf", "(LBranchworkModel$Commit;II)I"⟩, prog_11_method_60_code, 10, (Option.some Jvm.ClassFile.FieldType.int))
def mi_BranchworkModel_cameFrom : MethodName × ByteArray × Nat × Option FieldType := (⟨"BranchworkModel", "cameFrom", "(LBranchworkModel$Commit;LBranchworkModel$Commit;I)I"⟩, prog_11_method_58_code, 5, (Option.some Jvm.ClassFile.FieldType.int))
def mi_BranchworkModel_pairOf : MethodName × ByteArray × Nat × Option FieldType := (⟨"BranchworkModel", "pairOf", "(LBranchworkModel$Commit;ILBranchworkModel$Commit;II)I"⟩, prog_11_method_59_code, 7, (Option.some Jvm.ClassFile.FieldType.int))
def mi_BranchworkModel_conflictsOf : MethodName × ByteArray × Nat × Option FieldType := (⟨"BranchworkModel", "conflictsOf", "(II)I"⟩, prog_11_method_62_code, 5, (Option.some Jvm.ClassFile.FieldType.int))
def mi_BranchworkModel_garbage : MethodName × ByteArray × Nat × Option FieldType := (⟨"BranchworkModel", "garbage", "()I"⟩, prog_11_method_63_code, 1, (Option.some Jvm.ClassFile.FieldType.int))
def mi_BranchworkModel_meanLines : MethodName × ByteArray × Nat × Option FieldType := (⟨"BranchworkModel", "meanLines", "()D"⟩, prog_11_method_64_code, 4, (Option.some Jvm.ClassFile.FieldType.double))
def mi_BranchworkModel_digest : MethodName × ByteArray × Nat × Option FieldType := (⟨"BranchworkModel", "digest", "()J"⟩, prog_11_method_67_code, 5, (Option.some Jvm.ClassFile.FieldType.long))
def mi_BranchworkModel_add : MethodName × ByteArray × Nat × Option FieldType := (⟨"BranchworkModel", "add", "(JJ)J"⟩, prog_11_method_65_code, 4, (Option.some Jvm.ClassFile.FieldType.long))
def mi_BranchworkModel_digestTree : MethodName × ByteArray × Nat × Option FieldType := (⟨"BranchworkModel", "digestTree", "(JLBranchworkModel$Tree;)J"⟩, prog_11_method_66_code, 7, (Option.some Jvm.ClassFile.FieldType.long))
end
section
def F_Content : u_T := fun k => match k with
  | 0 => ("Branchwork$Content", "lines", "[I", true)
  | 1 => ("Branchwork$Content", "count", "I", false)
  | _ => ("Branchwork$Content", "present", "Z", false)
def F_Tree : u_T := fun k => match k with
  | 0 => ("Branchwork$Tree", "files", "[LBranchwork$Content;", true)
  | _ => ("Branchwork$Tree", "outside", "LBranchwork$Content;", true)
def F_Match : u_T := fun k => match k with
  | 0 => ("Branchwork$Match", "common", "[I", true)
  | 1 => ("Branchwork$Match", "partnersInB", "[I", true)
  | _ => ("Branchwork$Match", "partnersInA", "[I", true)
def F_Renames : u_T := fun k => match k with
  | 0 => ("Branchwork$Renames", "fates", "[I", true)
  | 1 => ("Branchwork$Renames", "sources", "[I", true)
  | 2 => ("Branchwork$Renames", "match", "LBranchwork$Match;", true)
  | _ => ("Branchwork$Renames", "count", "I", false)
def F_Blender : u_T := fun k => match k with
  | 0 => ("Branchwork$Blender", "withOurs", "LBranchwork$Match;", true)
  | 1 => ("Branchwork$Blender", "withTheirs", "LBranchwork$Match;", true)
  | 2 => ("Branchwork$Blender", "basePart", "LBranchwork$Content;", true)
  | 3 => ("Branchwork$Blender", "ourPart", "LBranchwork$Content;", true)
  | _ => ("Branchwork$Blender", "theirPart", "LBranchwork$Content;", true)
def F_Conflicts : u_T := fun k => match k with
  | 0 => ("Branchwork$Conflicts", "codes", "[I", true)
  | 1 => ("Branchwork$Conflicts", "paths", "[I", true)
  | _ => ("Branchwork$Conflicts", "count", "I", false)
def F_Merger : u_T := fun k => match k with
  | 0 => ("Branchwork$Merger", "result", "LBranchwork$Tree;", true)
  | 1 => ("Branchwork$Merger", "told", "LBranchwork$Conflicts;", true)
  | 2 => ("Branchwork$Merger", "toOurs", "LBranchwork$Renames;", true)
  | 3 => ("Branchwork$Merger", "toTheirs", "LBranchwork$Renames;", true)
  | 4 => ("Branchwork$Merger", "blender", "LBranchwork$Blender;", true)
  | 5 => ("Branchwork$Merger", "noLines", "LBranchwork$Content;", true)
  | _ => ("Branchwork$Merger", "newFromOurs", "[Z", true)
def F_History : u_T := fun k => match k with
  | 0 => ("Branchwork$History", "trees", "[LBranchwork$Tree;", true)
  | 1 => ("Branchwork$History", "nothing", "LBranchwork$Tree;", true)
  | 2 => ("Branchwork$History", "notes", "[I", true)
  | 3 => ("Branchwork$History", "firstParents", "[I", true)
  | 4 => ("Branchwork$History", "secondParents", "[I", true)
  | 5 => ("Branchwork$History", "treeNumbers", "[I", true)
  | 6 => ("Branchwork$History", "contentNumbers", "[I", true)
  | 7 => ("Branchwork$History", "metContents", "[I", true)
  | 8 => ("Branchwork$History", "count", "I", false)
  | _ => ("Branchwork$History", "kept", "I", false)
def F_Branchwork : u_T := fun k => match k with
  | 0 => ("Branchwork", "working", "LBranchwork$Tree;", true)
  | 1 => ("Branchwork", "history", "LBranchwork$History;", true)
  | 2 => ("Branchwork", "merger", "LBranchwork$Merger;", true)
  | 3 => ("Branchwork", "conflicts", "LBranchwork$Conflicts;", true)
  | 4 => ("Branchwork", "renames", "LBranchwork$Renames;", true)
  | 5 => ("Branchwork", "match", "LBranchwork$Match;", true)
  | 6 => ("Branchwork", "tips", "[I", true)
  | 7 => ("Branchwork", "branches", "I", false)
  | 8 => ("Branchwork", "current", "I", false)
  | _ => ("Branchwork", "merged", "I", false)
def F_BranchworkModel : u_T := fun k => match k with
  | 0 => ("BranchworkModel", "thrown", "I", false)
  | 1 => ("BranchworkModel", "commits", "Ljava/util/ArrayList;", true)
  | 2 => ("BranchworkModel", "branches", "Ljava/util/ArrayList;", true)
  | 3 => ("BranchworkModel", "current", "I", false)
  | 4 => ("BranchworkModel", "working", "LBranchworkModel$Tree;", false)
  | 5 => ("BranchworkModel", "merged", "LBranchworkModel$Commit;", false)
  | _ => ("BranchworkModel", "conflicts", "Ljava/util/ArrayList;", true)
def F_MTree : u_T := fun k => match k with
  | _ => ("BranchworkModel$Tree", "files", "[[I", true)
def F_ArrayList : u_T := fun k => match k with
  | 0 => ("java/util/AbstractList", "modCount", "I", false)
  | 1 => ("java/util/ArrayList", "elementData", "[Ljava/lang/Object;", false)
  | _ => ("java/util/ArrayList", "size", "I", false)
abbrev jw_cl : List vw_C := [("Branchwork$Content", F_Content, 3), ("Branchwork$Tree", F_Tree, 2), ("Branchwork$Match", F_Match, 3), ("Branchwork$Renames", F_Renames, 4), ("Branchwork$Blender", F_Blender, 5), ("Branchwork$Conflicts", F_Conflicts, 3), ("Branchwork$Merger", F_Merger, 7), ("Branchwork$History", F_History, 10), ("Branchwork", F_Branchwork, 10), ("BranchworkModel", F_BranchworkModel, 7), ("BranchworkModel$Tree", F_MTree, 1), ("java/util/ArrayList", F_ArrayList, 3)]
theorem jc_Content : jw_cl[0]? = some ("Branchwork$Content", F_Content, 3) := rfl
theorem jc_Tree : jw_cl[1]? = some ("Branchwork$Tree", F_Tree, 2) := rfl
theorem jc_Match : jw_cl[2]? = some ("Branchwork$Match", F_Match, 3) := rfl
theorem jc_Renames : jw_cl[3]? = some ("Branchwork$Renames", F_Renames, 4) := rfl
theorem jc_Blender : jw_cl[4]? = some ("Branchwork$Blender", F_Blender, 5) := rfl
theorem jc_Conflicts : jw_cl[5]? = some ("Branchwork$Conflicts", F_Conflicts, 3) := rfl
theorem jc_Merger : jw_cl[6]? = some ("Branchwork$Merger", F_Merger, 7) := rfl
theorem jc_History : jw_cl[7]? = some ("Branchwork$History", F_History, 10) := rfl
theorem jc_Branchwork : jw_cl[8]? = some ("Branchwork", F_Branchwork, 10) := rfl
theorem jc_BranchworkModel : jw_cl[9]? = some ("BranchworkModel", F_BranchworkModel, 7) := rfl
theorem jc_MTree : jw_cl[10]? = some ("BranchworkModel$Tree", F_MTree, 1) := rfl
theorem jc_ArrayList : jw_cl[11]? = some ("java/util/ArrayList", F_ArrayList, 3) := rfl
abbrev jw_tys (cA : Nat → ClassId) : List (ClassId × FieldType) := [(cA 0, .int), (cA 1, .boolean), (cA 2, .object "Branchwork$Content"), (cA 3, .object "Branchwork$Tree"), (cA 4, .long), (cA 5, .object "java/lang/Object"), (cA 6, .object "BranchworkModel$Commit")]
def jw_ao : List String := ["Branchwork$Content", "Branchwork$Tree", "java/lang/Object", "BranchworkModel$Commit"]
def jw_nest : List (String × Nat × MethodName × String) := [("Branchwork$Tree", 17, ⟨"Branchwork$Content", "<init>", "()V"⟩, "Branchwork"), ("Branchwork", 25, ⟨"Branchwork$Merger", "<init>", "()V"⟩, "Branchwork"), ("Branchwork$Merger", 20, ⟨"Branchwork$Conflicts", "<init>", "()V"⟩, "Branchwork"), ("Branchwork$Merger", 27, ⟨"Branchwork$Renames", "<init>", "()V"⟩, "Branchwork"), ("Branchwork$Renames", 20, ⟨"Branchwork$Match", "<init>", "()V"⟩, "Branchwork"), ("Branchwork$Merger", 37, ⟨"Branchwork$Blender", "<init>", "()V"⟩, "Branchwork"), ("Branchwork$Blender", 11, ⟨"Branchwork$Match", "<init>", "()V"⟩, "Branchwork"), ("Branchwork$Blender", 23, ⟨"Branchwork$Content", "<init>", "()V"⟩, "Branchwork"), ("Branchwork$Merger", 44, ⟨"Branchwork$Content", "<init>", "()V"⟩, "Branchwork"), ("Branchwork", 32, ⟨"Branchwork$Conflicts", "<init>", "()V"⟩, "Branchwork"), ("Branchwork", 39, ⟨"Branchwork$Renames", "<init>", "()V"⟩, "Branchwork"), ("Branchwork", 46, ⟨"Branchwork$Match", "<init>", "()V"⟩, "Branchwork"), ("BranchworkModel", 39, ⟨"BranchworkModel$Tree", "<init>", "()V"⟩, "BranchworkModel"), ("BranchworkModel$Tree", 24, ⟨"BranchworkModel", "areSame", "([I[I)Z"⟩, "BranchworkModel"), ("BranchworkModel$Merge", 11, ⟨"BranchworkModel$Tree", "<init>", "()V"⟩, "BranchworkModel"), ("BranchworkModel$Tree", 32, ⟨"BranchworkModel", "nearness", "([I[I)I"⟩, "BranchworkModel"), ("BranchworkModel$Merge", 49, ⟨"BranchworkModel", "areSame", "([I[I)Z"⟩, "BranchworkModel"), ("BranchworkModel$Blend", 15, ⟨"BranchworkModel", "match", "([I[I)[I"⟩, "BranchworkModel"), ("BranchworkModel$Blend", 19, ⟨"BranchworkModel", "cut", "([III)[I"⟩, "BranchworkModel"), ("BranchworkModel$Blend", 30, ⟨"BranchworkModel", "areSame", "([I[I)Z"⟩, "BranchworkModel"), ("BranchworkModel$Blend", 27, ⟨"BranchworkModel", "joined", "([I[I)[I"⟩, "BranchworkModel"), ("BranchworkModel$Merge", 41, ⟨"BranchworkModel$Tree", "isNew", "(LBranchworkModel$Tree;I)Z"⟩, "BranchworkModel"), ("BranchworkModel", 263, ⟨"BranchworkModel$Tree", "isNew", "(LBranchworkModel$Tree;I)Z"⟩, "BranchworkModel")]
theorem jn_Tree_17 : (("Branchwork$Tree", 17, ⟨"Branchwork$Content", "<init>", "()V"⟩, "Branchwork") : String × Nat × MethodName × String) ∈ jw_nest := List.mem_of_getElem? (i := 0) rfl
theorem jn_Branchwork_25 : (("Branchwork", 25, ⟨"Branchwork$Merger", "<init>", "()V"⟩, "Branchwork") : String × Nat × MethodName × String) ∈ jw_nest := List.mem_of_getElem? (i := 1) rfl
theorem jn_Merger_20 : (("Branchwork$Merger", 20, ⟨"Branchwork$Conflicts", "<init>", "()V"⟩, "Branchwork") : String × Nat × MethodName × String) ∈ jw_nest := List.mem_of_getElem? (i := 2) rfl
theorem jn_Merger_27 : (("Branchwork$Merger", 27, ⟨"Branchwork$Renames", "<init>", "()V"⟩, "Branchwork") : String × Nat × MethodName × String) ∈ jw_nest := List.mem_of_getElem? (i := 3) rfl
theorem jn_Renames_20 : (("Branchwork$Renames", 20, ⟨"Branchwork$Match", "<init>", "()V"⟩, "Branchwork") : String × Nat × MethodName × String) ∈ jw_nest := List.mem_of_getElem? (i := 4) rfl
theorem jn_Merger_37 : (("Branchwork$Merger", 37, ⟨"Branchwork$Blender", "<init>", "()V"⟩, "Branchwork") : String × Nat × MethodName × String) ∈ jw_nest := List.mem_of_getElem? (i := 5) rfl
theorem jn_Blender_11 : (("Branchwork$Blender", 11, ⟨"Branchwork$Match", "<init>", "()V"⟩, "Branchwork") : String × Nat × MethodName × String) ∈ jw_nest := List.mem_of_getElem? (i := 6) rfl
theorem jn_Blender_23 : (("Branchwork$Blender", 23, ⟨"Branchwork$Content", "<init>", "()V"⟩, "Branchwork") : String × Nat × MethodName × String) ∈ jw_nest := List.mem_of_getElem? (i := 7) rfl
theorem jn_Merger_44 : (("Branchwork$Merger", 44, ⟨"Branchwork$Content", "<init>", "()V"⟩, "Branchwork") : String × Nat × MethodName × String) ∈ jw_nest := List.mem_of_getElem? (i := 8) rfl
theorem jn_Branchwork_32 : (("Branchwork", 32, ⟨"Branchwork$Conflicts", "<init>", "()V"⟩, "Branchwork") : String × Nat × MethodName × String) ∈ jw_nest := List.mem_of_getElem? (i := 9) rfl
theorem jn_Branchwork_39 : (("Branchwork", 39, ⟨"Branchwork$Renames", "<init>", "()V"⟩, "Branchwork") : String × Nat × MethodName × String) ∈ jw_nest := List.mem_of_getElem? (i := 10) rfl
theorem jn_Branchwork_46 : (("Branchwork", 46, ⟨"Branchwork$Match", "<init>", "()V"⟩, "Branchwork") : String × Nat × MethodName × String) ∈ jw_nest := List.mem_of_getElem? (i := 11) rfl
theorem jn_BranchworkModel_39 : (("BranchworkModel", 39, ⟨"BranchworkModel$Tree", "<init>", "()V"⟩, "BranchworkModel") : String × Nat × MethodName × String) ∈ jw_nest := List.mem_of_getElem? (i := 12) rfl
theorem jn_MTree_24 : (("BranchworkModel$Tree", 24, ⟨"BranchworkModel", "areSame", "([I[I)Z"⟩, "BranchworkModel") : String × Nat × MethodName × String) ∈ jw_nest := List.mem_of_getElem? (i := 13) rfl
theorem jn_MMerge_11 : (("BranchworkModel$Merge", 11, ⟨"BranchworkModel$Tree", "<init>", "()V"⟩, "BranchworkModel") : String × Nat × MethodName × String) ∈ jw_nest := List.mem_of_getElem? (i := 14) rfl
theorem jn_MTree_32 : (("BranchworkModel$Tree", 32, ⟨"BranchworkModel", "nearness", "([I[I)I"⟩, "BranchworkModel") : String × Nat × MethodName × String) ∈ jw_nest := List.mem_of_getElem? (i := 15) rfl
theorem jn_MMerge_49 : (("BranchworkModel$Merge", 49, ⟨"BranchworkModel", "areSame", "([I[I)Z"⟩, "BranchworkModel") : String × Nat × MethodName × String) ∈ jw_nest := List.mem_of_getElem? (i := 16) rfl
theorem jn_MBlend_15 : (("BranchworkModel$Blend", 15, ⟨"BranchworkModel", "match", "([I[I)[I"⟩, "BranchworkModel") : String × Nat × MethodName × String) ∈ jw_nest := List.mem_of_getElem? (i := 17) rfl
theorem jn_MBlend_19 : (("BranchworkModel$Blend", 19, ⟨"BranchworkModel", "cut", "([III)[I"⟩, "BranchworkModel") : String × Nat × MethodName × String) ∈ jw_nest := List.mem_of_getElem? (i := 18) rfl
theorem jn_MBlend_30 : (("BranchworkModel$Blend", 30, ⟨"BranchworkModel", "areSame", "([I[I)Z"⟩, "BranchworkModel") : String × Nat × MethodName × String) ∈ jw_nest := List.mem_of_getElem? (i := 19) rfl
theorem jn_MBlend_27 : (("BranchworkModel$Blend", 27, ⟨"BranchworkModel", "joined", "([I[I)[I"⟩, "BranchworkModel") : String × Nat × MethodName × String) ∈ jw_nest := List.mem_of_getElem? (i := 20) rfl
theorem jn_MMerge_41 : (("BranchworkModel$Merge", 41, ⟨"BranchworkModel$Tree", "isNew", "(LBranchworkModel$Tree;I)Z"⟩, "BranchworkModel") : String × Nat × MethodName × String) ∈ jw_nest := List.mem_of_getElem? (i := 21) rfl
theorem jn_BranchworkModel_263 : (("BranchworkModel", 263, ⟨"BranchworkModel$Tree", "isNew", "(LBranchworkModel$Tree;I)Z"⟩, "BranchworkModel") : String × Nat × MethodName × String) ∈ jw_nest := List.mem_of_getElem? (i := 22) rfl
def jw_ty0 (T : u_T) (j : Nat) : FieldType := (parseFieldDescriptor (T j).2.2.1).getD .int
theorem jw_tyok : ∀ q ∈ jw_cl, ∀ j, j < q.2.2 → parseFieldDescriptor (q.2.1 j).2.2.1 = some (jw_ty0 q.2.1 j) := by decide +kernel
theorem jw_nmok : ∀ q ∈ jw_cl, ∀ a, a < q.2.2 → ∀ b, b < q.2.2 → a ≠ b → (q.2.1 a).2.1 ≠ (q.2.1 b).2.1 := by decide +kernel
theorem jw_cw : ∀ q ∈ jw_cl, ∀ w ∈ u_ws q.1 q.2.1 q.2.2, w ∈ jw_T := by decide +kernel
theorem jw_ovk : ∀ C ∈ jw_ao, Cond.arrayOver (.object C) ∈ lw_tbl := by decide +kernel
theorem jw_nestk : ∀ q ∈ jw_nest, Cond.methodLinkNest q.1 q.2.1 q.2.2.1 q.2.2.2 ∈ lw_tbl := by decide +kernel
end
section
def jw_strs : List (String × Nat × String) := [("Branchwork", 235, "what is not 0 to 5"), ("Branchwork", 237, "what is not 0 to 2"), ("Branchwork", 360, "no such branch"), ("Branchwork", 353, "no such path"), ("Branchwork", 358, "no such commit"), ("Branchwork", 87, "no such place"), ("Branchwork", 94, "no such line"), ("Branchwork", 103, "the file is full"), ("Branchwork", 355, "no such file"), ("Branchwork", 125, "there is a file already"), ("Branchwork", 148, "no such note"), ("Branchwork", 151, "there were 30 commits"), ("Branchwork", 156, "conflicts are not settled"), ("Branchwork", 161, "there is nothing to commit"), ("Branchwork", 167, "there is no commit"), ("Branchwork", 169, "there are 5 branches"), ("Branchwork", 365, "the working tree is not clean"), ("Branchwork", 367, "something is being merged"), ("Branchwork", 363, "no such conflict"), ("Branchwork", 271, "what is neither 0 nor 1"), ("Branchwork", 280, "what is not 0 to 3")]
theorem js_Branchwork_235 : (("Branchwork", 235, "what is not 0 to 5") : String × Nat × String) ∈ jw_strs := List.mem_of_getElem? (i := 0) rfl
theorem js_Branchwork_237 : (("Branchwork", 237, "what is not 0 to 2") : String × Nat × String) ∈ jw_strs := List.mem_of_getElem? (i := 1) rfl
theorem js_Branchwork_360 : (("Branchwork", 360, "no such branch") : String × Nat × String) ∈ jw_strs := List.mem_of_getElem? (i := 2) rfl
theorem js_Branchwork_353 : (("Branchwork", 353, "no such path") : String × Nat × String) ∈ jw_strs := List.mem_of_getElem? (i := 3) rfl
theorem js_Branchwork_358 : (("Branchwork", 358, "no such commit") : String × Nat × String) ∈ jw_strs := List.mem_of_getElem? (i := 4) rfl
theorem js_Branchwork_87 : (("Branchwork", 87, "no such place") : String × Nat × String) ∈ jw_strs := List.mem_of_getElem? (i := 5) rfl
theorem js_Branchwork_94 : (("Branchwork", 94, "no such line") : String × Nat × String) ∈ jw_strs := List.mem_of_getElem? (i := 6) rfl
theorem js_Branchwork_103 : (("Branchwork", 103, "the file is full") : String × Nat × String) ∈ jw_strs := List.mem_of_getElem? (i := 7) rfl
theorem js_Branchwork_355 : (("Branchwork", 355, "no such file") : String × Nat × String) ∈ jw_strs := List.mem_of_getElem? (i := 8) rfl
theorem js_Branchwork_125 : (("Branchwork", 125, "there is a file already") : String × Nat × String) ∈ jw_strs := List.mem_of_getElem? (i := 9) rfl
theorem js_Branchwork_148 : (("Branchwork", 148, "no such note") : String × Nat × String) ∈ jw_strs := List.mem_of_getElem? (i := 10) rfl
theorem js_Branchwork_151 : (("Branchwork", 151, "there were 30 commits") : String × Nat × String) ∈ jw_strs := List.mem_of_getElem? (i := 11) rfl
theorem js_Branchwork_156 : (("Branchwork", 156, "conflicts are not settled") : String × Nat × String) ∈ jw_strs := List.mem_of_getElem? (i := 12) rfl
theorem js_Branchwork_161 : (("Branchwork", 161, "there is nothing to commit") : String × Nat × String) ∈ jw_strs := List.mem_of_getElem? (i := 13) rfl
theorem js_Branchwork_167 : (("Branchwork", 167, "there is no commit") : String × Nat × String) ∈ jw_strs := List.mem_of_getElem? (i := 14) rfl
theorem js_Branchwork_169 : (("Branchwork", 169, "there are 5 branches") : String × Nat × String) ∈ jw_strs := List.mem_of_getElem? (i := 15) rfl
theorem js_Branchwork_365 : (("Branchwork", 365, "the working tree is not clean") : String × Nat × String) ∈ jw_strs := List.mem_of_getElem? (i := 16) rfl
theorem js_Branchwork_367 : (("Branchwork", 367, "something is being merged") : String × Nat × String) ∈ jw_strs := List.mem_of_getElem? (i := 17) rfl
theorem js_Branchwork_363 : (("Branchwork", 363, "no such conflict") : String × Nat × String) ∈ jw_strs := List.mem_of_getElem? (i := 18) rfl
theorem js_Branchwork_271 : (("Branchwork", 271, "what is neither 0 nor 1") : String × Nat × String) ∈ jw_strs := List.mem_of_getElem? (i := 19) rfl
theorem js_Branchwork_280 : (("Branchwork", 280, "what is not 0 to 3") : String × Nat × String) ∈ jw_strs := List.mem_of_getElem? (i := 20) rfl
def jw_cast : List (String × String) := [("java/lang/IllegalArgumentException", "java/lang/IllegalArgumentException"), ("java/lang/IndexOutOfBoundsException", "java/lang/IndexOutOfBoundsException"), ("java/lang/IllegalStateException", "java/lang/IllegalStateException"), ("java/util/ArrayList", "java/util/Collection"), ("Branchwork$Content", "java/lang/Object"), ("Branchwork$Tree", "java/lang/Object"), ("BranchworkModel$Commit", "java/lang/Object"), ("Branchwork", "java/lang/Object"), ("Branchwork$History", "java/lang/Object"), ("Branchwork$Merger", "java/lang/Object"), ("Branchwork$Conflicts", "java/lang/Object"), ("Branchwork$Renames", "java/lang/Object"), ("Branchwork$Match", "java/lang/Object"), ("Branchwork$Blender", "java/lang/Object"), ("BranchworkModel", "java/lang/Object"), ("java/util/ArrayList", "java/lang/Object"), ("BranchworkModel$Tree", "java/lang/Object"), ("java/lang/IndexOutOfBoundsException", "java/lang/Object"), ("java/lang/IllegalArgumentException", "java/lang/Object"), ("java/lang/IllegalStateException", "java/lang/Object"), ("BranchworkModel$Merge", "java/lang/Object"), ("BranchworkModel$Blend", "java/lang/Object"), ("java/lang/Throwable", "java/lang/Object"), ("java/lang/String", "java/lang/Object"), ("[LBranchwork$Content;", "java/lang/Object"), ("[I", "java/lang/Object"), ("[LBranchwork$Tree;", "java/lang/Object"), ("[Z", "java/lang/Object"), ("[B", "java/lang/Object"), ("[[I", "java/lang/Object"), ("[Ljava/lang/Object;", "java/lang/Object"), ("[LBranchworkModel$Commit;", "java/lang/Object"), ("[J", "java/lang/Object")]
def jw_ncast : List (String × String) := [("java/lang/IndexOutOfBoundsException", "java/lang/IllegalArgumentException"), ("java/lang/IndexOutOfBoundsException", "java/lang/IllegalStateException"), ("java/lang/IllegalArgumentException", "java/lang/IndexOutOfBoundsException"), ("java/lang/IllegalArgumentException", "java/lang/IllegalStateException"), ("java/lang/IllegalStateException", "java/lang/IndexOutOfBoundsException"), ("java/lang/IllegalStateException", "java/lang/IllegalArgumentException")]
/-- words that the tables alone decide and that are no good words: kept by themselves -/
def jw_sk : Cond → Bool
  | .castable _ _ => true
  | .declares _ => true
  | .sameMethod r _ _ _ => decide (r ≠ "java/lang/invoke/MethodHandle") && decide (r ≠ "java/lang/invoke/VarHandle")
  | _ => false
def jw_soft : List Cond := lw_tbl.filter jw_sk
theorem jw_smem {w : Cond} (i : Nat) (h : lw_tbl[i]? = some w) (g : jw_sk w = true) : w ∈ jw_soft := List.mem_filter.mpr ⟨List.mem_of_getElem? h, g⟩
theorem jw_sk.tab {w : Cond} (h : jw_sk w = true) : w.onTables = true := by cases w <;> first | rfl | simp [jw_sk] at h
theorem jw_sk.warm {w : Cond} (h : jw_sk w = true) {s U : State} (hW : s.WarmedH U.vm) (hz : va_Nw w s) : va_Nw w U := by
  cases w <;> first
    | exact va_Nw.warmC hW hz
    | exact va_Nw.warmD hW hz
    | exact va_tabs rfl (rfl : (s.setVm U.vm).vm = U.vm) (by rw [Cond.sameMethod_setVm hW.alike (by simpa [jw_sk] using h)]; exact hz)
    | (simp [jw_sk] at h; done)
theorem jw_castk : ∀ q ∈ jw_cast, Cond.castable q.1 q.2 ∈ jw_soft := by decide +kernel
/-- what a walk needs besides: no stack traces, Throwable's statics, the texts, who can be cast to whom, the lists' empty array -/
def jw_xB (o : jw_O) (U : State) (H : Heap) : Prop := o.1.stackTraces = false ∧ vx_Zq Bundle.tN "UNASSIGNED_STACK" Bundle.steD (fun q => o.2.2.2.1 ≤ q) U H ∧ vx_Zq Bundle.tN "SUPPRESSED_SENTINEL" Bundle.listD (fun q => o.2.2.2.1 ≤ q) U H ∧ (∀ q ∈ jw_strs, ∃ sa, vk_R q.1 q.2.1 q.2.2 sa U) ∧ (∀ w ∈ jw_soft, va_Nw w U) ∧ (∀ q ∈ jw_ncast, va_Nc q.1 q.2 U) ∧ va_Z "java/util/ArrayList" "DEFAULTCAPACITY_EMPTY_ELEMENTDATA" "[Ljava/lang/Object;" (.ref o.2.2.2.2) (fun q => o.2.2.2.1 ≤ q) U H ∧ o.2.2.2.2 < o.2.2.2.1 ∧ H[o.2.2.2.2]? = some (vp_cell (o.2.2.1 5) (0, .inr (.inr (.inr (.inr (fun _ => none))))))
theorem jw_xB.same {o : jw_O} {u U : State} {H : Heap} (h : u.vm = U.vm) (x : jw_xB o u H) : jw_xB o U H := by
  obtain ⟨h1, h2, h3, h4, h5, h6, h7, h8, h9⟩ := x
  have ha : u.vm.Alike U.vm := by rw [h]; exact Vm.Alike.refl _
  exact ⟨h1, vx_Zq.moved ha h2, vx_Zq.moved ha h3, fun q hq => (h4 q hq).imp fun sa z => vk_R.same h.symm z, fun w hw => va_tabs (jw_sk.tab (List.mem_filter.mp hw).2) h (h5 w hw), fun q hq => va_Nc.moved ha (h6 q hq), va_Z.moved ha h7, h8, h9⟩
theorem jw_xB.warm {o : jw_O} {s U : State} {H : Heap} (x : jw_xB o s H) (hW : s.WarmedH U.vm) : jw_xB o U H := by
  obtain ⟨h1, h2, h3, h4, h5, h6, h7, h8, h9⟩ := x
  exact ⟨h1, vx_Zq.moved hW.alike h2, vx_Zq.moved hW.alike h3, fun q hq => (h4 q hq).imp fun sa z => vk_R.warm hW z, fun w hw => jw_sk.warm (List.mem_filter.mp hw).2 hW (h5 w hw), fun q hq => va_Nc.moved hW.alike (h6 q hq), va_Z.moved hW.alike h7, h8, h9⟩
theorem jw_xB.kept {o : jw_O} {U : State} {H H1 : Heap} (x : jw_xB o U H) (hq : ∀ q : Nat, q < H.size → ¬ o.2.2.2.1 ≤ q → H1[q]? = H[q]?) : jw_xB o U H1 := by
  obtain ⟨h1, h2, h3, h4, h5, h6, h7, h8, h9⟩ := x
  exact ⟨h1, h2.kept hq, h3.kept hq, h4, h5, h6, h7.kept hq, h8, by rw [hq _ (Array.getElem?_eq_some_iff.mp h9).1 (by omega)]; exact h9⟩
end
section
/-! THE LAYER: one walk judgement (jw_X) over a memory that is a function from addresses to known cells; every rule is a row of the kit, once. -/
/-- what is known of the heap: own cells, from o's first address on -/
def jw_H (o : jw_O) (μ : jw_Mem) (H : Heap) : Prop := ∀ (a : Nat) (e : va_E), μ a = some e → o.2.2.2.1 ≤ a ∧ va_at o.2.1 jw_cl (a, e) H
def jw_S (s : State) : Prop := (∀ q ∈ jw_nest, va_Nw (.methodLinkNest q.1 q.2.1 q.2.2.1 q.2.2.2) s) ∧ ∀ C ∈ jw_ao, va_AO C s
theorem jw_S.moved {s U : State} (hW : s.WarmedH U.vm) (h : jw_S s) : jw_S U := ⟨fun q hq => va_Nw.warmM hW (h.1 q hq), fun C hC => va_AO.moved hW.alike (h.2 C hC)⟩
def jw_B (o : jw_O) (μ : jw_Mem) (hs : Nat) (U : State) : Prop := U.heap.size = hs ∧ jw_H o μ U.heap ∧ va_K o.2.1 jw_cl (jw_tys o.2.2.1) U ∧ jw_S U ∧ o.2.2.2.1 ≤ hs ∧ jw_xB o U U.heap
def jw_Q (o : jw_O) (Φ : Option Value → jw_Mem → Nat → Prop) : Array Value → State → Outcome → State → Prop := fun _ st oc t => (∃ (v : Option Value) (μ' : jw_Mem), oc = .returned v ∧ jw_H o μ' t.heap ∧ Φ v μ' t.heap.size) ∧ va_F (fun q => o.2.2.2.1 ≤ q) st t
def jw_ws (mi : jw_M) : List Cond := Cond.code mi.1 mi.2.1 mi.2.2.1 mi.2.2.2 :: jw_T
def jw_rm (d mc ms : Nat) : Room := { frames := d, cells := mc, slots := ms, locals := 64 * d }
/-- a method's contract: from the memory μ it returns v with a memory μ' so that Φ v μ' (heap's size) -/
def jw_Spec (mi : jw_M) (d mc ms : Nat) (o : jw_O) (As : List Value) (μ : jw_Mem) (hs : Nat) (Φ : Option Value → jw_Mem → Nat → Prop) : Prop :=
  Met o.1 mi.1 (jw_ws mi) (jw_rm d mc ms) (va_Pc As (jw_B o μ hs)) (jw_Q o Φ) mc ms (fun q => o.2.2.2.1 ≤ q)
/-- the frame that walks: its machine, its code, the tables' words -/
def jw_Cx (mi : jw_M) (o : jw_O) (k : jw_K) : Prop :=
  k.1.tables.exec = Jvm.exec ∧ k.2.2.2.2.2.2.2.2.1.code = mi.2.1 ∧ k.2.2.2.2.2.2.2.1.sig.returnType = mi.2.2.2 ∧ k.2.2.2.2.2.2.2.2.1.maxLocals = mi.2.2.1 ∧ k.2.2.2.1.vm.findClass mi.1.cls = some k.2.2.2.2.1.cls ∧ (∀ w ∈ jw_T, w.before k.2.2.2.2.2.1 k.2.2.2.1 = true) ∧ k.2.2.2.2.2.2.2.1.locks = false ∧ k.2.2.2.2.2.2.2.1.name = mi.1.name ∧ va_K o.2.1 jw_cl (jw_tys o.2.2.1) k.2.2.2.1 ∧ jw_S k.2.2.2.1 ∧ o.2.2.2.1 ≤ k.2.2.2.1.heap.size ∧ jw_xB o k.2.2.2.1 k.2.2.2.1.heap
def jw_W (o : jw_O) (k : jw_K) (H : Heap) (locs : List Loc) (kc ks : Nat) (pc : Nat) (ls : Array Slot) (st : List Value) : Prop :=
  W k.1 o.1 k.2.1 k.2.2.1 k.2.2.2.1 k.2.2.2.2.1 k.2.2.2.2.2.1 k.2.2.2.2.2.2.1 k.2.2.2.2.2.2.2.1 k.2.2.2.2.2.2.2.2.1 H locs kc ks k.2.2.2.2.2.2.2.2.2 (F0 k.2.2.2.2.1 pc ls st)
/-- from here the walk comes to its end -/
def jw_X (mi : jw_M) (o : jw_O) (k : jw_K) (kc ks pc : Nat) (lc : List (Nat × Value)) (st : List Value) (μ : jw_Mem) (hs : Nat) : Prop :=
  jw_Cx mi o k → ∀ (H : Heap) (locs : List Loc) (ls : Array Slot), H.size = hs → jw_H o μ H → va_S (fun q => o.2.2.2.1 ≤ q) k.2.2.2.1.heap H locs → lv_has ls mi.2.2.1 lc → jw_W o k H locs kc ks pc ls st
def jw_Rm (k : jw_K) (d mc ms : Nat) : Prop := d ≤ k.2.2.1.frames ∧ 64 * d ≤ k.2.2.1.locals ∧ mc ≤ k.2.2.1.cells ∧ ms ≤ k.2.2.1.slots
/-- the walk's end is the end of a method with the post Φ -/
def jw_E (o : jw_O) (k : jw_K) (mc ms : Nat) (Φ : Option Value → jw_Mem → Nat → Prop) : Prop := ∀ (H : Heap) (locs : List Loc) (g : JFrame), W k.1 o.1 k.2.1 k.2.2.1 k.2.2.2.1 k.2.2.2.2.1 k.2.2.2.2.2.1 k.2.2.2.2.2.2.1 k.2.2.2.2.2.2.2.1 k.2.2.2.2.2.2.2.2.1 H locs mc ms (MQ k.2.2.2.2.2.2.1 (jw_Q o Φ) k.2.2.2.2.2.1 k.2.2.2.1 mc ms (fun q => o.2.2.2.1 ≤ q)) g → W k.1 o.1 k.2.1 k.2.2.1 k.2.2.2.1 k.2.2.2.2.1 k.2.2.2.2.2.1 k.2.2.2.2.2.2.1 k.2.2.2.2.2.2.2.1 k.2.2.2.2.2.2.2.2.1 H locs mc ms k.2.2.2.2.2.2.2.2.2 g
-- locals
def jw_lk : List (Nat × Value) → Nat → Option Value
  | [], _ => none
  | q :: t, i => match Nat.beq q.1 i with
    | true => some q.2
    | false => jw_lk t i
theorem jw_lk_mem : ∀ {lc : List (Nat × Value)} {i : Nat} {v : Value}, jw_lk lc i = some v → (i, v) ∈ lc
  | [], _, _, h => by simp [jw_lk] at h
  | (j, w) :: t, i, v, h => by
    unfold jw_lk at h
    cases hb : Nat.beq j i with
    | true =>
      rw [hb] at h
      have e1 : j = i := Nat.eq_of_beq_eq_true hb
      have e2 : w = v := Option.some.inj h
      rw [← e1, ← e2]
      exact List.mem_cons_self
    | false =>
      rw [hb] at h
      exact List.mem_cons_of_mem _ (jw_lk_mem h)
theorem jw_at {ls : Array Slot} {n : Nat} {lc : List (Nat × Value)} (h : lv_has ls n lc) {i : Nat} {v : Value} (hv : jw_lk lc i = some v) : ls[i]? = some (.val v) := h.2.2 (i, v) (jw_lk_mem hv)
def jw_sb (lc : List (Nat × Value)) : List (Nat × Value) → Prop
  | [] => True
  | q :: t => jw_lk lc q.1 = some q.2 ∧ jw_sb lc t
theorem jw_sb_of {ls : Array Slot} {n : Nat} {lc : List (Nat × Value)} (h : lv_has ls n lc) : ∀ {l2 : List (Nat × Value)}, jw_sb lc l2 → lv_has ls n l2
  | [], _ => ⟨h.1, h.2.1, fun _ hq => absurd hq List.not_mem_nil⟩
  | q :: t, hs => ⟨h.1, h.2.1, fun x hx => (List.mem_cons.mp hx).elim (fun e => by rw [e]; exact jw_at h hs.1) (fun hx => (jw_sb_of h hs.2).2.2 x hx)⟩
/-- a store of one word: the old list without the place, the new value in its place by the order of the numbers -/
def jw_s1 (lc : List (Nat × Value)) (i : Nat) (v : Value) : List (Nat × Value) := (i, v) :: lc.filter (fun q => !(q.1 == i) && !(q.1 + 1 == i && q.2.category == 2))
def jw_s2 (lc : List (Nat × Value)) (i : Nat) (v : Value) : List (Nat × Value) := (i, v) :: lc.filter (fun q => !(q.1 == i) && (!(q.1 == i + 1) && !(q.1 + 1 == i && q.2.category == 2)))
/-- outside of the n cells from a on nothing has changed -/
def jw_Fr (μ0 μ : jw_Mem) (a n : Nat) : Prop := ∀ q, (q < a ∨ a + n ≤ q) → μ q = μ0 q
theorem jw_Fr.rf {μ0 : jw_Mem} {a n : Nat} : jw_Fr μ0 μ0 a n := fun _ _ => rfl
theorem jw_Fr.step {μ0 μ μ' : jw_Mem} {a n b : Nat} (h : jw_Fr μ0 μ a n) (f : ∀ q, q ≠ b → μ' q = μ q) (hb : a ≤ b ∧ b < a + n) : jw_Fr μ0 μ' a n := fun q hq => (f q (by omega)).trans (h q hq)
theorem jw_Fr.trans {μ0 μ μ' : jw_Mem} {a n b m : Nat} (h : jw_Fr μ0 μ a n) (f : jw_Fr μ μ' b m) (h1 : a ≤ b) (h2 : b + m ≤ a + n) : jw_Fr μ0 μ' a n := fun q hq => (f q (by omega)).trans (h q hq)
theorem jw_rf {F : Nat → Option Nat} {p q : Nat} (h : F p = some q) (hp : p < 2 ^ 31) : va_rf (F (nI p).toNatClampNeg) = .ref q := by rw [nI_clamp hp, h]; rfl
theorem jw_Fr.o {μ μ' : jw_Mem} {b : Nat} (f : ∀ q, q ≠ b → μ' q = μ q) : jw_Fr μ μ' b 1 := fun q hq => f q (by omega)
section Rules
variable {mi : jw_M} {o : jw_O} {k : jw_K} {kc ks pc pc' : Nat} {lc lc' : List (Nat × Value)} {st rest : List Value} {μ : jw_Mem} {hs : Nat}
theorem jw_sub (h : jw_sb lc lc') (kk : jw_X mi o k kc ks pc lc' st μ hs) : jw_X mi o k kc ks pc lc st μ hs := fun C H locs ls e1 e2 e3 e4 => kk C H locs ls e1 e2 e3 (jw_sb_of e4 h)
theorem jw_cnt {kc' ks' : Nat} (h : kc = kc') (h2 : ks = ks') (kk : jw_X mi o k kc' ks' pc lc st μ hs) : jw_X mi o k kc ks pc lc st μ hs := by subst h; subst h2; exact kk
theorem jw_hs {hs' : Nat} (h : hs = hs') (kk : jw_X mi o k kc ks pc lc st μ hs') : jw_X mi o k kc ks pc lc st μ hs := h ▸ kk
theorem jw_top {v w : Value} (h : v = w) (kk : jw_X mi o k kc ks pc lc (w :: rest) μ hs) : jw_X mi o k kc ks pc lc (v :: rest) μ hs := h ▸ kk
theorem jw_mu {μ' : jw_Mem} (h : μ = μ') (kk : jw_X mi o k kc ks pc lc st μ' hs) : jw_X mi o k kc ks pc lc st μ hs := h ▸ kk
/-- less known -/
theorem jw_less {μ' : jw_Mem} (h : ∀ a e, μ' a = some e → μ a = some e) (kk : jw_X mi o k kc ks pc lc st μ' hs) : jw_X mi o k kc ks pc lc st μ hs := fun C H locs ls e1 e2 e3 e4 => kk C H locs ls e1 (fun a e q => e2 a e (h a e q)) e3 e4
theorem jw_iconst {n : Int} {v : Int32} (hd : decode mi.2.1 pc = .ok (.iconst n, 1)) (hv : Int32.ofInt n = v) (hp : pc + 1 = pc') (kk : jw_X mi o k kc ks pc' lc (.int v :: st) μ hs) : jw_X mi o k kc ks pc lc st μ hs := by
  subst hp; exact fun C H locs ls e1 e2 e3 e4 => lv_iconst C.1 C.2.1 hd hv (kk C H locs ls e1 e2 e3 e4)
theorem jw_bipush {n : Int} {v : Int32} (hd : decode mi.2.1 pc = .ok (.bipush n, 2)) (hv : (Int8.ofInt n).toInt32 = v) (hp : pc + 2 = pc') (kk : jw_X mi o k kc ks pc' lc (.int v :: st) μ hs) : jw_X mi o k kc ks pc lc st μ hs := by
  subst hp; exact fun C H locs ls e1 e2 e3 e4 => lv_bipush C.1 C.2.1 hd hv (kk C H locs ls e1 e2 e3 e4)
theorem jw_sipush {n : Int} {v : Int32} (hd : decode mi.2.1 pc = .ok (.sipush n, 3)) (hv : (Int16.ofInt n).toInt32 = v) (hp : pc + 3 = pc') (kk : jw_X mi o k kc ks pc' lc (.int v :: st) μ hs) : jw_X mi o k kc ks pc lc st μ hs := by
  subst hp; exact fun C H locs ls e1 e2 e3 e4 => lv_sipush C.1 C.2.1 hd hv (kk C H locs ls e1 e2 e3 e4)
theorem jw_null (hd : decode mi.2.1 pc = .ok (.aconst_null, 1)) (hp : pc + 1 = pc') (kk : jw_X mi o k kc ks pc' lc (.null :: st) μ hs) : jw_X mi o k kc ks pc lc st μ hs := by
  subst hp; exact fun C H locs ls e1 e2 e3 e4 => lv_null C.1 C.2.1 hd (kk C H locs ls e1 e2 e3 e4)
theorem jw_ldc2 {idx : Nat} {v : Int64} (hd : decode mi.2.1 pc = .ok (.ldc2_w idx, 3)) (hw : Cond.constantLong mi.1.cls idx v ∈ jw_T) (hp : pc + 3 = pc') (kk : jw_X mi o k kc ks pc' lc (.long v :: st) μ hs) : jw_X mi o k kc ks pc lc st μ hs := by
  subst hp; exact fun C H locs ls e1 e2 e3 e4 => lv_ldc2 C.1 C.2.1 C.2.2.2.2.1 (C.2.2.2.2.2.1 _ hw) hd (kk C H locs ls e1 e2 e3 e4)
theorem jw_iload_n {n : Fin 4} {i : Nat} {x : Int32} (hd : decode mi.2.1 pc = .ok (.iload_n n, 1)) (hi : (n : Nat) = i) (hv : jw_lk lc i = some (.int x)) (hp : pc + 1 = pc') (kk : jw_X mi o k kc ks pc' lc (.int x :: st) μ hs) : jw_X mi o k kc ks pc lc st μ hs := by
  subst hp; exact fun C H locs ls e1 e2 e3 e4 => lv_iload_n C.1 C.2.1 hd hi (jw_at e4 hv) (kk C H locs ls e1 e2 e3 e4)
theorem jw_iload {i : Nat} {x : Int32} (hd : decode mi.2.1 pc = .ok (.iload i, 2)) (hv : jw_lk lc i = some (.int x)) (hp : pc + 2 = pc') (kk : jw_X mi o k kc ks pc' lc (.int x :: st) μ hs) : jw_X mi o k kc ks pc lc st μ hs := by
  subst hp; exact fun C H locs ls e1 e2 e3 e4 => lv_iload C.1 C.2.1 hd (jw_at e4 hv) (kk C H locs ls e1 e2 e3 e4)
theorem jw_lload_n {n : Fin 4} {i : Nat} {x : Int64} (hd : decode mi.2.1 pc = .ok (.lload_n n, 1)) (hi : (n : Nat) = i) (hv : jw_lk lc i = some (.long x)) (hp : pc + 1 = pc') (kk : jw_X mi o k kc ks pc' lc (.long x :: st) μ hs) : jw_X mi o k kc ks pc lc st μ hs := by
  subst hp; exact fun C H locs ls e1 e2 e3 e4 => lv_lload_n C.1 C.2.1 hd hi (jw_at e4 hv) (kk C H locs ls e1 e2 e3 e4)
theorem jw_lload {i : Nat} {x : Int64} (hd : decode mi.2.1 pc = .ok (.lload i, 2)) (hv : jw_lk lc i = some (.long x)) (hp : pc + 2 = pc') (kk : jw_X mi o k kc ks pc' lc (.long x :: st) μ hs) : jw_X mi o k kc ks pc lc st μ hs := by
  subst hp; exact fun C H locs ls e1 e2 e3 e4 => lv_lload C.1 C.2.1 hd (jw_at e4 hv) (kk C H locs ls e1 e2 e3 e4)
theorem jw_aload_n {n : Fin 4} {i x : Nat} (hd : decode mi.2.1 pc = .ok (.aload_n n, 1)) (hi : (n : Nat) = i) (hv : jw_lk lc i = some (.ref x)) (hp : pc + 1 = pc') (kk : jw_X mi o k kc ks pc' lc (.ref x :: st) μ hs) : jw_X mi o k kc ks pc lc st μ hs := by
  subst hp; exact fun C H locs ls e1 e2 e3 e4 => lv_aload_n C.1 C.2.1 hd hi (jw_at e4 hv) (kk C H locs ls e1 e2 e3 e4)
theorem jw_aload {i x : Nat} (hd : decode mi.2.1 pc = .ok (.aload i, 2)) (hv : jw_lk lc i = some (.ref x)) (hp : pc + 2 = pc') (kk : jw_X mi o k kc ks pc' lc (.ref x :: st) μ hs) : jw_X mi o k kc ks pc lc st μ hs := by
  subst hp; exact fun C H locs ls e1 e2 e3 e4 => lv_aload C.1 C.2.1 hd (jw_at e4 hv) (kk C H locs ls e1 e2 e3 e4)
theorem jw_aload_nN {n : Fin 4} {i : Nat} (hd : decode mi.2.1 pc = .ok (.aload_n n, 1)) (hi : (n : Nat) = i) (hv : jw_lk lc i = some .null) (hp : pc + 1 = pc') (kk : jw_X mi o k kc ks pc' lc (.null :: st) μ hs) : jw_X mi o k kc ks pc lc st μ hs := by
  subst hp; exact fun C H locs ls e1 e2 e3 e4 => lv_aload_nN C.1 C.2.1 hd hi (jw_at e4 hv) (kk C H locs ls e1 e2 e3 e4)
theorem jw_aloadN {i : Nat} (hd : decode mi.2.1 pc = .ok (.aload i, 2)) (hv : jw_lk lc i = some .null) (hp : pc + 2 = pc') (kk : jw_X mi o k kc ks pc' lc (.null :: st) μ hs) : jw_X mi o k kc ks pc lc st μ hs := by
  subst hp; exact fun C H locs ls e1 e2 e3 e4 => lv_aloadN C.1 C.2.1 hd (jw_at e4 hv) (kk C H locs ls e1 e2 e3 e4)
theorem jw_istore_n {n : Fin 4} {i : Nat} {x : Int32} (hd : decode mi.2.1 pc = .ok (.istore_n n, 1)) (hi : (n : Nat) = i) (hn : i < mi.2.2.1) (hl : jw_sb (jw_s1 lc i (.int x)) lc') (hp : pc + 1 = pc') (kk : jw_X mi o k kc ks pc' lc' st μ hs) : jw_X mi o k kc ks pc lc (.int x :: st) μ hs := by
  subst hp; exact fun C H locs ls e1 e2 e3 e4 => lv_istore_n C.1 C.2.1 hd hi e4 hn rfl (fun ls' e5 => kk C H locs ls' e1 e2 e3 (jw_sb_of e5 hl))
theorem jw_istore {i : Nat} {x : Int32} (hd : decode mi.2.1 pc = .ok (.istore i, 2)) (hn : i < mi.2.2.1) (hl : jw_sb (jw_s1 lc i (.int x)) lc') (hp : pc + 2 = pc') (kk : jw_X mi o k kc ks pc' lc' st μ hs) : jw_X mi o k kc ks pc lc (.int x :: st) μ hs := by
  subst hp; exact fun C H locs ls e1 e2 e3 e4 => lv_istore C.1 C.2.1 hd e4 hn rfl (fun ls' e5 => kk C H locs ls' e1 e2 e3 (jw_sb_of e5 hl))
theorem jw_lstore_n {n : Fin 4} {i : Nat} {x : Int64} (hd : decode mi.2.1 pc = .ok (.lstore_n n, 1)) (hi : (n : Nat) = i) (hn : i + 1 < mi.2.2.1) (hl : jw_sb (jw_s2 lc i (.long x)) lc') (hp : pc + 1 = pc') (kk : jw_X mi o k kc ks pc' lc' st μ hs) : jw_X mi o k kc ks pc lc (.long x :: st) μ hs := by
  subst hp; exact fun C H locs ls e1 e2 e3 e4 => lv_lstore_n C.1 C.2.1 hd hi e4 hn rfl (fun ls' e5 => kk C H locs ls' e1 e2 e3 (jw_sb_of e5 hl))
theorem jw_lstore {i : Nat} {x : Int64} (hd : decode mi.2.1 pc = .ok (.lstore i, 2)) (hn : i + 1 < mi.2.2.1) (hl : jw_sb (jw_s2 lc i (.long x)) lc') (hp : pc + 2 = pc') (kk : jw_X mi o k kc ks pc' lc' st μ hs) : jw_X mi o k kc ks pc lc (.long x :: st) μ hs := by
  subst hp; exact fun C H locs ls e1 e2 e3 e4 => lv_lstore C.1 C.2.1 hd e4 hn rfl (fun ls' e5 => kk C H locs ls' e1 e2 e3 (jw_sb_of e5 hl))
theorem jw_astore_n {n : Fin 4} {i x : Nat} (hd : decode mi.2.1 pc = .ok (.astore_n n, 1)) (hi : (n : Nat) = i) (hn : i < mi.2.2.1) (hl : jw_sb (jw_s1 lc i (.ref x)) lc') (hp : pc + 1 = pc') (kk : jw_X mi o k kc ks pc' lc' st μ hs) : jw_X mi o k kc ks pc lc (.ref x :: st) μ hs := by
  subst hp; exact fun C H locs ls e1 e2 e3 e4 => lv_astore_n C.1 C.2.1 hd hi e4 hn rfl (fun ls' e5 => kk C H locs ls' e1 e2 e3 (jw_sb_of e5 hl))
theorem jw_astore {i x : Nat} (hd : decode mi.2.1 pc = .ok (.astore i, 2)) (hn : i < mi.2.2.1) (hl : jw_sb (jw_s1 lc i (.ref x)) lc') (hp : pc + 2 = pc') (kk : jw_X mi o k kc ks pc' lc' st μ hs) : jw_X mi o k kc ks pc lc (.ref x :: st) μ hs := by
  subst hp; exact fun C H locs ls e1 e2 e3 e4 => lv_astore C.1 C.2.1 hd e4 hn rfl (fun ls' e5 => kk C H locs ls' e1 e2 e3 (jw_sb_of e5 hl))
theorem jw_astore_nN {n : Fin 4} {i : Nat} (hd : decode mi.2.1 pc = .ok (.astore_n n, 1)) (hi : (n : Nat) = i) (hn : i < mi.2.2.1) (hl : jw_sb (jw_s1 lc i .null) lc') (hp : pc + 1 = pc') (kk : jw_X mi o k kc ks pc' lc' st μ hs) : jw_X mi o k kc ks pc lc (.null :: st) μ hs := by
  subst hp; exact fun C H locs ls e1 e2 e3 e4 => lv_astore_nN C.1 C.2.1 hd hi e4 hn rfl (fun ls' e5 => kk C H locs ls' e1 e2 e3 (jw_sb_of e5 hl))
theorem jw_astoreN {i : Nat} (hd : decode mi.2.1 pc = .ok (.astore i, 2)) (hn : i < mi.2.2.1) (hl : jw_sb (jw_s1 lc i .null) lc') (hp : pc + 2 = pc') (kk : jw_X mi o k kc ks pc' lc' st μ hs) : jw_X mi o k kc ks pc lc (.null :: st) μ hs := by
  subst hp; exact fun C H locs ls e1 e2 e3 e4 => lv_astoreN C.1 C.2.1 hd e4 hn rfl (fun ls' e5 => kk C H locs ls' e1 e2 e3 (jw_sb_of e5 hl))
theorem jw_iinc {i : Nat} {n : Int} {x v : Int32} (hd : decode mi.2.1 pc = .ok (.iinc i n, 3)) (hv : jw_lk lc i = some (.int x)) (hx : x + Int32.ofInt n = v) (hn : i < mi.2.2.1) (hl : jw_sb (jw_s1 lc i (.int v)) lc') (hp : pc + 3 = pc') (kk : jw_X mi o k kc ks pc' lc' st μ hs) : jw_X mi o k kc ks pc lc st μ hs := by
  subst hp
  intro C H locs ls e1 e2 e3 e4
  obtain ⟨j, hj⟩ := List.getElem?_of_mem (jw_lk_mem hv)
  exact lv_iinc C.1 C.2.1 hd e4 hj hx hn rfl (fun ls' e5 => kk C H locs ls' e1 e2 e3 (jw_sb_of e5 hl))
theorem jw_iadd {x y v : Int32} (hd : decode mi.2.1 pc = .ok (.iadd, 1)) (hv : x + y = v) (hp : pc + 1 = pc') (kk : jw_X mi o k kc ks pc' lc (.int v :: rest) μ hs) : jw_X mi o k kc ks pc lc (.int y :: .int x :: rest) μ hs := by
  subst hp; subst hv; exact fun C H locs ls e1 e2 e3 e4 => lv_iadd C.1 C.2.1 hd (kk C H locs ls e1 e2 e3 e4)
theorem jw_isub {x y v : Int32} (hd : decode mi.2.1 pc = .ok (.isub, 1)) (hv : x - y = v) (hp : pc + 1 = pc') (kk : jw_X mi o k kc ks pc' lc (.int v :: rest) μ hs) : jw_X mi o k kc ks pc lc (.int y :: .int x :: rest) μ hs := by
  subst hp; subst hv; exact fun C H locs ls e1 e2 e3 e4 => lv_isub C.1 C.2.1 hd (kk C H locs ls e1 e2 e3 e4)
theorem jw_imul {x y v : Int32} (hd : decode mi.2.1 pc = .ok (.imul, 1)) (hv : x * y = v) (hp : pc + 1 = pc') (kk : jw_X mi o k kc ks pc' lc (.int v :: rest) μ hs) : jw_X mi o k kc ks pc lc (.int y :: .int x :: rest) μ hs := by
  subst hp; subst hv; exact fun C H locs ls e1 e2 e3 e4 => lv_imul C.1 C.2.1 hd (kk C H locs ls e1 e2 e3 e4)
theorem jw_iand {x y v : Int32} (hd : decode mi.2.1 pc = .ok (.iand, 1)) (hv : x &&& y = v) (hp : pc + 1 = pc') (kk : jw_X mi o k kc ks pc' lc (.int v :: rest) μ hs) : jw_X mi o k kc ks pc lc (.int y :: .int x :: rest) μ hs := by
  subst hp; subst hv; exact fun C H locs ls e1 e2 e3 e4 => lv_iand C.1 C.2.1 hd (kk C H locs ls e1 e2 e3 e4)
theorem jw_ior {x y v : Int32} (hd : decode mi.2.1 pc = .ok (.ior, 1)) (hv : x ||| y = v) (hp : pc + 1 = pc') (kk : jw_X mi o k kc ks pc' lc (.int v :: rest) μ hs) : jw_X mi o k kc ks pc lc (.int y :: .int x :: rest) μ hs := by
  subst hp; subst hv; exact fun C H locs ls e1 e2 e3 e4 => lv_ior C.1 C.2.1 hd (kk C H locs ls e1 e2 e3 e4)
theorem jw_idiv {x y v : Int32} (hd : decode mi.2.1 pc = .ok (.idiv, 1)) (h0 : ¬ y = 0) (hv : x / y = v) (hp : pc + 1 = pc') (kk : jw_X mi o k kc ks pc' lc (.int v :: rest) μ hs) : jw_X mi o k kc ks pc lc (.int y :: .int x :: rest) μ hs := by
  subst hp; subst hv; exact fun C H locs ls e1 e2 e3 e4 => lv_idiv C.1 C.2.1 hd h0 (kk C H locs ls e1 e2 e3 e4)
theorem jw_irem {x y v : Int32} (hd : decode mi.2.1 pc = .ok (.irem, 1)) (h0 : ¬ y = 0) (hv : x - x / y * y = v) (hp : pc + 1 = pc') (kk : jw_X mi o k kc ks pc' lc (.int v :: rest) μ hs) : jw_X mi o k kc ks pc lc (.int y :: .int x :: rest) μ hs := by
  subst hp; subst hv; exact fun C H locs ls e1 e2 e3 e4 => lv_irem C.1 C.2.1 hd h0 (kk C H locs ls e1 e2 e3 e4)
theorem jw_ishl {x y v : Int32} (hd : decode mi.2.1 pc = .ok (.ishl, 1)) (hv : x <<< (y &&& 31) = v) (hp : pc + 1 = pc') (kk : jw_X mi o k kc ks pc' lc (.int v :: rest) μ hs) : jw_X mi o k kc ks pc lc (.int y :: .int x :: rest) μ hs := by
  subst hp; subst hv; exact fun C H locs ls e1 e2 e3 e4 => lv_ishl C.1 C.2.1 hd (kk C H locs ls e1 e2 e3 e4)
theorem jw_ishr {x y v : Int32} (hd : decode mi.2.1 pc = .ok (.ishr, 1)) (hv : x >>> (y &&& 31) = v) (hp : pc + 1 = pc') (kk : jw_X mi o k kc ks pc' lc (.int v :: rest) μ hs) : jw_X mi o k kc ks pc lc (.int y :: .int x :: rest) μ hs := by
  subst hp; subst hv; exact fun C H locs ls e1 e2 e3 e4 => lv_ishr C.1 C.2.1 hd (kk C H locs ls e1 e2 e3 e4)
theorem jw_iushr {x y v : Int32} (hd : decode mi.2.1 pc = .ok (.iushr, 1)) (hv : (x.toUInt32 >>> (y.toUInt32 &&& Int32.toUInt32 31)).toInt32 = v) (hp : pc + 1 = pc') (kk : jw_X mi o k kc ks pc' lc (.int v :: rest) μ hs) : jw_X mi o k kc ks pc lc (.int y :: .int x :: rest) μ hs := by
  subst hp; exact fun C H locs ls e1 e2 e3 e4 => lv_iushr C.1 C.2.1 hd hv (kk C H locs ls e1 e2 e3 e4)
theorem jw_ldcw {idx : Nat} {v : Int32} (hd : decode mi.2.1 pc = .ok (.ldc_w idx, 3)) (hw : Cond.constant mi.1.cls idx v ∈ jw_T) (hp : pc + 3 = pc') (kk : jw_X mi o k kc ks pc' lc (.int v :: st) μ hs) : jw_X mi o k kc ks pc lc st μ hs := by
  subst hp; exact fun C H locs ls e1 e2 e3 e4 => lv_ldcw C.1 C.2.1 C.2.2.2.2.1 (C.2.2.2.2.2.1 _ hw) hd (kk C H locs ls e1 e2 e3 e4)
theorem jw_ladd {x y v : Int64} (hd : decode mi.2.1 pc = .ok (.ladd, 1)) (hv : x + y = v) (hp : pc + 1 = pc') (kk : jw_X mi o k kc ks pc' lc (.long v :: rest) μ hs) : jw_X mi o k kc ks pc lc (.long y :: .long x :: rest) μ hs := by
  subst hp; subst hv; exact fun C H locs ls e1 e2 e3 e4 => lv_ladd C.1 C.2.1 hd (kk C H locs ls e1 e2 e3 e4)
theorem jw_lmul {x y v : Int64} (hd : decode mi.2.1 pc = .ok (.lmul, 1)) (hv : x * y = v) (hp : pc + 1 = pc') (kk : jw_X mi o k kc ks pc' lc (.long v :: rest) μ hs) : jw_X mi o k kc ks pc lc (.long y :: .long x :: rest) μ hs := by
  subst hp; subst hv; exact fun C H locs ls e1 e2 e3 e4 => lv_lmul C.1 C.2.1 hd (kk C H locs ls e1 e2 e3 e4)
theorem jw_i2l {x : Int32} {v : Int64} (hd : decode mi.2.1 pc = .ok (.i2l, 1)) (hv : x.toInt64 = v) (hp : pc + 1 = pc') (kk : jw_X mi o k kc ks pc' lc (.long v :: rest) μ hs) : jw_X mi o k kc ks pc lc (.int x :: rest) μ hs := by
  subst hp; exact fun C H locs ls e1 e2 e3 e4 => lv_i2l C.1 C.2.1 hd hv (kk C H locs ls e1 e2 e3 e4)
theorem jw_i2d {x : Int32} (hd : decode mi.2.1 pc = .ok (.i2d, 1)) (hp : pc + 1 = pc') (kk : jw_X mi o k kc ks pc' lc (.double (FP.i2d x) :: rest) μ hs) : jw_X mi o k kc ks pc lc (.int x :: rest) μ hs := by
  subst hp; exact fun C H locs ls e1 e2 e3 e4 => lv_i2d C.1 C.2.1 hd (kk C H locs ls e1 e2 e3 e4)
theorem jw_dconst0  (hd : decode mi.2.1 pc = .ok (.dconst 0, 1)) (hp : pc + 1 = pc') (kk : jw_X mi o k kc ks pc' lc (.double FP.dconst0 :: st) μ hs) : jw_X mi o k kc ks pc lc st μ hs := by
  subst hp; exact fun C H locs ls e1 e2 e3 e4 => lv_dconst0 C.1 C.2.1 hd (kk C H locs ls e1 e2 e3 e4)
theorem jw_lcmp {x y : Int64} {v : Int32} (hd : decode mi.2.1 pc = .ok (.lcmp, 1)) (hv : lg_cmp x y = v) (hp : pc + 1 = pc') (kk : jw_X mi o k kc ks pc' lc (.int v :: rest) μ hs) : jw_X mi o k kc ks pc lc (.long y :: .long x :: rest) μ hs := by
  subst hp; subst hv; exact fun C H locs ls e1 e2 e3 e4 => W.lcmp C.1 C.2.1 hd (kk C H locs ls e1 e2 e3 e4)
theorem jw_dcmp {x y : UInt64} {op : CmpOp} {v : Int32} (hd : decode mi.2.1 pc = .ok (.dcmp op, 1)) (hv : Op.cmpValue (FP.dcmp x y) op = v) (hp : pc + 1 = pc') (kk : jw_X mi o k kc ks pc' lc (.int v :: rest) μ hs) : jw_X mi o k kc ks pc lc (.double y :: .double x :: rest) μ hs := by
  subst hp; subst hv; exact fun C H locs ls e1 e2 e3 e4 => lv_dcmp C.1 C.2.1 hd (kk C H locs ls e1 e2 e3 e4)
theorem jw_dup {v : Value} (hd : decode mi.2.1 pc = .ok (.dup, 1)) (hc : v.category = 1) (hp : pc + 1 = pc') (kk : jw_X mi o k kc ks pc' lc (v :: v :: rest) μ hs) : jw_X mi o k kc ks pc lc (v :: rest) μ hs := by
  subst hp; exact fun C H locs ls e1 e2 e3 e4 => lv_dup C.1 C.2.1 hd hc (kk C H locs ls e1 e2 e3 e4)
theorem jw_pop {v : Value} (hd : decode mi.2.1 pc = .ok (.pop, 1)) (hc : v.category = 1) (hp : pc + 1 = pc') (kk : jw_X mi o k kc ks pc' lc rest μ hs) : jw_X mi o k kc ks pc lc (v :: rest) μ hs := by
  subst hp; exact fun C H locs ls e1 e2 e3 e4 => lv_pop C.1 C.2.1 hd hc (kk C H locs ls e1 e2 e3 e4)
theorem jw_dup_x1 {v w : Value} (hd : decode mi.2.1 pc = .ok (.dup_x1, 1)) (hc : v.category = 1) (hc2 : w.category = 1) (hp : pc + 1 = pc') (kk : jw_X mi o k kc ks pc' lc (v :: w :: v :: rest) μ hs) : jw_X mi o k kc ks pc lc (v :: w :: rest) μ hs := by
  subst hp; exact fun C H locs ls e1 e2 e3 e4 => lv_dup_x1 C.1 C.2.1 hd hc hc2 (kk C H locs ls e1 e2 e3 e4)
theorem jw_dup2 {v w : Value} (hd : decode mi.2.1 pc = .ok (.dup2, 1)) (hc : v.category = 1) (hc2 : w.category = 1) (hp : pc + 1 = pc') (kk : jw_X mi o k kc ks pc' lc (v :: w :: v :: w :: rest) μ hs) : jw_X mi o k kc ks pc lc (v :: w :: rest) μ hs := by
  subst hp; exact fun C H locs ls e1 e2 e3 e4 => lv_dup2_11 C.1 C.2.1 hd hc hc2 (kk C H locs ls e1 e2 e3 e4)
theorem jw_if_eq {x : Int32} {off : Int} {tgt : Nat} (hd : decode mi.2.1 pc = .ok (.ifCond .eq off, 3)) (ht : (pc : Int) + off = (tgt : Int)) (hp : pc + 3 = pc') (kt : x = 0 → jw_X mi o k kc ks tgt lc rest μ hs) (kf : ¬ x = 0 → jw_X mi o k kc ks pc' lc rest μ hs) : jw_X mi o k kc ks pc lc (.int x :: rest) μ hs := by
  subst hp; exact fun C H locs ls e1 e2 e3 e4 => lv_if_eq C.1 C.2.1 hd ht (fun q => kt q C H locs ls e1 e2 e3 e4) (fun q => kf q C H locs ls e1 e2 e3 e4)
theorem jw_icmp_eq {x y : Int32} {off : Int} {tgt : Nat} (hd : decode mi.2.1 pc = .ok (.if_icmp .eq off, 3)) (ht : (pc : Int) + off = (tgt : Int)) (hp : pc + 3 = pc') (kt : x = y → jw_X mi o k kc ks tgt lc rest μ hs) (kf : ¬ x = y → jw_X mi o k kc ks pc' lc rest μ hs) : jw_X mi o k kc ks pc lc (.int y :: .int x :: rest) μ hs := by
  subst hp; exact fun C H locs ls e1 e2 e3 e4 => lv_icmp_eq C.1 C.2.1 hd ht (fun q => kt q C H locs ls e1 e2 e3 e4) (fun q => kf q C H locs ls e1 e2 e3 e4)
theorem jw_if_ne {x : Int32} {off : Int} {tgt : Nat} (hd : decode mi.2.1 pc = .ok (.ifCond .ne off, 3)) (ht : (pc : Int) + off = (tgt : Int)) (hp : pc + 3 = pc') (kt : ¬ x = 0 → jw_X mi o k kc ks tgt lc rest μ hs) (kf : x = 0 → jw_X mi o k kc ks pc' lc rest μ hs) : jw_X mi o k kc ks pc lc (.int x :: rest) μ hs := by
  subst hp; exact fun C H locs ls e1 e2 e3 e4 => lv_if_ne C.1 C.2.1 hd ht (fun q => kt q C H locs ls e1 e2 e3 e4) (fun q => kf q C H locs ls e1 e2 e3 e4)
theorem jw_icmp_ne {x y : Int32} {off : Int} {tgt : Nat} (hd : decode mi.2.1 pc = .ok (.if_icmp .ne off, 3)) (ht : (pc : Int) + off = (tgt : Int)) (hp : pc + 3 = pc') (kt : ¬ x = y → jw_X mi o k kc ks tgt lc rest μ hs) (kf : x = y → jw_X mi o k kc ks pc' lc rest μ hs) : jw_X mi o k kc ks pc lc (.int y :: .int x :: rest) μ hs := by
  subst hp; exact fun C H locs ls e1 e2 e3 e4 => lv_icmp_ne C.1 C.2.1 hd ht (fun q => kt q C H locs ls e1 e2 e3 e4) (fun q => kf q C H locs ls e1 e2 e3 e4)
theorem jw_if_lt {x : Int32} {off : Int} {tgt : Nat} (hd : decode mi.2.1 pc = .ok (.ifCond .lt off, 3)) (ht : (pc : Int) + off = (tgt : Int)) (hp : pc + 3 = pc') (kt : x < 0 → jw_X mi o k kc ks tgt lc rest μ hs) (kf : ¬ x < 0 → jw_X mi o k kc ks pc' lc rest μ hs) : jw_X mi o k kc ks pc lc (.int x :: rest) μ hs := by
  subst hp; exact fun C H locs ls e1 e2 e3 e4 => lv_if_lt C.1 C.2.1 hd ht (fun q => kt q C H locs ls e1 e2 e3 e4) (fun q => kf q C H locs ls e1 e2 e3 e4)
theorem jw_icmp_lt {x y : Int32} {off : Int} {tgt : Nat} (hd : decode mi.2.1 pc = .ok (.if_icmp .lt off, 3)) (ht : (pc : Int) + off = (tgt : Int)) (hp : pc + 3 = pc') (kt : x < y → jw_X mi o k kc ks tgt lc rest μ hs) (kf : ¬ x < y → jw_X mi o k kc ks pc' lc rest μ hs) : jw_X mi o k kc ks pc lc (.int y :: .int x :: rest) μ hs := by
  subst hp; exact fun C H locs ls e1 e2 e3 e4 => lv_icmp_lt C.1 C.2.1 hd ht (fun q => kt q C H locs ls e1 e2 e3 e4) (fun q => kf q C H locs ls e1 e2 e3 e4)
theorem jw_if_ge {x : Int32} {off : Int} {tgt : Nat} (hd : decode mi.2.1 pc = .ok (.ifCond .ge off, 3)) (ht : (pc : Int) + off = (tgt : Int)) (hp : pc + 3 = pc') (kt : 0 ≤ x → jw_X mi o k kc ks tgt lc rest μ hs) (kf : ¬ 0 ≤ x → jw_X mi o k kc ks pc' lc rest μ hs) : jw_X mi o k kc ks pc lc (.int x :: rest) μ hs := by
  subst hp; exact fun C H locs ls e1 e2 e3 e4 => lv_if_ge C.1 C.2.1 hd ht (fun q => kt q C H locs ls e1 e2 e3 e4) (fun q => kf q C H locs ls e1 e2 e3 e4)
theorem jw_icmp_ge {x y : Int32} {off : Int} {tgt : Nat} (hd : decode mi.2.1 pc = .ok (.if_icmp .ge off, 3)) (ht : (pc : Int) + off = (tgt : Int)) (hp : pc + 3 = pc') (kt : y ≤ x → jw_X mi o k kc ks tgt lc rest μ hs) (kf : ¬ y ≤ x → jw_X mi o k kc ks pc' lc rest μ hs) : jw_X mi o k kc ks pc lc (.int y :: .int x :: rest) μ hs := by
  subst hp; exact fun C H locs ls e1 e2 e3 e4 => lv_icmp_ge C.1 C.2.1 hd ht (fun q => kt q C H locs ls e1 e2 e3 e4) (fun q => kf q C H locs ls e1 e2 e3 e4)
theorem jw_if_gt {x : Int32} {off : Int} {tgt : Nat} (hd : decode mi.2.1 pc = .ok (.ifCond .gt off, 3)) (ht : (pc : Int) + off = (tgt : Int)) (hp : pc + 3 = pc') (kt : 0 < x → jw_X mi o k kc ks tgt lc rest μ hs) (kf : ¬ 0 < x → jw_X mi o k kc ks pc' lc rest μ hs) : jw_X mi o k kc ks pc lc (.int x :: rest) μ hs := by
  subst hp; exact fun C H locs ls e1 e2 e3 e4 => lv_if_gt C.1 C.2.1 hd ht (fun q => kt q C H locs ls e1 e2 e3 e4) (fun q => kf q C H locs ls e1 e2 e3 e4)
theorem jw_icmp_gt {x y : Int32} {off : Int} {tgt : Nat} (hd : decode mi.2.1 pc = .ok (.if_icmp .gt off, 3)) (ht : (pc : Int) + off = (tgt : Int)) (hp : pc + 3 = pc') (kt : y < x → jw_X mi o k kc ks tgt lc rest μ hs) (kf : ¬ y < x → jw_X mi o k kc ks pc' lc rest μ hs) : jw_X mi o k kc ks pc lc (.int y :: .int x :: rest) μ hs := by
  subst hp; exact fun C H locs ls e1 e2 e3 e4 => lv_icmp_gt C.1 C.2.1 hd ht (fun q => kt q C H locs ls e1 e2 e3 e4) (fun q => kf q C H locs ls e1 e2 e3 e4)
theorem jw_if_le {x : Int32} {off : Int} {tgt : Nat} (hd : decode mi.2.1 pc = .ok (.ifCond .le off, 3)) (ht : (pc : Int) + off = (tgt : Int)) (hp : pc + 3 = pc') (kt : x ≤ 0 → jw_X mi o k kc ks tgt lc rest μ hs) (kf : ¬ x ≤ 0 → jw_X mi o k kc ks pc' lc rest μ hs) : jw_X mi o k kc ks pc lc (.int x :: rest) μ hs := by
  subst hp; exact fun C H locs ls e1 e2 e3 e4 => lv_if_le C.1 C.2.1 hd ht (fun q => kt q C H locs ls e1 e2 e3 e4) (fun q => kf q C H locs ls e1 e2 e3 e4)
theorem jw_icmp_le {x y : Int32} {off : Int} {tgt : Nat} (hd : decode mi.2.1 pc = .ok (.if_icmp .le off, 3)) (ht : (pc : Int) + off = (tgt : Int)) (hp : pc + 3 = pc') (kt : x ≤ y → jw_X mi o k kc ks tgt lc rest μ hs) (kf : ¬ x ≤ y → jw_X mi o k kc ks pc' lc rest μ hs) : jw_X mi o k kc ks pc lc (.int y :: .int x :: rest) μ hs := by
  subst hp; exact fun C H locs ls e1 e2 e3 e4 => lv_icmp_le C.1 C.2.1 hd ht (fun q => kt q C H locs ls e1 e2 e3 e4) (fun q => kf q C H locs ls e1 e2 e3 e4)
theorem jw_goto {off : Int} {tgt : Nat} (hd : decode mi.2.1 pc = .ok (.goto off, 3)) (ht : (pc : Int) + off = (tgt : Int)) (kk : jw_X mi o k kc ks tgt lc st μ hs) : jw_X mi o k kc ks pc lc st μ hs := fun C H locs ls e1 e2 e3 e4 => lv_goto C.1 C.2.1 hd ht (kk C H locs ls e1 e2 e3 e4)
theorem jw_ifnull {x : Nat} {off : Int} (hd : decode mi.2.1 pc = .ok (.ifnull off, 3)) (hp : pc + 3 = pc') (kk : jw_X mi o k kc ks pc' lc rest μ hs) : jw_X mi o k kc ks pc lc (.ref x :: rest) μ hs := by
  subst hp; exact fun C H locs ls e1 e2 e3 e4 => lv_ifnull C.1 C.2.1 hd (kk C H locs ls e1 e2 e3 e4)
theorem jw_ifnullN {off : Int} {tgt : Nat} (hd : decode mi.2.1 pc = .ok (.ifnull off, 3)) (ht : (pc : Int) + off = (tgt : Int)) (kk : jw_X mi o k kc ks tgt lc rest μ hs) : jw_X mi o k kc ks pc lc (.null :: rest) μ hs := fun C H locs ls e1 e2 e3 e4 => lv_ifnullN C.1 C.2.1 hd ht (kk C H locs ls e1 e2 e3 e4)
theorem jw_ifnonnull {x : Nat} {off : Int} {tgt : Nat} (hd : decode mi.2.1 pc = .ok (.ifnonnull off, 3)) (ht : (pc : Int) + off = (tgt : Int)) (kk : jw_X mi o k kc ks tgt lc rest μ hs) : jw_X mi o k kc ks pc lc (.ref x :: rest) μ hs := fun C H locs ls e1 e2 e3 e4 => lv_ifnonnull C.1 C.2.1 hd ht (kk C H locs ls e1 e2 e3 e4)
theorem jw_ifnonnullN {off : Int} (hd : decode mi.2.1 pc = .ok (.ifnonnull off, 3)) (hp : pc + 3 = pc') (kk : jw_X mi o k kc ks pc' lc rest μ hs) : jw_X mi o k kc ks pc lc (.null :: rest) μ hs := by
  subst hp; exact fun C H locs ls e1 e2 e3 e4 => lv_ifnonnullN C.1 C.2.1 hd (kk C H locs ls e1 e2 e3 e4)
theorem jw_acmp_eq {rx ry : Option Nat} {off : Int} {tgt : Nat} (hd : decode mi.2.1 pc = .ok (.if_acmp .eq off, 3)) (ht : (pc : Int) + off = (tgt : Int)) (hp : pc + 3 = pc') (kt : rx = ry → jw_X mi o k kc ks tgt lc rest μ hs) (kf : ¬ rx = ry → jw_X mi o k kc ks pc' lc rest μ hs) : jw_X mi o k kc ks pc lc (va_rf ry :: va_rf rx :: rest) μ hs := by
  subst hp; exact fun C H locs ls e1 e2 e3 e4 => lv_acmp_eq C.1 C.2.1 hd ht (fun q => kt q C H locs ls e1 e2 e3 e4) (fun q => kf q C H locs ls e1 e2 e3 e4)
theorem jw_acmp_ne {rx ry : Option Nat} {off : Int} {tgt : Nat} (hd : decode mi.2.1 pc = .ok (.if_acmp .ne off, 3)) (ht : (pc : Int) + off = (tgt : Int)) (hp : pc + 3 = pc') (kt : ¬ rx = ry → jw_X mi o k kc ks tgt lc rest μ hs) (kf : rx = ry → jw_X mi o k kc ks pc' lc rest μ hs) : jw_X mi o k kc ks pc lc (va_rf ry :: va_rf rx :: rest) μ hs := by
  subst hp; exact fun C H locs ls e1 e2 e3 e4 => lv_acmp_ne C.1 C.2.1 hd ht (fun q => kt q C H locs ls e1 e2 e3 e4) (fun q => kf q C H locs ls e1 e2 e3 e4)
theorem jw_tableIn {dflt lo hi : Int} {offs : Array Int} {len : Nat} {x : Int32} {off : Int} {tgt : Nat} (hd : decode mi.2.1 pc = .ok (.tableswitch dflt lo hi offs, len)) (h1 : ¬ x.toInt < lo) (h2 : ¬ hi < x.toInt) (ho : offs[(x.toInt - lo).toNat]? = some off) (ht : (pc : Int) + off = (tgt : Int)) (kk : jw_X mi o k kc ks tgt lc rest μ hs) : jw_X mi o k kc ks pc lc (.int x :: rest) μ hs := fun C H locs ls e1 e2 e3 e4 => lv_tableIn C.1 C.2.1 hd h1 h2 ho ht (kk C H locs ls e1 e2 e3 e4)
theorem jw_tableOut {dflt lo hi : Int} {offs : Array Int} {len : Nat} {x : Int32} {tgt : Nat} (hd : decode mi.2.1 pc = .ok (.tableswitch dflt lo hi offs, len)) (h : x.toInt < lo ∨ hi < x.toInt) (ht : (pc : Int) + dflt = (tgt : Int)) (kk : jw_X mi o k kc ks tgt lc rest μ hs) : jw_X mi o k kc ks pc lc (.int x :: rest) μ hs := fun C H locs ls e1 e2 e3 e4 => lv_tableOut C.1 C.2.1 hd h ht (kk C H locs ls e1 e2 e3 e4)
theorem jw_lookup {dflt : Int} {ps : Array (Int × Int)} {len : Nat} {x : Int32} {off : Int} {tgt : Nat} (hd : decode mi.2.1 pc = .ok (.lookupswitch dflt ps, len)) (hp : (ps.toList.zip (ps.toList.drop 1)).all (fun (a, next) => a.1 < next.1) = true) (ho : Op.lookupswitch.offset ps.toList dflt x.toInt = off) (ht : (pc : Int) + off = (tgt : Int)) (kk : jw_X mi o k kc ks tgt lc rest μ hs) : jw_X mi o k kc ks pc lc (.int x :: rest) μ hs := fun C H locs ls e1 e2 e3 e4 => lv_lookup C.1 C.2.1 hd hp ho ht (kk C H locs ls e1 e2 e3 e4)
theorem jw_Cx.hK (C : jw_Cx mi o k) : va_K o.2.1 jw_cl (jw_tys o.2.2.1) k.2.2.2.1 := C.2.2.2.2.2.2.2.2.1
theorem jw_Cx.ts (C : jw_Cx mi o k) : ∀ w ∈ jw_T, w.before k.2.2.2.2.2.1 k.2.2.2.1 = true := C.2.2.2.2.2.1
theorem jw_Cx.own (C : jw_Cx mi o k) : k.2.2.2.1.vm.findClass mi.1.cls = some k.2.2.2.2.1.cls := C.2.2.2.2.1
theorem jw_Cx.S (C : jw_Cx mi o k) : jw_S k.2.2.2.1 := C.2.2.2.2.2.2.2.2.2.1
theorem jw_Cx.lo (C : jw_Cx mi o k) : o.2.2.2.1 ≤ k.2.2.2.1.heap.size := C.2.2.2.2.2.2.2.2.2.2.1
theorem jw_Cx.xB (C : jw_Cx mi o k) : jw_xB o k.2.2.2.1 k.2.2.2.1.heap := C.2.2.2.2.2.2.2.2.2.2.2
theorem jw_one {H : Heap} {a : Nat} {e : va_E} (h : jw_H o μ H) (ha : μ a = some e) : va_P o.2.1 jw_cl [(a, e)] H := by
  intro j q hj
  have hl : j < 1 := (List.getElem?_eq_some_iff.mp hj).1
  rw [show j = 0 by omega] at hj
  cases hj
  exact (h a e ha).2
theorem jw_H.put {H H1 : Heap} {a : Nat} {e0 e : va_E} (h : jw_H o μ H) (ha : μ a = some e0) (he : va_at o.2.1 jw_cl (a, e) H1) (oq : ∀ q : Nat, q ≠ a → H1[q]? = H[q]?) : jw_H o (va_up μ a (some e)) H1 := by
  have hlo := (h a e0 ha).1
  intro b x hb
  by_cases hba : b = a
  · subst hba
    rw [va_up_self] at hb
    cases hb
    exact ⟨hlo, he⟩
  · rw [va_up_ne _ _ hba] at hb
    exact ⟨(h b x hb).1, (h b x hb).2.kept (oq b hba)⟩
theorem jw_H.push {H H1 : Heap} {e : va_E} (h : jw_H o μ H) (hlo : o.2.2.2.1 ≤ H.size) (he : va_at o.2.1 jw_cl (H.size, e) H1) (oq : ∀ q : Nat, q < H.size → H1[q]? = H[q]?) : jw_H o (va_up μ H.size (some e)) H1 := by
  intro b x hb
  by_cases hba : b = H.size
  · subst hba
    rw [va_up_self] at hb
    cases hb
    exact ⟨hlo, he⟩
  · rw [va_up_ne _ _ hba] at hb
    exact ⟨(h b x hb).1, (h b x hb).2.kept (oq b ((h b x hb).2.lt))⟩
theorem jw_grow {H H1 : Heap} {H0 : Heap} {locs : List Loc} {A : Nat → Prop} (hS : va_S A H0 H locs) (z1 : H1.size = H.size + 1) (o1 : ∀ q : Nat, q < H.size → H1[q]? = H[q]?) : va_S A H0 H1 locs := ⟨Nat.le_trans hS.1 (by omega), fun x h1 h2 => (o1 x (Nat.lt_of_lt_of_le h1 hS.1)).trans (hS.2.1 x h1 h2), hS.2.2⟩
theorem jw_get {a ci kf N idx : Nat} {fs : List Value} {C : String} {T : u_T} {v : Value} (hc : jw_cl[ci]? = some (C, T, N)) (hk : kf < N) (hw : Cond.fieldLink mi.1.cls idx (T kf).1 (T kf).2.1 (T kf).2.2.1 ∈ jw_T) (hd : decode mi.2.1 pc = .ok (.getfield idx, 3)) (ha : μ a = some (.inr (ci, fs))) (hv : fs[kf]? = some v) (hp : pc + 3 = pc') (kk : jw_X mi o k kc ks pc' lc (v :: rest) μ hs) : jw_X mi o k kc ks pc lc (.ref a :: rest) μ hs := by
  subst hp
  exact fun C0 H locs ls e1 e2 e3 e4 => va_get C0.1 C0.2.1 C0.ts (jw_cw _ (List.mem_of_getElem? hc)) C0.own C0.hK (jw_one e2 ha) 0 rfl hc kf hk (C0.ts _ hw) (fun _ h9 => h9) hv hd (kk C0 H locs ls e1 e2 e3 e4)
theorem jw_put {a ci kf N idx : Nat} {fs fs' : List Value} {C : String} {T : u_T} {v : Value} {ty : FieldType} (hc : jw_cl[ci]? = some (C, T, N)) (hk : kf < N) (hw : Cond.fieldLink mi.1.cls idx (T kf).1 (T kf).2.1 (T kf).2.2.1 ∈ jw_T) (hd : decode mi.2.1 pc = .ok (.putfield idx, 3)) (hfin : (T kf).2.2.2 = false) (hty : parseFieldDescriptor (T kf).2.2.1 = some ty) (ha : μ a = some (.inr (ci, fs))) (hn : narrow ty v = v) (hfit : fits ty v = true) (hfs : fs.set kf v = fs') (hl : kf < fs.length) (hp : pc + 3 = pc') (kk : ∀ μ' : jw_Mem, μ' a = some (.inr (ci, fs')) → (∀ q, q ≠ a → μ' q = μ q) → jw_X mi o k kc ks pc' lc rest μ' hs) : jw_X mi o k kc ks pc lc (v :: .ref a :: rest) μ hs := by
  subst hp; subst hfs
  intro C0 H locs ls e1 e2 e3 e4
  have hts := C0.ts
  have hin := jw_cw _ (List.mem_of_getElem? hc)
  have hap := va_apart (own := mi.1.cls) hts hin (jw_ty0 T) (jw_tyok _ (List.mem_of_getElem? hc)) (jw_nmok _ (List.mem_of_getElem? hc)) C0.hK hc
  obtain ⟨r, h1, cell, q1, q2, q3, q4⟩ := (e2 a _ ha).2
  have hr : r = (C, T, N) := Option.some.inj (h1.symm.trans hc)
  subst hr
  obtain ⟨hS, hfc, kC, hkC, hkind⟩ := C0.hK.1 ci _ hc
  obtain ⟨cf, kf1, fi, f, hi, hsl⟩ := hS kf hk
  have hlay := hts _ (hin _ (u_in_lay hk))
  unfold u_lay at hlay
  rw [if_neg (by rw [hfin]; decide)] at hlay
  have hst := (u_facts hfc hkC (u_lays hts hin hk) hi).1
  have h6 := u_store hfc hkC hkind hlay hi hty hn hfit
  refine W.putK C0.1 C0.2.1 (f := f) ⟨C0.own, hts _ hw, ⟨_, _, _, hi⟩, hst⟩ (by rw [q2]; exact h6) q1 q3 (by rw [hsl]; exact k2_hasslot (q4 kf hk)) rfl rfl hd fun H' g1 g2 g3 => ?_
  rw [hsl] at g1 ⊢
  exact kk _ (va_up_self _ _ _) (fun q hq => va_up_ne _ _ hq) C0 H' _ ls (g2.trans e1) (e2.put ha ⟨_, hc, t_OB.to (V := updV (vp_V fs) kf v) ⟨_, g1, q2, q3, t_set q4 hap hk v⟩ (fun j _ => vp_updV_set hl v j)⟩ g3) (e3.put g2 g3 (e2 a _ ha).1) e4
theorem jw_putF {a ci kf N idx : Nat} {fs fs' : List Value} {C : String} {T : u_T} {v : Value} {ty : FieldType} (hc : jw_cl[ci]? = some (C, T, N)) (hk : kf < N) (hw : Cond.fieldLink mi.1.cls idx (T kf).1 (T kf).2.1 (T kf).2.2.1 ∈ jw_T) (hd : decode mi.2.1 pc = .ok (.putfield idx, 3)) (hfin : (T kf).2.2.2 = true) (hin2 : mi.1.name = "<init>") (hdecl : (T kf).1 = mi.1.cls) (hty : parseFieldDescriptor (T kf).2.2.1 = some ty) (ha : μ a = some (.inr (ci, fs))) (hn : narrow ty v = v) (hfit : fits ty v = true) (hfs : fs.set kf v = fs') (hl : kf < fs.length) (hp : pc + 3 = pc') (kk : ∀ μ' : jw_Mem, μ' a = some (.inr (ci, fs')) → (∀ q, q ≠ a → μ' q = μ q) → jw_X mi o k kc ks pc' lc rest μ' hs) : jw_X mi o k kc ks pc lc (v :: .ref a :: rest) μ hs := by
  subst hp; subst hfs
  intro C0 H locs ls e1 e2 e3 e4
  have hts := C0.ts
  have hin := jw_cw _ (List.mem_of_getElem? hc)
  have hap := va_apart (own := mi.1.cls) hts hin (jw_ty0 T) (jw_tyok _ (List.mem_of_getElem? hc)) (jw_nmok _ (List.mem_of_getElem? hc)) C0.hK hc
  obtain ⟨r, h1, cell, q1, q2, q3, q4⟩ := (e2 a _ ha).2
  have hr : r = (C, T, N) := Option.some.inj (h1.symm.trans hc)
  subst hr
  obtain ⟨hS, hfc, kC, hkC, hkind⟩ := C0.hK.1 ci _ hc
  obtain ⟨cf, kf1, fi, f, hi, hsl⟩ := hS kf hk
  have hlay := hts _ (hin _ (u_in_lay hk))
  unfold u_lay at hlay
  rw [if_pos hfin] at hlay
  have hst := (u_facts hfc hkC (u_lays hts hin hk) hi).1
  have hcf : k.2.2.2.2.1.cls = cf := by
    obtain ⟨_, _, c', _, _, _, -, -, hf', -, -, -, hown2, -⟩ := Cond.laysFinal_spec hlay
    have x1 : c' = cf := by have := hi.symm.trans hf'; simp at this; exact this.1.symm
    rw [hdecl] at hown2
    rw [← x1]; exact Option.some.inj (C0.own.symm.trans hown2)
  have h6 := u_fits hfc hkC hkind (Or.inr hlay) hi hty hn hfit
  refine W.putFinK C0.1 C0.2.1 C0.own (hts _ hw) hi hst hcf (C0.2.2.2.2.2.2.2.1.trans hin2) (by rw [q2]; exact h6) q1 q3 (by rw [hsl]; exact k2_hasslot (q4 kf hk)) rfl rfl hd fun H' g1 g2 g3 => ?_
  rw [hsl] at g1 ⊢
  exact kk _ (va_up_self _ _ _) (fun q hq => va_up_ne _ _ hq) C0 H' _ ls (g2.trans e1) (e2.put ha ⟨_, hc, t_OB.to (V := updV (vp_V fs) kf v) ⟨_, g1, q2, q3, t_set q4 hap hk v⟩ (fun j _ => vp_updV_set hl v j)⟩ g3) (e3.put g2 g3 (e2 a _ ha).1) e4
theorem jw_new {d mc ms ci N idx : Nat} {C : String} {T : u_T} {fs : List Value} (hR : jw_Rm k d mc ms) (hc : jw_cl[ci]? = some (C, T, N)) (hw1 : Cond.classLink mi.1.cls idx C ∈ jw_T) (hw2 : Cond.instantiable C N ∈ jw_T) (hw3 : Cond.initialized C ∈ jw_T) (hd : decode mi.2.1 pc = .ok (.new idx, 3)) (hfs : (List.range N).all (fun j => decide (defaultValue (jw_ty0 T j) = vp_V fs j)) = true) (h1 : kc + 1 ≤ mc) (h2 : ks + N ≤ ms) (hp : pc + 3 = pc') (kk : ∀ μ' : jw_Mem, μ' hs = some (.inr (ci, fs)) → (∀ q, q ≠ hs → μ' q = μ q) → jw_X mi o k (kc + 1) (ks + N) pc' lc (.ref hs :: st) μ' (hs + 1)) : jw_X mi o k kc ks pc lc st μ hs := by
  subst hp
  intro C0 H locs ls e1 e2 e3 e4
  subst e1
  have hKn := C0.hK.1 ci _ hc
  have hlo : o.2.2.2.1 ≤ H.size := Nat.le_trans C0.lo e3.1
  refine W.newcK C0.1 C0.2.1 C0.own (C0.ts _ hw1) (C0.ts _ hw2) (C0.ts _ hw3) rfl hd (Nat.le_trans h1 hR.2.2.1) (Nat.le_trans h2 hR.2.2.2) hKn.2.1 rfl fun H1 kC hkC g1 z1 o1 => ?_
  refine kk _ (va_up_self _ _ _) (fun q hq => va_up_ne _ _ hq) C0 H1 _ ls z1 (e2.push hlo ?_ o1) (jw_grow e3 z1 o1) e4
  exact ⟨_, hc, (u_born (jw_ty0 T) C0.ts (jw_cw _ (List.mem_of_getElem? hc)) hKn hkC g1 (jw_tyok _ (List.mem_of_getElem? hc))).to (fun j hj => of_decide_eq_true (List.all_eq_true.mp hfs j (List.mem_range.mpr hj)))⟩
theorem jw_newa {d mc ms N i : Nat} {atype : ArrayType} {ty : FieldType} {n : Int32} {a0 : vp_A} (hR : jw_Rm k d mc ms) (hw : Cond.arrayClass ty ∈ jw_T) (hty : newarray.typeOf atype = ty) (ht : (jw_tys o.2.2.1)[i]? = some (o.2.2.1 i, ty)) (hd : decode mi.2.1 pc = .ok (.newarray atype, 2)) (ha : ∀ cA : ClassId, vp_cell cA a0 = arrV cA N (fun _ => defaultValue ty)) (hn : ¬ n < 0) (hN : n.toNatClampNeg = N) (hb : N * componentBytes ty ≤ 536870912) (h1 : kc + 1 ≤ mc) (h2 : ks + N ≤ ms) (hp : pc + 2 = pc') (kk : ∀ μ' : jw_Mem, μ' hs = some (.inl (o.2.2.1 i, a0)) → (∀ q, q ≠ hs → μ' q = μ q) → jw_X mi o k (kc + 1) (ks + N) pc' lc (.ref hs :: rest) μ' (hs + 1)) : jw_X mi o k kc ks pc lc (.int n :: rest) μ hs := by
  subst hp; subst hty
  intro C0 H locs ls e1 e2 e3 e4
  subst e1
  have hlo : o.2.2.2.1 ≤ H.size := Nat.le_trans C0.lo e3.1
  refine va_newaK C0.1 C0.2.1 (C0.ts _ hw) rfl hd rfl hn hN hb (Nat.le_trans h1 hR.2.2.1) (Nat.le_trans h2 hR.2.2.2) rfl fun H1 cA g1 z1 o1 hAr hNm => ?_
  have hRA := (C0.hK.2 i _ ht).2
  have hcA : cA = o.2.2.1 i := by
    have h9 : k.2.2.2.1.vm.findClass ("[" ++ (newarray.typeOf atype).toString) = some (o.2.2.1 i) := by cases atype <;> exact hRA
    exact Option.some.inj (hNm.symm.trans h9)
  subst hcA
  refine kk _ (va_up_self _ _ _) (fun q hq => va_up_ne _ _ hq) C0 H1 _ ls z1 (e2.push hlo ?_ o1) (jw_grow e3 z1 o1) e4
  show H1[H.size]? = some (vp_cell _ _)
  rw [ha]
  exact g1
theorem jw_newq {d mc ms N i idx : Nat} {C : String} {n : Int32} (hR : jw_Rm k d mc ms) (hw : Cond.classLink mi.1.cls idx C ∈ jw_T) (hao : C ∈ jw_ao) (ht : (jw_tys o.2.2.1)[i]? = some (o.2.2.1 i, .object C)) (hd : decode mi.2.1 pc = .ok (.anewarray idx, 3)) (hn : ¬ n < 0) (hN : n.toNatClampNeg = N) (hb : N * 4 ≤ 536870912) (h1 : kc + 1 ≤ mc) (h2 : ks + N ≤ ms) (hp : pc + 3 = pc') (kk : ∀ μ' : jw_Mem, μ' hs = some (.inl (o.2.2.1 i, N, .inr (.inr (.inr (.inr (fun _ => none)))))) → (∀ q, q ≠ hs → μ' q = μ q) → jw_X mi o k (kc + 1) (ks + N) pc' lc (.ref hs :: rest) μ' (hs + 1)) : jw_X mi o k kc ks pc lc (.int n :: rest) μ hs := by
  subst hp; subst hN
  intro C0 H locs ls e1 e2 e3 e4
  subst e1
  have hlo : o.2.2.2.1 ≤ H.size := Nat.le_trans C0.lo e3.1
  refine W.anew C0.1 C0.2.1 C0.own (C0.ts _ hw) (va_AO.use (C0.S.2 C hao)) rfl hd rfl hn hb (Nat.le_trans h1 hR.2.2.1) (Nat.le_trans h2 hR.2.2.2) fun cA kA comp f1 f2 f3 f4 => ?_
  generalize hH1 : H.push ({ cls := cA, slots := Array.replicate n.toNatClampNeg .null, vm := .none } : Cell) = H1
  have z1 : H1.size = H.size + 1 := by rw [← hH1, Array.size_push]
  have g1 : H1[H.size]? = some (arrV cA n.toNatClampNeg (fun _ => .null)) := by rw [← hH1, Array.getElem?_push_size, ← arrV_new]
  have o1 : ∀ q : Nat, q < H.size → H1[q]? = H[q]? := fun q hq => by rw [← hH1, Array.getElem?_push, if_neg (Nat.ne_of_lt hq)]
  obtain ⟨-, kA', comp', k1, k2, k3, k4⟩ := C0.hK.2 i _ ht
  have hcA : cA = o.2.2.1 i := Option.some.inj (f1.symm.trans k4)
  subst hcA
  refine kk _ (va_up_self _ _ _) (fun q hq => va_up_ne _ _ hq) C0 H1 _ ls z1 (e2.push hlo ?_ o1) (jw_grow e3 z1 o1) e4
  show H1[H.size]? = some (vp_cell _ _)
  rw [vp_cell_q]
  exact g1
theorem jw_alen {a i : Nat} {cA : ClassId} {x : vp_A} {ty : FieldType} {v : Int32} (hd : decode mi.2.1 pc = .ok (.arraylength, 1)) (ha : μ a = some (.inl (cA, x))) (ht : (jw_tys o.2.2.1)[i]? = some (cA, ty)) (hv : Int32.ofNat x.1 = v) (hp : pc + 1 = pc') (kk : jw_X mi o k kc ks pc' lc (.int v :: rest) μ hs) : jw_X mi o k kc ks pc lc (.ref a :: rest) μ hs := by
  subst hp
  exact fun C0 H locs ls e1 e2 e3 e4 => va_alen C0.1 C0.2.1 C0.hK (jw_one e2 ha) 0 i rfl ht hv hd (kk C0 H locs ls e1 e2 e3 e4)
theorem jw_iald {a i : Nat} {cA : ClassId} {n : Nat} {f : Nat → Int32} {x v : Int32} (hd : decode mi.2.1 pc = .ok (.iaload, 1)) (ha : μ a = some (.inl (cA, n, .inl f))) (ht : (jw_tys o.2.2.1)[i]? = some (cA, .int)) (hin : vp_in x n) (hv : f x.toNatClampNeg = v) (hp : pc + 1 = pc') (kk : jw_X mi o k kc ks pc' lc (.int v :: rest) μ hs) : jw_X mi o k kc ks pc lc (.int x :: .ref a :: rest) μ hs := by
  subst hp; subst hv
  exact fun C0 H locs ls e1 e2 e3 e4 => va_iald C0.1 C0.2.1 C0.hK (jw_one e2 ha) 0 i rfl ht hin hd (kk C0 H locs ls e1 e2 e3 e4)
theorem jw_zald {a i : Nat} {cA : ClassId} {n : Nat} {f : Nat → Int32} {x v : Int32} (hd : decode mi.2.1 pc = .ok (.baload, 1)) (ha : μ a = some (.inl (cA, n, .inl f))) (ht : (jw_tys o.2.2.1)[i]? = some (cA, .boolean)) (hin : vp_in x n) (hv : f x.toNatClampNeg = v) (hp : pc + 1 = pc') (kk : jw_X mi o k kc ks pc' lc (.int v :: rest) μ hs) : jw_X mi o k kc ks pc lc (.int x :: .ref a :: rest) μ hs := by
  subst hp; subst hv
  exact fun C0 H locs ls e1 e2 e3 e4 => va_zald C0.1 C0.2.1 C0.hK (jw_one e2 ha) 0 i rfl ht hin hd (kk C0 H locs ls e1 e2 e3 e4)
theorem jw_lald {a i : Nat} {cA : ClassId} {n : Nat} {f : Nat → Int64} {x : Int32} {v : Int64} (hd : decode mi.2.1 pc = .ok (.laload, 1)) (ha : μ a = some (.inl (cA, n, .inr (.inl f)))) (ht : (jw_tys o.2.2.1)[i]? = some (cA, .long)) (hin : vp_in x n) (hv : f x.toNatClampNeg = v) (hp : pc + 1 = pc') (kk : jw_X mi o k kc ks pc' lc (.long v :: rest) μ hs) : jw_X mi o k kc ks pc lc (.int x :: .ref a :: rest) μ hs := by
  subst hp; subst hv
  exact fun C0 H locs ls e1 e2 e3 e4 => va_lald C0.1 C0.2.1 C0.hK (jw_one e2 ha) 0 i rfl ht hin hd (kk C0 H locs ls e1 e2 e3 e4)
theorem jw_aald {a i : Nat} {cA : ClassId} {C : String} {n : Nat} {f : Nat → Option Nat} {x : Int32} {v : Value} (hd : decode mi.2.1 pc = .ok (.aaload, 1)) (ha : μ a = some (.inl (cA, n, .inr (.inr (.inr (.inr f)))))) (ht : (jw_tys o.2.2.1)[i]? = some (cA, .object C)) (hin : vp_in x n) (hv : va_rf (f x.toNatClampNeg) = v) (hp : pc + 1 = pc') (kk : jw_X mi o k kc ks pc' lc (v :: rest) μ hs) : jw_X mi o k kc ks pc lc (.int x :: .ref a :: rest) μ hs := by
  subst hp; subst hv
  exact fun C0 H locs ls e1 e2 e3 e4 => va_aldq C0.1 C0.2.1 C0.hK (jw_one e2 ha) 0 i rfl ht hin hd (kk C0 H locs ls e1 e2 e3 e4)
theorem jw_iast {a i : Nat} {cA : ClassId} {n : Nat} {f : Nat → Int32} {x y : Int32} (hd : decode mi.2.1 pc = .ok (.iastore, 1)) (ha : μ a = some (.inl (cA, n, .inl f))) (ht : (jw_tys o.2.2.1)[i]? = some (cA, .int)) (hin : vp_in x n) (hp : pc + 1 = pc') (kk : ∀ μ' : jw_Mem, μ' a = some (.inl (cA, n, .inl (upd f x.toNatClampNeg y))) → (∀ q, q ≠ a → μ' q = μ q) → jw_X mi o k kc ks pc' lc rest μ' hs) : jw_X mi o k kc ks pc lc (.int y :: .int x :: .ref a :: rest) μ hs := by
  subst hp
  intro C0 H locs ls e1 e2 e3 e4
  refine W.iast C0.1 C0.2.1 (e2 a _ ha).2 ((C0.hK.2 i _ ht).1 n (fun j => .int (f j))) (fun q => by cases q) (by show ¬ (x < 0 ∨ (arrV _ _ _).slots.size ≤ _); rw [arrV_size]; exact hin) rfl rfl hd fun H1 g z oq => ?_
  refine kk _ (va_up_self _ _ _) (fun q hq => va_up_ne _ _ hq) C0 H1 _ ls (z.trans e1) (e2.put ha ?_ oq) (e3.put z oq (e2 a _ ha).1) e4
  show H1[a]? = some (vp_cell _ _)
  rw [g]
  rw [vp_cell_i, vp_cell_i, arrV_store]
  congr 2
  funext q
  by_cases hq : q = x.toNatClampNeg
  · subst hq
    simp [updV, upd]
  · simp [updV, upd, hq]
theorem jw_zast {a i : Nat} {cA : ClassId} {n : Nat} {f : Nat → Int32} {x y : Int32} (hd : decode mi.2.1 pc = .ok (.bastore, 1)) (ha : μ a = some (.inl (cA, n, .inl f))) (ht : (jw_tys o.2.2.1)[i]? = some (cA, .boolean)) (hin : vp_in x n) (hp : pc + 1 = pc') (kk : ∀ μ' : jw_Mem, μ' a = some (.inl (cA, n, .inl (upd f x.toNatClampNeg (vp_nar .boolean y)))) → (∀ q, q ≠ a → μ' q = μ q) → jw_X mi o k kc ks pc' lc rest μ' hs) : jw_X mi o k kc ks pc lc (.int y :: .int x :: .ref a :: rest) μ hs := by
  subst hp
  intro C0 H locs ls e1 e2 e3 e4
  refine W.zast C0.1 C0.2.1 (e2 a _ ha).2 ((C0.hK.2 i _ ht).1 n (fun j => .int (f j))) (fun q => by cases q) (by show ¬ (x < 0 ∨ (arrV _ _ _).slots.size ≤ _); rw [arrV_size]; exact hin) rfl rfl hd fun H1 g z oq => ?_
  refine kk _ (va_up_self _ _ _) (fun q hq => va_up_ne _ _ hq) C0 H1 _ ls (z.trans e1) (e2.put ha ?_ oq) (e3.put z oq (e2 a _ ha).1) e4
  show H1[a]? = some (vp_cell _ _)
  rw [g]
  rw [vp_cell_i, vp_cell_i, arrV_store]
  congr 2
  funext q
  by_cases hq : q = x.toNatClampNeg
  · subst hq
    simp [updV, upd, vp_nar]
    try rfl
  · simp [updV, upd, hq]
theorem jw_last {a i : Nat} {cA : ClassId} {n : Nat} {f : Nat → Int64} {x : Int32} {y : Int64} (hd : decode mi.2.1 pc = .ok (.lastore, 1)) (ha : μ a = some (.inl (cA, n, .inr (.inl f)))) (ht : (jw_tys o.2.2.1)[i]? = some (cA, .long)) (hin : vp_in x n) (hp : pc + 1 = pc') (kk : ∀ μ' : jw_Mem, μ' a = some (.inl (cA, n, .inr (.inl (vp_updL f x.toNatClampNeg y)))) → (∀ q, q ≠ a → μ' q = μ q) → jw_X mi o k kc ks pc' lc rest μ' hs) : jw_X mi o k kc ks pc lc (.long y :: .int x :: .ref a :: rest) μ hs := by
  subst hp
  intro C0 H locs ls e1 e2 e3 e4
  refine W.last C0.1 C0.2.1 (e2 a _ ha).2 ((C0.hK.2 i _ ht).1 n (fun j => .long (f j))) (fun q => by cases q) (by show ¬ (x < 0 ∨ (arrV _ _ _).slots.size ≤ _); rw [arrV_size]; exact hin) rfl rfl hd fun H1 g z oq => ?_
  refine kk _ (va_up_self _ _ _) (fun q hq => va_up_ne _ _ hq) C0 H1 _ ls (z.trans e1) (e2.put ha ?_ oq) (e3.put z oq (e2 a _ ha).1) e4
  show H1[a]? = some (vp_cell _ _)
  rw [g]
  rw [vp_cell_l, vp_cell_l, arrV_store]
  congr 2
  funext q
  by_cases hq : q = x.toNatClampNeg
  · subst hq
    simp [updV, vp_updL]
  · simp [updV, vp_updL, hq]
theorem jw_aast {a i b ci : Nat} {cA : ClassId} {r : vw_C} {n : Nat} {f : Nat → Option Nat} {fs : List Value} {x : Int32} (hd : decode mi.2.1 pc = .ok (.aastore, 1)) (ha : μ a = some (.inl (cA, n, .inr (.inr (.inr (.inr f)))))) (ht : (jw_tys o.2.2.1)[i]? = some (cA, .object r.1)) (hb : μ b = some (.inr (ci, fs))) (hc : jw_cl[ci]? = some r) (hin : vp_in x n) (hp : pc + 1 = pc') (kk : ∀ μ' : jw_Mem, μ' a = some (.inl (cA, n, .inr (.inr (.inr (.inr (va_up f x.toNatClampNeg (some b))))))) → (∀ q, q ≠ a → μ' q = μ q) → jw_X mi o k kc ks pc' lc rest μ' hs) : jw_X mi o k kc ks pc lc (.ref b :: .int x :: .ref a :: rest) μ hs := by
  subst hp
  intro C0 H locs ls e1 e2 e3 e4
  have hlt : x.toNatClampNeg < n := Nat.not_le.mp fun q => hin (Or.inr q)
  have h0 : ¬ x < 0 := fun q => hin (Or.inl q)
  obtain ⟨r', hr', cellV, g1, g2, g3, -⟩ := (e2 b _ hb).2
  have hcls := (C0.hK.1 ci r hc).2
  obtain ⟨kA, comp, k1, k2, k3, -⟩ := (C0.hK.2 i _ ht).2
  have hcomp : comp = o.2.1.1 ci := Option.some.inj (k3.symm.trans hcls.1)
  subst hcomp
  obtain ⟨kC, hkC, -⟩ := hcls.2
  refine W.aast C0.1 C0.2.1 (e2 a _ ha).2 (fun q h => by cases h) (fun h => by cases h) k1 k2 rfl hkC ⟨h0, by show _ < (arrV _ _ _).slots.size; rw [arrV_size]; exact hlt⟩ g1 (fun q h => by rw [g3] at h; cases h) (by rw [g2]; exact hkC) (by rw [g2]; exact va_assign hcls) rfl rfl hd fun H1 g z oq => ?_
  refine kk _ (va_up_self _ _ _) (fun q hq => va_up_ne _ _ hq) C0 H1 _ ls (z.trans e1) (e2.put ha ?_ oq) (e3.put z oq (e2 a _ ha).1) e4
  show H1[a]? = some (vp_cell _ _)
  rw [g]
  rw [vp_cell_q, vp_cell_q, arrV_store]
  congr 2
  funext q
  by_cases hq : q = x.toNatClampNeg
  · subst hq
    simp [updV, va_up, va_rf]
  · simp [updV, va_up, hq]
theorem jw_good {ws : List Cond} (h : ∀ w ∈ ws, w ∈ jw_T) : GoodIn jw_T ws := fun w hw => ⟨h w hw, good_of_word (List.mem_filter.mp (h w hw)).2⟩
theorem jw_S.same {s U : State} (h : s.vm = U.vm) (hS : jw_S s) : jw_S U := ⟨fun q hq => va_tabs rfl h (hS.1 q hq), fun C hC => va_AO.moved (by rw [h]; exact Vm.Alike.refl _) (hS.2 C hC)⟩
theorem jw_B.blind {As : List Value} : FrameBlind (va_Pc As (jw_B o μ hs)) := fun a U g mk q => by
  obtain ⟨q0, q1, q2, q3, q4, q5, q6⟩ := q
  exact ⟨q0, q1, q2, va_K.moved (u := U) (U := U.calling g mk a) (Vm.Alike.refl U.vm) q3, jw_S.same (s := U) (U := U.calling g mk a) rfl q4, q5, jw_xB.same (u := U) (U := U.calling g mk a) rfl q6⟩
theorem jw_B.of {As : List Value} {H : Heap} {locs : List Loc} (C0 : jw_Cx mi o k) (e1 : H.size = hs) (e2 : jw_H o μ H) (e3 : va_S (fun q => o.2.2.2.1 ≤ q) k.2.2.2.1.heap H locs) : ∀ U : State, U.heap = H → k.2.2.2.1.WarmedH U.vm → va_Pc As (jw_B o μ hs) As.toArray U := fun U hU hW => ⟨rfl, by rw [hU]; exact e1, by rw [hU]; exact e2, va_K.moved hW.alike C0.hK, C0.S.moved hW, by rw [← e1]; exact Nat.le_trans C0.lo e3.1, by rw [hU]; exact (C0.xB.kept e3.2.1).warm hW⟩
theorem jw_back {H : Heap} {locs : List Loc} {ls : Array Slot} {mc' ms' : Nat} {a : Array Value} {Φ : Option Value → jw_Mem → Nat → Prop}
    (hr : va_Run k.1 o.1 k.2.1 k.2.2.1 k.2.2.2.1 k.2.2.2.2.1 k.2.2.2.2.2.1 k.2.2.2.2.2.2.1 k.2.2.2.2.2.2.2.1 k.2.2.2.2.2.2.2.2.1 H locs kc ks mc' ms' (F0 k.2.2.2.2.1 pc ls st) rest (jw_Q o Φ a) (fun q => o.2.2.2.1 ≤ q))
    (e3 : va_S (fun q => o.2.2.2.1 ≤ q) k.2.2.2.1.heap H locs)
    (kk : ∀ (v : Option Value) (μ' : jw_Mem) (H1 : Heap) (locs1 : List Loc), jw_H o μ' H1 → Φ v μ' H1.size → H.size ≤ H1.size → va_S (fun q => o.2.2.2.1 ≤ q) k.2.2.2.1.heap H1 locs1 → jw_W o k H1 locs1 (kc + mc') (ks + ms') (pc + 3) ls (v.toList ++ rest)) : jw_W o k H locs kc ks pc ls st := by
  intro T hT X
  obtain ⟨v, st₀, t, T', L, h0, X', hL, e1, e2, ⟨⟨v', μ', hv, hH, hΦ⟩, hz, hk⟩, sts⟩ := hr T hT X
  cases hv
  rw [h0] at hz hk
  obtain ⟨t2, a1, b1⟩ := kk v μ' T'.heap (locs ++ L) (by rw [e1]; exact hH) (by rw [e1]; exact hΦ) (by rw [e1]; exact hz)
    ⟨Nat.le_trans e3.1 (by rw [e1]; exact hz), fun q h1 h2 => by rw [e1, hk q (Nat.lt_of_lt_of_le h1 e3.1) h2]; exact e3.2.1 q h1 h2, fun q hq => by
      rcases List.mem_append.mp hq with h | h
      · exact e3.2.2 q h
      · exact hL q h⟩ T' rfl X'
  exact ⟨t2, sts t2 a1, b1⟩
def jw_pl (y : MethodName) (n : Nat) : Prop := y.cls ≠ "java/lang/invoke/MethodHandle" ∧ y.cls ≠ "java/lang/invoke/VarHandle" ∧ (parseMethodDescriptor y.desc).map (fun d => d.parameters.length) = some n
/-- what the tables say of a method that is called: an instance's, a static one, a constructor -/
def jw_mV (mi : jw_M) (n : Nat) : Prop := Cond.instanceMethod mi.1 ∈ jw_T ∧ Cond.selects mi.1.cls mi.1 mi.1 ∈ jw_T ∧ Cond.initialized mi.1.cls ∈ jw_T ∧ Cond.code mi.1 mi.2.1 mi.2.2.1 mi.2.2.2 ∈ jw_T ∧ jw_pl mi.1 n
def jw_mS (mi : jw_M) (n : Nat) : Prop := Cond.static mi.1 ∈ jw_T ∧ Cond.initialized mi.1.cls ∈ jw_T ∧ Cond.code mi.1 mi.2.1 mi.2.2.1 mi.2.2.2 ∈ jw_T ∧ jw_pl mi.1 n
def jw_mI (mi : jw_M) (n : Nat) : Prop := Cond.instanceMethod mi.1 ∈ jw_T ∧ Cond.initialized mi.1.cls ∈ jw_T ∧ Cond.code mi.1 mi.2.1 mi.2.2.1 mi.2.2.2 ∈ jw_T ∧ mi.1.name = "<init>" ∧ mi.2.2.2 = none ∧ jw_pl mi.1 n
theorem jw_room {d d' mc ms mc' ms' mx : Nat} (hR : jw_Rm k d mc ms) (hdd : d' + 1 ≤ d) (hml : mx ≤ 45) : (jw_rm d' mc' ms').frames + 1 ≤ k.2.2.1.frames ∧ 8 + (mx + 11) + (jw_rm d' mc' ms').locals ≤ k.2.2.1.locals := by
  obtain ⟨h1, h2, -, -⟩ := hR
  exact ⟨Nat.le_trans hdd h1, by show 8 + (mx + 11) + 64 * d' ≤ _; omega⟩
theorem jw_callV {mj : jw_M} {d d' mc ms mc' ms' a ci n idx : Nat} {As : List Value} {fs : List Value} {T : u_T} {N : Nat} {Φ : Option Value → jw_Mem → Nat → Prop} (hR : jw_Rm k d mc ms) (hS : jw_Spec mj d' mc' ms' o (.ref a :: As) μ hs Φ) (hm : jw_mV mj n) (hw : Cond.methodLink mi.1.cls idx mj.1 ∈ jw_T) (hc : jw_cl[ci]? = some (mj.1.cls, T, N)) (hd : decode mi.2.1 pc = .ok (.invokevirtual idx, 3)) (ha : μ a = some (.inr (ci, fs))) (hn : As.length = n) (hst : As.reverse ++ .ref a :: rest = st) (hrs : (rest.map fun v => v.category).sum ≤ 8) (hdd : d' + 1 ≤ d) (hml : mj.2.2.1 ≤ 45) (h1 : kc + mc' ≤ mc) (h2 : ks + ms' ≤ ms) (hp : pc + 3 = pc') (kk : ∀ (v : Option Value) (μ' : jw_Mem) (hs' : Nat), Φ v μ' hs' → hs ≤ hs' → jw_X mi o k (kc + mc') (ks + ms') pc' lc (v.toList ++ rest) μ' hs') : jw_X mi o k kc ks pc lc st μ hs := by
  subst hp; subst hst
  intro C0 H locs ls e1 e2 e3 e4
  obtain ⟨m1, m2, m3, m4, m5⟩ := hm
  refine jw_back (va_runV (As := As) (rest := rest) (b := a) ⟨C0.1, C0.2.1, C0.2.2.2.1, C0.own, C0.ts⟩ hS (cwV (ws' := jw_T) n C0.ts (jw_good fun w hw9 => ?_) rfl rfl rfl ⟨rfl, m5⟩ (jw_room hR hdd hml)) ⟨jw_B.blind, va_recv C0.hK (jw_one e2 ha) (ci := ci) (q0 := 0) hc rfl, jw_B.of C0 e1 e2 e3⟩ rfl hn e4.1 rfl (lv_room hrs) hd ⟨Nat.le_trans h1 hR.2.2.1, Nat.le_trans h2 hR.2.2.2⟩) e3 (fun v μ' H1 locs1 q1 q2 q3 q4 => kk v μ' H1.size q2 (by rw [← e1]; exact q3) C0 H1 locs1 ls rfl q1 q4 e4)
  rcases List.mem_append.mp hw9 with h | h
  · simp only [List.mem_cons, List.not_mem_nil, or_false] at h
    rcases h with rfl | rfl | rfl | rfl
    · exact hw
    · exact m1
    · exact m2
    · exact m3
  · rcases List.mem_cons.mp h with rfl | h
    · exact m4
    · exact h
theorem jw_callS {mj : jw_M} {d d' mc ms mc' ms' n idx : Nat} {As : List Value} {Φ : Option Value → jw_Mem → Nat → Prop} (hR : jw_Rm k d mc ms) (hS : jw_Spec mj d' mc' ms' o As μ hs Φ) (hm : jw_mS mj n) (hw : Cond.methodLink mi.1.cls idx mj.1 ∈ jw_T) (hd : decode mi.2.1 pc = .ok (.invokestatic idx, 3)) (hn : As.length = n) (hst : As.reverse ++ rest = st) (hrs : (rest.map fun v => v.category).sum ≤ 8) (hdd : d' + 1 ≤ d) (hml : mj.2.2.1 ≤ 45) (h1 : kc + mc' ≤ mc) (h2 : ks + ms' ≤ ms) (hp : pc + 3 = pc') (kk : ∀ (v : Option Value) (μ' : jw_Mem) (hs' : Nat), Φ v μ' hs' → hs ≤ hs' → jw_X mi o k (kc + mc') (ks + ms') pc' lc (v.toList ++ rest) μ' hs') : jw_X mi o k kc ks pc lc st μ hs := by
  subst hp; subst hst
  intro C0 H locs ls e1 e2 e3 e4
  obtain ⟨m1, m2, m3, m4⟩ := hm
  refine jw_back (va_runS (As := As) (rest := rest) ⟨C0.1, C0.2.1, C0.2.2.2.1, C0.own, C0.ts⟩ hS ⟨callB_of (ws' := jw_T) n C0.ts (jw_good fun w hw9 => ?_) rfl rfl rfl (C0.ts _ m2) (C0.ts _ hw) m4 (jw_room hR hdd hml), C0.ts _ m1⟩ ⟨jw_B.blind, jw_B.of C0 e1 e2 e3⟩ rfl hn e4.1 rfl (lv_room hrs) hd ⟨Nat.le_trans h1 hR.2.2.1, Nat.le_trans h2 hR.2.2.2⟩) e3 (fun v μ' H1 locs1 q1 q2 q3 q4 => kk v μ' H1.size q2 (by rw [← e1]; exact q3) C0 H1 locs1 ls rfl q1 q4 e4)
  rcases List.mem_cons.mp hw9 with rfl | h
  · exact m3
  · exact h
theorem jw_callI {mj : jw_M} {d d' mc ms mc' ms' a n idx : Nat} {As : List Value} {Φ : Option Value → jw_Mem → Nat → Prop} (hR : jw_Rm k d mc ms) (hS : jw_Spec mj d' mc' ms' o (.ref a :: As) μ hs Φ) (hm : jw_mI mj n) (hw : Cond.methodLink mi.1.cls idx mj.1 ∈ jw_T) (hd : decode mi.2.1 pc = .ok (.invokespecial idx, 3)) (hn : As.length = n) (hst : As.reverse ++ .ref a :: rest = st) (hrs : (rest.map fun v => v.category).sum ≤ 8) (hdd : d' + 1 ≤ d) (hml : mj.2.2.1 ≤ 45) (h1 : kc + mc' ≤ mc) (h2 : ks + ms' ≤ ms) (hp : pc + 3 = pc') (kk : ∀ (v : Option Value) (μ' : jw_Mem) (hs' : Nat), Φ v μ' hs' → hs ≤ hs' → jw_X mi o k (kc + mc') (ks + ms') pc' lc (v.toList ++ rest) μ' hs') : jw_X mi o k kc ks pc lc st μ hs := by
  subst hp; subst hst
  intro C0 H locs ls e1 e2 e3 e4
  obtain ⟨m1, m2, m3, m4, m5, m6⟩ := hm
  refine jw_back (va_runI (As := As) (rest := rest) (b := a) ⟨C0.1, C0.2.1, C0.2.2.2.1, C0.own, C0.ts⟩ hS (cwI (ws' := jw_T) n C0.ts (jw_good fun w hw9 => ?_) (by unfold jw_ws; rw [m5]) rfl rfl (C0.ts _ m2) (C0.ts _ hw) (C0.ts _ m1) m4 m6 (jw_room hR hdd hml)) ⟨jw_B.blind, jw_B.of C0 e1 e2 e3⟩ rfl hn e4.1 rfl (lv_room hrs) hd ⟨Nat.le_trans h1 hR.2.2.1, Nat.le_trans h2 hR.2.2.2⟩) e3 (fun v μ' H1 locs1 q1 q2 q3 q4 => kk v μ' H1.size q2 (by rw [← e1]; exact q3) C0 H1 locs1 ls rfl q1 q4 e4)
  rcases List.mem_cons.mp hw9 with rfl | h
  · exact m3
  · exact h
theorem jw_callIN {mj : jw_M} {d d' mc ms mc' ms' a n idx : Nat} {host : String} {As : List Value} {Φ : Option Value → jw_Mem → Nat → Prop} (hR : jw_Rm k d mc ms) (hS : jw_Spec mj d' mc' ms' o (.ref a :: As) μ hs Φ) (hm : jw_mI mj n) (hw : (mi.1.cls, idx, mj.1, host) ∈ jw_nest) (hd : decode mi.2.1 pc = .ok (.invokespecial idx, 3)) (hn : As.length = n) (hst : As.reverse ++ .ref a :: rest = st) (hrs : (rest.map fun v => v.category).sum ≤ 8) (hdd : d' + 1 ≤ d) (hml : mj.2.2.1 ≤ 45) (h1 : kc + mc' ≤ mc) (h2 : ks + ms' ≤ ms) (hp : pc + 3 = pc') (kk : ∀ (v : Option Value) (μ' : jw_Mem) (hs' : Nat), Φ v μ' hs' → hs ≤ hs' → jw_X mi o k (kc + mc') (ks + ms') pc' lc (v.toList ++ rest) μ' hs') : jw_X mi o k kc ks pc lc st μ hs := by
  subst hp; subst hst
  intro C0 H locs ls e1 e2 e3 e4
  obtain ⟨m1, m2, m3, m4, m5, m6⟩ := hm
  refine jw_back (va_runIN (As := As) (rest := rest) (b := a) ⟨C0.1, C0.2.1, C0.2.2.2.1, C0.own, C0.ts⟩ hS ⟨va_cnB (ws' := jw_T) (ret := none) n C0.ts (jw_good fun w hw9 => ?_) (by unfold jw_ws; rw [m5]) rfl rfl (C0.S.1 _ hw) (C0.ts _ m2) m6 (jw_room hR hdd hml), m4, C0.ts _ m1⟩ ⟨jw_B.blind, jw_B.of C0 e1 e2 e3⟩ rfl hn e4.1 rfl (lv_room hrs) hd ⟨Nat.le_trans h1 hR.2.2.1, Nat.le_trans h2 hR.2.2.2⟩) e3 (fun v μ' H1 locs1 q1 q2 q3 q4 => kk v μ' H1.size q2 (by rw [← e1]; exact q3) C0 H1 locs1 ls rfl q1 q4 e4)
  rcases List.mem_cons.mp hw9 with rfl | h
  · exact m3
  · exact h
theorem jw_callSN {mj : jw_M} {d d' mc ms mc' ms' n idx : Nat} {host : String} {As : List Value} {Φ : Option Value → jw_Mem → Nat → Prop} (hR : jw_Rm k d mc ms) (hS : jw_Spec mj d' mc' ms' o As μ hs Φ) (hm : jw_mS mj n) (hw : (mi.1.cls, idx, mj.1, host) ∈ jw_nest) (hd : decode mi.2.1 pc = .ok (.invokestatic idx, 3)) (hn : As.length = n) (hst : As.reverse ++ rest = st) (hrs : (rest.map fun v => v.category).sum ≤ 8) (hdd : d' + 1 ≤ d) (hml : mj.2.2.1 ≤ 45) (h1 : kc + mc' ≤ mc) (h2 : ks + ms' ≤ ms) (hp : pc + 3 = pc') (kk : ∀ (v : Option Value) (μ' : jw_Mem) (hs' : Nat), Φ v μ' hs' → hs ≤ hs' → jw_X mi o k (kc + mc') (ks + ms') pc' lc (v.toList ++ rest) μ' hs') : jw_X mi o k kc ks pc lc st μ hs := by
  subst hp; subst hst
  intro C0 H locs ls e1 e2 e3 e4
  obtain ⟨m1, m2, m3, m4⟩ := hm
  refine jw_back (va_runSN (As := As) (rest := rest) ⟨C0.1, C0.2.1, C0.2.2.2.1, C0.own, C0.ts⟩ hS ⟨va_cnB (ws' := jw_T) n C0.ts (jw_good fun w hw9 => ?_) rfl rfl rfl (C0.S.1 _ hw) (C0.ts _ m2) m4 (jw_room hR hdd hml), C0.ts _ m1, trivial⟩ ⟨jw_B.blind, jw_B.of C0 e1 e2 e3⟩ rfl hn e4.1 rfl (lv_room hrs) hd ⟨Nat.le_trans h1 hR.2.2.1, Nat.le_trans h2 hR.2.2.2⟩) e3 (fun v μ' H1 locs1 q1 q2 q3 q4 => kk v μ' H1.size q2 (by rw [← e1]; exact q3) C0 H1 locs1 ls rfl q1 q4 e4)
  rcases List.mem_cons.mp hw9 with rfl | h
  · exact m3
  · exact h
theorem jw_objInit {d mc ms a idx : Nat} (hR : jw_Rm k d mc ms) (hw : Cond.methodLink mi.1.cls idx objectInit ∈ jw_T) (hd : decode mi.2.1 pc = .ok (.invokespecial idx, 3)) (hrs : (rest.map fun v => v.category).sum ≤ 8) (hdd : 1 ≤ d) (hp : pc + 3 = pc') (kk : jw_X mi o k kc ks pc' lc rest μ hs) : jw_X mi o k kc ks pc lc (.ref a :: rest) μ hs := by
  subst hp
  intro C0 H locs ls e1 e2 e3 e4
  obtain ⟨r1, r2, -, -⟩ := hR
  exact W.objInit C0.1 C0.2.1 C0.own (C0.ts _ hw) (C0.ts _ jw_oi1) (C0.ts _ jw_oi2) rfl (by rw [C0.2.2.2.1]; exact e4.1) rfl hd (Nat.le_trans hdd r1) (by have := lv_room (m := k.2.2.2.2.1) (pc := pc) (ls := ls) (rest := .ref a :: rest) hrs; omega) (W.eq (g2 := F0 k.2.2.2.2.1 (pc + 3) ls rest) rfl (kk C0 H locs ls e1 e2 e3 e4))
-- ends
theorem jw_zret {mc ms : Nat} {Φ : Option Value → jw_Mem → Nat → Prop} {v : Int32} {ty : FieldType} (hE : jw_E o k mc ms Φ) (hd : decode mi.2.1 pc = .ok (.ireturn, 1)) (hr : mi.2.2.2 = some ty) (hn : narrow ty (.int v) = .int v) (h1 : kc ≤ mc) (h2 : ks ≤ ms) (h : Φ (some (.int v)) μ hs) : jw_X mi o k kc ks pc lc [.int v] μ hs := by
  intro C0 H locs ls e1 e2 e3 e4
  refine W.widen h1 h2 (hE _ _ _ ?_)
  exact W.zret C0.1 C0.2.1 (C0.2.2.1.trans hr) hn (fun t ht hW => ⟨⟨_, μ, rfl, by rw [ht]; exact e2, by rw [ht, e1]; exact h⟩, e3.F ht⟩) e3.2.2 hd C0.2.2.2.2.2.2.1
theorem jw_iret {mc ms : Nat} {Φ : Option Value → jw_Mem → Nat → Prop} {v : Int32} (hE : jw_E o k mc ms Φ) (hd : decode mi.2.1 pc = .ok (.ireturn, 1)) (hr : mi.2.2.2 = some .int) (h1 : kc ≤ mc) (h2 : ks ≤ ms) (h : Φ (some (.int v)) μ hs) : jw_X mi o k kc ks pc lc [.int v] μ hs := jw_zret hE hd hr (vp_nar_int v) h1 h2 h
theorem jw_lret {mc ms : Nat} {Φ : Option Value → jw_Mem → Nat → Prop} {v : Int64} (hE : jw_E o k mc ms Φ) (hd : decode mi.2.1 pc = .ok (.lreturn, 1)) (hr : mi.2.2.2 = some .long) (h1 : kc ≤ mc) (h2 : ks ≤ ms) (h : Φ (some (.long v)) μ hs) : jw_X mi o k kc ks pc lc [.long v] μ hs := by
  intro C0 H locs ls e1 e2 e3 e4
  refine W.widen h1 h2 (hE _ _ _ ?_)
  exact W.lret C0.1 C0.2.1 (C0.2.2.1.trans hr) (fun t ht hW => ⟨⟨_, μ, rfl, by rw [ht]; exact e2, by rw [ht, e1]; exact h⟩, e3.F ht⟩) e3.2.2 hd C0.2.2.2.2.2.2.1
theorem jw_dret {mc ms : Nat} {Φ : Option Value → jw_Mem → Nat → Prop} {v : UInt64} (hE : jw_E o k mc ms Φ) (hd : decode mi.2.1 pc = .ok (.dreturn, 1)) (hr : mi.2.2.2 = some .double) (h1 : kc ≤ mc) (h2 : ks ≤ ms) (h : Φ (some (.double v)) μ hs) : jw_X mi o k kc ks pc lc [.double v] μ hs := by
  intro C0 H locs ls e1 e2 e3 e4
  refine W.widen h1 h2 (hE _ _ _ ?_)
  exact W.dret C0.1 C0.2.1 (C0.2.2.1.trans hr) (fun t ht hW => ⟨⟨_, μ, rfl, by rw [ht]; exact e2, by rw [ht, e1]; exact h⟩, e3.F ht⟩) e3.2.2 hd C0.2.2.2.2.2.2.1
theorem jw_vret {mc ms : Nat} {Φ : Option Value → jw_Mem → Nat → Prop} (hE : jw_E o k mc ms Φ) (hd : decode mi.2.1 pc = .ok (.return_, 1)) (hr : mi.2.2.2 = none) (h1 : kc ≤ mc) (h2 : ks ≤ ms) (h : Φ none μ hs) : jw_X mi o k kc ks pc lc [] μ hs := by
  intro C0 H locs ls e1 e2 e3 e4
  refine W.widen h1 h2 (hE _ _ _ ?_)
  exact W.vret C0.1 C0.2.1 (C0.2.2.1.trans hr) (fun t ht hW => ⟨⟨_, μ, rfl, by rw [ht]; exact e2, by rw [ht, e1]; exact h⟩, e3.F ht⟩) e3.2.2 hd C0.2.2.2.2.2.2.1
theorem jw_aret {mc ms : Nat} {Φ : Option Value → jw_Mem → Nat → Prop} {v : Value} {rt : FieldType} (hE : jw_E o k mc ms Φ) (hd : decode mi.2.1 pc = .ok (.areturn, 1)) (hr : mi.2.2.2 = some rt) (hrt : (∃ n, rt = .object n) ∨ ∃ t, rt = .array t) (hv : v = .null ∨ ∃ a, v = .ref a) (h1 : kc ≤ mc) (h2 : ks ≤ ms) (h : Φ (some v) μ hs) : jw_X mi o k kc ks pc lc [v] μ hs := by
  intro C0 H locs ls e1 e2 e3 e4
  refine W.widen h1 h2 (hE _ _ _ ?_)
  exact W.aret C0.1 C0.2.1 (C0.2.2.1.trans hr) hrt hv (fun t ht hW => ⟨⟨_, μ, rfl, by rw [ht]; exact e2, by rw [ht, e1]; exact h⟩, e3.F ht⟩) e3.2.2 hd C0.2.2.2.2.2.2.1
def jw_Ro (mi : jw_M) (d : Nat) (o : jw_O) (As : List Value) (μ : jw_Mem) (hs : Nat) (v : Option Value) : Prop := jw_Spec mi d 0 0 o As μ hs (fun v' μ' s' => v' = v ∧ μ' = μ ∧ s' = hs)
theorem jw_callV0 {mj : jw_M} {d d' mc ms a ci n idx : Nat} {As : List Value} {fs : List Value} {T : u_T} {N : Nat} {v : Option Value} {st' : List Value} (hR : jw_Rm k d mc ms) (hS : jw_Ro mj d' o (.ref a :: As) μ hs v) (hm : jw_mV mj n) (hw : Cond.methodLink mi.1.cls idx mj.1 ∈ jw_T) (hc : jw_cl[ci]? = some (mj.1.cls, T, N)) (hd : decode mi.2.1 pc = .ok (.invokevirtual idx, 3)) (ha : μ a = some (.inr (ci, fs))) (hn : As.length = n) (hst : As.reverse ++ .ref a :: rest = st) (hrs : (rest.map fun v => v.category).sum ≤ 8) (hdd : d' + 1 ≤ d) (hml : mj.2.2.1 ≤ 45) (h1 : kc ≤ mc) (h2 : ks ≤ ms) (hp : pc + 3 = pc') (hv : v.toList ++ rest = st') (kk : jw_X mi o k kc ks pc' lc st' μ hs) : jw_X mi o k kc ks pc lc st μ hs :=
  jw_callV hR hS hm hw hc hd ha hn hst hrs hdd hml h1 h2 hp (fun v1 μ1 s1 q _ => by obtain ⟨rfl, rfl, rfl⟩ := q; rw [hv]; exact kk)
theorem jw_callS0 {mj : jw_M} {d d' mc ms n idx : Nat} {As : List Value} {v : Option Value} {st' : List Value} (hR : jw_Rm k d mc ms) (hS : jw_Ro mj d' o As μ hs v) (hm : jw_mS mj n) (hw : Cond.methodLink mi.1.cls idx mj.1 ∈ jw_T) (hd : decode mi.2.1 pc = .ok (.invokestatic idx, 3)) (hn : As.length = n) (hst : As.reverse ++ rest = st) (hrs : (rest.map fun v => v.category).sum ≤ 8) (hdd : d' + 1 ≤ d) (hml : mj.2.2.1 ≤ 45) (h1 : kc ≤ mc) (h2 : ks ≤ ms) (hp : pc + 3 = pc') (hv : v.toList ++ rest = st') (kk : jw_X mi o k kc ks pc' lc st' μ hs) : jw_X mi o k kc ks pc lc st μ hs :=
  jw_callS hR hS hm hw hd hn hst hrs hdd hml h1 h2 hp (fun v1 μ1 s1 q _ => by obtain ⟨rfl, rfl, rfl⟩ := q; rw [hv]; exact kk)
theorem jw_callI0 {mj : jw_M} {d d' mc ms a n idx : Nat} {As : List Value} {v : Option Value} {st' : List Value} (hR : jw_Rm k d mc ms) (hS : jw_Ro mj d' o (.ref a :: As) μ hs v) (hm : jw_mI mj n) (hw : Cond.methodLink mi.1.cls idx mj.1 ∈ jw_T) (hd : decode mi.2.1 pc = .ok (.invokespecial idx, 3)) (hn : As.length = n) (hst : As.reverse ++ .ref a :: rest = st) (hrs : (rest.map fun v => v.category).sum ≤ 8) (hdd : d' + 1 ≤ d) (hml : mj.2.2.1 ≤ 45) (h1 : kc ≤ mc) (h2 : ks ≤ ms) (hp : pc + 3 = pc') (hv : v.toList ++ rest = st') (kk : jw_X mi o k kc ks pc' lc st' μ hs) : jw_X mi o k kc ks pc lc st μ hs :=
  jw_callI hR hS hm hw hd hn hst hrs hdd hml h1 h2 hp (fun v1 μ1 s1 q _ => by obtain ⟨rfl, rfl, rfl⟩ := q; rw [hv]; exact kk)
theorem jw_callIN0 {mj : jw_M} {d d' mc ms a n idx : Nat} {host : String} {As : List Value} {v : Option Value} {st' : List Value} (hR : jw_Rm k d mc ms) (hS : jw_Ro mj d' o (.ref a :: As) μ hs v) (hm : jw_mI mj n) (hw : (mi.1.cls, idx, mj.1, host) ∈ jw_nest) (hd : decode mi.2.1 pc = .ok (.invokespecial idx, 3)) (hn : As.length = n) (hst : As.reverse ++ .ref a :: rest = st) (hrs : (rest.map fun v => v.category).sum ≤ 8) (hdd : d' + 1 ≤ d) (hml : mj.2.2.1 ≤ 45) (h1 : kc ≤ mc) (h2 : ks ≤ ms) (hp : pc + 3 = pc') (hv : v.toList ++ rest = st') (kk : jw_X mi o k kc ks pc' lc st' μ hs) : jw_X mi o k kc ks pc lc st μ hs :=
  jw_callIN hR hS hm hw hd hn hst hrs hdd hml h1 h2 hp (fun v1 μ1 s1 q _ => by obtain ⟨rfl, rfl, rfl⟩ := q; rw [hv]; exact kk)
theorem jw_callSN0 {mj : jw_M} {d d' mc ms n idx : Nat} {host : String} {As : List Value} {v : Option Value} {st' : List Value} (hR : jw_Rm k d mc ms) (hS : jw_Ro mj d' o As μ hs v) (hm : jw_mS mj n) (hw : (mi.1.cls, idx, mj.1, host) ∈ jw_nest) (hd : decode mi.2.1 pc = .ok (.invokestatic idx, 3)) (hn : As.length = n) (hst : As.reverse ++ rest = st) (hrs : (rest.map fun v => v.category).sum ≤ 8) (hdd : d' + 1 ≤ d) (hml : mj.2.2.1 ≤ 45) (h1 : kc ≤ mc) (h2 : ks ≤ ms) (hp : pc + 3 = pc') (hv : v.toList ++ rest = st') (kk : jw_X mi o k kc ks pc' lc st' μ hs) : jw_X mi o k kc ks pc lc st μ hs :=
  jw_callSN hR hS hm hw hd hn hst hrs hdd hml h1 h2 hp (fun v1 μ1 s1 q _ => by obtain ⟨rfl, rfl, rfl⟩ := q; rw [hv]; exact kk)
end Rules
/-- a contract out of the walk of the method's body -/
theorem jw_spec {mi : jw_M} {o : jw_O} {d mc ms hs : Nat} {As : List Value} {μ : jw_Mem} {Φ : Option Value → jw_Mem → Nat → Prop} {lc : List (Nat × Value)} (hy : plainName mi.1.cls = true) (hn : (lg_sl As).length ≤ mi.2.2.1) (hlc : lv_args 0 As = lc) (body : ∀ k : jw_K, jw_Rm k d mc ms → jw_E o k mc ms Φ → jw_X mi o k 0 0 0 lc [] μ hs) : jw_Spec mi d mc ms o As μ hs Φ := by
  refine Met.ofW (cc := mi.2.1) (maxL := mi.2.2.1) (ret := mi.2.2.2) hy rfl ?_
  intro p e s m args below meth c s₁ B hml hv
  obtain ⟨rfl, h1, h2, h3, h4, h5, h6⟩ := hv
  have hts := atoms_spec (ws := jw_ws mi) B.pre
  have hown : s.vm.findClass mi.1.cls = some m.cls := findClass_of_methodNamed B.named
  have hname := (name_of_methodNamed B.named B.method).1
  have hb := body (p, e, jw_rm d mc ms, s, m, As.toArray, below, meth, c, MQ below (jw_Q o Φ) As.toArray s mc ms (fun q => o.2.2.2.1 ≤ q)) ⟨Nat.le_refl _, Nat.le_refl _, Nat.le_refl _, Nat.le_refl _⟩ (fun _ _ _ h => h) ⟨B.exec, B.bytes, B.returns, hml, hown, fun w h => hts w (List.mem_cons_of_mem _ h), B.notSynchronized, hname, h3, h4, by rw [h1]; exact h5, h6⟩
  rw [lg_entry_eq]
  exact hb s.heap [] _ h1 h2 va_S.rf (hlc ▸ lv_entry As hn)
theorem jw_ro {mi : jw_M} {o : jw_O} {d hs : Nat} {As : List Value} {μ : jw_Mem} {v : Option Value} {lc : List (Nat × Value)} (hy : plainName mi.1.cls = true) (hn : (lg_sl As).length ≤ mi.2.2.1) (hlc : lv_args 0 As = lc) (body : ∀ k : jw_K, jw_Rm k d 0 0 → jw_E o k 0 0 (fun v' μ' s' => v' = v ∧ μ' = μ ∧ s' = hs) → jw_X mi o k 0 0 0 lc [] μ hs) : jw_Ro mi d o As μ hs v := jw_spec hy hn hlc body
theorem jm_Branchwork_init : jw_mI mi_Branchwork_init 0 := ⟨jq_88, jq_55, jq_89, rfl, rfl, ⟨by decide +kernel, by decide +kernel, by decide +kernel⟩⟩
theorem jm_Tree_init : jw_mI mi_Tree_init 0 := ⟨jq_96, jq_56, jq_97, rfl, rfl, ⟨by decide +kernel, by decide +kernel, by decide +kernel⟩⟩
theorem jm_Content_init : jw_mI mi_Content_init 0 := ⟨jq_103, jq_57, jq_104, rfl, rfl, ⟨by decide +kernel, by decide +kernel, by decide +kernel⟩⟩
theorem jm_History_init : jw_mI mi_History_init 0 := ⟨jq_127, jq_58, jq_128, rfl, rfl, ⟨by decide +kernel, by decide +kernel, by decide +kernel⟩⟩
theorem jm_Merger_init : jw_mI mi_Merger_init 0 := ⟨jq_167, jq_59, jq_168, rfl, rfl, ⟨by decide +kernel, by decide +kernel, by decide +kernel⟩⟩
theorem jm_Conflicts_init : jw_mI mi_Conflicts_init 0 := ⟨jq_175, jq_60, jq_176, rfl, rfl, ⟨by decide +kernel, by decide +kernel, by decide +kernel⟩⟩
theorem jm_Renames_init : jw_mI mi_Renames_init 0 := ⟨jq_191, jq_61, jq_192, rfl, rfl, ⟨by decide +kernel, by decide +kernel, by decide +kernel⟩⟩
theorem jm_Match_init : jw_mI mi_Match_init 0 := ⟨jq_197, jq_62, jq_198, rfl, rfl, ⟨by decide +kernel, by decide +kernel, by decide +kernel⟩⟩
theorem jm_Blender_init : jw_mI mi_Blender_init 0 := ⟨jq_226, jq_63, jq_227, rfl, rfl, ⟨by decide +kernel, by decide +kernel, by decide +kernel⟩⟩
theorem jm_Arrays_fill : jw_mS mi_Arrays_fill 2 := ⟨jq_281, jq_64, jq_282, ⟨by decide +kernel, by decide +kernel, by decide +kernel⟩⟩
theorem jm_Branchwork_collect : jw_mV mi_Branchwork_collect 0 := ⟨jq_315, jq_316, jq_55, jq_317, ⟨by decide +kernel, by decide +kernel, by decide +kernel⟩⟩
theorem jm_Branchwork_garbage : jw_mV mi_Branchwork_garbage 0 := ⟨jq_319, jq_320, jq_55, jq_321, ⟨by decide +kernel, by decide +kernel, by decide +kernel⟩⟩
theorem jm_History_kept : jw_mV mi_History_kept 0 := ⟨jq_323, jq_324, jq_58, jq_325, ⟨by decide +kernel, by decide +kernel, by decide +kernel⟩⟩
theorem jm_History_countObjects : jw_mV mi_History_countObjects 1 := ⟨jq_327, jq_328, jq_58, jq_329, ⟨by decide +kernel, by decide +kernel, by decide +kernel⟩⟩
theorem jm_Integer_bitCount : jw_mS mi_Integer_bitCount 1 := ⟨jq_331, jq_84, jq_332, ⟨by decide +kernel, by decide +kernel, by decide +kernel⟩⟩
theorem jm_History_countTrees : jw_mV mi_History_countTrees 1 := ⟨jq_337, jq_338, jq_58, jq_339, ⟨by decide +kernel, by decide +kernel, by decide +kernel⟩⟩
theorem jm_History_isIn : jw_mS mi_History_isIn 2 := ⟨jq_341, jq_58, jq_342, ⟨by decide +kernel, by decide +kernel, by decide +kernel⟩⟩
theorem jm_History_setOf : jw_mS mi_History_setOf 1 := ⟨jq_344, jq_58, jq_345, ⟨by decide +kernel, by decide +kernel, by decide +kernel⟩⟩
theorem jm_History_countContents : jw_mV mi_History_countContents 1 := ⟨jq_347, jq_348, jq_58, jq_349, ⟨by decide +kernel, by decide +kernel, by decide +kernel⟩⟩
theorem jm_History_meetContents : jw_mV mi_History_meetContents 1 := ⟨jq_352, jq_0, jq_58, jq_353, ⟨by decide +kernel, by decide +kernel, by decide +kernel⟩⟩
theorem jm_Branchwork_reached : jw_mV mi_Branchwork_reached 0 := ⟨jq_357, jq_1, jq_55, jq_358, ⟨by decide +kernel, by decide +kernel, by decide +kernel⟩⟩
theorem jm_History_withAncestors : jw_mV mi_History_withAncestors 1 := ⟨jq_361, jq_362, jq_58, jq_363, ⟨by decide +kernel, by decide +kernel, by decide +kernel⟩⟩
theorem jm_History_keepOnly : jw_mV mi_History_keepOnly 1 := ⟨jq_365, jq_366, jq_58, jq_367, ⟨by decide +kernel, by decide +kernel, by decide +kernel⟩⟩
theorem jm_Branchwork_meanLines : jw_mV mi_Branchwork_meanLines 0 := ⟨jq_370, jq_371, jq_55, jq_372, ⟨by decide +kernel, by decide +kernel, by decide +kernel⟩⟩
theorem jm_History_sumLines : jw_mV mi_History_sumLines 1 := ⟨jq_375, jq_376, jq_58, jq_377, ⟨by decide +kernel, by decide +kernel, by decide +kernel⟩⟩
theorem jm_History_treeOf : jw_mV mi_History_treeOf 1 := ⟨jq_379, jq_380, jq_58, jq_381, ⟨by decide +kernel, by decide +kernel, by decide +kernel⟩⟩
theorem jm_Tree_fileAt : jw_mV mi_Tree_fileAt 1 := ⟨jq_383, jq_384, jq_56, jq_385, ⟨by decide +kernel, by decide +kernel, by decide +kernel⟩⟩
theorem jm_Content_length : jw_mV mi_Content_length 0 := ⟨jq_387, jq_388, jq_57, jq_389, ⟨by decide +kernel, by decide +kernel, by decide +kernel⟩⟩
theorem jm_Branchwork_digest : jw_mV mi_Branchwork_digest 0 := ⟨jq_391, jq_392, jq_55, jq_393, ⟨by decide +kernel, by decide +kernel, by decide +kernel⟩⟩
theorem jm_Branchwork_many : jw_mV mi_Branchwork_many 1 := ⟨jq_396, jq_397, jq_55, jq_398, ⟨by decide +kernel, by decide +kernel, by decide +kernel⟩⟩
theorem jm_Tree_countFiles : jw_mV mi_Tree_countFiles 0 := ⟨jq_401, jq_402, jq_56, jq_403, ⟨by decide +kernel, by decide +kernel, by decide +kernel⟩⟩
theorem jm_Tree_has : jw_mV mi_Tree_has 1 := ⟨jq_405, jq_406, jq_56, jq_407, ⟨by decide +kernel, by decide +kernel, by decide +kernel⟩⟩
theorem jm_Content_exists : jw_mV mi_Content_exists 0 := ⟨jq_410, jq_411, jq_57, jq_412, ⟨by decide +kernel, by decide +kernel, by decide +kernel⟩⟩
theorem jm_Conflicts_howMany : jw_mV mi_Conflicts_howMany 0 := ⟨jq_414, jq_415, jq_60, jq_416, ⟨by decide +kernel, by decide +kernel, by decide +kernel⟩⟩
theorem jm_Throwable_init0 : jw_mI mi_Throwable_init0 0 := ⟨jq_441, jq_73, jq_442, rfl, rfl, ⟨by decide +kernel, by decide +kernel, by decide +kernel⟩⟩
theorem jm_IllegalArgumentException_init : jw_mI mi_IllegalArgumentException_init 1 := ⟨jq_461, jq_77, jq_462, rfl, rfl, ⟨by decide +kernel, by decide +kernel, by decide +kernel⟩⟩
theorem jm_RuntimeException_init : jw_mI mi_RuntimeException_init 1 := ⟨jq_464, jq_75, jq_465, rfl, rfl, ⟨by decide +kernel, by decide +kernel, by decide +kernel⟩⟩
theorem jm_Exception_init : jw_mI mi_Exception_init 1 := ⟨jq_467, jq_74, jq_468, rfl, rfl, ⟨by decide +kernel, by decide +kernel, by decide +kernel⟩⟩
theorem jm_Throwable_init1 : jw_mI mi_Throwable_init1 1 := ⟨jq_470, jq_73, jq_471, rfl, rfl, ⟨by decide +kernel, by decide +kernel, by decide +kernel⟩⟩
theorem jm_Branchwork_fold : jw_mS mi_Branchwork_fold 2 := ⟨jq_487, jq_55, jq_488, ⟨by decide +kernel, by decide +kernel, by decide +kernel⟩⟩
theorem jm_Branchwork_now : jw_mV mi_Branchwork_now 1 := ⟨jq_491, jq_492, jq_55, jq_493, ⟨by decide +kernel, by decide +kernel, by decide +kernel⟩⟩
theorem jm_Branchwork_head : jw_mV mi_Branchwork_head 0 := ⟨jq_496, jq_3, jq_55, jq_497, ⟨by decide +kernel, by decide +kernel, by decide +kernel⟩⟩
theorem jm_Branchwork_at : jw_mV mi_Branchwork_at 1 := ⟨jq_500, jq_501, jq_55, jq_502, ⟨by decide +kernel, by decide +kernel, by decide +kernel⟩⟩
theorem jm_Branchwork_requireBranch : jw_mV mi_Branchwork_requireBranch 1 := ⟨jq_505, jq_4, jq_55, jq_506, ⟨by decide +kernel, by decide +kernel, by decide +kernel⟩⟩
theorem jm_IndexOutOfBoundsException_init : jw_mI mi_IndexOutOfBoundsException_init 1 := ⟨jq_518, jq_76, jq_519, rfl, rfl, ⟨by decide +kernel, by decide +kernel, by decide +kernel⟩⟩
theorem jm_Branchwork_status : jw_mV mi_Branchwork_status 1 := ⟨jq_524, jq_525, jq_55, jq_526, ⟨by decide +kernel, by decide +kernel, by decide +kernel⟩⟩
theorem jm_Branchwork_requirePath : jw_mS mi_Branchwork_requirePath 1 := ⟨jq_528, jq_55, jq_529, ⟨by decide +kernel, by decide +kernel, by decide +kernel⟩⟩
theorem jm_Content_sameAs : jw_mV mi_Content_sameAs 1 := ⟨jq_534, jq_535, jq_57, jq_536, ⟨by decide +kernel, by decide +kernel, by decide +kernel⟩⟩
theorem jm_Content_lineAt : jw_mV mi_Content_lineAt 1 := ⟨jq_540, jq_541, jq_57, jq_542, ⟨by decide +kernel, by decide +kernel, by decide +kernel⟩⟩
theorem jm_Branchwork_foldTree : jw_mS mi_Branchwork_foldTree 2 := ⟨jq_545, jq_55, jq_546, ⟨by decide +kernel, by decide +kernel, by decide +kernel⟩⟩
theorem jm_History_holds : jw_mV mi_History_holds 1 := ⟨jq_551, jq_552, jq_58, jq_553, ⟨by decide +kernel, by decide +kernel, by decide +kernel⟩⟩
theorem jm_Branchwork_foldCommit : jw_mV mi_Branchwork_foldCommit 2 := ⟨jq_556, jq_5, jq_55, jq_557, ⟨by decide +kernel, by decide +kernel, by decide +kernel⟩⟩
theorem jm_Branchwork_ofCommit : jw_mV mi_Branchwork_ofCommit 2 := ⟨jq_559, jq_560, jq_55, jq_561, ⟨by decide +kernel, by decide +kernel, by decide +kernel⟩⟩
theorem jm_Branchwork_requireCommit : jw_mV mi_Branchwork_requireCommit 1 := ⟨jq_564, jq_6, jq_55, jq_565, ⟨by decide +kernel, by decide +kernel, by decide +kernel⟩⟩
theorem jm_History_firstParent : jw_mV mi_History_firstParent 1 := ⟨jq_568, jq_569, jq_58, jq_570, ⟨by decide +kernel, by decide +kernel, by decide +kernel⟩⟩
theorem jm_History_secondParent : jw_mV mi_History_secondParent 1 := ⟨jq_572, jq_573, jq_58, jq_574, ⟨by decide +kernel, by decide +kernel, by decide +kernel⟩⟩
theorem jm_History_noteOf : jw_mV mi_History_noteOf 1 := ⟨jq_576, jq_577, jq_58, jq_578, ⟨by decide +kernel, by decide +kernel, by decide +kernel⟩⟩
theorem jm_History_ancestorsOf : jw_mV mi_History_ancestorsOf 1 := ⟨jq_580, jq_581, jq_58, jq_582, ⟨by decide +kernel, by decide +kernel, by decide +kernel⟩⟩
theorem jm_Conflicts_codeOf : jw_mV mi_Conflicts_codeOf 1 := ⟨jq_586, jq_587, jq_60, jq_588, ⟨by decide +kernel, by decide +kernel, by decide +kernel⟩⟩
theorem jm_Conflicts_holds : jw_mV mi_Conflicts_holds 1 := ⟨jq_590, jq_591, jq_60, jq_592, ⟨by decide +kernel, by decide +kernel, by decide +kernel⟩⟩
theorem jm_Conflicts_pathOf : jw_mV mi_Conflicts_pathOf 1 := ⟨jq_594, jq_595, jq_60, jq_596, ⟨by decide +kernel, by decide +kernel, by decide +kernel⟩⟩
theorem jm_Branchwork_put : jw_mV mi_Branchwork_put 3 := ⟨jq_604, jq_605, jq_55, jq_606, ⟨by decide +kernel, by decide +kernel, by decide +kernel⟩⟩
theorem jm_Content_isFull : jw_mV mi_Content_isFull 0 := ⟨jq_610, jq_611, jq_57, jq_612, ⟨by decide +kernel, by decide +kernel, by decide +kernel⟩⟩
theorem jm_IllegalStateException_init : jw_mI mi_IllegalStateException_init 1 := ⟨jq_624, jq_78, jq_625, rfl, rfl, ⟨by decide +kernel, by decide +kernel, by decide +kernel⟩⟩
theorem jm_Content_insert : jw_mV mi_Content_insert 2 := ⟨jq_630, jq_631, jq_57, jq_632, ⟨by decide +kernel, by decide +kernel, by decide +kernel⟩⟩
theorem jm_Branchwork_cut : jw_mV mi_Branchwork_cut 2 := ⟨jq_637, jq_638, jq_55, jq_639, ⟨by decide +kernel, by decide +kernel, by decide +kernel⟩⟩
theorem jm_Branchwork_requireFile : jw_mS mi_Branchwork_requireFile 2 := ⟨jq_641, jq_55, jq_642, ⟨by decide +kernel, by decide +kernel, by decide +kernel⟩⟩
theorem jm_Branchwork_requirePlace : jw_mS mi_Branchwork_requirePlace 2 := ⟨jq_645, jq_55, jq_646, ⟨by decide +kernel, by decide +kernel, by decide +kernel⟩⟩
theorem jm_Content_holds : jw_mV mi_Content_holds 1 := ⟨jq_648, jq_649, jq_57, jq_650, ⟨by decide +kernel, by decide +kernel, by decide +kernel⟩⟩
theorem jm_Content_takeOut : jw_mV mi_Content_takeOut 1 := ⟨jq_652, jq_653, jq_57, jq_654, ⟨by decide +kernel, by decide +kernel, by decide +kernel⟩⟩
theorem jm_Branchwork_rename : jw_mV mi_Branchwork_rename 2 := ⟨jq_660, jq_661, jq_55, jq_662, ⟨by decide +kernel, by decide +kernel, by decide +kernel⟩⟩
theorem jm_Content_copyFrom : jw_mV mi_Content_copyFrom 1 := ⟨jq_665, jq_666, jq_57, jq_667, ⟨by decide +kernel, by decide +kernel, by decide +kernel⟩⟩
theorem jm_Math_min : jw_mS mi_Math_min 2 := ⟨jq_669, jq_71, jq_670, ⟨by decide +kernel, by decide +kernel, by decide +kernel⟩⟩
theorem jm_Content_becomeAbsent : jw_mV mi_Content_becomeAbsent 0 := ⟨jq_672, jq_673, jq_57, jq_674, ⟨by decide +kernel, by decide +kernel, by decide +kernel⟩⟩
theorem jm_Branchwork_remove : jw_mV mi_Branchwork_remove 1 := ⟨jq_679, jq_680, jq_55, jq_681, ⟨by decide +kernel, by decide +kernel, by decide +kernel⟩⟩
theorem jm_Branchwork_commit : jw_mV mi_Branchwork_commit 1 := ⟨jq_690, jq_691, jq_55, jq_692, ⟨by decide +kernel, by decide +kernel, by decide +kernel⟩⟩
theorem jm_History_isFull : jw_mV mi_History_isFull 0 := ⟨jq_695, jq_696, jq_58, jq_697, ⟨by decide +kernel, by decide +kernel, by decide +kernel⟩⟩
theorem jm_Branchwork_isClean : jw_mV mi_Branchwork_isClean 0 := ⟨jq_702, jq_7, jq_55, jq_703, ⟨by decide +kernel, by decide +kernel, by decide +kernel⟩⟩
theorem jm_Tree_sameAs : jw_mV mi_Tree_sameAs 1 := ⟨jq_705, jq_706, jq_56, jq_707, ⟨by decide +kernel, by decide +kernel, by decide +kernel⟩⟩
theorem jm_History_add : jw_mV mi_History_add 4 := ⟨jq_711, jq_712, jq_58, jq_713, ⟨by decide +kernel, by decide +kernel, by decide +kernel⟩⟩
theorem jm_Tree_copyFrom : jw_mV mi_Tree_copyFrom 1 := ⟨jq_715, jq_716, jq_56, jq_717, ⟨by decide +kernel, by decide +kernel, by decide +kernel⟩⟩
theorem jm_History_numberOfTree : jw_mV mi_History_numberOfTree 1 := ⟨jq_721, jq_8, jq_58, jq_722, ⟨by decide +kernel, by decide +kernel, by decide +kernel⟩⟩
theorem jm_History_numberOfContent : jw_mV mi_History_numberOfContent 2 := ⟨jq_726, jq_9, jq_58, jq_727, ⟨by decide +kernel, by decide +kernel, by decide +kernel⟩⟩
theorem jm_Branchwork_branch : jw_mV mi_Branchwork_branch 0 := ⟨jq_734, jq_735, jq_55, jq_736, ⟨by decide +kernel, by decide +kernel, by decide +kernel⟩⟩
theorem jm_Branchwork_change : jw_mV mi_Branchwork_change 1 := ⟨jq_743, jq_744, jq_55, jq_745, ⟨by decide +kernel, by decide +kernel, by decide +kernel⟩⟩
theorem jm_Branchwork_requireCleanAndUnmerged : jw_mV mi_Branchwork_requireCleanAndUnmerged 0 := ⟨jq_748, jq_10, jq_55, jq_749, ⟨by decide +kernel, by decide +kernel, by decide +kernel⟩⟩
theorem jm_Branchwork_reset : jw_mV mi_Branchwork_reset 1 := ⟨jq_757, jq_758, jq_55, jq_759, ⟨by decide +kernel, by decide +kernel, by decide +kernel⟩⟩
theorem jm_Conflicts_clear : jw_mV mi_Conflicts_clear 0 := ⟨jq_761, jq_762, jq_60, jq_763, ⟨by decide +kernel, by decide +kernel, by decide +kernel⟩⟩
theorem jm_Branchwork_merge : jw_mV mi_Branchwork_merge 1 := ⟨jq_768, jq_769, jq_55, jq_770, ⟨by decide +kernel, by decide +kernel, by decide +kernel⟩⟩
theorem jm_History_commonAncestor : jw_mV mi_History_commonAncestor 2 := ⟨jq_772, jq_773, jq_58, jq_774, ⟨by decide +kernel, by decide +kernel, by decide +kernel⟩⟩
theorem jm_Merger_mergeTrees : jw_mV mi_Merger_mergeTrees 3 := ⟨jq_777, jq_778, jq_59, jq_779, ⟨by decide +kernel, by decide +kernel, by decide +kernel⟩⟩
theorem jm_Tree_clear : jw_mV mi_Tree_clear 0 := ⟨jq_781, jq_782, jq_56, jq_783, ⟨by decide +kernel, by decide +kernel, by decide +kernel⟩⟩
theorem jm_Renames_trace : jw_mV mi_Renames_trace 2 := ⟨jq_787, jq_788, jq_61, jq_789, ⟨by decide +kernel, by decide +kernel, by decide +kernel⟩⟩
theorem jm_Renames_nearest : jw_mV mi_Renames_nearest 3 := ⟨jq_794, jq_11, jq_61, jq_795, ⟨by decide +kernel, by decide +kernel, by decide +kernel⟩⟩
theorem jm_Match_nearnessOf : jw_mV mi_Match_nearnessOf 2 := ⟨jq_798, jq_799, jq_62, jq_800, ⟨by decide +kernel, by decide +kernel, by decide +kernel⟩⟩
theorem jm_Match_measure : jw_mV mi_Match_measure 2 := ⟨jq_804, jq_12, jq_62, jq_805, ⟨by decide +kernel, by decide +kernel, by decide +kernel⟩⟩
theorem jm_Math_max : jw_mS mi_Math_max 2 := ⟨jq_809, jq_71, jq_810, ⟨by decide +kernel, by decide +kernel, by decide +kernel⟩⟩
theorem jm_Merger_mergeFile : jw_mV mi_Merger_mergeFile 4 := ⟨jq_814, jq_13, jq_59, jq_815, ⟨by decide +kernel, by decide +kernel, by decide +kernel⟩⟩
theorem jm_Renames_fateOf : jw_mV mi_Renames_fateOf 1 := ⟨jq_817, jq_818, jq_61, jq_819, ⟨by decide +kernel, by decide +kernel, by decide +kernel⟩⟩
theorem jm_Merger_mergeLeftOut : jw_mV mi_Merger_mergeLeftOut 4 := ⟨jq_822, jq_14, jq_59, jq_823, ⟨by decide +kernel, by decide +kernel, by decide +kernel⟩⟩
theorem jm_Merger_bring : jw_mV mi_Merger_bring 2 := ⟨jq_828, jq_15, jq_59, jq_829, ⟨by decide +kernel, by decide +kernel, by decide +kernel⟩⟩
theorem jm_Conflicts_tell : jw_mV mi_Conflicts_tell 2 := ⟨jq_831, jq_832, jq_60, jq_833, ⟨by decide +kernel, by decide +kernel, by decide +kernel⟩⟩
theorem jm_Blender_blendInto : jw_mV mi_Blender_blendInto 4 := ⟨jq_836, jq_837, jq_63, jq_838, ⟨by decide +kernel, by decide +kernel, by decide +kernel⟩⟩
theorem jm_Match_pairUp : jw_mV mi_Match_pairUp 2 := ⟨jq_840, jq_841, jq_62, jq_842, ⟨by decide +kernel, by decide +kernel, by decide +kernel⟩⟩
theorem jm_Content_becomeEmpty : jw_mV mi_Content_becomeEmpty 0 := ⟨jq_844, jq_845, jq_57, jq_846, ⟨by decide +kernel, by decide +kernel, by decide +kernel⟩⟩
theorem jm_Match_partnerInB : jw_mV mi_Match_partnerInB 1 := ⟨jq_849, jq_850, jq_62, jq_851, ⟨by decide +kernel, by decide +kernel, by decide +kernel⟩⟩
theorem jm_Content_becomePart : jw_mV mi_Content_becomePart 3 := ⟨jq_853, jq_854, jq_57, jq_855, ⟨by decide +kernel, by decide +kernel, by decide +kernel⟩⟩
theorem jm_Content_append : jw_mV mi_Content_append 1 := ⟨jq_858, jq_859, jq_57, jq_860, ⟨by decide +kernel, by decide +kernel, by decide +kernel⟩⟩
theorem jm_Blender_blendParts : jw_mV mi_Blender_blendParts 1 := ⟨jq_863, jq_16, jq_63, jq_864, ⟨by decide +kernel, by decide +kernel, by decide +kernel⟩⟩
theorem jm_Content_appendAll : jw_mV mi_Content_appendAll 1 := ⟨jq_867, jq_868, jq_57, jq_869, ⟨by decide +kernel, by decide +kernel, by decide +kernel⟩⟩
theorem jm_Merger_isNew : jw_mS mi_Merger_isNew 4 := ⟨jq_873, jq_59, jq_874, ⟨by decide +kernel, by decide +kernel, by decide +kernel⟩⟩
theorem jm_Renames_sourceOf : jw_mV mi_Renames_sourceOf 1 := ⟨jq_876, jq_877, jq_61, jq_878, ⟨by decide +kernel, by decide +kernel, by decide +kernel⟩⟩
theorem jm_Merger_joinNew : jw_mV mi_Merger_joinNew 3 := ⟨jq_881, jq_17, jq_59, jq_882, ⟨by decide +kernel, by decide +kernel, by decide +kernel⟩⟩
theorem jm_Merger_result : jw_mV mi_Merger_result 0 := ⟨jq_884, jq_885, jq_59, jq_886, ⟨by decide +kernel, by decide +kernel, by decide +kernel⟩⟩
theorem jm_Merger_told : jw_mV mi_Merger_told 0 := ⟨jq_888, jq_889, jq_59, jq_890, ⟨by decide +kernel, by decide +kernel, by decide +kernel⟩⟩
theorem jm_Conflicts_copyFrom : jw_mV mi_Conflicts_copyFrom 1 := ⟨jq_892, jq_893, jq_60, jq_894, ⟨by decide +kernel, by decide +kernel, by decide +kernel⟩⟩
theorem jm_Branchwork_settle : jw_mV mi_Branchwork_settle 1 := ⟨jq_904, jq_905, jq_55, jq_906, ⟨by decide +kernel, by decide +kernel, by decide +kernel⟩⟩
theorem jm_Branchwork_requireConflict : jw_mV mi_Branchwork_requireConflict 1 := ⟨jq_909, jq_18, jq_55, jq_910, ⟨by decide +kernel, by decide +kernel, by decide +kernel⟩⟩
theorem jm_Conflicts_drop : jw_mV mi_Conflicts_drop 1 := ⟨jq_914, jq_915, jq_60, jq_916, ⟨by decide +kernel, by decide +kernel, by decide +kernel⟩⟩
theorem jm_Branchwork_line : jw_mV mi_Branchwork_line 3 := ⟨jq_937, jq_938, jq_55, jq_939, ⟨by decide +kernel, by decide +kernel, by decide +kernel⟩⟩
theorem jm_Branchwork_fileToShow : jw_mV mi_Branchwork_fileToShow 2 := ⟨jq_942, jq_19, jq_55, jq_943, ⟨by decide +kernel, by decide +kernel, by decide +kernel⟩⟩
theorem jm_Branchwork_size : jw_mV mi_Branchwork_size 2 := ⟨jq_948, jq_949, jq_55, jq_950, ⟨by decide +kernel, by decide +kernel, by decide +kernel⟩⟩
theorem jm_Branchwork_conflict : jw_mV mi_Branchwork_conflict 2 := ⟨jq_955, jq_956, jq_55, jq_957, ⟨by decide +kernel, by decide +kernel, by decide +kernel⟩⟩
theorem jm_Branchwork_base : jw_mV mi_Branchwork_base 2 := ⟨jq_963, jq_964, jq_55, jq_965, ⟨by decide +kernel, by decide +kernel, by decide +kernel⟩⟩
theorem jm_Branchwork_went : jw_mV mi_Branchwork_went 3 := ⟨jq_970, jq_971, jq_55, jq_972, ⟨by decide +kernel, by decide +kernel, by decide +kernel⟩⟩
theorem jm_Branchwork_changes : jw_mV mi_Branchwork_changes 3 := ⟨jq_979, jq_980, jq_55, jq_981, ⟨by decide +kernel, by decide +kernel, by decide +kernel⟩⟩
theorem jm_Branchwork_kindOfChange : jw_mV mi_Branchwork_kindOfChange 3 := ⟨jq_985, jq_20, jq_55, jq_986, ⟨by decide +kernel, by decide +kernel, by decide +kernel⟩⟩
theorem jm_Renames_howMany : jw_mV mi_Renames_howMany 0 := ⟨jq_989, jq_990, jq_61, jq_991, ⟨by decide +kernel, by decide +kernel, by decide +kernel⟩⟩
theorem jm_Branchwork_nearness : jw_mV mi_Branchwork_nearness 4 := ⟨jq_996, jq_997, jq_55, jq_998, ⟨by decide +kernel, by decide +kernel, by decide +kernel⟩⟩
theorem jm_Branchwork_origin : jw_mV mi_Branchwork_origin 3 := ⟨jq_1004, jq_1005, jq_55, jq_1006, ⟨by decide +kernel, by decide +kernel, by decide +kernel⟩⟩
theorem jm_Branchwork_spotInParent : jw_mV mi_Branchwork_spotInParent 3 := ⟨jq_1009, jq_21, jq_55, jq_1010, ⟨by decide +kernel, by decide +kernel, by decide +kernel⟩⟩
theorem jm_Match_partnerInA : jw_mV mi_Match_partnerInA 1 := ⟨jq_1013, jq_1014, jq_62, jq_1015, ⟨by decide +kernel, by decide +kernel, by decide +kernel⟩⟩
theorem jm_Branchwork_conflictsOf : jw_mV mi_Branchwork_conflictsOf 2 := ⟨jq_1020, jq_1021, jq_55, jq_1022, ⟨by decide +kernel, by decide +kernel, by decide +kernel⟩⟩
theorem jm_BranchworkModel_init : jw_mI mi_BranchworkModel_init 0 := ⟨jq_1026, jq_65, jq_1027, rfl, rfl, ⟨by decide +kernel, by decide +kernel, by decide +kernel⟩⟩
theorem jm_ArrayList_init : jw_mI mi_ArrayList_init 0 := ⟨jq_1032, jq_68, jq_1033, rfl, rfl, ⟨by decide +kernel, by decide +kernel, by decide +kernel⟩⟩
theorem jm_AbstractList_init : jw_mI mi_AbstractList_init 0 := ⟨jq_1035, jq_67, jq_1036, rfl, rfl, ⟨by decide +kernel, by decide +kernel, by decide +kernel⟩⟩
theorem jm_AbstractCollection_init : jw_mI mi_AbstractCollection_init 0 := ⟨jq_1038, jq_66, jq_1039, rfl, rfl, ⟨by decide +kernel, by decide +kernel, by decide +kernel⟩⟩
theorem jm_MTree_init : jw_mI mi_MTree_init 0 := ⟨jq_1058, jq_69, jq_1059, rfl, rfl, ⟨by decide +kernel, by decide +kernel, by decide +kernel⟩⟩
theorem jm_ArrayList_add0 : jw_mV mi_ArrayList_add0 1 := ⟨jq_1070, jq_1071, jq_68, jq_1072, ⟨by decide +kernel, by decide +kernel, by decide +kernel⟩⟩
theorem jm_ArrayList_add1 : jw_mV mi_ArrayList_add1 3 := ⟨jq_1075, jq_22, jq_68, jq_1076, ⟨by decide +kernel, by decide +kernel, by decide +kernel⟩⟩
theorem jm_ArrayList_grow0 : jw_mV mi_ArrayList_grow0 0 := ⟨jq_1079, jq_23, jq_68, jq_1080, ⟨by decide +kernel, by decide +kernel, by decide +kernel⟩⟩
theorem jm_ArrayList_grow1 : jw_mV mi_ArrayList_grow1 1 := ⟨jq_1083, jq_24, jq_68, jq_1084, ⟨by decide +kernel, by decide +kernel, by decide +kernel⟩⟩
theorem jm_ArraysSupport_newLength : jw_mS mi_ArraysSupport_newLength 3 := ⟨jq_1086, jq_70, jq_1087, ⟨by decide +kernel, by decide +kernel, by decide +kernel⟩⟩
theorem jm_ArraysSupport_hugeLength : jw_mS mi_ArraysSupport_hugeLength 2 := ⟨jq_1091, jq_70, jq_1092, ⟨by decide +kernel, by decide +kernel, by decide +kernel⟩⟩
theorem jm_Arrays_copyOf0 : jw_mS mi_Arrays_copyOf0 2 := ⟨jq_1094, jq_64, jq_1095, ⟨by decide +kernel, by decide +kernel, by decide +kernel⟩⟩
theorem jm_Arrays_copyOf1 : jw_mS mi_Arrays_copyOf1 3 := ⟨jq_1119, jq_64, jq_1120, ⟨by decide +kernel, by decide +kernel, by decide +kernel⟩⟩
theorem jm_BranchworkModel_thrown : jw_mV mi_BranchworkModel_thrown 0 := ⟨jq_1153, jq_1154, jq_65, jq_1155, ⟨by decide +kernel, by decide +kernel, by decide +kernel⟩⟩
theorem jm_BranchworkModel_put : jw_mV mi_BranchworkModel_put 3 := ⟨jq_1157, jq_1158, jq_65, jq_1159, ⟨by decide +kernel, by decide +kernel, by decide +kernel⟩⟩
theorem jm_BranchworkModel_isNoPath : jw_mS mi_BranchworkModel_isNoPath 1 := ⟨jq_1161, jq_65, jq_1162, ⟨by decide +kernel, by decide +kernel, by decide +kernel⟩⟩
theorem jm_BranchworkModel_isIn : jw_mS mi_BranchworkModel_isIn 3 := ⟨jq_1164, jq_65, jq_1165, ⟨by decide +kernel, by decide +kernel, by decide +kernel⟩⟩
theorem jm_BranchworkModel_start : jw_mV mi_BranchworkModel_start 2 := ⟨jq_1168, jq_25, jq_65, jq_1169, ⟨by decide +kernel, by decide +kernel, by decide +kernel⟩⟩
theorem jm_BranchworkModel_refuse : jw_mV mi_BranchworkModel_refuse 2 := ⟨jq_1172, jq_26, jq_65, jq_1173, ⟨by decide +kernel, by decide +kernel, by decide +kernel⟩⟩
theorem jm_MTree_has : jw_mV mi_MTree_has 1 := ⟨jq_1175, jq_1176, jq_69, jq_1177, ⟨by decide +kernel, by decide +kernel, by decide +kernel⟩⟩
theorem jm_BranchworkModel_cut1 : jw_mS mi_BranchworkModel_cut1 3 := ⟨jq_1179, jq_65, jq_1180, ⟨by decide +kernel, by decide +kernel, by decide +kernel⟩⟩
theorem jm_BranchworkModel_joined : jw_mS mi_BranchworkModel_joined 2 := ⟨jq_1183, jq_65, jq_1184, ⟨by decide +kernel, by decide +kernel, by decide +kernel⟩⟩
theorem jm_BranchworkModel_write : jw_mV mi_BranchworkModel_write 2 := ⟨jq_1187, jq_27, jq_65, jq_1188, ⟨by decide +kernel, by decide +kernel, by decide +kernel⟩⟩
theorem jm_MTree_copy : jw_mV mi_MTree_copy 0 := ⟨jq_1190, jq_1191, jq_69, jq_1192, ⟨by decide +kernel, by decide +kernel, by decide +kernel⟩⟩
theorem jm_BranchworkModel_cut0 : jw_mV mi_BranchworkModel_cut0 2 := ⟨jq_1197, jq_1198, jq_65, jq_1199, ⟨by decide +kernel, by decide +kernel, by decide +kernel⟩⟩
theorem jm_BranchworkModel_isNoFile : jw_mV mi_BranchworkModel_isNoFile 1 := ⟨jq_1202, jq_28, jq_65, jq_1203, ⟨by decide +kernel, by decide +kernel, by decide +kernel⟩⟩
theorem jm_BranchworkModel_rename : jw_mV mi_BranchworkModel_rename 2 := ⟨jq_1205, jq_1206, jq_65, jq_1207, ⟨by decide +kernel, by decide +kernel, by decide +kernel⟩⟩
theorem jm_BranchworkModel_remove : jw_mV mi_BranchworkModel_remove 1 := ⟨jq_1209, jq_1210, jq_65, jq_1211, ⟨by decide +kernel, by decide +kernel, by decide +kernel⟩⟩
theorem jm_MTree_size : jw_mV mi_MTree_size 0 := ⟨jq_1213, jq_1214, jq_69, jq_1215, ⟨by decide +kernel, by decide +kernel, by decide +kernel⟩⟩
theorem jm_BranchworkModel_status : jw_mV mi_BranchworkModel_status 1 := ⟨jq_1218, jq_1219, jq_65, jq_1220, ⟨by decide +kernel, by decide +kernel, by decide +kernel⟩⟩
theorem jm_BranchworkModel_statusOf : jw_mV mi_BranchworkModel_statusOf 1 := ⟨jq_1223, jq_29, jq_65, jq_1224, ⟨by decide +kernel, by decide +kernel, by decide +kernel⟩⟩
theorem jm_BranchworkModel_headTree : jw_mV mi_BranchworkModel_headTree 0 := ⟨jq_1227, jq_30, jq_65, jq_1228, ⟨by decide +kernel, by decide +kernel, by decide +kernel⟩⟩
theorem jm_BranchworkModel_head : jw_mV mi_BranchworkModel_head 0 := ⟨jq_1231, jq_31, jq_65, jq_1232, ⟨by decide +kernel, by decide +kernel, by decide +kernel⟩⟩
theorem jm_ArrayList_get : jw_mV mi_ArrayList_get 1 := ⟨jq_1234, jq_1235, jq_68, jq_1236, ⟨by decide +kernel, by decide +kernel, by decide +kernel⟩⟩
theorem jm_Objects_checkIndex : jw_mS mi_Objects_checkIndex 2 := ⟨jq_1238, jq_79, jq_1239, ⟨by decide +kernel, by decide +kernel, by decide +kernel⟩⟩
theorem jm_Preconditions_checkIndex : jw_mS mi_Preconditions_checkIndex 3 := ⟨jq_1241, jq_80, jq_1242, ⟨by decide +kernel, by decide +kernel, by decide +kernel⟩⟩
theorem jm_ArrayList_elementData : jw_mV mi_ArrayList_elementData 1 := ⟨jq_1244, jq_1245, jq_68, jq_1246, ⟨by decide +kernel, by decide +kernel, by decide +kernel⟩⟩
theorem jm_BranchworkModel_areSame : jw_mS mi_BranchworkModel_areSame 2 := ⟨jq_1249, jq_65, jq_1250, ⟨by decide +kernel, by decide +kernel, by decide +kernel⟩⟩
theorem jm_BranchworkModel_commit : jw_mV mi_BranchworkModel_commit 1 := ⟨jq_1252, jq_1253, jq_65, jq_1254, ⟨by decide +kernel, by decide +kernel, by decide +kernel⟩⟩
theorem jm_ArrayList_size : jw_mV mi_ArrayList_size 0 := ⟨jq_1256, jq_1257, jq_68, jq_1258, ⟨by decide +kernel, by decide +kernel, by decide +kernel⟩⟩
theorem jm_ArrayList_isEmpty : jw_mV mi_ArrayList_isEmpty 0 := ⟨jq_1260, jq_1261, jq_68, jq_1262, ⟨by decide +kernel, by decide +kernel, by decide +kernel⟩⟩
theorem jm_BranchworkModel_isClean : jw_mV mi_BranchworkModel_isClean 0 := ⟨jq_1265, jq_32, jq_65, jq_1266, ⟨by decide +kernel, by decide +kernel, by decide +kernel⟩⟩
theorem jm_MTree_isAs : jw_mV mi_MTree_isAs 1 := ⟨jq_1268, jq_1269, jq_69, jq_1270, ⟨by decide +kernel, by decide +kernel, by decide +kernel⟩⟩
theorem jm_MCommit_init : jw_mI mi_MCommit_init 5 := ⟨jq_1274, jq_81, jq_1275, rfl, rfl, ⟨by decide +kernel, by decide +kernel, by decide +kernel⟩⟩
theorem jm_ArrayList_set : jw_mV mi_ArrayList_set 2 := ⟨jq_1302, jq_1303, jq_68, jq_1304, ⟨by decide +kernel, by decide +kernel, by decide +kernel⟩⟩
theorem jm_BranchworkModel_branch : jw_mV mi_BranchworkModel_branch 0 := ⟨jq_1306, jq_1307, jq_65, jq_1308, ⟨by decide +kernel, by decide +kernel, by decide +kernel⟩⟩
theorem jm_BranchworkModel_change : jw_mV mi_BranchworkModel_change 1 := ⟨jq_1310, jq_1311, jq_65, jq_1312, ⟨by decide +kernel, by decide +kernel, by decide +kernel⟩⟩
theorem jm_BranchworkModel_isNoBranch : jw_mV mi_BranchworkModel_isNoBranch 1 := ⟨jq_1315, jq_33, jq_65, jq_1316, ⟨by decide +kernel, by decide +kernel, by decide +kernel⟩⟩
theorem jm_BranchworkModel_reset : jw_mV mi_BranchworkModel_reset 1 := ⟨jq_1318, jq_1319, jq_65, jq_1320, ⟨by decide +kernel, by decide +kernel, by decide +kernel⟩⟩
theorem jm_BranchworkModel_isNoCommit : jw_mV mi_BranchworkModel_isNoCommit 1 := ⟨jq_1323, jq_34, jq_65, jq_1324, ⟨by decide +kernel, by decide +kernel, by decide +kernel⟩⟩
theorem jm_BranchworkModel_set : jw_mV mi_BranchworkModel_set 1 := ⟨jq_1327, jq_35, jq_65, jq_1328, ⟨by decide +kernel, by decide +kernel, by decide +kernel⟩⟩
theorem jm_ArrayList_clear : jw_mV mi_ArrayList_clear 0 := ⟨jq_1330, jq_1331, jq_68, jq_1332, ⟨by decide +kernel, by decide +kernel, by decide +kernel⟩⟩
theorem jm_BranchworkModel_merge : jw_mV mi_BranchworkModel_merge 1 := ⟨jq_1334, jq_1335, jq_65, jq_1336, ⟨by decide +kernel, by decide +kernel, by decide +kernel⟩⟩
theorem jm_MCommit_comesOf : jw_mV mi_MCommit_comesOf 1 := ⟨jq_1338, jq_1339, jq_81, jq_1340, ⟨by decide +kernel, by decide +kernel, by decide +kernel⟩⟩
theorem jm_MCommit_ancestors : jw_mV mi_MCommit_ancestors 0 := ⟨jq_1342, jq_1343, jq_81, jq_1344, ⟨by decide +kernel, by decide +kernel, by decide +kernel⟩⟩
theorem jm_MCommit_reach : jw_mV mi_MCommit_reach 1 := ⟨jq_1346, jq_1347, jq_81, jq_1348, ⟨by decide +kernel, by decide +kernel, by decide +kernel⟩⟩
theorem jm_BranchworkModel_baseTree : jw_mV mi_BranchworkModel_baseTree 2 := ⟨jq_1353, jq_36, jq_65, jq_1354, ⟨by decide +kernel, by decide +kernel, by decide +kernel⟩⟩
theorem jm_BranchworkModel_baseOf : jw_mV mi_BranchworkModel_baseOf 2 := ⟨jq_1357, jq_37, jq_65, jq_1358, ⟨by decide +kernel, by decide +kernel, by decide +kernel⟩⟩
theorem jm_MMerge_init : jw_mI mi_MMerge_init 3 := ⟨jq_1361, jq_82, jq_1362, rfl, rfl, ⟨by decide +kernel, by decide +kernel, by decide +kernel⟩⟩
theorem jm_MTree_went : jw_mV mi_MTree_went 2 := ⟨jq_1370, jq_1371, jq_69, jq_1372, ⟨by decide +kernel, by decide +kernel, by decide +kernel⟩⟩
theorem jm_MTree_renames : jw_mV mi_MTree_renames 1 := ⟨jq_1374, jq_1375, jq_69, jq_1376, ⟨by decide +kernel, by decide +kernel, by decide +kernel⟩⟩
theorem jm_BranchworkModel_nearness1 : jw_mS mi_BranchworkModel_nearness1 2 := ⟨jq_1378, jq_65, jq_1379, ⟨by decide +kernel, by decide +kernel, by decide +kernel⟩⟩
theorem jm_BranchworkModel_match : jw_mS mi_BranchworkModel_match 2 := ⟨jq_1381, jq_65, jq_1382, ⟨by decide +kernel, by decide +kernel, by decide +kernel⟩⟩
theorem jm_MMerge_file : jw_mV mi_MMerge_file 6 := ⟨jq_1387, jq_38, jq_82, jq_1388, ⟨by decide +kernel, by decide +kernel, by decide +kernel⟩⟩
theorem jm_MMerge_come : jw_mV mi_MMerge_come 2 := ⟨jq_1392, jq_39, jq_82, jq_1393, ⟨by decide +kernel, by decide +kernel, by decide +kernel⟩⟩
theorem jm_MMerge_tell : jw_mV mi_MMerge_tell 2 := ⟨jq_1396, jq_40, jq_82, jq_1397, ⟨by decide +kernel, by decide +kernel, by decide +kernel⟩⟩
theorem jm_MBlend_init : jw_mI mi_MBlend_init 3 := ⟨jq_1402, jq_83, jq_1403, rfl, rfl, ⟨by decide +kernel, by decide +kernel, by decide +kernel⟩⟩
theorem jm_MBlend_part : jw_mV mi_MBlend_part 3 := ⟨jq_1409, jq_41, jq_83, jq_1410, ⟨by decide +kernel, by decide +kernel, by decide +kernel⟩⟩
theorem jm_MTree_isNew : jw_mV mi_MTree_isNew 2 := ⟨jq_1424, jq_42, jq_69, jq_1425, ⟨by decide +kernel, by decide +kernel, by decide +kernel⟩⟩
theorem jm_ArrayList_addAll : jw_mV mi_ArrayList_addAll 1 := ⟨jq_1436, jq_1437, jq_68, jq_1438, ⟨by decide +kernel, by decide +kernel, by decide +kernel⟩⟩
theorem jm_BranchworkModel_settle : jw_mV mi_BranchworkModel_settle 1 := ⟨jq_1451, jq_1452, jq_65, jq_1453, ⟨by decide +kernel, by decide +kernel, by decide +kernel⟩⟩
theorem jm_ArrayList_remove : jw_mV mi_ArrayList_remove 1 := ⟨jq_1455, jq_1456, jq_68, jq_1457, ⟨by decide +kernel, by decide +kernel, by decide +kernel⟩⟩
theorem jm_ArrayList_fastRemove : jw_mV mi_ArrayList_fastRemove 2 := ⟨jq_1460, jq_43, jq_68, jq_1461, ⟨by decide +kernel, by decide +kernel, by decide +kernel⟩⟩
theorem jm_BranchworkModel_collect : jw_mV mi_BranchworkModel_collect 0 := ⟨jq_1463, jq_1464, jq_65, jq_1465, ⟨by decide +kernel, by decide +kernel, by decide +kernel⟩⟩
theorem jm_BranchworkModel_garbageNow : jw_mV mi_BranchworkModel_garbageNow 0 := ⟨jq_1468, jq_44, jq_65, jq_1469, ⟨by decide +kernel, by decide +kernel, by decide +kernel⟩⟩
theorem jm_BranchworkModel_objects : jw_mV mi_BranchworkModel_objects 1 := ⟨jq_1472, jq_45, jq_65, jq_1473, ⟨by decide +kernel, by decide +kernel, by decide +kernel⟩⟩
theorem jm_BranchworkModel_trees : jw_mV mi_BranchworkModel_trees 1 := ⟨jq_1476, jq_46, jq_65, jq_1477, ⟨by decide +kernel, by decide +kernel, by decide +kernel⟩⟩
theorem jm_BranchworkModel_reached : jw_mV mi_BranchworkModel_reached 0 := ⟨jq_1480, jq_47, jq_65, jq_1481, ⟨by decide +kernel, by decide +kernel, by decide +kernel⟩⟩
theorem jm_BranchworkModel_commitsNow : jw_mV mi_BranchworkModel_commitsNow 1 := ⟨jq_1485, jq_48, jq_65, jq_1486, ⟨by decide +kernel, by decide +kernel, by decide +kernel⟩⟩
theorem jm_BranchworkModel_contents : jw_mS mi_BranchworkModel_contents 1 := ⟨jq_1488, jq_65, jq_1489, ⟨by decide +kernel, by decide +kernel, by decide +kernel⟩⟩
theorem jm_BranchworkModel_many : jw_mV mi_BranchworkModel_many 1 := ⟨jq_1492, jq_1493, jq_65, jq_1494, ⟨by decide +kernel, by decide +kernel, by decide +kernel⟩⟩
theorem jm_BranchworkModel_count : jw_mV mi_BranchworkModel_count 1 := ⟨jq_1497, jq_49, jq_65, jq_1498, ⟨by decide +kernel, by decide +kernel, by decide +kernel⟩⟩
theorem jm_BranchworkModel_now : jw_mV mi_BranchworkModel_now 1 := ⟨jq_1500, jq_1501, jq_65, jq_1502, ⟨by decide +kernel, by decide +kernel, by decide +kernel⟩⟩
theorem jm_BranchworkModel_nowOf : jw_mV mi_BranchworkModel_nowOf 1 := ⟨jq_1505, jq_50, jq_65, jq_1506, ⟨by decide +kernel, by decide +kernel, by decide +kernel⟩⟩
theorem jm_BranchworkModel_number : jw_mS mi_BranchworkModel_number 1 := ⟨jq_1508, jq_65, jq_1509, ⟨by decide +kernel, by decide +kernel, by decide +kernel⟩⟩
theorem jm_BranchworkModel_at : jw_mV mi_BranchworkModel_at 1 := ⟨jq_1511, jq_1512, jq_65, jq_1513, ⟨by decide +kernel, by decide +kernel, by decide +kernel⟩⟩
theorem jm_BranchworkModel_ofCommit : jw_mV mi_BranchworkModel_ofCommit 2 := ⟨jq_1515, jq_1516, jq_65, jq_1517, ⟨by decide +kernel, by decide +kernel, by decide +kernel⟩⟩
theorem jm_BranchworkModel_of : jw_mV mi_BranchworkModel_of 2 := ⟨jq_1520, jq_51, jq_65, jq_1521, ⟨by decide +kernel, by decide +kernel, by decide +kernel⟩⟩
theorem jm_BranchworkModel_line : jw_mV mi_BranchworkModel_line 3 := ⟨jq_1523, jq_1524, jq_65, jq_1525, ⟨by decide +kernel, by decide +kernel, by decide +kernel⟩⟩
theorem jm_BranchworkModel_isNoTree : jw_mV mi_BranchworkModel_isNoTree 2 := ⟨jq_1528, jq_52, jq_65, jq_1529, ⟨by decide +kernel, by decide +kernel, by decide +kernel⟩⟩
theorem jm_BranchworkModel_tree : jw_mV mi_BranchworkModel_tree 1 := ⟨jq_1532, jq_53, jq_65, jq_1533, ⟨by decide +kernel, by decide +kernel, by decide +kernel⟩⟩
theorem jm_BranchworkModel_size : jw_mV mi_BranchworkModel_size 2 := ⟨jq_1535, jq_1536, jq_65, jq_1537, ⟨by decide +kernel, by decide +kernel, by decide +kernel⟩⟩
theorem jm_BranchworkModel_conflict : jw_mV mi_BranchworkModel_conflict 2 := ⟨jq_1539, jq_1540, jq_65, jq_1541, ⟨by decide +kernel, by decide +kernel, by decide +kernel⟩⟩
theorem jm_BranchworkModel_base : jw_mV mi_BranchworkModel_base 2 := ⟨jq_1543, jq_1544, jq_65, jq_1545, ⟨by decide +kernel, by decide +kernel, by decide +kernel⟩⟩
theorem jm_BranchworkModel_went : jw_mV mi_BranchworkModel_went 3 := ⟨jq_1547, jq_1548, jq_65, jq_1549, ⟨by decide +kernel, by decide +kernel, by decide +kernel⟩⟩
theorem jm_BranchworkModel_changes : jw_mV mi_BranchworkModel_changes 3 := ⟨jq_1552, jq_1553, jq_65, jq_1554, ⟨by decide +kernel, by decide +kernel, by decide +kernel⟩⟩
theorem jm_BranchworkModel_nearness0 : jw_mV mi_BranchworkModel_nearness0 4 := ⟨jq_1558, jq_1559, jq_65, jq_1560, ⟨by decide +kernel, by decide +kernel, by decide +kernel⟩⟩
theorem jm_BranchworkModel_origin : jw_mV mi_BranchworkModel_origin 3 := ⟨jq_1563, jq_1564, jq_65, jq_1565, ⟨by decide +kernel, by decide +kernel, by decide +kernel⟩⟩
theorem jm_BranchworkModel_originOf : jw_mS mi_BranchworkModel_originOf 3 := ⟨jq_1567, jq_65, jq_1568, ⟨by decide +kernel, by decide +kernel, by decide +kernel⟩⟩
theorem jm_BranchworkModel_cameFrom : jw_mS mi_BranchworkModel_cameFrom 3 := ⟨jq_1571, jq_65, jq_1572, ⟨by decide +kernel, by decide +kernel, by decide +kernel⟩⟩
theorem jm_BranchworkModel_pairOf : jw_mS mi_BranchworkModel_pairOf 5 := ⟨jq_1574, jq_65, jq_1575, ⟨by decide +kernel, by decide +kernel, by decide +kernel⟩⟩
theorem jm_BranchworkModel_conflictsOf : jw_mV mi_BranchworkModel_conflictsOf 2 := ⟨jq_1577, jq_1578, jq_65, jq_1579, ⟨by decide +kernel, by decide +kernel, by decide +kernel⟩⟩
theorem jm_BranchworkModel_garbage : jw_mV mi_BranchworkModel_garbage 0 := ⟨jq_1581, jq_1582, jq_65, jq_1583, ⟨by decide +kernel, by decide +kernel, by decide +kernel⟩⟩
theorem jm_BranchworkModel_meanLines : jw_mV mi_BranchworkModel_meanLines 0 := ⟨jq_1585, jq_1586, jq_65, jq_1587, ⟨by decide +kernel, by decide +kernel, by decide +kernel⟩⟩
theorem jm_BranchworkModel_digest : jw_mV mi_BranchworkModel_digest 0 := ⟨jq_1589, jq_1590, jq_65, jq_1591, ⟨by decide +kernel, by decide +kernel, by decide +kernel⟩⟩
theorem jm_BranchworkModel_add : jw_mS mi_BranchworkModel_add 2 := ⟨jq_1594, jq_65, jq_1595, ⟨by decide +kernel, by decide +kernel, by decide +kernel⟩⟩
theorem jm_BranchworkModel_digestTree : jw_mS mi_BranchworkModel_digestTree 2 := ⟨jq_1598, jq_65, jq_1599, ⟨by decide +kernel, by decide +kernel, by decide +kernel⟩⟩
/-! methods that throw, and who catches (only for launches without stack traces) -/
def jw_up : List String := ["java/lang/RuntimeException", "java/lang/Exception"]
def jw_thr (own : String) (ik ic : Nat) (cls : String) : Prop := Bundle.fit cls = true ∧ Cond.classLink own ik cls ∈ jw_T ∧ Cond.initialized cls ∈ jw_T ∧ (∀ w ∈ (vx_atS own ic cls jw_up).filter goodWord, w ∈ jw_T) ∧ (∀ w ∈ (vx_atS own ic cls jw_up).filter (fun w => !goodWord w), w ∈ jw_soft) ∧ (∀ w ∈ Cond.classLink own ik cls :: Cond.initialized cls :: vx_atS own ic cls jw_up, vx_ot w = true)
def jw_XC (o : jw_O) (Ψ : String → jw_Mem → Nat → Prop) : String → State → State → Prop := fun E st t => (∃ μ' : jw_Mem, jw_H o μ' t.heap ∧ Ψ E μ' t.heap.size) ∧ va_F (fun q => o.2.2.2.1 ≤ q) st t
/-- a contract of a method that returns (Φ) or throws (Ψ) -/
def jw_SpX (mi : jw_M) (d mc ms : Nat) (o : jw_O) (As : List Value) (μ : jw_Mem) (hs : Nat) (Φ : Option Value → jw_Mem → Nat → Prop) (Ψ : String → jw_Mem → Nat → Prop) : Prop :=
  vx_Met o.1 mi.1 (jw_ws mi) (jw_rm d mc ms) (va_Pc As (jw_B o μ hs)) (jw_Q o Φ) (jw_XC o Ψ) mc ms (fun q => o.2.2.2.1 ≤ q)
def jw_EX (o : jw_O) (k : jw_K) (mc ms : Nat) (Φ : Option Value → jw_Mem → Nat → Prop) (Ψ : String → jw_Mem → Nat → Prop) : Prop := k.2.2.2.2.2.2.2.2.2 = vx_MQ k.2.2.2.2.2.2.1 (jw_Q o Φ) (jw_XC o Ψ) k.2.2.2.2.2.1 k.2.2.2.1 mc ms (fun q => o.2.2.2.1 ≤ q) ∧ ∀ x ∈ k.2.2.2.2.2.2.2.2.1.exceptionTable.toList, False
/-- here q, of class E, has been thrown -/
def jw_V (mi : jw_M) (o : jw_O) (k : jw_K) (kc ks pc : Nat) (lc : List (Nat × Value)) (μ : jw_Mem) (hs : Nat) (E : String) (q : Addr) : Prop :=
  jw_Cx mi o k → ∀ (H : Heap) (locs : List Loc) (ls : Array Slot) (rest : List Value), H.size = hs → jw_H o μ H → va_S (fun q => o.2.2.2.1 ≤ q) k.2.2.2.1.heap H locs → lv_has ls mi.2.2.1 lc → (∃ ce : Cell, H[q]? = some ce ∧ ce.vm = .none ∧ k.2.2.2.1.vm.findClass E = some ce.cls) →
    vx_W k.1 o.1 k.2.1 k.2.2.1 k.2.2.2.1 k.2.2.2.2.1 k.2.2.2.2.2.1 k.2.2.2.2.2.2.1 k.2.2.2.2.2.2.2.1 k.2.2.2.2.2.2.2.2.1 H locs kc ks k.2.2.2.2.2.2.2.2.2 (F0 k.2.2.2.2.1 pc ls rest) q
section RulesX
variable {mi : jw_M} {o : jw_O} {k : jw_K} {kc ks pc pc' : Nat} {lc lc' : List (Nat × Value)} {st rest : List Value} {μ : jw_Mem} {hs : Nat} {Φ : Option Value → jw_Mem → Nat → Prop} {Ψ : String → jw_Mem → Nat → Prop} {mc ms d : Nat}
theorem jw_EX.E (h : jw_EX o k mc ms Φ Ψ) : jw_E o k mc ms Φ := fun H locs g w => by rw [h.1]; exact vx_ret w
theorem jw_out {E : String} {q : Addr} (hE : jw_EX o k mc ms Φ Ψ) (h1 : kc ≤ mc) (h2 : ks ≤ ms) (h : Ψ E μ hs) : jw_V mi o k kc ks pc lc μ hs E q := by
  intro C0 H locs ls rest e1 e2 e3 e4 he
  obtain ⟨ce, c1, c2, c3⟩ := he
  rw [hE.1]
  exact vx_out (fun x hx => (hE.2 x hx).elim) C0.2.2.2.2.2.2.1 c1 c2 c3 (fun t ht hv => ⟨⟨μ, by rw [ht]; exact e2, by rw [ht, e1]; exact h⟩, e3.F ht⟩) e3.2.2 h1 h2
theorem jw_thrw {own cls : String} {ik ic : Nat} (ht : jw_thr own ik ic cls) (C0 : jw_Cx mi o k) : ∀ w ∈ vx_atS own ic cls jw_up, w.before k.2.2.2.2.2.1 k.2.2.2.1 = true := by
  obtain ⟨-, -, -, t1, t2, -⟩ := ht
  refine vx_hat (B := jw_soft) (fun w hw => C0.ts w (t1 w hw)) t2 (fun w hw => ?_)
  exact va_Nw.use (jw_sk.tab (List.mem_filter.mp hw).2) (C0.xB.2.2.2.2.1 w hw)
theorem jw_throwS {ik is ic : Nat} {cls text : String} (hR : jw_Rm k d mc ms) (hE : jw_EX o k mc ms Φ Ψ) (ht : jw_thr mi.1.cls ik ic cls) (hs1 : (mi.1.cls, is, text) ∈ jw_strs) (d0 : decode mi.2.1 pc = .ok (.new ik, 3)) (d3 : decode mi.2.1 (pc + 3) = .ok (.dup, 1)) (d4 : decode mi.2.1 (pc + 4) = .ok (.ldc is, 2)) (d6 : decode mi.2.1 (pc + 6) = .ok (.invokespecial ic, 3)) (d9 : decode mi.2.1 (pc + 9) = .ok (.athrow, 1)) (hrs : (rest.map fun v => v.category).sum ≤ 8) (hdd : 6 ≤ d) (h1 : kc + 1 ≤ mc) (h2 : ks + 6 ≤ ms) (h : ∀ hs', hs ≤ hs' → Ψ cls μ hs') : jw_X mi o k kc ks pc lc rest μ hs := by
  intro C0 H locs ls e1 e2 e3 e4
  subst e1
  obtain ⟨sa, hsa⟩ := C0.xB.2.2.2.1 _ hs1
  obtain ⟨r1, r2, r3, r4⟩ := hR
  unfold jw_W
  rw [hE.1]
  exact vx_throwS (names := jw_up) C0.1 C0.2.1 C0.xB.1 C0.own ht.1 (by decide +kernel) (C0.ts _ ht.2.1) (C0.ts _ ht.2.2.1) hsa (jw_thrw ht C0) ht.2.2.2.2.2 C0.xB.2.1 C0.xB.2.2.1 e3 (e4.1.trans C0.2.2.2.1.symm) d0 d3 d4 d6 d9 (fun x hx => (hE.2 x hx).elim) (by show 2 + 3 < _; omega) (by show _ + (13 * (2 + 1) + 43) ≤ _; omega) (Nat.le_trans h1 r3) (Nat.le_trans h2 r4) C0.2.2.2.2.2.2.1
    (fun t hv hz hq => ⟨⟨μ, fun a e ha => ⟨(e2 a e ha).1, (e2 a e ha).2.kept (hq a (e2 a e ha).2.lt)⟩, h _ hz⟩, Nat.le_trans e3.1 hz, fun q h1 h2 => (hq q (Nat.lt_of_lt_of_le h1 e3.1)).trans (e3.2.1 q h1 h2)⟩) e3.2.2 h1 h2
theorem jw_throwSW {ik is ic : Nat} {cls text : String} (hR : jw_Rm k d mc ms) (hE : jw_EX o k mc ms Φ Ψ) (ht : jw_thr mi.1.cls ik ic cls) (hs1 : (mi.1.cls, is, text) ∈ jw_strs) (d0 : decode mi.2.1 pc = .ok (.new ik, 3)) (d3 : decode mi.2.1 (pc + 3) = .ok (.dup, 1)) (d4 : decode mi.2.1 (pc + 4) = .ok (.ldc_w is, 3)) (d6 : decode mi.2.1 (pc + 7) = .ok (.invokespecial ic, 3)) (d9 : decode mi.2.1 (pc + 10) = .ok (.athrow, 1)) (hrs : (rest.map fun v => v.category).sum ≤ 8) (hdd : 6 ≤ d) (h1 : kc + 1 ≤ mc) (h2 : ks + 6 ≤ ms) (h : ∀ hs', hs ≤ hs' → Ψ cls μ hs') : jw_X mi o k kc ks pc lc rest μ hs := by
  intro C0 H locs ls e1 e2 e3 e4
  subst e1
  obtain ⟨sa, hsa⟩ := C0.xB.2.2.2.1 _ hs1
  obtain ⟨r1, r2, r3, r4⟩ := hR
  unfold jw_W
  rw [hE.1]
  exact vx_throwSW (names := jw_up) C0.1 C0.2.1 C0.xB.1 C0.own ht.1 (by decide +kernel) (C0.ts _ ht.2.1) (C0.ts _ ht.2.2.1) hsa (jw_thrw ht C0) ht.2.2.2.2.2 C0.xB.2.1 C0.xB.2.2.1 e3 (e4.1.trans C0.2.2.2.1.symm) d0 d3 d4 d6 d9 (fun x hx => (hE.2 x hx).elim) (by show 2 + 3 < _; omega) (by show _ + (13 * (2 + 1) + 43) ≤ _; omega) (Nat.le_trans h1 r3) (Nat.le_trans h2 r4) C0.2.2.2.2.2.2.1
    (fun t hv hz hq => ⟨⟨μ, fun a e ha => ⟨(e2 a e ha).1, (e2 a e ha).2.kept (hq a (e2 a e ha).2.lt)⟩, h _ hz⟩, Nat.le_trans e3.1 hz, fun q h1 h2 => (hq q (Nat.lt_of_lt_of_le h1 e3.1)).trans (e3.2.1 q h1 h2)⟩) e3.2.2 h1 h2
/-- caught here -/
theorem jw_catch {E name : String} {q : Addr} {pre suf : List ExceptionTableEntry} {x : ExceptionTableEntry} (hT : k.2.2.2.2.2.2.2.2.1.exceptionTable.toList = pre ++ x :: suf) (hpass : ∀ z ∈ pre, covers z pc = false ∨ (z.catchType ≠ 0 ∧ ∃ nm : String, Cond.classLink mi.1.cls z.catchType nm ∈ jw_T ∧ (E, nm) ∈ jw_ncast)) (hx : covers x pc = true) (h0 : x.catchType ≠ 0) (hlink : Cond.classLink mi.1.cls x.catchType name ∈ jw_T) (hcast : (E, name) ∈ jw_cast) (hp : x.handlerPc = pc') (kk : jw_X mi o k kc ks pc' lc [.ref q] μ hs) : jw_V mi o k kc ks pc lc μ hs E q := by
  subst hp
  intro C0 H locs ls rest e1 e2 e3 e4 he
  obtain ⟨ce, c1, c2, c3⟩ := he
  exact vx_catch C0.own pre x suf hT (fun z hz => (hpass z hz).imp id (fun ⟨z0, nm, h1, h2⟩ => ⟨z0, nm, C0.ts _ h1, C0.xB.2.2.2.2.2.1 _ h2⟩)) hx h0 (C0.ts _ hlink) (va_Nw.use rfl (C0.xB.2.2.2.2.1 _ (jw_castk _ hcast))) c1 c2 c3 (kk C0 H locs ls e1 e2 e3 e4)
theorem jw_backX {H : Heap} {locs : List Loc} {ls : Array Slot} {mc' ms' : Nat} {a : Array Value} {Φ : Option Value → jw_Mem → Nat → Prop} {Ψ : String → jw_Mem → Nat → Prop}
    (hr : vx_Run k.1 o.1 k.2.1 k.2.2.1 k.2.2.2.1 k.2.2.2.2.1 k.2.2.2.2.2.1 k.2.2.2.2.2.2.1 k.2.2.2.2.2.2.2.1 k.2.2.2.2.2.2.2.2.1 H locs kc ks mc' ms' (F0 k.2.2.2.2.1 pc ls st) rest (jw_Q o Φ a) (jw_XC o Ψ) (fun q => o.2.2.2.1 ≤ q))
    (e3 : va_S (fun q => o.2.2.2.1 ≤ q) k.2.2.2.1.heap H locs)
    (kx : ∀ (E : String) (q : Addr) (μ' : jw_Mem) (H1 : Heap) (locs1 : List Loc), jw_H o μ' H1 → Ψ E μ' H1.size → H.size ≤ H1.size → va_S (fun q => o.2.2.2.1 ≤ q) k.2.2.2.1.heap H1 locs1 → (∃ ce : Cell, H1[q]? = some ce ∧ ce.vm = .none ∧ k.2.2.2.1.vm.findClass E = some ce.cls) → vx_W k.1 o.1 k.2.1 k.2.2.1 k.2.2.2.1 k.2.2.2.2.1 k.2.2.2.2.2.1 k.2.2.2.2.2.2.1 k.2.2.2.2.2.2.2.1 k.2.2.2.2.2.2.2.2.1 H1 locs1 (kc + mc') (ks + ms') k.2.2.2.2.2.2.2.2.2 (F0 k.2.2.2.2.1 pc ls rest) q)
    (kk : ∀ (v : Option Value) (μ' : jw_Mem) (H1 : Heap) (locs1 : List Loc), jw_H o μ' H1 → Φ v μ' H1.size → H.size ≤ H1.size → va_S (fun q => o.2.2.2.1 ≤ q) k.2.2.2.1.heap H1 locs1 → jw_W o k H1 locs1 (kc + mc') (ks + ms') (pc + 3) ls (v.toList ++ rest)) : jw_W o k H locs kc ks pc ls st := by
  intro T hT X
  have key : ∀ {st₀ t T' : State} {L : List Loc}, st₀.heap = H → T'.heap = t.heap → (∀ z ∈ L, o.2.2.2.1 ≤ z.base) → va_F (fun q => o.2.2.2.1 ≤ q) st₀ t → H.size ≤ T'.heap.size ∧ va_S (fun q => o.2.2.2.1 ≤ q) k.2.2.2.1.heap T'.heap (locs ++ L) := by
    intro st₀ t T' L h0 e1 hL hF
    obtain ⟨k1, k2, k3⟩ := vx_keep (A1 := fun q => o.2.2.2.1 ≤ q) h0 e1 e3 (fun _ _ h => h) (fun _ h => h) hL hF
    exact ⟨k1, k3⟩
  rcases hr T hT X with ⟨v, st₀, t, T', L, h0, X', hL, e1, e2, ⟨⟨v', μ', hv, hH, hΦ⟩, hF⟩, sts⟩ | ⟨q, st₀, t, T', L, E, ce, h0, X', hL, e1, e2, ⟨⟨μ', hH, hΨ⟩, hF⟩, hce, hcv, hcl, sts⟩
  · cases hv
    obtain ⟨k1, k3⟩ := key h0 e1 hL hF
    obtain ⟨t2, a1, b1⟩ := kk v μ' T'.heap (locs ++ L) (by rw [e1]; exact hH) (by rw [e1]; exact hΦ) k1 k3 T' rfl X'
    exact ⟨t2, sts t2 a1, b1⟩
  · obtain ⟨k1, k3⟩ := key h0 e1 hL hF
    obtain ⟨t2, a1, b1⟩ := kx E q μ' T'.heap (locs ++ L) (by rw [e1]; exact hH) (by rw [e1]; exact hΨ) k1 k3 ⟨ce, by rw [e1]; exact hce, hcv, hcl⟩ T' rfl X'
    exact ⟨t2, sts.trans a1, b1⟩
theorem jw_callVX {mj : jw_M} {d' mc' ms' a ci n idx : Nat} {As : List Value} {fs : List Value} {T : u_T} {N : Nat} {Φ1 : Option Value → jw_Mem → Nat → Prop} {Ψ1 : String → jw_Mem → Nat → Prop} (hR : jw_Rm k d mc ms) (hS : jw_SpX mj d' mc' ms' o (.ref a :: As) μ hs Φ1 Ψ1) (hm : jw_mV mj n) (hw : Cond.methodLink mi.1.cls idx mj.1 ∈ jw_T) (hc : jw_cl[ci]? = some (mj.1.cls, T, N)) (hd : decode mi.2.1 pc = .ok (.invokevirtual idx, 3)) (ha : μ a = some (.inr (ci, fs))) (hn : As.length = n) (hst : As.reverse ++ .ref a :: rest = st) (hrs : (rest.map fun v => v.category).sum ≤ 8) (hdd : d' + 1 ≤ d) (hml : mj.2.2.1 ≤ 45) (h1 : kc + mc' ≤ mc) (h2 : ks + ms' ≤ ms) (hp : pc + 3 = pc') (kx : ∀ (E : String) (q : Addr) (μ' : jw_Mem) (hs' : Nat), Ψ1 E μ' hs' → hs ≤ hs' → jw_V mi o k (kc + mc') (ks + ms') pc lc μ' hs' E q) (kk : ∀ (v : Option Value) (μ' : jw_Mem) (hs' : Nat), Φ1 v μ' hs' → hs ≤ hs' → jw_X mi o k (kc + mc') (ks + ms') pc' lc (v.toList ++ rest) μ' hs') : jw_X mi o k kc ks pc lc st μ hs := by
  subst hp; subst hst
  intro C0 H locs ls e1 e2 e3 e4
  obtain ⟨m1, m2, m3, m4, m5⟩ := hm
  refine jw_backX (vx_runV (As := As) (rest := rest) (b := a) ⟨C0.1, C0.2.1, C0.2.2.2.1, C0.own, C0.ts⟩ hS (cwV (ws' := jw_T) n C0.ts (jw_good fun w hw9 => ?_) rfl rfl rfl ⟨rfl, m5⟩ (jw_room hR hdd hml)) ⟨jw_B.blind, va_recv C0.hK (jw_one e2 ha) (ci := ci) (q0 := 0) hc rfl, jw_B.of C0 e1 e2 e3⟩ rfl hn e4.1 rfl (lv_room hrs) hd ⟨Nat.le_trans h1 hR.2.2.1, Nat.le_trans h2 hR.2.2.2⟩) e3 (fun E q μ' H1 locs1 q1 q2 q3 q4 q5 => kx E q μ' H1.size q2 (by rw [← e1]; exact q3) C0 H1 locs1 ls rest rfl q1 q4 e4 q5) (fun v μ' H1 locs1 q1 q2 q3 q4 => kk v μ' H1.size q2 (by rw [← e1]; exact q3) C0 H1 locs1 ls rfl q1 q4 e4)
  rcases List.mem_append.mp hw9 with h | h
  · simp only [List.mem_cons, List.not_mem_nil, or_false] at h
    rcases h with rfl | rfl | rfl | rfl
    · exact hw
    · exact m1
    · exact m2
    · exact m3
  · rcases List.mem_cons.mp h with rfl | h
    · exact m4
    · exact h
theorem jw_callSX {mj : jw_M} {d' mc' ms' n idx : Nat} {As : List Value} {Φ1 : Option Value → jw_Mem → Nat → Prop} {Ψ1 : String → jw_Mem → Nat → Prop} (hR : jw_Rm k d mc ms) (hS : jw_SpX mj d' mc' ms' o As μ hs Φ1 Ψ1) (hm : jw_mS mj n) (hw : Cond.methodLink mi.1.cls idx mj.1 ∈ jw_T) (hd : decode mi.2.1 pc = .ok (.invokestatic idx, 3)) (hn : As.length = n) (hst : As.reverse ++ rest = st) (hrs : (rest.map fun v => v.category).sum ≤ 8) (hdd : d' + 1 ≤ d) (hml : mj.2.2.1 ≤ 45) (h1 : kc + mc' ≤ mc) (h2 : ks + ms' ≤ ms) (hp : pc + 3 = pc') (kx : ∀ (E : String) (q : Addr) (μ' : jw_Mem) (hs' : Nat), Ψ1 E μ' hs' → hs ≤ hs' → jw_V mi o k (kc + mc') (ks + ms') pc lc μ' hs' E q) (kk : ∀ (v : Option Value) (μ' : jw_Mem) (hs' : Nat), Φ1 v μ' hs' → hs ≤ hs' → jw_X mi o k (kc + mc') (ks + ms') pc' lc (v.toList ++ rest) μ' hs') : jw_X mi o k kc ks pc lc st μ hs := by
  subst hp; subst hst
  intro C0 H locs ls e1 e2 e3 e4
  obtain ⟨m1, m2, m3, m4⟩ := hm
  refine jw_backX (vx_runS (As := As) (rest := rest) ⟨C0.1, C0.2.1, C0.2.2.2.1, C0.own, C0.ts⟩ hS ⟨callB_of (ws' := jw_T) n C0.ts (jw_good fun w hw9 => ?_) rfl rfl rfl (C0.ts _ m2) (C0.ts _ hw) m4 (jw_room hR hdd hml), C0.ts _ m1⟩ ⟨jw_B.blind, jw_B.of C0 e1 e2 e3⟩ rfl hn e4.1 rfl (lv_room hrs) hd ⟨Nat.le_trans h1 hR.2.2.1, Nat.le_trans h2 hR.2.2.2⟩) e3 (fun E q μ' H1 locs1 q1 q2 q3 q4 q5 => kx E q μ' H1.size q2 (by rw [← e1]; exact q3) C0 H1 locs1 ls rest rfl q1 q4 e4 q5) (fun v μ' H1 locs1 q1 q2 q3 q4 => kk v μ' H1.size q2 (by rw [← e1]; exact q3) C0 H1 locs1 ls rfl q1 q4 e4)
  rcases List.mem_cons.mp hw9 with rfl | h
  · exact m3
  · exact h
/-- a method with handlers that only returns, called statically: mj's words stand with its table -/
def jw_wsH (mi : jw_M) (hh : List (Nat × Nat × Nat × Nat)) : List Cond := Cond.codeWith mi.1 mi.2.1 mi.2.2.1 mi.2.2.2 hh :: jw_T
def jw_SpH (mi : jw_M) (hh : List (Nat × Nat × Nat × Nat)) (d mc ms : Nat) (o : jw_O) (As : List Value) (μ : jw_Mem) (hs : Nat) (Φ : Option Value → jw_Mem → Nat → Prop) : Prop :=
  Met o.1 mi.1 (jw_wsH mi hh) (jw_rm d mc ms) (va_Pc As (jw_B o μ hs)) (jw_Q o Φ) mc ms (fun q => o.2.2.2.1 ≤ q)
theorem jw_callSH {mj : jw_M} {hh : List (Nat × Nat × Nat × Nat)} {d' mc' ms' n idx : Nat} {As : List Value} {Φ1 : Option Value → jw_Mem → Nat → Prop} (hR : jw_Rm k d mc ms) (hS : jw_SpH mj hh d' mc' ms' o As μ hs Φ1) (hm : Cond.codeWith mj.1 mj.2.1 mj.2.2.1 mj.2.2.2 hh ∈ jw_T ∧ Cond.static mj.1 ∈ jw_T ∧ Cond.initialized mj.1.cls ∈ jw_T ∧ jw_pl mj.1 n) (hw : Cond.methodLink mi.1.cls idx mj.1 ∈ jw_T) (hd : decode mi.2.1 pc = .ok (.invokestatic idx, 3)) (hn : As.length = n) (hst : As.reverse ++ rest = st) (hrs : (rest.map fun v => v.category).sum ≤ 8) (hdd : d' + 1 ≤ d) (hml : mj.2.2.1 ≤ 45) (h1 : kc + mc' ≤ mc) (h2 : ks + ms' ≤ ms) (hp : pc + 3 = pc') (kk : ∀ (v : Option Value) (μ' : jw_Mem) (hs' : Nat), Φ1 v μ' hs' → hs ≤ hs' → jw_X mi o k (kc + mc') (ks + ms') pc' lc (v.toList ++ rest) μ' hs') : jw_X mi o k kc ks pc lc st μ hs := by
  subst hp; subst hst
  intro C0 H locs ls e1 e2 e3 e4
  obtain ⟨m1, m2, m3, m4⟩ := hm
  refine jw_back (vx_runSW (hh := hh) (As := As) (rest := rest) ⟨C0.1, C0.2.1, C0.2.2.2.1, C0.own, C0.ts⟩ hS (vx_cwSW (ws' := jw_T) n C0.ts (jw_good fun w hw9 => ?_) rfl rfl rfl m4 (jw_room hR hdd hml)) ⟨jw_B.blind, jw_B.of C0 e1 e2 e3⟩ rfl hn e4.1 rfl (lv_room hrs) hd ⟨Nat.le_trans h1 hR.2.2.1, Nat.le_trans h2 hR.2.2.2⟩) e3 (fun v μ' H1 locs1 q1 q2 q3 q4 => kk v μ' H1.size q2 (by rw [← e1]; exact q3) C0 H1 locs1 ls rfl q1 q4 e4)
  unfold va_wsS at hw9
  rcases List.mem_append.mp hw9 with h | h
  · simp only [List.mem_cons, List.not_mem_nil, or_false] at h
    rcases h with rfl | rfl | rfl
    · exact hw
    · exact m2
    · exact m3
  · rcases List.mem_cons.mp h with rfl | h
    · exact m1
    · exact h
end RulesX
theorem jw_specX {mi : jw_M} {o : jw_O} {d mc ms hs : Nat} {As : List Value} {μ : jw_Mem} {Φ : Option Value → jw_Mem → Nat → Prop} {Ψ : String → jw_Mem → Nat → Prop} {lc : List (Nat × Value)} (hy : plainName mi.1.cls = true) (hn : (lg_sl As).length ≤ mi.2.2.1) (hlc : lv_args 0 As = lc) (body : ∀ k : jw_K, jw_Rm k d mc ms → jw_EX o k mc ms Φ Ψ → jw_X mi o k 0 0 0 lc [] μ hs) : jw_SpX mi d mc ms o As μ hs Φ Ψ := by
  refine vx_ofW (cc := mi.2.1) (maxL := mi.2.2.1) (ret := mi.2.2.2) hy rfl ?_
  intro p e s m args below meth c s₁ B hml ht hv
  obtain ⟨rfl, h1, h2, h3, h4, h5, h6⟩ := hv
  have hts := atoms_spec (ws := jw_ws mi) B.pre
  have hown : s.vm.findClass mi.1.cls = some m.cls := findClass_of_methodNamed B.named
  have hname := (name_of_methodNamed B.named B.method).1
  have hb := body (p, e, jw_rm d mc ms, s, m, As.toArray, below, meth, c, vx_MQ below (jw_Q o Φ) (jw_XC o Ψ) As.toArray s mc ms (fun q => o.2.2.2.1 ≤ q)) ⟨Nat.le_refl _, Nat.le_refl _, Nat.le_refl _, Nat.le_refl _⟩ ⟨rfl, ht⟩ ⟨B.exec, B.bytes, B.returns, hml, hown, fun w h => hts w (List.mem_cons_of_mem _ h), B.notSynchronized, hname, h3, h4, by rw [h1]; exact h5, h6⟩
  rw [lg_entry_eq]
  exact hb s.heap [] _ h1 h2 va_S.rf (hlc ▸ lv_entry As hn)
theorem jw_specH {mi : jw_M} {hh : List (Nat × Nat × Nat × Nat)} {o : jw_O} {d mc ms hs : Nat} {As : List Value} {μ : jw_Mem} {Φ : Option Value → jw_Mem → Nat → Prop} {lc : List (Nat × Value)} (hy : plainName mi.1.cls = true) (hn : (lg_sl As).length ≤ mi.2.2.1) (hlc : lv_args 0 As = lc) (body : ∀ k : jw_K, jw_Rm k d mc ms → jw_E o k mc ms Φ → k.2.2.2.2.2.2.2.2.1.exceptionTable.toList = tableOf hh → jw_X mi o k 0 0 0 lc [] μ hs) : jw_SpH mi hh d mc ms o As μ hs Φ := by
  refine va_MetW (hh := hh) (cc := mi.2.1) (maxL := mi.2.2.1) (ret := mi.2.2.2) hy rfl ?_
  intro p e s m args below meth c s₁ B hml hv
  obtain ⟨rfl, h1, h2, h3, h4, h5, h6⟩ := hv
  have hts := atoms_spec (ws := jw_wsH mi hh) B.pre
  have hown : s.vm.findClass mi.1.cls = some m.cls := findClass_of_methodNamed B.named
  have hname := (name_of_methodNamed B.named B.method).1
  have hb := body (p, e, jw_rm d mc ms, s, m, As.toArray, below, meth, c, MQ below (jw_Q o Φ) As.toArray s mc ms (fun q => o.2.2.2.1 ≤ q)) ⟨Nat.le_refl _, Nat.le_refl _, Nat.le_refl _, Nat.le_refl _⟩ (fun _ _ _ h => h) (vx_table (x := mi.1) B (hts _ List.mem_cons_self)) ⟨B.exec, B.bytes, B.returns, hml, hown, fun w h => hts w (List.mem_cons_of_mem _ h), B.notSynchronized, hname, h3, h4, by rw [h1]; exact h5, h6⟩
  rw [lg_entry_eq]
  exact hb s.heap [] _ h1 h2 va_S.rf (hlc ▸ lv_entry As hn)
theorem jt_IllegalArgumentException : jw_thr "Branchwork" 92 96 "java/lang/IllegalArgumentException" := ⟨by decide +kernel, by decide +kernel, by decide +kernel, by decide +kernel, by decide +kernel, by decide +kernel⟩
theorem jt_IndexOutOfBoundsException : jw_thr "Branchwork" 85 89 "java/lang/IndexOutOfBoundsException" := ⟨by decide +kernel, by decide +kernel, by decide +kernel, by decide +kernel, by decide +kernel, by decide +kernel⟩
theorem jt_IllegalStateException : jw_thr "Branchwork" 101 105 "java/lang/IllegalStateException" := ⟨by decide +kernel, by decide +kernel, by decide +kernel, by decide +kernel, by decide +kernel, by decide +kernel⟩
end
section
theorem jd_Content_init_0 : decode mi_Content_init.2.1 0 = .ok (.aload_n 0, 1) := by decide +kernel
theorem jd_Content_init_1 : decode mi_Content_init.2.1 1 = .ok (.invokespecial 3, 3) := by decide +kernel
theorem jd_Content_init_4 : decode mi_Content_init.2.1 4 = .ok (.aload_n 0, 1) := by decide +kernel
theorem jd_Content_init_5 : decode mi_Content_init.2.1 5 = .ok (.bipush 10, 2) := by decide +kernel
theorem jd_Content_init_7 : decode mi_Content_init.2.1 7 = .ok (.newarray .int, 2) := by decide +kernel
theorem jd_Content_init_9 : decode mi_Content_init.2.1 9 = .ok (.putfield 9, 3) := by decide +kernel
theorem jd_Content_init_12 : decode mi_Content_init.2.1 12 = .ok (.aload_n 0, 1) := by decide +kernel
theorem jd_Content_init_13 : decode mi_Content_init.2.1 13 = .ok (.iconst 0, 1) := by decide +kernel
theorem jd_Content_init_14 : decode mi_Content_init.2.1 14 = .ok (.putfield 15, 3) := by decide +kernel
theorem jd_Content_init_17 : decode mi_Content_init.2.1 17 = .ok (.aload_n 0, 1) := by decide +kernel
theorem jd_Content_init_18 : decode mi_Content_init.2.1 18 = .ok (.iconst 0, 1) := by decide +kernel
theorem jd_Content_init_19 : decode mi_Content_init.2.1 19 = .ok (.putfield 19, 3) := by decide +kernel
theorem jd_Content_init_22 : decode mi_Content_init.2.1 22 = .ok (.return_, 1) := by decide +kernel
theorem jd_Content_exists_0 : decode mi_Content_exists.2.1 0 = .ok (.aload_n 0, 1) := by decide +kernel
theorem jd_Content_exists_1 : decode mi_Content_exists.2.1 1 = .ok (.getfield 19, 3) := by decide +kernel
theorem jd_Content_exists_4 : decode mi_Content_exists.2.1 4 = .ok (.ireturn, 1) := by decide +kernel
theorem jd_Content_length_0 : decode mi_Content_length.2.1 0 = .ok (.aload_n 0, 1) := by decide +kernel
theorem jd_Content_length_1 : decode mi_Content_length.2.1 1 = .ok (.getfield 15, 3) := by decide +kernel
theorem jd_Content_length_4 : decode mi_Content_length.2.1 4 = .ok (.ireturn, 1) := by decide +kernel
theorem jd_Content_isFull_0 : decode mi_Content_isFull.2.1 0 = .ok (.aload_n 0, 1) := by decide +kernel
theorem jd_Content_isFull_1 : decode mi_Content_isFull.2.1 1 = .ok (.getfield 15, 3) := by decide +kernel
theorem jd_Content_isFull_4 : decode mi_Content_isFull.2.1 4 = .ok (.bipush 10, 2) := by decide +kernel
theorem jd_Content_isFull_6 : decode mi_Content_isFull.2.1 6 = .ok (.if_icmp .lt 7, 3) := by decide +kernel
theorem jd_Content_isFull_9 : decode mi_Content_isFull.2.1 9 = .ok (.iconst 1, 1) := by decide +kernel
theorem jd_Content_isFull_10 : decode mi_Content_isFull.2.1 10 = .ok (.goto 4, 3) := by decide +kernel
theorem jd_Content_isFull_13 : decode mi_Content_isFull.2.1 13 = .ok (.iconst 0, 1) := by decide +kernel
theorem jd_Content_isFull_14 : decode mi_Content_isFull.2.1 14 = .ok (.ireturn, 1) := by decide +kernel
theorem jd_Content_lineAt_0 : decode mi_Content_lineAt.2.1 0 = .ok (.iload_n 1, 1) := by decide +kernel
theorem jd_Content_lineAt_1 : decode mi_Content_lineAt.2.1 1 = .ok (.ifCond .lt 26, 3) := by decide +kernel
theorem jd_Content_lineAt_4 : decode mi_Content_lineAt.2.1 4 = .ok (.iload_n 1, 1) := by decide +kernel
theorem jd_Content_lineAt_5 : decode mi_Content_lineAt.2.1 5 = .ok (.aload_n 0, 1) := by decide +kernel
theorem jd_Content_lineAt_6 : decode mi_Content_lineAt.2.1 6 = .ok (.getfield 15, 3) := by decide +kernel
theorem jd_Content_lineAt_9 : decode mi_Content_lineAt.2.1 9 = .ok (.if_icmp .ge 18, 3) := by decide +kernel
theorem jd_Content_lineAt_12 : decode mi_Content_lineAt.2.1 12 = .ok (.iload_n 1, 1) := by decide +kernel
theorem jd_Content_lineAt_13 : decode mi_Content_lineAt.2.1 13 = .ok (.bipush 10, 2) := by decide +kernel
theorem jd_Content_lineAt_15 : decode mi_Content_lineAt.2.1 15 = .ok (.if_icmp .ge 12, 3) := by decide +kernel
theorem jd_Content_lineAt_18 : decode mi_Content_lineAt.2.1 18 = .ok (.aload_n 0, 1) := by decide +kernel
theorem jd_Content_lineAt_19 : decode mi_Content_lineAt.2.1 19 = .ok (.getfield 9, 3) := by decide +kernel
theorem jd_Content_lineAt_22 : decode mi_Content_lineAt.2.1 22 = .ok (.iload_n 1, 1) := by decide +kernel
theorem jd_Content_lineAt_23 : decode mi_Content_lineAt.2.1 23 = .ok (.iaload, 1) := by decide +kernel
theorem jd_Content_lineAt_24 : decode mi_Content_lineAt.2.1 24 = .ok (.goto 4, 3) := by decide +kernel
theorem jd_Content_lineAt_27 : decode mi_Content_lineAt.2.1 27 = .ok (.iconst (-1), 1) := by decide +kernel
theorem jd_Content_lineAt_28 : decode mi_Content_lineAt.2.1 28 = .ok (.ireturn, 1) := by decide +kernel
theorem jd_Content_becomeAbsent_0 : decode mi_Content_becomeAbsent.2.1 0 = .ok (.aload_n 0, 1) := by decide +kernel
theorem jd_Content_becomeAbsent_1 : decode mi_Content_becomeAbsent.2.1 1 = .ok (.iconst 0, 1) := by decide +kernel
theorem jd_Content_becomeAbsent_2 : decode mi_Content_becomeAbsent.2.1 2 = .ok (.putfield 15, 3) := by decide +kernel
theorem jd_Content_becomeAbsent_5 : decode mi_Content_becomeAbsent.2.1 5 = .ok (.aload_n 0, 1) := by decide +kernel
theorem jd_Content_becomeAbsent_6 : decode mi_Content_becomeAbsent.2.1 6 = .ok (.iconst 0, 1) := by decide +kernel
theorem jd_Content_becomeAbsent_7 : decode mi_Content_becomeAbsent.2.1 7 = .ok (.putfield 19, 3) := by decide +kernel
theorem jd_Content_becomeAbsent_10 : decode mi_Content_becomeAbsent.2.1 10 = .ok (.return_, 1) := by decide +kernel
theorem jd_Content_sameAs_0 : decode mi_Content_sameAs.2.1 0 = .ok (.aload_n 0, 1) := by decide +kernel
theorem jd_Content_sameAs_1 : decode mi_Content_sameAs.2.1 1 = .ok (.getfield 19, 3) := by decide +kernel
theorem jd_Content_sameAs_4 : decode mi_Content_sameAs.2.1 4 = .ok (.aload_n 1, 1) := by decide +kernel
theorem jd_Content_sameAs_5 : decode mi_Content_sameAs.2.1 5 = .ok (.invokevirtual 48, 3) := by decide +kernel
theorem jd_Content_sameAs_8 : decode mi_Content_sameAs.2.1 8 = .ok (.if_icmp .ne 14, 3) := by decide +kernel
theorem jd_Content_sameAs_11 : decode mi_Content_sameAs.2.1 11 = .ok (.aload_n 0, 1) := by decide +kernel
theorem jd_Content_sameAs_12 : decode mi_Content_sameAs.2.1 12 = .ok (.getfield 15, 3) := by decide +kernel
theorem jd_Content_sameAs_15 : decode mi_Content_sameAs.2.1 15 = .ok (.aload_n 1, 1) := by decide +kernel
theorem jd_Content_sameAs_16 : decode mi_Content_sameAs.2.1 16 = .ok (.invokevirtual 27, 3) := by decide +kernel
theorem jd_Content_sameAs_19 : decode mi_Content_sameAs.2.1 19 = .ok (.if_icmp .eq 5, 3) := by decide +kernel
theorem jd_Content_sameAs_22 : decode mi_Content_sameAs.2.1 22 = .ok (.iconst 0, 1) := by decide +kernel
theorem jd_Content_sameAs_23 : decode mi_Content_sameAs.2.1 23 = .ok (.ireturn, 1) := by decide +kernel
theorem jd_Content_sameAs_24 : decode mi_Content_sameAs.2.1 24 = .ok (.iconst 0, 1) := by decide +kernel
theorem jd_Content_sameAs_25 : decode mi_Content_sameAs.2.1 25 = .ok (.istore_n 2, 1) := by decide +kernel
theorem jd_Content_sameAs_26 : decode mi_Content_sameAs.2.1 26 = .ok (.iload_n 2, 1) := by decide +kernel
theorem jd_Content_sameAs_27 : decode mi_Content_sameAs.2.1 27 = .ok (.aload_n 0, 1) := by decide +kernel
theorem jd_Content_sameAs_28 : decode mi_Content_sameAs.2.1 28 = .ok (.getfield 15, 3) := by decide +kernel
theorem jd_Content_sameAs_31 : decode mi_Content_sameAs.2.1 31 = .ok (.if_icmp .ge 25, 3) := by decide +kernel
theorem jd_Content_sameAs_34 : decode mi_Content_sameAs.2.1 34 = .ok (.aload_n 0, 1) := by decide +kernel
theorem jd_Content_sameAs_35 : decode mi_Content_sameAs.2.1 35 = .ok (.getfield 9, 3) := by decide +kernel
theorem jd_Content_sameAs_38 : decode mi_Content_sameAs.2.1 38 = .ok (.iload_n 2, 1) := by decide +kernel
theorem jd_Content_sameAs_39 : decode mi_Content_sameAs.2.1 39 = .ok (.iaload, 1) := by decide +kernel
theorem jd_Content_sameAs_40 : decode mi_Content_sameAs.2.1 40 = .ok (.aload_n 1, 1) := by decide +kernel
theorem jd_Content_sameAs_41 : decode mi_Content_sameAs.2.1 41 = .ok (.iload_n 2, 1) := by decide +kernel
theorem jd_Content_sameAs_42 : decode mi_Content_sameAs.2.1 42 = .ok (.invokevirtual 31, 3) := by decide +kernel
theorem jd_Content_sameAs_45 : decode mi_Content_sameAs.2.1 45 = .ok (.if_icmp .eq 5, 3) := by decide +kernel
theorem jd_Content_sameAs_48 : decode mi_Content_sameAs.2.1 48 = .ok (.iconst 0, 1) := by decide +kernel
theorem jd_Content_sameAs_49 : decode mi_Content_sameAs.2.1 49 = .ok (.ireturn, 1) := by decide +kernel
theorem jd_Content_sameAs_50 : decode mi_Content_sameAs.2.1 50 = .ok (.iinc 2 1, 3) := by decide +kernel
theorem jd_Content_sameAs_53 : decode mi_Content_sameAs.2.1 53 = .ok (.goto (-27), 3) := by decide +kernel
theorem jd_Content_sameAs_56 : decode mi_Content_sameAs.2.1 56 = .ok (.iconst 1, 1) := by decide +kernel
theorem jd_Content_sameAs_57 : decode mi_Content_sameAs.2.1 57 = .ok (.ireturn, 1) := by decide +kernel
theorem jd_Content_copyFrom_0 : decode mi_Content_copyFrom.2.1 0 = .ok (.aload_n 0, 1) := by decide +kernel
theorem jd_Content_copyFrom_1 : decode mi_Content_copyFrom.2.1 1 = .ok (.aload_n 1, 1) := by decide +kernel
theorem jd_Content_copyFrom_2 : decode mi_Content_copyFrom.2.1 2 = .ok (.invokevirtual 27, 3) := by decide +kernel
theorem jd_Content_copyFrom_5 : decode mi_Content_copyFrom.2.1 5 = .ok (.bipush 10, 2) := by decide +kernel
theorem jd_Content_copyFrom_7 : decode mi_Content_copyFrom.2.1 7 = .ok (.invokestatic 42, 3) := by decide +kernel
theorem jd_Content_copyFrom_10 : decode mi_Content_copyFrom.2.1 10 = .ok (.putfield 15, 3) := by decide +kernel
theorem jd_Content_copyFrom_13 : decode mi_Content_copyFrom.2.1 13 = .ok (.aload_n 0, 1) := by decide +kernel
theorem jd_Content_copyFrom_14 : decode mi_Content_copyFrom.2.1 14 = .ok (.aload_n 1, 1) := by decide +kernel
theorem jd_Content_copyFrom_15 : decode mi_Content_copyFrom.2.1 15 = .ok (.invokevirtual 48, 3) := by decide +kernel
theorem jd_Content_copyFrom_18 : decode mi_Content_copyFrom.2.1 18 = .ok (.putfield 19, 3) := by decide +kernel
theorem jd_Content_copyFrom_21 : decode mi_Content_copyFrom.2.1 21 = .ok (.iconst 0, 1) := by decide +kernel
theorem jd_Content_copyFrom_22 : decode mi_Content_copyFrom.2.1 22 = .ok (.istore_n 2, 1) := by decide +kernel
theorem jd_Content_copyFrom_23 : decode mi_Content_copyFrom.2.1 23 = .ok (.iload_n 2, 1) := by decide +kernel
theorem jd_Content_copyFrom_24 : decode mi_Content_copyFrom.2.1 24 = .ok (.aload_n 0, 1) := by decide +kernel
theorem jd_Content_copyFrom_25 : decode mi_Content_copyFrom.2.1 25 = .ok (.getfield 15, 3) := by decide +kernel
theorem jd_Content_copyFrom_28 : decode mi_Content_copyFrom.2.1 28 = .ok (.if_icmp .ge 20, 3) := by decide +kernel
theorem jd_Content_copyFrom_31 : decode mi_Content_copyFrom.2.1 31 = .ok (.aload_n 0, 1) := by decide +kernel
theorem jd_Content_copyFrom_32 : decode mi_Content_copyFrom.2.1 32 = .ok (.getfield 9, 3) := by decide +kernel
theorem jd_Content_copyFrom_35 : decode mi_Content_copyFrom.2.1 35 = .ok (.iload_n 2, 1) := by decide +kernel
theorem jd_Content_copyFrom_36 : decode mi_Content_copyFrom.2.1 36 = .ok (.aload_n 1, 1) := by decide +kernel
theorem jd_Content_copyFrom_37 : decode mi_Content_copyFrom.2.1 37 = .ok (.iload_n 2, 1) := by decide +kernel
theorem jd_Content_copyFrom_38 : decode mi_Content_copyFrom.2.1 38 = .ok (.invokevirtual 31, 3) := by decide +kernel
theorem jd_Content_copyFrom_41 : decode mi_Content_copyFrom.2.1 41 = .ok (.iastore, 1) := by decide +kernel
theorem jd_Content_copyFrom_42 : decode mi_Content_copyFrom.2.1 42 = .ok (.iinc 2 1, 3) := by decide +kernel
theorem jd_Content_copyFrom_45 : decode mi_Content_copyFrom.2.1 45 = .ok (.goto (-22), 3) := by decide +kernel
theorem jd_Content_copyFrom_48 : decode mi_Content_copyFrom.2.1 48 = .ok (.return_, 1) := by decide +kernel
theorem jd_Content_insert_0 : decode mi_Content_insert.2.1 0 = .ok (.iload_n 1, 1) := by decide +kernel
theorem jd_Content_insert_1 : decode mi_Content_insert.2.1 1 = .ok (.ifCond .lt 20, 3) := by decide +kernel
theorem jd_Content_insert_4 : decode mi_Content_insert.2.1 4 = .ok (.iload_n 1, 1) := by decide +kernel
theorem jd_Content_insert_5 : decode mi_Content_insert.2.1 5 = .ok (.aload_n 0, 1) := by decide +kernel
theorem jd_Content_insert_6 : decode mi_Content_insert.2.1 6 = .ok (.getfield 15, 3) := by decide +kernel
theorem jd_Content_insert_9 : decode mi_Content_insert.2.1 9 = .ok (.if_icmp .gt 12, 3) := by decide +kernel
theorem jd_Content_insert_12 : decode mi_Content_insert.2.1 12 = .ok (.aload_n 0, 1) := by decide +kernel
theorem jd_Content_insert_13 : decode mi_Content_insert.2.1 13 = .ok (.getfield 15, 3) := by decide +kernel
theorem jd_Content_insert_16 : decode mi_Content_insert.2.1 16 = .ok (.bipush 10, 2) := by decide +kernel
theorem jd_Content_insert_18 : decode mi_Content_insert.2.1 18 = .ok (.if_icmp .lt 4, 3) := by decide +kernel
theorem jd_Content_insert_21 : decode mi_Content_insert.2.1 21 = .ok (.return_, 1) := by decide +kernel
theorem jd_Content_insert_22 : decode mi_Content_insert.2.1 22 = .ok (.aload_n 0, 1) := by decide +kernel
theorem jd_Content_insert_23 : decode mi_Content_insert.2.1 23 = .ok (.getfield 15, 3) := by decide +kernel
theorem jd_Content_insert_26 : decode mi_Content_insert.2.1 26 = .ok (.istore_n 3, 1) := by decide +kernel
theorem jd_Content_insert_27 : decode mi_Content_insert.2.1 27 = .ok (.iload_n 3, 1) := by decide +kernel
theorem jd_Content_insert_28 : decode mi_Content_insert.2.1 28 = .ok (.iload_n 1, 1) := by decide +kernel
theorem jd_Content_insert_29 : decode mi_Content_insert.2.1 29 = .ok (.if_icmp .le 23, 3) := by decide +kernel
theorem jd_Content_insert_32 : decode mi_Content_insert.2.1 32 = .ok (.aload_n 0, 1) := by decide +kernel
theorem jd_Content_insert_33 : decode mi_Content_insert.2.1 33 = .ok (.getfield 9, 3) := by decide +kernel
theorem jd_Content_insert_36 : decode mi_Content_insert.2.1 36 = .ok (.iload_n 3, 1) := by decide +kernel
theorem jd_Content_insert_37 : decode mi_Content_insert.2.1 37 = .ok (.aload_n 0, 1) := by decide +kernel
theorem jd_Content_insert_38 : decode mi_Content_insert.2.1 38 = .ok (.getfield 9, 3) := by decide +kernel
theorem jd_Content_insert_41 : decode mi_Content_insert.2.1 41 = .ok (.iload_n 3, 1) := by decide +kernel
theorem jd_Content_insert_42 : decode mi_Content_insert.2.1 42 = .ok (.iconst 1, 1) := by decide +kernel
theorem jd_Content_insert_43 : decode mi_Content_insert.2.1 43 = .ok (.isub, 1) := by decide +kernel
theorem jd_Content_insert_44 : decode mi_Content_insert.2.1 44 = .ok (.iaload, 1) := by decide +kernel
theorem jd_Content_insert_45 : decode mi_Content_insert.2.1 45 = .ok (.iastore, 1) := by decide +kernel
theorem jd_Content_insert_46 : decode mi_Content_insert.2.1 46 = .ok (.iinc 3 (-1), 3) := by decide +kernel
theorem jd_Content_insert_49 : decode mi_Content_insert.2.1 49 = .ok (.goto (-22), 3) := by decide +kernel
theorem jd_Content_insert_52 : decode mi_Content_insert.2.1 52 = .ok (.aload_n 0, 1) := by decide +kernel
theorem jd_Content_insert_53 : decode mi_Content_insert.2.1 53 = .ok (.getfield 9, 3) := by decide +kernel
theorem jd_Content_insert_56 : decode mi_Content_insert.2.1 56 = .ok (.iload_n 1, 1) := by decide +kernel
theorem jd_Content_insert_57 : decode mi_Content_insert.2.1 57 = .ok (.iload_n 2, 1) := by decide +kernel
theorem jd_Content_insert_58 : decode mi_Content_insert.2.1 58 = .ok (.iastore, 1) := by decide +kernel
theorem jd_Content_insert_59 : decode mi_Content_insert.2.1 59 = .ok (.aload_n 0, 1) := by decide +kernel
theorem jd_Content_insert_60 : decode mi_Content_insert.2.1 60 = .ok (.dup, 1) := by decide +kernel
theorem jd_Content_insert_61 : decode mi_Content_insert.2.1 61 = .ok (.getfield 15, 3) := by decide +kernel
theorem jd_Content_insert_64 : decode mi_Content_insert.2.1 64 = .ok (.iconst 1, 1) := by decide +kernel
theorem jd_Content_insert_65 : decode mi_Content_insert.2.1 65 = .ok (.iadd, 1) := by decide +kernel
theorem jd_Content_insert_66 : decode mi_Content_insert.2.1 66 = .ok (.putfield 15, 3) := by decide +kernel
theorem jd_Content_insert_69 : decode mi_Content_insert.2.1 69 = .ok (.aload_n 0, 1) := by decide +kernel
theorem jd_Content_insert_70 : decode mi_Content_insert.2.1 70 = .ok (.iconst 1, 1) := by decide +kernel
theorem jd_Content_insert_71 : decode mi_Content_insert.2.1 71 = .ok (.putfield 19, 3) := by decide +kernel
theorem jd_Content_insert_74 : decode mi_Content_insert.2.1 74 = .ok (.return_, 1) := by decide +kernel
/-- a Content object's two cells: n lines of g, p: whether there is a file -/
def bc_At (o : jw_O) (μ : jw_Mem) (a n : Nat) (p : Int32) (g : Nat → Int32) : Prop := μ a = some (.inr (0, [.ref (a + 1), .int (nI n), .int p])) ∧ μ (a + 1) = some (.inl (o.2.2.1 0, 10, .inl g))
def b01 (p : Int32) : Prop := p = 0 ∨ p = 1
theorem b01.nz {p : Int32} (h : b01 p) : narrow .boolean (.int p) = .int p := by rcases h with rfl | rfl <;> decide
theorem b01.fit {p : Int32} (h : b01 p) : fits .boolean (.int p) = true := by rcases h with rfl | rfl <;> decide
theorem b01.if_ (c : Prop) [Decidable c] : b01 (if c then 1 else 0) := by by_cases h : c <;> simp [b01, h]
theorem bc_At.fr {o : jw_O} {μ μ' : jw_Mem} {a n b m : Nat} {p : Int32} {g : Nat → Int32} (h : bc_At o μ a n p g) (f : jw_Fr μ μ' b m) (hd : a + 2 ≤ b ∨ b + m ≤ a) : bc_At o μ' a n p g := ⟨(f _ (by omega)).trans h.1, (f _ (by omega)).trans h.2⟩
section
variable {o : jw_O} {μ : jw_Mem} {hs a n : Nat} {p : Int32} {g : Nat → Int32}
theorem bc_init {v : Value} {x y : Int32} (ha : μ a = some (.inr (0, [v, .int x, .int y]))) : jw_Spec mi_Content_init 1 1 10 o [.ref a] μ (a + 1) (fun v μ' s' => v = none ∧ s' = a + 2 ∧ bc_At o μ' a 0 0 (fun _ => 0) ∧ jw_Fr μ μ' a 2) := by
  refine jw_spec (by decide +kernel) (Nat.le_of_ble_eq_true rfl) rfl (fun k hR hE => ?_)
  have hF : jw_Fr μ μ a 2 := jw_Fr.rf
  refine jw_aload_n (pc' := 1) jd_Content_init_0 rfl rfl rfl ?_
  refine jw_objInit (pc' := 4) hR jq_105 jd_Content_init_1 (Nat.le_of_ble_eq_true rfl) (by omega) rfl ?_
  refine jw_aload_n (pc' := 5) jd_Content_init_4 rfl rfl rfl ?_
  refine jw_bipush (pc' := 7) (v := nI 10) jd_Content_init_5 (by decide +kernel) rfl ?_
  refine jw_newa (pc' := 9) (N := 10) (i := 0) (a0 := (10, .inl (fun _ => 0))) (ty := .int) (atype := .int) hR jq_116 rfl rfl jd_Content_init_7 (fun _ => rfl) (by decide +kernel) (by decide +kernel) (by decide +kernel) (by omega) (by omega) rfl (fun μ hb f9 => ?_)
  have ha := (f9 _ (by omega)).trans ha
  have hF := jw_Fr.step hF f9 (by omega)
  refine jw_putF (pc' := 12) (kf := 0) (ty := (.array .int)) (fs' := [_, _, _]) jc_Content (by decide) jq_106 jd_Content_init_9 rfl rfl rfl (by decide +kernel) (by assumption) rfl rfl rfl (Nat.le_of_ble_eq_true rfl) rfl (fun μ ha f9 => ?_)
  have hb := (f9 _ (by omega)).trans hb
  have hF := jw_Fr.step hF f9 (by omega)
  refine jw_aload_n (pc' := 13) jd_Content_init_12 rfl rfl rfl ?_
  refine jw_iconst (pc' := 14) (v := nI 0) jd_Content_init_13 (by decide +kernel) rfl ?_
  refine jw_put (pc' := 17) (kf := 1) (ty := .int) (fs' := [_, _, _]) jc_Content (by decide) jq_107 jd_Content_init_14 rfl (by decide +kernel) (by assumption) rfl rfl rfl (Nat.le_of_ble_eq_true rfl) rfl (fun μ ha f9 => ?_)
  have hb := (f9 _ (by omega)).trans hb
  have hF := jw_Fr.step hF f9 (by omega)
  refine jw_aload_n (pc' := 18) jd_Content_init_17 rfl rfl rfl ?_
  refine jw_iconst (pc' := 19) (v := nI 0) jd_Content_init_18 (by decide +kernel) rfl ?_
  refine jw_put (pc' := 22) (kf := 2) (ty := .boolean) (fs' := [_, _, _]) jc_Content (by decide) jq_108 jd_Content_init_19 rfl (by decide +kernel) (by assumption) rfl rfl rfl (Nat.le_of_ble_eq_true rfl) rfl (fun μ ha f9 => ?_)
  have hb := (f9 _ (by omega)).trans hb
  have hF := jw_Fr.step hF f9 (by omega)
  refine jw_vret hE jd_Content_init_22 rfl (by omega) (by omega) ?_
  exact ⟨rfl, rfl, ⟨ha, hb⟩, hF⟩
theorem bc_exists (h : bc_At o μ a n p g) (hp : b01 p) : jw_Ro mi_Content_exists 0 o [.ref a] μ hs (some (.int p)) := by
  refine jw_ro (by decide +kernel) (Nat.le_of_ble_eq_true rfl) rfl (fun k hR hE => ?_)
  obtain ⟨ha, hb⟩ := h
  refine jw_aload_n (pc' := 1) jd_Content_exists_0 rfl rfl rfl ?_
  refine jw_get (pc' := 4) (kf := 2) jc_Content (by decide) jq_108 jd_Content_exists_1 (by assumption) rfl rfl ?_
  exact jw_zret hE jd_Content_exists_4 rfl hp.nz (by omega) (by omega) ⟨rfl, rfl, rfl⟩
theorem bc_length (h : bc_At o μ a n p g) : jw_Ro mi_Content_length 0 o [.ref a] μ hs (some (.int (nI n))) := by
  refine jw_ro (by decide +kernel) (Nat.le_of_ble_eq_true rfl) rfl (fun k hR hE => ?_)
  obtain ⟨ha, hb⟩ := h
  refine jw_aload_n (pc' := 1) jd_Content_length_0 rfl rfl rfl ?_
  refine jw_get (pc' := 4) (kf := 1) jc_Content (by decide) jq_107 jd_Content_length_1 (by assumption) rfl rfl ?_
  refine jw_iret hE jd_Content_length_4 rfl (by omega) (by omega) ?_
  exact ⟨rfl, rfl, rfl⟩
theorem bc_isFull (h : bc_At o μ a n p g) (hn : n ≤ 10) : jw_Ro mi_Content_isFull 0 o [.ref a] μ hs (some (.int (if n < 10 then 0 else 1))) := by
  refine jw_ro (by decide +kernel) (Nat.le_of_ble_eq_true rfl) rfl (fun k hR hE => ?_)
  obtain ⟨ha, hb⟩ := h
  refine jw_aload_n (pc' := 1) jd_Content_isFull_0 rfl rfl rfl ?_
  refine jw_get (pc' := 4) (kf := 1) jc_Content (by decide) jq_107 jd_Content_isFull_1 (by assumption) rfl rfl ?_
  refine jw_bipush (pc' := 6) (v := nI 10) jd_Content_isFull_4 (by decide +kernel) rfl ?_
  refine jw_icmp_lt (tgt := 13) (pc' := 9) jd_Content_isFull_6 (by decide) rfl (fun c => ?_) (fun c => ?_)
  · have h2 : n < 10 := (nI_ltI (by omega) (by omega)).mp c
    refine jw_iconst (pc' := 14) (v := nI 0) jd_Content_isFull_13 (by decide +kernel) rfl ?_
    refine jw_zret hE jd_Content_isFull_14 rfl (by first | exact vp_nar_int _ | decide +kernel) (by omega) (by omega) ?_
    rw [if_pos h2]
    exact ⟨rfl, rfl, rfl⟩
  · have h2 : ¬ n < 10 := fun z => c ((nI_ltI (by omega) (by omega)).mpr z)
    refine jw_iconst (pc' := 10) (v := nI 1) jd_Content_isFull_9 (by decide +kernel) rfl ?_
    refine jw_goto (tgt := 14) jd_Content_isFull_10 (by decide) ?_
    refine jw_zret hE jd_Content_isFull_14 rfl (by first | exact vp_nar_int _ | decide +kernel) (by omega) (by omega) ?_
    rw [if_neg h2]
    exact ⟨rfl, rfl, rfl⟩
theorem bc_lineAt {j : Nat} (h : bc_At o μ a n p g) (hn : n ≤ 10) (hj : j < n) : jw_Ro mi_Content_lineAt 0 o [.ref a, .int (nI j)] μ hs (some (.int (g j))) := by
  refine jw_ro (by decide +kernel) (Nat.le_of_ble_eq_true rfl) rfl (fun k hR hE => ?_)
  obtain ⟨ha, hb⟩ := h
  refine jw_iload_n (pc' := 1) jd_Content_lineAt_0 rfl rfl rfl ?_
  refine jw_if_lt (tgt := 27) (pc' := 4) jd_Content_lineAt_1 (by decide) rfl (fun c => ?_) (fun c => ?_)
  · exact absurd c (nI_pos (by omega))
  refine jw_iload_n (pc' := 5) jd_Content_lineAt_4 rfl rfl rfl ?_
  refine jw_aload_n (pc' := 6) jd_Content_lineAt_5 rfl rfl rfl ?_
  refine jw_get (pc' := 9) (kf := 1) jc_Content (by decide) jq_107 jd_Content_lineAt_6 (by assumption) rfl rfl ?_
  refine jw_icmp_ge (tgt := 27) (pc' := 12) jd_Content_lineAt_9 (by decide) rfl (fun c => ?_) (fun c => ?_)
  · exact absurd ((nI_leI (by omega) (by omega)).mp c) (by omega)
  refine jw_iload_n (pc' := 13) jd_Content_lineAt_12 rfl rfl rfl ?_
  refine jw_bipush (pc' := 15) (v := nI 10) jd_Content_lineAt_13 (by decide +kernel) rfl ?_
  refine jw_icmp_ge (tgt := 27) (pc' := 18) jd_Content_lineAt_15 (by decide) rfl (fun c => ?_) (fun c => ?_)
  · exact absurd ((nI_leI (a := 10) (by omega) (by omega)).mp c) (by omega)
  refine jw_aload_n (pc' := 19) jd_Content_lineAt_18 rfl rfl rfl ?_
  refine jw_get (pc' := 22) (kf := 0) jc_Content (by decide) jq_106 jd_Content_lineAt_19 (by assumption) rfl rfl ?_
  refine jw_iload_n (pc' := 23) jd_Content_lineAt_22 rfl rfl rfl ?_
  refine jw_iald (pc' := 24) (i := 0) jd_Content_lineAt_23 (by assumption) rfl (vp_in_nI (by omega) (by omega)) (congrArg g (nI_clamp (by omega))) rfl ?_
  refine jw_goto (tgt := 28) jd_Content_lineAt_24 (by decide) ?_
  refine jw_iret hE jd_Content_lineAt_28 rfl (by omega) (by omega) ?_
  exact ⟨rfl, rfl, rfl⟩
theorem bc_becomeAbsent (h : bc_At o μ a n p g) : jw_Spec mi_Content_becomeAbsent 0 0 0 o [.ref a] μ hs (fun v μ' s' => v = none ∧ s' = hs ∧ bc_At o μ' a 0 0 g ∧ jw_Fr μ μ' a 2) := by
  refine jw_spec (by decide +kernel) (Nat.le_of_ble_eq_true rfl) rfl (fun k hR hE => ?_)
  obtain ⟨ha, hb⟩ := h
  have hF : jw_Fr μ μ a 2 := jw_Fr.rf
  refine jw_aload_n (pc' := 1) jd_Content_becomeAbsent_0 rfl rfl rfl ?_
  refine jw_iconst (pc' := 2) (v := nI 0) jd_Content_becomeAbsent_1 (by decide +kernel) rfl ?_
  refine jw_put (pc' := 5) (kf := 1) (ty := .int) (fs' := [_, _, _]) jc_Content (by decide) jq_107 jd_Content_becomeAbsent_2 rfl (by decide +kernel) (by assumption) rfl rfl rfl (Nat.le_of_ble_eq_true rfl) rfl (fun μ ha f9 => ?_)
  have hb := (f9 _ (by omega)).trans hb
  have hF := jw_Fr.step hF f9 (by omega)
  refine jw_aload_n (pc' := 6) jd_Content_becomeAbsent_5 rfl rfl rfl ?_
  refine jw_iconst (pc' := 7) (v := nI 0) jd_Content_becomeAbsent_6 (by decide +kernel) rfl ?_
  refine jw_put (pc' := 10) (kf := 2) (ty := .boolean) (fs' := [_, _, _]) jc_Content (by decide) jq_108 jd_Content_becomeAbsent_7 rfl (by decide +kernel) (by assumption) rfl rfl rfl (Nat.le_of_ble_eq_true rfl) rfl (fun μ ha f9 => ?_)
  have hb := (f9 _ (by omega)).trans hb
  have hF := jw_Fr.step hF f9 (by omega)
  refine jw_vret hE jd_Content_becomeAbsent_10 rfl (by omega) (by omega) ?_
  exact ⟨rfl, rfl, ⟨ha, hb⟩, hF⟩
/-- whether two contents are the same -/
def bc_same (n m : Nat) (p q : Int32) (f g : Nat → Int32) : Prop := p = q ∧ n = m ∧ ∀ j, j < n → f j = g j
theorem bc_sameAs {b m : Nat} {q : Int32} {f : Nat → Int32} (h : bc_At o μ a n p g) (hp : b01 p) (hn : n ≤ 10) (h2 : bc_At o μ b m q f) (hq : b01 q) (hm : m ≤ 10) {r : Int32} (hr : (r = 1 ∧ bc_same n m p q g f) ∨ (r = 0 ∧ ¬ bc_same n m p q g f)) : jw_Ro mi_Content_sameAs 1 o [.ref a, .ref b] μ hs (some (.int r)) := by
  refine jw_ro (by decide +kernel) (Nat.le_of_ble_eq_true rfl) rfl (fun k hR hE => ?_)
  have h1 := h
  obtain ⟨ha, ha1⟩ := h
  have hb := h2.1
  have hno : ¬ bc_same n m p q g f → r = 0 := fun z => hr.elim (fun y => absurd y.2 z) (fun y => y.1)
  have hyes : bc_same n m p q g f → r = 1 := fun z => hr.elim (fun y => y.1) (fun y => absurd z y.2)
  refine jw_aload_n (pc' := 1) jd_Content_sameAs_0 rfl rfl rfl ?_
  refine jw_get (pc' := 4) (kf := 2) jc_Content (by decide) jq_108 jd_Content_sameAs_1 (by assumption) rfl rfl ?_
  refine jw_aload_n (pc' := 5) jd_Content_sameAs_4 rfl rfl rfl ?_
  refine jw_callV0 (pc' := 8) hR (bc_exists h2 hq) jm_Content_exists jq_537 jc_Content jd_Content_sameAs_5 (by assumption) rfl rfl (Nat.le_of_ble_eq_true rfl) (by omega) (by decide) (by omega) (by omega) rfl rfl ?_
  refine jw_icmp_ne (tgt := 22) (pc' := 11) jd_Content_sameAs_8 (by decide) rfl (fun c => ?_) (fun c => ?_)
  · refine jw_iconst (pc' := 23) (v := nI 0) jd_Content_sameAs_22 (by decide +kernel) rfl ?_
    refine jw_zret hE jd_Content_sameAs_23 rfl (by first | exact vp_nar_int _ | decide +kernel) (by omega) (by omega) ?_
    have h0 := hno (fun z => c (by rw [z.1]))
    subst h0
    exact ⟨rfl, rfl, rfl⟩
  refine jw_aload_n (pc' := 12) jd_Content_sameAs_11 rfl rfl rfl ?_
  refine jw_get (pc' := 15) (kf := 1) jc_Content (by decide) jq_107 jd_Content_sameAs_12 (by assumption) rfl rfl ?_
  refine jw_aload_n (pc' := 16) jd_Content_sameAs_15 rfl rfl rfl ?_
  refine jw_callV0 (pc' := 19) hR (bc_length h2) jm_Content_length jq_538 jc_Content jd_Content_sameAs_16 (by assumption) rfl rfl (Nat.le_of_ble_eq_true rfl) (by omega) (by decide) (by omega) (by omega) rfl rfl ?_
  refine jw_icmp_eq (tgt := 24) (pc' := 22) jd_Content_sameAs_19 (by decide) rfl (fun c2 => ?_) (fun c2 => ?_)
  rotate_left
  · refine jw_iconst (pc' := 23) (v := nI 0) jd_Content_sameAs_22 (by decide +kernel) rfl ?_
    refine jw_zret hE jd_Content_sameAs_23 rfl (by first | exact vp_nar_int _ | decide +kernel) (by omega) (by omega) ?_
    have h0 := hno (fun z => c2 (by rw [z.2.1]))
    subst h0
    exact ⟨rfl, rfl, rfl⟩
  have hnm : n = m := (nI_eq (by omega) (by omega)).mp c2
  refine jw_iconst (pc' := 25) (v := nI 0) jd_Content_sameAs_24 (by decide +kernel) rfl ?_
  refine jw_istore_n (pc' := 26) (lc' := [(0, _), (1, _), (2, _)]) jd_Content_sameAs_25 rfl (Nat.le_of_ble_eq_true rfl) ⟨rfl, rfl, rfl, trivial⟩ rfl ?_
  have loop : ∀ d i : Nat, i + d = n → (∀ j, j < i → g j = f j) → jw_X mi_Content_sameAs o k 0 0 26 [(0, .ref a), (1, .ref b), (2, .int (nI i))] [] μ hs := by
    intro d
    induction d with
    | zero =>
      intro i hi hs1
      refine jw_iload_n (pc' := 27) jd_Content_sameAs_26 rfl rfl rfl ?_
      refine jw_aload_n (pc' := 28) jd_Content_sameAs_27 rfl rfl rfl ?_
      refine jw_get (pc' := 31) (kf := 1) jc_Content (by decide) jq_107 jd_Content_sameAs_28 (by assumption) rfl rfl ?_
      refine jw_icmp_ge (tgt := 56) (pc' := 34) jd_Content_sameAs_31 (by decide) rfl (fun c3 => ?_) (fun c3 => ?_)
      · refine jw_iconst (pc' := 57) (v := nI 1) jd_Content_sameAs_56 (by decide +kernel) rfl ?_
        refine jw_zret hE jd_Content_sameAs_57 rfl (by first | exact vp_nar_int _ | decide +kernel) (by omega) (by omega) ?_
        have h0 := hyes ⟨c, hnm, fun j hj => hs1 j (by omega)⟩
        subst h0
        exact ⟨rfl, rfl, rfl⟩
      · exact absurd (nI_le (by omega) (by omega)) c3
    | succ d ih =>
      intro i hi hs1
      refine jw_iload_n (pc' := 27) jd_Content_sameAs_26 rfl rfl rfl ?_
      refine jw_aload_n (pc' := 28) jd_Content_sameAs_27 rfl rfl rfl ?_
      refine jw_get (pc' := 31) (kf := 1) jc_Content (by decide) jq_107 jd_Content_sameAs_28 (by assumption) rfl rfl ?_
      refine jw_icmp_ge (tgt := 56) (pc' := 34) jd_Content_sameAs_31 (by decide) rfl (fun c3 => ?_) (fun c3 => ?_)
      · exact absurd ((nI_leI (by omega) (by omega)).mp c3) (by omega)
      refine jw_aload_n (pc' := 35) jd_Content_sameAs_34 rfl rfl rfl ?_
      refine jw_get (pc' := 38) (kf := 0) jc_Content (by decide) jq_106 jd_Content_sameAs_35 (by assumption) rfl rfl ?_
      refine jw_iload_n (pc' := 39) jd_Content_sameAs_38 rfl rfl rfl ?_
      refine jw_iald (pc' := 40) (i := 0) jd_Content_sameAs_39 (by assumption) rfl (vp_in_nI (by omega) (by omega)) (congrArg g (nI_clamp (by omega))) rfl ?_
      refine jw_aload_n (pc' := 41) jd_Content_sameAs_40 rfl rfl rfl ?_
      refine jw_iload_n (pc' := 42) jd_Content_sameAs_41 rfl rfl rfl ?_
      refine jw_callV0 (pc' := 45) hR (bc_lineAt h2 hm (by omega)) jm_Content_lineAt jq_539 jc_Content jd_Content_sameAs_42 (by assumption) rfl rfl (Nat.le_of_ble_eq_true rfl) (by omega) (by decide) (by omega) (by omega) rfl rfl ?_
      refine jw_icmp_eq (tgt := 50) (pc' := 48) jd_Content_sameAs_45 (by decide) rfl (fun c4 => ?_) (fun c4 => ?_)
      · refine jw_iinc (pc' := 53) (lc' := [(0, _), (1, _), (2, _)]) jd_Content_sameAs_50 rfl (nI_1 _) (Nat.le_of_ble_eq_true rfl) ⟨rfl, rfl, rfl, trivial⟩ rfl ?_
        refine jw_goto (tgt := 26) jd_Content_sameAs_53 (by decide) ?_
        exact ih (i + 1) (by omega) (fun j hj => by
          rcases Nat.lt_or_ge j i with z | z
          · exact hs1 j z
          · rw [show j = i by omega]; exact c4)
      · refine jw_iconst (pc' := 49) (v := nI 0) jd_Content_sameAs_48 (by decide +kernel) rfl ?_
        refine jw_zret hE jd_Content_sameAs_49 rfl (by first | exact vp_nar_int _ | decide +kernel) (by omega) (by omega) ?_
        have h0 := hno (fun z => c4 (z.2.2 i (by omega)))
        subst h0
        exact ⟨rfl, rfl, rfl⟩
  exact loop n 0 (by omega) (fun j hj => by omega)
end
end
section
theorem jd_Tree_init_0 : decode mi_Tree_init.2.1 0 = .ok (.aload_n 0, 1) := by decide +kernel
theorem jd_Tree_init_1 : decode mi_Tree_init.2.1 1 = .ok (.invokespecial 3, 3) := by decide +kernel
theorem jd_Tree_init_4 : decode mi_Tree_init.2.1 4 = .ok (.aload_n 0, 1) := by decide +kernel
theorem jd_Tree_init_5 : decode mi_Tree_init.2.1 5 = .ok (.bipush 12, 2) := by decide +kernel
theorem jd_Tree_init_7 : decode mi_Tree_init.2.1 7 = .ok (.anewarray 9, 3) := by decide +kernel
theorem jd_Tree_init_10 : decode mi_Tree_init.2.1 10 = .ok (.putfield 11, 3) := by decide +kernel
theorem jd_Tree_init_13 : decode mi_Tree_init.2.1 13 = .ok (.aload_n 0, 1) := by decide +kernel
theorem jd_Tree_init_14 : decode mi_Tree_init.2.1 14 = .ok (.new 9, 3) := by decide +kernel
theorem jd_Tree_init_17 : decode mi_Tree_init.2.1 17 = .ok (.dup, 1) := by decide +kernel
theorem jd_Tree_init_18 : decode mi_Tree_init.2.1 18 = .ok (.invokespecial 17, 3) := by decide +kernel
theorem jd_Tree_init_21 : decode mi_Tree_init.2.1 21 = .ok (.putfield 18, 3) := by decide +kernel
theorem jd_Tree_init_24 : decode mi_Tree_init.2.1 24 = .ok (.iconst 0, 1) := by decide +kernel
theorem jd_Tree_init_25 : decode mi_Tree_init.2.1 25 = .ok (.istore_n 1, 1) := by decide +kernel
theorem jd_Tree_init_26 : decode mi_Tree_init.2.1 26 = .ok (.iload_n 1, 1) := by decide +kernel
theorem jd_Tree_init_27 : decode mi_Tree_init.2.1 27 = .ok (.bipush 12, 2) := by decide +kernel
theorem jd_Tree_init_29 : decode mi_Tree_init.2.1 29 = .ok (.if_icmp .ge 22, 3) := by decide +kernel
theorem jd_Tree_init_32 : decode mi_Tree_init.2.1 32 = .ok (.aload_n 0, 1) := by decide +kernel
theorem jd_Tree_init_33 : decode mi_Tree_init.2.1 33 = .ok (.getfield 11, 3) := by decide +kernel
theorem jd_Tree_init_36 : decode mi_Tree_init.2.1 36 = .ok (.iload_n 1, 1) := by decide +kernel
theorem jd_Tree_init_37 : decode mi_Tree_init.2.1 37 = .ok (.new 9, 3) := by decide +kernel
theorem jd_Tree_init_40 : decode mi_Tree_init.2.1 40 = .ok (.dup, 1) := by decide +kernel
theorem jd_Tree_init_41 : decode mi_Tree_init.2.1 41 = .ok (.invokespecial 17, 3) := by decide +kernel
theorem jd_Tree_init_44 : decode mi_Tree_init.2.1 44 = .ok (.aastore, 1) := by decide +kernel
theorem jd_Tree_init_45 : decode mi_Tree_init.2.1 45 = .ok (.iinc 1 1, 3) := by decide +kernel
theorem jd_Tree_init_48 : decode mi_Tree_init.2.1 48 = .ok (.goto (-22), 3) := by decide +kernel
theorem jd_Tree_init_51 : decode mi_Tree_init.2.1 51 = .ok (.return_, 1) := by decide +kernel
theorem jd_Tree_fileAt_0 : decode mi_Tree_fileAt.2.1 0 = .ok (.iload_n 1, 1) := by decide +kernel
theorem jd_Tree_fileAt_1 : decode mi_Tree_fileAt.2.1 1 = .ok (.ifCond .lt 18, 3) := by decide +kernel
theorem jd_Tree_fileAt_4 : decode mi_Tree_fileAt.2.1 4 = .ok (.iload_n 1, 1) := by decide +kernel
theorem jd_Tree_fileAt_5 : decode mi_Tree_fileAt.2.1 5 = .ok (.bipush 12, 2) := by decide +kernel
theorem jd_Tree_fileAt_7 : decode mi_Tree_fileAt.2.1 7 = .ok (.if_icmp .ge 12, 3) := by decide +kernel
theorem jd_Tree_fileAt_10 : decode mi_Tree_fileAt.2.1 10 = .ok (.aload_n 0, 1) := by decide +kernel
theorem jd_Tree_fileAt_11 : decode mi_Tree_fileAt.2.1 11 = .ok (.getfield 11, 3) := by decide +kernel
theorem jd_Tree_fileAt_14 : decode mi_Tree_fileAt.2.1 14 = .ok (.iload_n 1, 1) := by decide +kernel
theorem jd_Tree_fileAt_15 : decode mi_Tree_fileAt.2.1 15 = .ok (.aaload, 1) := by decide +kernel
theorem jd_Tree_fileAt_16 : decode mi_Tree_fileAt.2.1 16 = .ok (.goto 7, 3) := by decide +kernel
theorem jd_Tree_fileAt_19 : decode mi_Tree_fileAt.2.1 19 = .ok (.aload_n 0, 1) := by decide +kernel
theorem jd_Tree_fileAt_20 : decode mi_Tree_fileAt.2.1 20 = .ok (.getfield 18, 3) := by decide +kernel
theorem jd_Tree_fileAt_23 : decode mi_Tree_fileAt.2.1 23 = .ok (.areturn, 1) := by decide +kernel
theorem jd_Tree_has_0 : decode mi_Tree_has.2.1 0 = .ok (.aload_n 0, 1) := by decide +kernel
theorem jd_Tree_has_1 : decode mi_Tree_has.2.1 1 = .ok (.iload_n 1, 1) := by decide +kernel
theorem jd_Tree_has_2 : decode mi_Tree_has.2.1 2 = .ok (.invokevirtual 22, 3) := by decide +kernel
theorem jd_Tree_has_5 : decode mi_Tree_has.2.1 5 = .ok (.invokevirtual 26, 3) := by decide +kernel
theorem jd_Tree_has_8 : decode mi_Tree_has.2.1 8 = .ok (.ireturn, 1) := by decide +kernel
theorem jd_Tree_countFiles_0 : decode mi_Tree_countFiles.2.1 0 = .ok (.iconst 0, 1) := by decide +kernel
theorem jd_Tree_countFiles_1 : decode mi_Tree_countFiles.2.1 1 = .ok (.istore_n 1, 1) := by decide +kernel
theorem jd_Tree_countFiles_2 : decode mi_Tree_countFiles.2.1 2 = .ok (.iconst 0, 1) := by decide +kernel
theorem jd_Tree_countFiles_3 : decode mi_Tree_countFiles.2.1 3 = .ok (.istore_n 2, 1) := by decide +kernel
theorem jd_Tree_countFiles_4 : decode mi_Tree_countFiles.2.1 4 = .ok (.iload_n 2, 1) := by decide +kernel
theorem jd_Tree_countFiles_5 : decode mi_Tree_countFiles.2.1 5 = .ok (.bipush 12, 2) := by decide +kernel
theorem jd_Tree_countFiles_7 : decode mi_Tree_countFiles.2.1 7 = .ok (.if_icmp .ge 20, 3) := by decide +kernel
theorem jd_Tree_countFiles_10 : decode mi_Tree_countFiles.2.1 10 = .ok (.aload_n 0, 1) := by decide +kernel
theorem jd_Tree_countFiles_11 : decode mi_Tree_countFiles.2.1 11 = .ok (.iload_n 2, 1) := by decide +kernel
theorem jd_Tree_countFiles_12 : decode mi_Tree_countFiles.2.1 12 = .ok (.invokevirtual 30, 3) := by decide +kernel
theorem jd_Tree_countFiles_15 : decode mi_Tree_countFiles.2.1 15 = .ok (.ifCond .eq 6, 3) := by decide +kernel
theorem jd_Tree_countFiles_18 : decode mi_Tree_countFiles.2.1 18 = .ok (.iinc 1 1, 3) := by decide +kernel
theorem jd_Tree_countFiles_21 : decode mi_Tree_countFiles.2.1 21 = .ok (.iinc 2 1, 3) := by decide +kernel
theorem jd_Tree_countFiles_24 : decode mi_Tree_countFiles.2.1 24 = .ok (.goto (-20), 3) := by decide +kernel
theorem jd_Tree_countFiles_27 : decode mi_Tree_countFiles.2.1 27 = .ok (.iload_n 1, 1) := by decide +kernel
theorem jd_Tree_countFiles_28 : decode mi_Tree_countFiles.2.1 28 = .ok (.ireturn, 1) := by decide +kernel
theorem jd_Tree_sameAs_0 : decode mi_Tree_sameAs.2.1 0 = .ok (.iconst 0, 1) := by decide +kernel
theorem jd_Tree_sameAs_1 : decode mi_Tree_sameAs.2.1 1 = .ok (.istore_n 2, 1) := by decide +kernel
theorem jd_Tree_sameAs_2 : decode mi_Tree_sameAs.2.1 2 = .ok (.iload_n 2, 1) := by decide +kernel
theorem jd_Tree_sameAs_3 : decode mi_Tree_sameAs.2.1 3 = .ok (.bipush 12, 2) := by decide +kernel
theorem jd_Tree_sameAs_5 : decode mi_Tree_sameAs.2.1 5 = .ok (.if_icmp .ge 28, 3) := by decide +kernel
theorem jd_Tree_sameAs_8 : decode mi_Tree_sameAs.2.1 8 = .ok (.aload_n 0, 1) := by decide +kernel
theorem jd_Tree_sameAs_9 : decode mi_Tree_sameAs.2.1 9 = .ok (.getfield 11, 3) := by decide +kernel
theorem jd_Tree_sameAs_12 : decode mi_Tree_sameAs.2.1 12 = .ok (.iload_n 2, 1) := by decide +kernel
theorem jd_Tree_sameAs_13 : decode mi_Tree_sameAs.2.1 13 = .ok (.aaload, 1) := by decide +kernel
theorem jd_Tree_sameAs_14 : decode mi_Tree_sameAs.2.1 14 = .ok (.aload_n 1, 1) := by decide +kernel
theorem jd_Tree_sameAs_15 : decode mi_Tree_sameAs.2.1 15 = .ok (.iload_n 2, 1) := by decide +kernel
theorem jd_Tree_sameAs_16 : decode mi_Tree_sameAs.2.1 16 = .ok (.invokevirtual 22, 3) := by decide +kernel
theorem jd_Tree_sameAs_19 : decode mi_Tree_sameAs.2.1 19 = .ok (.invokevirtual 41, 3) := by decide +kernel
theorem jd_Tree_sameAs_22 : decode mi_Tree_sameAs.2.1 22 = .ok (.ifCond .ne 5, 3) := by decide +kernel
theorem jd_Tree_sameAs_25 : decode mi_Tree_sameAs.2.1 25 = .ok (.iconst 0, 1) := by decide +kernel
theorem jd_Tree_sameAs_26 : decode mi_Tree_sameAs.2.1 26 = .ok (.ireturn, 1) := by decide +kernel
theorem jd_Tree_sameAs_27 : decode mi_Tree_sameAs.2.1 27 = .ok (.iinc 2 1, 3) := by decide +kernel
theorem jd_Tree_sameAs_30 : decode mi_Tree_sameAs.2.1 30 = .ok (.goto (-28), 3) := by decide +kernel
theorem jd_Tree_sameAs_33 : decode mi_Tree_sameAs.2.1 33 = .ok (.iconst 1, 1) := by decide +kernel
theorem jd_Tree_sameAs_34 : decode mi_Tree_sameAs.2.1 34 = .ok (.ireturn, 1) := by decide +kernel
theorem jd_Tree_copyFrom_0 : decode mi_Tree_copyFrom.2.1 0 = .ok (.iconst 0, 1) := by decide +kernel
theorem jd_Tree_copyFrom_1 : decode mi_Tree_copyFrom.2.1 1 = .ok (.istore_n 2, 1) := by decide +kernel
theorem jd_Tree_copyFrom_2 : decode mi_Tree_copyFrom.2.1 2 = .ok (.iload_n 2, 1) := by decide +kernel
theorem jd_Tree_copyFrom_3 : decode mi_Tree_copyFrom.2.1 3 = .ok (.bipush 12, 2) := by decide +kernel
theorem jd_Tree_copyFrom_5 : decode mi_Tree_copyFrom.2.1 5 = .ok (.if_icmp .ge 23, 3) := by decide +kernel
theorem jd_Tree_copyFrom_8 : decode mi_Tree_copyFrom.2.1 8 = .ok (.aload_n 0, 1) := by decide +kernel
theorem jd_Tree_copyFrom_9 : decode mi_Tree_copyFrom.2.1 9 = .ok (.getfield 11, 3) := by decide +kernel
theorem jd_Tree_copyFrom_12 : decode mi_Tree_copyFrom.2.1 12 = .ok (.iload_n 2, 1) := by decide +kernel
theorem jd_Tree_copyFrom_13 : decode mi_Tree_copyFrom.2.1 13 = .ok (.aaload, 1) := by decide +kernel
theorem jd_Tree_copyFrom_14 : decode mi_Tree_copyFrom.2.1 14 = .ok (.aload_n 1, 1) := by decide +kernel
theorem jd_Tree_copyFrom_15 : decode mi_Tree_copyFrom.2.1 15 = .ok (.iload_n 2, 1) := by decide +kernel
theorem jd_Tree_copyFrom_16 : decode mi_Tree_copyFrom.2.1 16 = .ok (.invokevirtual 22, 3) := by decide +kernel
theorem jd_Tree_copyFrom_19 : decode mi_Tree_copyFrom.2.1 19 = .ok (.invokevirtual 37, 3) := by decide +kernel
theorem jd_Tree_copyFrom_22 : decode mi_Tree_copyFrom.2.1 22 = .ok (.iinc 2 1, 3) := by decide +kernel
theorem jd_Tree_copyFrom_25 : decode mi_Tree_copyFrom.2.1 25 = .ok (.goto (-23), 3) := by decide +kernel
theorem jd_Tree_copyFrom_28 : decode mi_Tree_copyFrom.2.1 28 = .ok (.return_, 1) := by decide +kernel
/-- a Tree's 28 cells: of each path the lines (N, G) and whether there is a file (Z) -/
def bt_At (o : jw_O) (μ : jw_Mem) (t : Nat) (N : Nat → Nat) (Z : Nat → Int32) (G : Nat → Nat → Int32) : Prop :=
  μ t = some (.inr (1, [.ref (t + 1), .ref (t + 2)])) ∧ (∃ F : Nat → Option Nat, μ (t + 1) = some (.inl (o.2.2.1 2, 12, .inr (.inr (.inr (.inr F))))) ∧ ∀ p, p < 12 → F p = some (t + 4 + 2 * p)) ∧ bc_At o μ (t + 2) 0 0 (fun _ => 0) ∧ (∀ p, p < 12 → bc_At o μ (t + 4 + 2 * p) (N p) (Z p) (G p)) ∧ ∀ p, p < 12 → N p ≤ 10 ∧ b01 (Z p)
theorem bt_At.fr {o : jw_O} {μ μ' : jw_Mem} {t b m : Nat} {N : Nat → Nat} {Z : Nat → Int32} {G : Nat → Nat → Int32} (h : bt_At o μ t N Z G) (f : jw_Fr μ μ' b m) (hd : t + 28 ≤ b ∨ b + m ≤ t) : bt_At o μ' t N Z G := by
  obtain ⟨h1, ⟨F, h2, h3⟩, h4, h5, h6⟩ := h
  exact ⟨(f _ (by omega)).trans h1, ⟨F, (f _ (by omega)).trans h2, h3⟩, h4.fr f (by omega), fun p hp => (h5 p hp).fr f (by omega), h6⟩
section
variable {o : jw_O} {μ : jw_Mem} {hs t : Nat} {N : Nat → Nat} {Z : Nat → Int32} {G : Nat → Nat → Int32}
theorem bt_init {x y : Value} (h0 : μ t = some (.inr (1, [x, y]))) : jw_Spec mi_Tree_init 2 27 181 o [.ref t] μ (t + 1) (fun v μ' s' => v = none ∧ s' = t + 28 ∧ bt_At o μ' t (fun _ => 0) (fun _ => 0) (fun _ _ => 0) ∧ jw_Fr μ μ' t 28) := by
  refine jw_spec (by decide +kernel) (Nat.le_of_ble_eq_true rfl) rfl (fun k hR hE => ?_)
  obtain ⟨μ0, hμ0⟩ : ∃ z, z = μ := ⟨_, rfl⟩
  have hF : jw_Fr μ0 μ t 28 := by rw [hμ0]; exact jw_Fr.rf
  refine jw_aload_n (pc' := 1) jd_Tree_init_0 rfl rfl rfl ?_
  refine jw_objInit (pc' := 4) hR jq_98 jd_Tree_init_1 (Nat.le_of_ble_eq_true rfl) (by omega) rfl ?_
  refine jw_aload_n (pc' := 5) jd_Tree_init_4 rfl rfl rfl ?_
  refine jw_bipush (pc' := 7) (v := nI 12) jd_Tree_init_5 (by decide +kernel) rfl ?_
  refine jw_newq (pc' := 10) (N := 12) (i := 2) (C := "Branchwork$Content") hR jq_99 (by decide +kernel) rfl jd_Tree_init_7 (by decide +kernel) (by decide +kernel) (by decide +kernel) (by omega) (by omega) rfl (fun μ h1 f9 => ?_)
  have h0 := (f9 _ (by omega)).trans h0
  have hF := jw_Fr.step hF f9 (by omega)
  refine jw_putF (pc' := 13) (kf := 0) (ty := (.array (.object "Branchwork$Content"))) (fs' := [_, _]) jc_Tree (by decide) jq_117 jd_Tree_init_10 rfl rfl rfl (by decide +kernel) (by assumption) rfl rfl rfl (Nat.le_of_ble_eq_true rfl) rfl (fun μ h0 f9 => ?_)
  have h1 := (f9 _ (by omega)).trans h1
  have hF := jw_Fr.step hF f9 (by omega)
  refine jw_aload_n (pc' := 14) jd_Tree_init_13 rfl rfl rfl ?_
  refine jw_new (pc' := 17) (fs := [.null, .int 0, .int 0]) hR jc_Content jq_99 jq_101 jq_57 jd_Tree_init_14 (by decide +kernel) (by omega) (by omega) rfl (fun μ hc f9 => ?_)
  have h0 := (f9 _ (by omega)).trans h0
  have h1 := (f9 _ (by omega)).trans h1
  have hF := jw_Fr.step hF f9 (by omega)
  refine jw_dup (pc' := 18) jd_Tree_init_17 rfl rfl ?_
  refine jw_callIN (pc' := 21) hR (bc_init hc) jm_Content_init jn_Tree_17 jd_Tree_init_18 rfl rfl (Nat.le_of_ble_eq_true rfl) (by omega) (by decide) (by omega) (by omega) rfl (fun v μ2 s2 q hle => ?_)
  obtain ⟨rfl, rfl, hC, f9⟩ := q
  have hF := hF.trans f9 (by omega) (by omega)
  have h0 := (f9 _ (by omega)).trans h0
  have h1 := (f9 _ (by omega)).trans h1
  refine jw_putF (pc' := 24) (kf := 1) (ty := (.object "Branchwork$Content")) (fs' := [_, _]) jc_Tree (by decide) jq_118 jd_Tree_init_21 rfl rfl rfl (by decide +kernel) (by assumption) rfl rfl rfl (Nat.le_of_ble_eq_true rfl) rfl (fun μ h0 f9 => ?_)
  have h1 := (f9 _ (by omega)).trans h1
  have hF := jw_Fr.step hF f9 (by omega)
  have hC := hC.fr (μ' := μ) (b := t) (m := 1) (fun q hq => f9 q (by omega)) (by omega)
  refine jw_iconst (pc' := 25) (v := nI 0) jd_Tree_init_24 (by decide +kernel) rfl ?_
  refine jw_istore_n (pc' := 26) (lc' := [(0, _), (1, _)]) jd_Tree_init_25 rfl (Nat.le_of_ble_eq_true rfl) ⟨rfl, rfl, trivial⟩ rfl ?_
  have loop : ∀ d i : Nat, i + d = 12 → ∀ (μ : jw_Mem), jw_Fr μ0 μ t 28 → μ t = some (.inr (1, [.ref (t + 1), .ref (t + 1 + 1)])) → (∃ F : Nat → Option Nat, μ (t + 1) = some (.inl (o.2.2.1 2, 12, .inr (.inr (.inr (.inr F))))) ∧ ∀ p, p < i → F p = some (t + 4 + 2 * p)) → bc_At o μ (t + 1 + 1) 0 0 (fun _ => 0) → (∀ p, p < i → bc_At o μ (t + 4 + 2 * p) 0 0 (fun _ => 0)) →
      jw_X mi_Tree_init o k (3 + 2 * i) (25 + 13 * i) 26 [(0, .ref t), (1, .int (nI i))] [] μ (t + 4 + 2 * i) := by
    intro d
    induction d with
    | zero =>
      intro i hi μ hF h0 h1 hC hA
      obtain rfl : i = 12 := by omega
      obtain ⟨F, h1, hFp⟩ := h1
      refine jw_iload_n (pc' := 27) jd_Tree_init_26 rfl rfl rfl ?_
      refine jw_bipush (pc' := 29) (v := nI 12) jd_Tree_init_27 (by decide +kernel) rfl ?_
      refine jw_icmp_ge (tgt := 51) (pc' := 32) jd_Tree_init_29 (by decide) rfl (fun c => ?_) (fun c => ?_)
      · refine jw_vret hE jd_Tree_init_51 rfl (by omega) (by omega) ?_
        exact ⟨rfl, rfl, ⟨h0, ⟨F, h1, hFp⟩, hC, hA, fun p _ => ⟨Nat.zero_le _, Or.inl rfl⟩⟩, hμ0 ▸ hF⟩
      · exact absurd (nI_le (by omega) (by omega)) c
    | succ d ih =>
      intro i hi μ hF h0 h1 hC hA
      obtain ⟨F, h1, hFp⟩ := h1
      obtain ⟨μ1, hμ1⟩ : ∃ z, z = μ := ⟨_, rfl⟩
      have hG : jw_Fr μ1 μ (t + 4 + 2 * i) 2 := by rw [hμ1]; exact jw_Fr.rf
      rw [← hμ1] at hC hA
      refine jw_iload_n (pc' := 27) jd_Tree_init_26 rfl rfl rfl ?_
      refine jw_bipush (pc' := 29) (v := nI 12) jd_Tree_init_27 (by decide +kernel) rfl ?_
      refine jw_icmp_ge (tgt := 51) (pc' := 32) jd_Tree_init_29 (by decide) rfl (fun c => ?_) (fun c => ?_)
      · exact absurd ((nI_leI (a := 12) (by omega) (by omega)).mp c) (by omega)
      refine jw_aload_n (pc' := 33) jd_Tree_init_32 rfl rfl rfl ?_
      refine jw_get (pc' := 36) (kf := 0) jc_Tree (by decide) jq_117 jd_Tree_init_33 (by assumption) rfl rfl ?_
      refine jw_iload_n (pc' := 37) jd_Tree_init_36 rfl rfl rfl ?_
      refine jw_new (pc' := 40) (fs := [.null, .int 0, .int 0]) hR jc_Content jq_99 jq_101 jq_57 jd_Tree_init_37 (by decide +kernel) (by omega) (by omega) rfl (fun μ hc f9 => ?_)
      have h0 := (f9 _ (by omega)).trans h0
      have h1 := (f9 _ (by omega)).trans h1
      have hF := jw_Fr.step hF f9 (by omega)
      refine jw_dup (pc' := 41) jd_Tree_init_40 rfl rfl ?_
      have hG := jw_Fr.step hG f9 (by omega)
      refine jw_callIN (pc' := 44) hR (bc_init hc) jm_Content_init jn_Tree_17 jd_Tree_init_41 rfl rfl (Nat.le_of_ble_eq_true rfl) (by omega) (by decide) (by omega) (by omega) rfl (fun v μ2 s2 q hle => ?_)
      obtain ⟨rfl, rfl, hD, f9⟩ := q
      have hF := hF.trans f9 (by omega) (by omega)
      have hG := hG.trans f9 (by omega) (by omega)
      have h0 := (f9 _ (by omega)).trans h0
      have h1 := (f9 _ (by omega)).trans h1
      have hc := hD.1
      refine jw_aast (pc' := 45) (i := 2) (ci := 0) (r := ("Branchwork$Content", F_Content, 3)) jd_Tree_init_44 (by assumption) rfl hc jc_Content (vp_in_nI (by omega) (by omega)) rfl (fun μ h1 f9 => ?_)
      have hF := jw_Fr.step hF f9 (by omega)
      have h0 := (f9 _ (by omega)).trans h0
      refine jw_iinc (pc' := 48) (lc' := [(0, _), (1, _)]) jd_Tree_init_45 rfl (nI_1 _) (Nat.le_of_ble_eq_true rfl) ⟨rfl, rfl, trivial⟩ rfl ?_
      refine jw_goto (tgt := 26) jd_Tree_init_48 (by decide) ?_
      refine jw_cnt (kc' := 3 + 2 * (i + 1)) (ks' := 25 + 13 * (i + 1)) (by omega) (by omega) ?_
      refine jw_hs (hs' := t + 4 + 2 * (i + 1)) (by omega) ?_
      have hD1 := hD.fr (jw_Fr.o f9) (by omega)
      refine ih (i + 1) (by omega) _ hF h0 ⟨_, h1, fun p hp => ?_⟩ ((hC.fr hG (by omega)).fr (b := t + 1) (m := 1) (fun q hq => f9 q (by omega)) (by omega)) (fun p hp => ?_)
      · rw [nI_clamp (by omega)]
        by_cases e : p = i
        · rw [e, va_up_self]
        · rw [va_up_ne _ _ e]; exact hFp p (by omega)
      · by_cases e : p = i
        · rw [e]; exact hD1
        · exact ((hA p (by omega)).fr hG (by omega)).fr (b := t + 1) (m := 1) (fun q hq => f9 q (by omega)) (by omega)
  exact jw_hs (hs' := t + 4 + 2 * 0) (by omega) (loop 12 0 (by omega) _ hF h0 ⟨_, h1, fun p hp => absurd hp (by omega)⟩ hC (fun p hp => absurd hp (by omega)))
theorem bt_fileAt {p : Nat} (h : bt_At o μ t N Z G) (hp : p < 12) : jw_Ro mi_Tree_fileAt 0 o [.ref t, .int (nI p)] μ hs (some (.ref (t + 4 + 2 * p))) := by
  refine jw_ro (by decide +kernel) (Nat.le_of_ble_eq_true rfl) rfl (fun k hR hE => ?_)
  obtain ⟨h0, ⟨F, h1, hFp⟩, -⟩ := h
  refine jw_iload_n (pc' := 1) jd_Tree_fileAt_0 rfl rfl rfl ?_
  refine jw_if_lt (tgt := 19) (pc' := 4) jd_Tree_fileAt_1 (by decide) rfl (fun c => ?_) (fun c => ?_)
  · exact absurd c (nI_pos (by omega))
  refine jw_iload_n (pc' := 5) jd_Tree_fileAt_4 rfl rfl rfl ?_
  refine jw_bipush (pc' := 7) (v := nI 12) jd_Tree_fileAt_5 (by decide +kernel) rfl ?_
  refine jw_icmp_ge (tgt := 19) (pc' := 10) jd_Tree_fileAt_7 (by decide) rfl (fun c => ?_) (fun c => ?_)
  · exact absurd ((nI_leI (a := 12) (by omega) (by omega)).mp c) (by omega)
  refine jw_aload_n (pc' := 11) jd_Tree_fileAt_10 rfl rfl rfl ?_
  refine jw_get (pc' := 14) (kf := 0) jc_Tree (by decide) jq_117 jd_Tree_fileAt_11 (by assumption) rfl rfl ?_
  refine jw_iload_n (pc' := 15) jd_Tree_fileAt_14 rfl rfl rfl ?_
  refine jw_aald (pc' := 16) (i := 2) jd_Tree_fileAt_15 (by assumption) rfl (vp_in_nI (by omega) (by omega)) (jw_rf (hFp p hp) (by omega)) rfl ?_
  refine jw_goto (tgt := 23) jd_Tree_fileAt_16 (by decide) ?_
  refine jw_aret hE jd_Tree_fileAt_23 rfl (by first | exact Or.inl ⟨_, rfl⟩ | exact Or.inr ⟨_, rfl⟩) (by first | exact Or.inr ⟨_, rfl⟩ | exact Or.inl rfl) (by omega) (by omega) ?_
  exact ⟨rfl, rfl, rfl⟩
theorem bt_fileOut {x : Int32} (h : bt_At o μ t N Z G) (hx : x < 0 ∨ nI 12 ≤ x) : jw_Ro mi_Tree_fileAt 0 o [.ref t, .int x] μ hs (some (.ref (t + 2))) := by
  refine jw_ro (by decide +kernel) (Nat.le_of_ble_eq_true rfl) rfl (fun k hR hE => ?_)
  obtain ⟨h0, ⟨F, h1, hFp⟩, -⟩ := h
  refine jw_iload_n (pc' := 1) jd_Tree_fileAt_0 rfl rfl rfl ?_
  refine jw_if_lt (tgt := 19) (pc' := 4) jd_Tree_fileAt_1 (by decide) rfl (fun c => ?_) (fun c => ?_)
  · refine jw_aload_n (pc' := 20) jd_Tree_fileAt_19 rfl rfl rfl ?_
    refine jw_get (pc' := 23) (kf := 1) jc_Tree (by decide) jq_118 jd_Tree_fileAt_20 (by assumption) rfl rfl ?_
    refine jw_aret hE jd_Tree_fileAt_23 rfl (by first | exact Or.inl ⟨_, rfl⟩ | exact Or.inr ⟨_, rfl⟩) (by first | exact Or.inr ⟨_, rfl⟩ | exact Or.inl rfl) (by omega) (by omega) ?_
    exact ⟨rfl, rfl, rfl⟩
  refine jw_iload_n (pc' := 5) jd_Tree_fileAt_4 rfl rfl rfl ?_
  refine jw_bipush (pc' := 7) (v := nI 12) jd_Tree_fileAt_5 (by decide +kernel) rfl ?_
  refine jw_icmp_ge (tgt := 19) (pc' := 10) jd_Tree_fileAt_7 (by decide) rfl (fun c2 => ?_) (fun c2 => ?_)
  · refine jw_aload_n (pc' := 20) jd_Tree_fileAt_19 rfl rfl rfl ?_
    refine jw_get (pc' := 23) (kf := 1) jc_Tree (by decide) jq_118 jd_Tree_fileAt_20 (by assumption) rfl rfl ?_
    refine jw_aret hE jd_Tree_fileAt_23 rfl (by first | exact Or.inl ⟨_, rfl⟩ | exact Or.inr ⟨_, rfl⟩) (by first | exact Or.inr ⟨_, rfl⟩ | exact Or.inl rfl) (by omega) (by omega) ?_
    exact ⟨rfl, rfl, rfl⟩
  · exact absurd hx (fun z => z.elim c c2)
theorem bt_has {p : Nat} (h : bt_At o μ t N Z G) (hp : p < 12) : jw_Ro mi_Tree_has 1 o [.ref t, .int (nI p)] μ hs (some (.int (Z p))) := by
  refine jw_ro (by decide +kernel) (Nat.le_of_ble_eq_true rfl) rfl (fun k hR hE => ?_)
  have hc := h.2.2.2.1 p hp
  have hz := (h.2.2.2.2 p hp).2
  have h0 := h.1
  have hc0 := hc.1
  refine jw_aload_n (pc' := 1) jd_Tree_has_0 rfl rfl rfl ?_
  refine jw_iload_n (pc' := 2) jd_Tree_has_1 rfl rfl rfl ?_
  refine jw_callV0 (pc' := 5) hR (bt_fileAt h hp) jm_Tree_fileAt jq_408 jc_Tree jd_Tree_has_2 (by assumption) rfl rfl (Nat.le_of_ble_eq_true rfl) (by omega) (by decide) (by omega) (by omega) rfl rfl ?_
  refine jw_callV0 (pc' := 8) hR (bc_exists hc hz) jm_Content_exists jq_409 jc_Content jd_Tree_has_5 (by assumption) rfl rfl (Nat.le_of_ble_eq_true rfl) (by omega) (by decide) (by omega) (by omega) rfl rfl ?_
  exact jw_zret hE jd_Tree_has_8 rfl hz.nz (by omega) (by omega) ⟨rfl, rfl, rfl⟩
theorem bt_hasOut {x : Int32} (h : bt_At o μ t N Z G) (hx : x < 0 ∨ nI 12 ≤ x) : jw_Ro mi_Tree_has 1 o [.ref t, .int x] μ hs (some (.int 0)) := by
  refine jw_ro (by decide +kernel) (Nat.le_of_ble_eq_true rfl) rfl (fun k hR hE => ?_)
  have hc := h.2.2.1
  have h0 := h.1
  have hc0 := hc.1
  refine jw_aload_n (pc' := 1) jd_Tree_has_0 rfl rfl rfl ?_
  refine jw_iload_n (pc' := 2) jd_Tree_has_1 rfl rfl rfl ?_
  refine jw_callV0 (pc' := 5) hR (bt_fileOut h hx) jm_Tree_fileAt jq_408 jc_Tree jd_Tree_has_2 (by assumption) rfl rfl (Nat.le_of_ble_eq_true rfl) (by omega) (by decide) (by omega) (by omega) rfl rfl ?_
  refine jw_callV0 (pc' := 8) hR (bc_exists hc (Or.inl rfl)) jm_Content_exists jq_409 jc_Content jd_Tree_has_5 (by assumption) rfl rfl (Nat.le_of_ble_eq_true rfl) (by omega) (by decide) (by omega) (by omega) rfl rfl ?_
  exact jw_zret hE jd_Tree_has_8 rfl (by decide) (by omega) (by omega) ⟨rfl, rfl, rfl⟩
/-- how many of the first i paths have a file -/
def bt_cnt (Z : Nat → Int32) : Nat → Nat
  | 0 => 0
  | i + 1 => bt_cnt Z i + if Z i = 0 then 0 else 1
theorem bt_cnt_le (Z : Nat → Int32) : ∀ i, bt_cnt Z i ≤ i
  | 0 => Nat.le_refl _
  | i + 1 => by
    have h := bt_cnt_le Z i
    unfold bt_cnt
    split <;> omega
theorem bt_countFiles (h : bt_At o μ t N Z G) : jw_Ro mi_Tree_countFiles 2 o [.ref t] μ hs (some (.int (nI (bt_cnt Z 12)))) := by
  refine jw_ro (by decide +kernel) (Nat.le_of_ble_eq_true rfl) rfl (fun k hR hE => ?_)
  have h0 := h.1
  refine jw_iconst (pc' := 1) (v := nI 0) jd_Tree_countFiles_0 (by decide +kernel) rfl ?_
  refine jw_istore_n (pc' := 2) (lc' := [(0, _), (1, _)]) jd_Tree_countFiles_1 rfl (Nat.le_of_ble_eq_true rfl) ⟨rfl, rfl, trivial⟩ rfl ?_
  refine jw_iconst (pc' := 3) (v := nI 0) jd_Tree_countFiles_2 (by decide +kernel) rfl ?_
  refine jw_istore_n (pc' := 4) (lc' := [(0, _), (1, _), (2, _)]) jd_Tree_countFiles_3 rfl (Nat.le_of_ble_eq_true rfl) ⟨rfl, rfl, rfl, trivial⟩ rfl ?_
  have loop : ∀ d i : Nat, i + d = 12 → jw_X mi_Tree_countFiles o k 0 0 4 [(0, .ref t), (1, .int (nI (bt_cnt Z i))), (2, .int (nI i))] [] μ hs := by
    intro d
    induction d with
    | zero =>
      intro i hi
      obtain rfl : i = 12 := by omega
      refine jw_iload_n (pc' := 5) jd_Tree_countFiles_4 rfl rfl rfl ?_
      refine jw_bipush (pc' := 7) (v := nI 12) jd_Tree_countFiles_5 (by decide +kernel) rfl ?_
      refine jw_icmp_ge (tgt := 27) (pc' := 10) jd_Tree_countFiles_7 (by decide) rfl (fun c => ?_) (fun c => ?_)
      · refine jw_iload_n (pc' := 28) jd_Tree_countFiles_27 rfl rfl rfl ?_
        refine jw_iret hE jd_Tree_countFiles_28 rfl (by omega) (by omega) ?_
        exact ⟨rfl, rfl, rfl⟩
      · exact absurd (nI_le (by omega) (by omega)) c
    | succ d ih =>
      intro i hi
      have hb := bt_cnt_le Z i
      refine jw_iload_n (pc' := 5) jd_Tree_countFiles_4 rfl rfl rfl ?_
      refine jw_bipush (pc' := 7) (v := nI 12) jd_Tree_countFiles_5 (by decide +kernel) rfl ?_
      refine jw_icmp_ge (tgt := 27) (pc' := 10) jd_Tree_countFiles_7 (by decide) rfl (fun c => ?_) (fun c => ?_)
      · exact absurd ((nI_leI (a := 12) (by omega) (by omega)).mp c) (by omega)
      refine jw_aload_n (pc' := 11) jd_Tree_countFiles_10 rfl rfl rfl ?_
      refine jw_iload_n (pc' := 12) jd_Tree_countFiles_11 rfl rfl rfl ?_
      refine jw_callV0 (pc' := 15) hR (bt_has h (by omega)) jm_Tree_has jq_404 jc_Tree jd_Tree_countFiles_12 (by assumption) rfl rfl (Nat.le_of_ble_eq_true rfl) (by omega) (by decide) (by omega) (by omega) rfl rfl ?_
      refine jw_if_eq (tgt := 21) (pc' := 18) jd_Tree_countFiles_15 (by decide) rfl (fun c2 => ?_) (fun c2 => ?_)
      · refine jw_iinc (pc' := 24) (lc' := [(0, _), (1, _), (2, _)]) jd_Tree_countFiles_21 rfl (nI_1 _) (Nat.le_of_ble_eq_true rfl) ⟨rfl, rfl, rfl, trivial⟩ rfl ?_
        refine jw_goto (tgt := 4) jd_Tree_countFiles_24 (by decide) ?_
        have e : bt_cnt Z (i + 1) = bt_cnt Z i := by show bt_cnt Z i + _ = _; rw [if_pos c2]; rfl
        have := ih (i + 1) (by omega)
        rw [e] at this
        exact this
      · refine jw_iinc (pc' := 21) (lc' := [(0, _), (1, _), (2, _)]) jd_Tree_countFiles_18 rfl (nI_1 _) (Nat.le_of_ble_eq_true rfl) ⟨rfl, rfl, rfl, trivial⟩ rfl ?_
        refine jw_iinc (pc' := 24) (lc' := [(0, _), (1, _), (2, _)]) jd_Tree_countFiles_21 rfl (nI_1 _) (Nat.le_of_ble_eq_true rfl) ⟨rfl, rfl, rfl, trivial⟩ rfl ?_
        refine jw_goto (tgt := 4) jd_Tree_countFiles_24 (by decide) ?_
        have e : bt_cnt Z (i + 1) = bt_cnt Z i + 1 := by show bt_cnt Z i + _ = _; rw [if_neg c2]
        have := ih (i + 1) (by omega)
        rw [e] at this
        exact this
  exact loop 12 0 (by omega)
/-- whether two trees are the same -/
def bt_same (N M : Nat → Nat) (Z Y : Nat → Int32) (G K : Nat → Nat → Int32) : Prop := ∀ p, p < 12 → bc_same (N p) (M p) (Z p) (Y p) (G p) (K p)
theorem bt_sameAs {u : Nat} {M : Nat → Nat} {Y : Nat → Int32} {K : Nat → Nat → Int32} (h : bt_At o μ t N Z G) (h2 : bt_At o μ u M Y K) {r : Int32} (hr : (r = 1 ∧ bt_same N M Z Y G K) ∨ (r = 0 ∧ ¬ bt_same N M Z Y G K)) : jw_Ro mi_Tree_sameAs 2 o [.ref t, .ref u] μ hs (some (.int r)) := by
  refine jw_ro (by decide +kernel) (Nat.le_of_ble_eq_true rfl) rfl (fun k hR hE => ?_)
  have h0 := h.1
  have h3 := h2.1
  obtain ⟨F, h1, hFp⟩ := h.2.1
  have hno : ¬ bt_same N M Z Y G K → r = 0 := fun z => hr.elim (fun y => absurd y.2 z) (fun y => y.1)
  have hyes : bt_same N M Z Y G K → r = 1 := fun z => hr.elim (fun y => y.1) (fun y => absurd z y.2)
  refine jw_iconst (pc' := 1) (v := nI 0) jd_Tree_sameAs_0 (by decide +kernel) rfl ?_
  refine jw_istore_n (pc' := 2) (lc' := [(0, _), (1, _), (2, _)]) jd_Tree_sameAs_1 rfl (Nat.le_of_ble_eq_true rfl) ⟨rfl, rfl, rfl, trivial⟩ rfl ?_
  have loop : ∀ d i : Nat, i + d = 12 → (∀ p, p < i → bc_same (N p) (M p) (Z p) (Y p) (G p) (K p)) → jw_X mi_Tree_sameAs o k 0 0 2 [(0, .ref t), (1, .ref u), (2, .int (nI i))] [] μ hs := by
    intro d
    induction d with
    | zero =>
      intro i hi hs1
      refine jw_iload_n (pc' := 3) jd_Tree_sameAs_2 rfl rfl rfl ?_
      refine jw_bipush (pc' := 5) (v := nI 12) jd_Tree_sameAs_3 (by decide +kernel) rfl ?_
      refine jw_icmp_ge (tgt := 33) (pc' := 8) jd_Tree_sameAs_5 (by decide) rfl (fun c => ?_) (fun c => ?_)
      · refine jw_iconst (pc' := 34) (v := nI 1) jd_Tree_sameAs_33 (by decide +kernel) rfl ?_
        refine jw_zret hE jd_Tree_sameAs_34 rfl (by first | exact vp_nar_int _ | decide +kernel) (by omega) (by omega) ?_
        have e := hyes (fun p hp => hs1 p (by omega))
        subst e
        exact ⟨rfl, rfl, rfl⟩
      · exact absurd (nI_le (by omega) (by omega)) c
    | succ d ih =>
      intro i hi hs1
      have ca := h.2.2.2.1 i (by omega)
      have cb := h2.2.2.2.1 i (by omega)
      have na := h.2.2.2.2 i (by omega)
      have nb := h2.2.2.2.2 i (by omega)
      have ca0 := ca.1
      refine jw_iload_n (pc' := 3) jd_Tree_sameAs_2 rfl rfl rfl ?_
      refine jw_bipush (pc' := 5) (v := nI 12) jd_Tree_sameAs_3 (by decide +kernel) rfl ?_
      refine jw_icmp_ge (tgt := 33) (pc' := 8) jd_Tree_sameAs_5 (by decide) rfl (fun c => ?_) (fun c => ?_)
      · exact absurd ((nI_leI (a := 12) (by omega) (by omega)).mp c) (by omega)
      refine jw_aload_n (pc' := 9) jd_Tree_sameAs_8 rfl rfl rfl ?_
      refine jw_get (pc' := 12) (kf := 0) jc_Tree (by decide) jq_117 jd_Tree_sameAs_9 (by assumption) rfl rfl ?_
      refine jw_iload_n (pc' := 13) jd_Tree_sameAs_12 rfl rfl rfl ?_
      refine jw_aald (pc' := 14) (i := 2) jd_Tree_sameAs_13 (by assumption) rfl (vp_in_nI (by omega) (by omega)) (jw_rf (hFp i (by omega)) (by omega)) rfl ?_
      refine jw_aload_n (pc' := 15) jd_Tree_sameAs_14 rfl rfl rfl ?_
      refine jw_iload_n (pc' := 16) jd_Tree_sameAs_15 rfl rfl rfl ?_
      refine jw_callV0 (pc' := 19) hR (bt_fileAt h2 (by omega)) jm_Tree_fileAt jq_408 jc_Tree jd_Tree_sameAs_16 (by assumption) rfl rfl (Nat.le_of_ble_eq_true rfl) (by omega) (by decide) (by omega) (by omega) rfl rfl ?_
      by_cases hsm : bc_same (N i) (M i) (Z i) (Y i) (G i) (K i)
      · refine jw_callV0 (pc' := 22) hR (bc_sameAs ca na.2 na.1 cb nb.2 nb.1 (Or.inl ⟨rfl, hsm⟩)) jm_Content_sameAs jq_708 jc_Content jd_Tree_sameAs_19 (by assumption) rfl rfl (Nat.le_of_ble_eq_true rfl) (by omega) (by decide) (by omega) (by omega) rfl rfl ?_
        refine jw_if_ne (tgt := 27) (pc' := 25) jd_Tree_sameAs_22 (by decide) rfl (fun c2 => ?_) (fun c2 => ?_)
        · refine jw_iinc (pc' := 30) (lc' := [(0, _), (1, _), (2, _)]) jd_Tree_sameAs_27 rfl (nI_1 _) (Nat.le_of_ble_eq_true rfl) ⟨rfl, rfl, rfl, trivial⟩ rfl ?_
          refine jw_goto (tgt := 2) jd_Tree_sameAs_30 (by decide) ?_
          exact ih (i + 1) (by omega) (fun p hp => by
            rcases Nat.lt_or_ge p i with z | z
            · exact hs1 p z
            · rw [show p = i by omega]; exact hsm)
        · exact absurd c2 (by decide)
      · refine jw_callV0 (pc' := 22) hR (bc_sameAs ca na.2 na.1 cb nb.2 nb.1 (Or.inr ⟨rfl, hsm⟩)) jm_Content_sameAs jq_708 jc_Content jd_Tree_sameAs_19 (by assumption) rfl rfl (Nat.le_of_ble_eq_true rfl) (by omega) (by decide) (by omega) (by omega) rfl rfl ?_
        refine jw_if_ne (tgt := 27) (pc' := 25) jd_Tree_sameAs_22 (by decide) rfl (fun c2 => ?_) (fun c2 => ?_)
        · exact absurd rfl c2
        · refine jw_iconst (pc' := 26) (v := nI 0) jd_Tree_sameAs_25 (by decide +kernel) rfl ?_
          refine jw_zret hE jd_Tree_sameAs_26 rfl (by first | exact vp_nar_int _ | decide +kernel) (by omega) (by omega) ?_
          have e := hno (fun z => hsm (z i (by omega)))
          subst e
          exact ⟨rfl, rfl, rfl⟩
  exact loop 12 0 (by omega) (fun p hp => absurd hp (by omega))
end
end
section
theorem jd_Match_init_0 : decode mi_Match_init.2.1 0 = .ok (.aload_n 0, 1) := by decide +kernel
theorem jd_Match_init_1 : decode mi_Match_init.2.1 1 = .ok (.invokespecial 3, 3) := by decide +kernel
theorem jd_Match_init_4 : decode mi_Match_init.2.1 4 = .ok (.aload_n 0, 1) := by decide +kernel
theorem jd_Match_init_5 : decode mi_Match_init.2.1 5 = .ok (.bipush 121, 2) := by decide +kernel
theorem jd_Match_init_7 : decode mi_Match_init.2.1 7 = .ok (.newarray .int, 2) := by decide +kernel
theorem jd_Match_init_9 : decode mi_Match_init.2.1 9 = .ok (.putfield 11, 3) := by decide +kernel
theorem jd_Match_init_12 : decode mi_Match_init.2.1 12 = .ok (.aload_n 0, 1) := by decide +kernel
theorem jd_Match_init_13 : decode mi_Match_init.2.1 13 = .ok (.bipush 10, 2) := by decide +kernel
theorem jd_Match_init_15 : decode mi_Match_init.2.1 15 = .ok (.newarray .int, 2) := by decide +kernel
theorem jd_Match_init_17 : decode mi_Match_init.2.1 17 = .ok (.putfield 15, 3) := by decide +kernel
theorem jd_Match_init_20 : decode mi_Match_init.2.1 20 = .ok (.aload_n 0, 1) := by decide +kernel
theorem jd_Match_init_21 : decode mi_Match_init.2.1 21 = .ok (.bipush 10, 2) := by decide +kernel
theorem jd_Match_init_23 : decode mi_Match_init.2.1 23 = .ok (.newarray .int, 2) := by decide +kernel
theorem jd_Match_init_25 : decode mi_Match_init.2.1 25 = .ok (.putfield 18, 3) := by decide +kernel
theorem jd_Match_init_28 : decode mi_Match_init.2.1 28 = .ok (.return_, 1) := by decide +kernel
theorem jd_Renames_init_0 : decode mi_Renames_init.2.1 0 = .ok (.aload_n 0, 1) := by decide +kernel
theorem jd_Renames_init_1 : decode mi_Renames_init.2.1 1 = .ok (.invokespecial 3, 3) := by decide +kernel
theorem jd_Renames_init_4 : decode mi_Renames_init.2.1 4 = .ok (.aload_n 0, 1) := by decide +kernel
theorem jd_Renames_init_5 : decode mi_Renames_init.2.1 5 = .ok (.bipush 12, 2) := by decide +kernel
theorem jd_Renames_init_7 : decode mi_Renames_init.2.1 7 = .ok (.newarray .int, 2) := by decide +kernel
theorem jd_Renames_init_9 : decode mi_Renames_init.2.1 9 = .ok (.putfield 9, 3) := by decide +kernel
theorem jd_Renames_init_12 : decode mi_Renames_init.2.1 12 = .ok (.aload_n 0, 1) := by decide +kernel
theorem jd_Renames_init_13 : decode mi_Renames_init.2.1 13 = .ok (.bipush 12, 2) := by decide +kernel
theorem jd_Renames_init_15 : decode mi_Renames_init.2.1 15 = .ok (.newarray .int, 2) := by decide +kernel
theorem jd_Renames_init_17 : decode mi_Renames_init.2.1 17 = .ok (.putfield 15, 3) := by decide +kernel
theorem jd_Renames_init_20 : decode mi_Renames_init.2.1 20 = .ok (.aload_n 0, 1) := by decide +kernel
theorem jd_Renames_init_21 : decode mi_Renames_init.2.1 21 = .ok (.new 18, 3) := by decide +kernel
theorem jd_Renames_init_24 : decode mi_Renames_init.2.1 24 = .ok (.dup, 1) := by decide +kernel
theorem jd_Renames_init_25 : decode mi_Renames_init.2.1 25 = .ok (.invokespecial 20, 3) := by decide +kernel
theorem jd_Renames_init_28 : decode mi_Renames_init.2.1 28 = .ok (.putfield 21, 3) := by decide +kernel
theorem jd_Renames_init_31 : decode mi_Renames_init.2.1 31 = .ok (.aload_n 0, 1) := by decide +kernel
theorem jd_Renames_init_32 : decode mi_Renames_init.2.1 32 = .ok (.iconst 0, 1) := by decide +kernel
theorem jd_Renames_init_33 : decode mi_Renames_init.2.1 33 = .ok (.putfield 25, 3) := by decide +kernel
theorem jd_Renames_init_36 : decode mi_Renames_init.2.1 36 = .ok (.return_, 1) := by decide +kernel
theorem jd_Conflicts_init_0 : decode mi_Conflicts_init.2.1 0 = .ok (.aload_n 0, 1) := by decide +kernel
theorem jd_Conflicts_init_1 : decode mi_Conflicts_init.2.1 1 = .ok (.invokespecial 3, 3) := by decide +kernel
theorem jd_Conflicts_init_4 : decode mi_Conflicts_init.2.1 4 = .ok (.aload_n 0, 1) := by decide +kernel
theorem jd_Conflicts_init_5 : decode mi_Conflicts_init.2.1 5 = .ok (.bipush 24, 2) := by decide +kernel
theorem jd_Conflicts_init_7 : decode mi_Conflicts_init.2.1 7 = .ok (.newarray .int, 2) := by decide +kernel
theorem jd_Conflicts_init_9 : decode mi_Conflicts_init.2.1 9 = .ok (.putfield 9, 3) := by decide +kernel
theorem jd_Conflicts_init_12 : decode mi_Conflicts_init.2.1 12 = .ok (.aload_n 0, 1) := by decide +kernel
theorem jd_Conflicts_init_13 : decode mi_Conflicts_init.2.1 13 = .ok (.bipush 24, 2) := by decide +kernel
theorem jd_Conflicts_init_15 : decode mi_Conflicts_init.2.1 15 = .ok (.newarray .int, 2) := by decide +kernel
theorem jd_Conflicts_init_17 : decode mi_Conflicts_init.2.1 17 = .ok (.putfield 15, 3) := by decide +kernel
theorem jd_Conflicts_init_20 : decode mi_Conflicts_init.2.1 20 = .ok (.aload_n 0, 1) := by decide +kernel
theorem jd_Conflicts_init_21 : decode mi_Conflicts_init.2.1 21 = .ok (.iconst 0, 1) := by decide +kernel
theorem jd_Conflicts_init_22 : decode mi_Conflicts_init.2.1 22 = .ok (.putfield 18, 3) := by decide +kernel
theorem jd_Conflicts_init_25 : decode mi_Conflicts_init.2.1 25 = .ok (.return_, 1) := by decide +kernel
theorem jd_Blender_init_0 : decode mi_Blender_init.2.1 0 = .ok (.aload_n 0, 1) := by decide +kernel
theorem jd_Blender_init_1 : decode mi_Blender_init.2.1 1 = .ok (.invokespecial 3, 3) := by decide +kernel
theorem jd_Blender_init_4 : decode mi_Blender_init.2.1 4 = .ok (.aload_n 0, 1) := by decide +kernel
theorem jd_Blender_init_5 : decode mi_Blender_init.2.1 5 = .ok (.new 9, 3) := by decide +kernel
theorem jd_Blender_init_8 : decode mi_Blender_init.2.1 8 = .ok (.dup, 1) := by decide +kernel
theorem jd_Blender_init_9 : decode mi_Blender_init.2.1 9 = .ok (.invokespecial 11, 3) := by decide +kernel
theorem jd_Blender_init_12 : decode mi_Blender_init.2.1 12 = .ok (.putfield 12, 3) := by decide +kernel
theorem jd_Blender_init_15 : decode mi_Blender_init.2.1 15 = .ok (.aload_n 0, 1) := by decide +kernel
theorem jd_Blender_init_16 : decode mi_Blender_init.2.1 16 = .ok (.new 9, 3) := by decide +kernel
theorem jd_Blender_init_19 : decode mi_Blender_init.2.1 19 = .ok (.dup, 1) := by decide +kernel
theorem jd_Blender_init_20 : decode mi_Blender_init.2.1 20 = .ok (.invokespecial 11, 3) := by decide +kernel
theorem jd_Blender_init_23 : decode mi_Blender_init.2.1 23 = .ok (.putfield 18, 3) := by decide +kernel
theorem jd_Blender_init_26 : decode mi_Blender_init.2.1 26 = .ok (.aload_n 0, 1) := by decide +kernel
theorem jd_Blender_init_27 : decode mi_Blender_init.2.1 27 = .ok (.new 21, 3) := by decide +kernel
theorem jd_Blender_init_30 : decode mi_Blender_init.2.1 30 = .ok (.dup, 1) := by decide +kernel
theorem jd_Blender_init_31 : decode mi_Blender_init.2.1 31 = .ok (.invokespecial 23, 3) := by decide +kernel
theorem jd_Blender_init_34 : decode mi_Blender_init.2.1 34 = .ok (.putfield 24, 3) := by decide +kernel
theorem jd_Blender_init_37 : decode mi_Blender_init.2.1 37 = .ok (.aload_n 0, 1) := by decide +kernel
theorem jd_Blender_init_38 : decode mi_Blender_init.2.1 38 = .ok (.new 21, 3) := by decide +kernel
theorem jd_Blender_init_41 : decode mi_Blender_init.2.1 41 = .ok (.dup, 1) := by decide +kernel
theorem jd_Blender_init_42 : decode mi_Blender_init.2.1 42 = .ok (.invokespecial 23, 3) := by decide +kernel
theorem jd_Blender_init_45 : decode mi_Blender_init.2.1 45 = .ok (.putfield 28, 3) := by decide +kernel
theorem jd_Blender_init_48 : decode mi_Blender_init.2.1 48 = .ok (.aload_n 0, 1) := by decide +kernel
theorem jd_Blender_init_49 : decode mi_Blender_init.2.1 49 = .ok (.new 21, 3) := by decide +kernel
theorem jd_Blender_init_52 : decode mi_Blender_init.2.1 52 = .ok (.dup, 1) := by decide +kernel
theorem jd_Blender_init_53 : decode mi_Blender_init.2.1 53 = .ok (.invokespecial 23, 3) := by decide +kernel
theorem jd_Blender_init_56 : decode mi_Blender_init.2.1 56 = .ok (.putfield 31, 3) := by decide +kernel
theorem jd_Blender_init_59 : decode mi_Blender_init.2.1 59 = .ok (.return_, 1) := by decide +kernel
theorem jd_Merger_init_0 : decode mi_Merger_init.2.1 0 = .ok (.aload_n 0, 1) := by decide +kernel
theorem jd_Merger_init_1 : decode mi_Merger_init.2.1 1 = .ok (.invokespecial 3, 3) := by decide +kernel
theorem jd_Merger_init_4 : decode mi_Merger_init.2.1 4 = .ok (.aload_n 0, 1) := by decide +kernel
theorem jd_Merger_init_5 : decode mi_Merger_init.2.1 5 = .ok (.new 9, 3) := by decide +kernel
theorem jd_Merger_init_8 : decode mi_Merger_init.2.1 8 = .ok (.dup, 1) := by decide +kernel
theorem jd_Merger_init_9 : decode mi_Merger_init.2.1 9 = .ok (.invokespecial 11, 3) := by decide +kernel
theorem jd_Merger_init_12 : decode mi_Merger_init.2.1 12 = .ok (.putfield 12, 3) := by decide +kernel
theorem jd_Merger_init_15 : decode mi_Merger_init.2.1 15 = .ok (.aload_n 0, 1) := by decide +kernel
theorem jd_Merger_init_16 : decode mi_Merger_init.2.1 16 = .ok (.new 18, 3) := by decide +kernel
theorem jd_Merger_init_19 : decode mi_Merger_init.2.1 19 = .ok (.dup, 1) := by decide +kernel
theorem jd_Merger_init_20 : decode mi_Merger_init.2.1 20 = .ok (.invokespecial 20, 3) := by decide +kernel
theorem jd_Merger_init_23 : decode mi_Merger_init.2.1 23 = .ok (.putfield 21, 3) := by decide +kernel
theorem jd_Merger_init_26 : decode mi_Merger_init.2.1 26 = .ok (.aload_n 0, 1) := by decide +kernel
theorem jd_Merger_init_27 : decode mi_Merger_init.2.1 27 = .ok (.new 25, 3) := by decide +kernel
theorem jd_Merger_init_30 : decode mi_Merger_init.2.1 30 = .ok (.dup, 1) := by decide +kernel
theorem jd_Merger_init_31 : decode mi_Merger_init.2.1 31 = .ok (.invokespecial 27, 3) := by decide +kernel
theorem jd_Merger_init_34 : decode mi_Merger_init.2.1 34 = .ok (.putfield 28, 3) := by decide +kernel
theorem jd_Merger_init_37 : decode mi_Merger_init.2.1 37 = .ok (.aload_n 0, 1) := by decide +kernel
theorem jd_Merger_init_38 : decode mi_Merger_init.2.1 38 = .ok (.new 25, 3) := by decide +kernel
theorem jd_Merger_init_41 : decode mi_Merger_init.2.1 41 = .ok (.dup, 1) := by decide +kernel
theorem jd_Merger_init_42 : decode mi_Merger_init.2.1 42 = .ok (.invokespecial 27, 3) := by decide +kernel
theorem jd_Merger_init_45 : decode mi_Merger_init.2.1 45 = .ok (.putfield 32, 3) := by decide +kernel
theorem jd_Merger_init_48 : decode mi_Merger_init.2.1 48 = .ok (.aload_n 0, 1) := by decide +kernel
theorem jd_Merger_init_49 : decode mi_Merger_init.2.1 49 = .ok (.new 35, 3) := by decide +kernel
theorem jd_Merger_init_52 : decode mi_Merger_init.2.1 52 = .ok (.dup, 1) := by decide +kernel
theorem jd_Merger_init_53 : decode mi_Merger_init.2.1 53 = .ok (.invokespecial 37, 3) := by decide +kernel
theorem jd_Merger_init_56 : decode mi_Merger_init.2.1 56 = .ok (.putfield 38, 3) := by decide +kernel
theorem jd_Merger_init_59 : decode mi_Merger_init.2.1 59 = .ok (.aload_n 0, 1) := by decide +kernel
theorem jd_Merger_init_60 : decode mi_Merger_init.2.1 60 = .ok (.new 42, 3) := by decide +kernel
theorem jd_Merger_init_63 : decode mi_Merger_init.2.1 63 = .ok (.dup, 1) := by decide +kernel
theorem jd_Merger_init_64 : decode mi_Merger_init.2.1 64 = .ok (.invokespecial 44, 3) := by decide +kernel
theorem jd_Merger_init_67 : decode mi_Merger_init.2.1 67 = .ok (.putfield 45, 3) := by decide +kernel
theorem jd_Merger_init_70 : decode mi_Merger_init.2.1 70 = .ok (.aload_n 0, 1) := by decide +kernel
theorem jd_Merger_init_71 : decode mi_Merger_init.2.1 71 = .ok (.bipush 12, 2) := by decide +kernel
theorem jd_Merger_init_73 : decode mi_Merger_init.2.1 73 = .ok (.newarray .boolean, 2) := by decide +kernel
theorem jd_Merger_init_75 : decode mi_Merger_init.2.1 75 = .ok (.putfield 49, 3) := by decide +kernel
theorem jd_Merger_init_78 : decode mi_Merger_init.2.1 78 = .ok (.return_, 1) := by decide +kernel
def bi_At (o : jw_O) (μ : jw_Mem) (a n : Nat) (f : Nat → Int32) : Prop := μ a = some (.inl (o.2.2.1 0, n, .inl f))
theorem bi_At.fr {o : jw_O} {μ μ' : jw_Mem} {a n b m : Nat} {f : Nat → Int32} (h : bi_At o μ a n f) (q : jw_Fr μ μ' b m) (hd : a < b ∨ b + m ≤ a) : bi_At o μ' a n f := (q _ (by omega)).trans h
/-- a Match's 4 cells -/
def bm_At (o : jw_O) (μ : jw_Mem) (m : Nat) : Prop := μ m = some (.inr (2, [.ref (m + 1), .ref (m + 2), .ref (m + 3)])) ∧ (∃ f, bi_At o μ (m + 1) 121 f) ∧ (∃ f, bi_At o μ (m + 2) 10 f) ∧ ∃ f, bi_At o μ (m + 3) 10 f
theorem bm_At.fr {o : jw_O} {μ μ' : jw_Mem} {a b m : Nat} (h : bm_At o μ a) (q : jw_Fr μ μ' b m) (hd : a + 4 ≤ b ∨ b + m ≤ a) : bm_At o μ' a := by
  obtain ⟨h1, ⟨f, h2⟩, ⟨g, h3⟩, ⟨e, h4⟩⟩ := h
  exact ⟨(q _ (by omega)).trans h1, ⟨f, h2.fr q (by omega)⟩, ⟨g, h3.fr q (by omega)⟩, ⟨e, h4.fr q (by omega)⟩⟩
def bc_Ex (o : jw_O) (μ : jw_Mem) (a : Nat) : Prop := ∃ n p g, bc_At o μ a n p g ∧ n ≤ 10 ∧ b01 p
theorem bc_Ex.fr {o : jw_O} {μ μ' : jw_Mem} {a b m : Nat} (h : bc_Ex o μ a) (q : jw_Fr μ μ' b m) (hd : a + 2 ≤ b ∨ b + m ≤ a) : bc_Ex o μ' a := by
  obtain ⟨n, p, g, h1, h2⟩ := h
  exact ⟨n, p, g, h1.fr q hd, h2⟩
/-- a Renames' 7 cells -/
def bn_At (o : jw_O) (μ : jw_Mem) (r : Nat) (f s : Nat → Int32) (c : Int32) : Prop := μ r = some (.inr (3, [.ref (r + 1), .ref (r + 2), .ref (r + 3), .int c])) ∧ bi_At o μ (r + 1) 12 f ∧ bi_At o μ (r + 2) 12 s ∧ bm_At o μ (r + 3)
theorem bn_At.fr {o : jw_O} {μ μ' : jw_Mem} {a b m : Nat} {f s : Nat → Int32} {c : Int32} (h : bn_At o μ a f s c) (q : jw_Fr μ μ' b m) (hd : a + 7 ≤ b ∨ b + m ≤ a) : bn_At o μ' a f s c := ⟨(q _ (by omega)).trans h.1, h.2.1.fr q (by omega), h.2.2.1.fr q (by omega), h.2.2.2.fr q (by omega)⟩
/-- a Conflicts' 3 cells -/
def bk_At (o : jw_O) (μ : jw_Mem) (c n : Nat) (f s : Nat → Int32) : Prop := μ c = some (.inr (5, [.ref (c + 1), .ref (c + 2), .int (nI n)])) ∧ bi_At o μ (c + 1) 24 f ∧ bi_At o μ (c + 2) 24 s
theorem bk_At.fr {o : jw_O} {μ μ' : jw_Mem} {a n b m : Nat} {f s : Nat → Int32} (h : bk_At o μ a n f s) (q : jw_Fr μ μ' b m) (hd : a + 3 ≤ b ∨ b + m ≤ a) : bk_At o μ' a n f s := ⟨(q _ (by omega)).trans h.1, h.2.1.fr q (by omega), h.2.2.fr q (by omega)⟩
/-- a Blender's 15 cells -/
def bb_At (o : jw_O) (μ : jw_Mem) (b : Nat) : Prop := μ b = some (.inr (4, [.ref (b + 1), .ref (b + 5), .ref (b + 9), .ref (b + 11), .ref (b + 13)])) ∧ bm_At o μ (b + 1) ∧ bm_At o μ (b + 5) ∧ bc_Ex o μ (b + 9) ∧ bc_Ex o μ (b + 11) ∧ bc_Ex o μ (b + 13)
theorem bb_At.fr {o : jw_O} {μ μ' : jw_Mem} {a b m : Nat} (h : bb_At o μ a) (q : jw_Fr μ μ' b m) (hd : a + 15 ≤ b ∨ b + m ≤ a) : bb_At o μ' a := ⟨(q _ (by omega)).trans h.1, h.2.1.fr q (by omega), h.2.2.1.fr q (by omega), h.2.2.2.1.fr q (by omega), h.2.2.2.2.1.fr q (by omega), h.2.2.2.2.2.fr q (by omega)⟩
section
variable {o : jw_O} {μ : jw_Mem} {hs a : Nat}
theorem bm_init {x y z : Value} (h0 : μ a = some (.inr (2, [x, y, z]))) : jw_Spec mi_Match_init 1 3 141 o [.ref a] μ (a + 1) (fun v μ' s' => v = none ∧ s' = a + 4 ∧ bm_At o μ' a ∧ jw_Fr μ μ' a 4) := by
  refine jw_spec (by decide +kernel) (Nat.le_of_ble_eq_true rfl) rfl (fun k hR hE => ?_)
  have hF : jw_Fr μ μ a 4 := jw_Fr.rf
  refine jw_aload_n (pc' := 1) jd_Match_init_0 rfl rfl rfl ?_
  refine jw_objInit (pc' := 4) hR jq_199 jd_Match_init_1 (Nat.le_of_ble_eq_true rfl) (by omega) rfl ?_
  refine jw_aload_n (pc' := 5) jd_Match_init_4 rfl rfl rfl ?_
  refine jw_bipush (pc' := 7) (v := nI 121) jd_Match_init_5 (by decide +kernel) rfl ?_
  refine jw_newa (pc' := 9) (N := 121) (i := 0) (a0 := (121, .inl (fun _ => 0))) (ty := .int) (atype := .int) hR jq_116 rfl rfl jd_Match_init_7 (fun _ => rfl) (by decide +kernel) (by decide +kernel) (by decide +kernel) (by omega) (by omega) rfl (fun μ h1 f9 => ?_)
  have h0 := (f9 _ (by omega)).trans h0
  have hF := jw_Fr.step hF f9 (by omega)
  refine jw_putF (pc' := 12) (kf := 0) (ty := (.array .int)) (fs' := [_, _, _]) jc_Match (by decide) jq_200 jd_Match_init_9 rfl rfl rfl (by decide +kernel) (by assumption) rfl rfl rfl (Nat.le_of_ble_eq_true rfl) rfl (fun μ h0 f9 => ?_)
  have h1 := (f9 _ (by omega)).trans h1
  have hF := jw_Fr.step hF f9 (by omega)
  refine jw_aload_n (pc' := 13) jd_Match_init_12 rfl rfl rfl ?_
  refine jw_bipush (pc' := 15) (v := nI 10) jd_Match_init_13 (by decide +kernel) rfl ?_
  refine jw_newa (pc' := 17) (N := 10) (i := 0) (a0 := (10, .inl (fun _ => 0))) (ty := .int) (atype := .int) hR jq_116 rfl rfl jd_Match_init_15 (fun _ => rfl) (by decide +kernel) (by decide +kernel) (by decide +kernel) (by omega) (by omega) rfl (fun μ h2 f9 => ?_)
  have h0 := (f9 _ (by omega)).trans h0
  have h1 := (f9 _ (by omega)).trans h1
  have hF := jw_Fr.step hF f9 (by omega)
  refine jw_putF (pc' := 20) (kf := 1) (ty := (.array .int)) (fs' := [_, _, _]) jc_Match (by decide) jq_201 jd_Match_init_17 rfl rfl rfl (by decide +kernel) (by assumption) rfl rfl rfl (Nat.le_of_ble_eq_true rfl) rfl (fun μ h0 f9 => ?_)
  have h1 := (f9 _ (by omega)).trans h1
  have h2 := (f9 _ (by omega)).trans h2
  have hF := jw_Fr.step hF f9 (by omega)
  refine jw_aload_n (pc' := 21) jd_Match_init_20 rfl rfl rfl ?_
  refine jw_bipush (pc' := 23) (v := nI 10) jd_Match_init_21 (by decide +kernel) rfl ?_
  refine jw_newa (pc' := 25) (N := 10) (i := 0) (a0 := (10, .inl (fun _ => 0))) (ty := .int) (atype := .int) hR jq_116 rfl rfl jd_Match_init_23 (fun _ => rfl) (by decide +kernel) (by decide +kernel) (by decide +kernel) (by omega) (by omega) rfl (fun μ h3 f9 => ?_)
  have h0 := (f9 _ (by omega)).trans h0
  have h1 := (f9 _ (by omega)).trans h1
  have h2 := (f9 _ (by omega)).trans h2
  have hF := jw_Fr.step hF f9 (by omega)
  refine jw_putF (pc' := 28) (kf := 2) (ty := (.array .int)) (fs' := [_, _, _]) jc_Match (by decide) jq_202 jd_Match_init_25 rfl rfl rfl (by decide +kernel) (by assumption) rfl rfl rfl (Nat.le_of_ble_eq_true rfl) rfl (fun μ h0 f9 => ?_)
  have h1 := (f9 _ (by omega)).trans h1
  have h2 := (f9 _ (by omega)).trans h2
  have h3 := (f9 _ (by omega)).trans h3
  have hF := jw_Fr.step hF f9 (by omega)
  refine jw_vret hE jd_Match_init_28 rfl (by omega) (by omega) ?_
  exact ⟨rfl, rfl, ⟨h0, ⟨_, h1⟩, ⟨_, h2⟩, ⟨_, h3⟩⟩, hF⟩
theorem bn_init {x y z : Value} {w : Int32} (h0 : μ a = some (.inr (3, [x, y, z, .int w]))) : jw_Spec mi_Renames_init 2 6 168 o [.ref a] μ (a + 1) (fun v μ' s' => v = none ∧ s' = a + 7 ∧ bn_At o μ' a (fun _ => 0) (fun _ => 0) 0 ∧ jw_Fr μ μ' a 7) := by
  refine jw_spec (by decide +kernel) (Nat.le_of_ble_eq_true rfl) rfl (fun k hR hE => ?_)
  have hF : jw_Fr μ μ a 7 := jw_Fr.rf
  refine jw_aload_n (pc' := 1) jd_Renames_init_0 rfl rfl rfl ?_
  refine jw_objInit (pc' := 4) hR jq_193 jd_Renames_init_1 (Nat.le_of_ble_eq_true rfl) (by omega) rfl ?_
  refine jw_aload_n (pc' := 5) jd_Renames_init_4 rfl rfl rfl ?_
  refine jw_bipush (pc' := 7) (v := nI 12) jd_Renames_init_5 (by decide +kernel) rfl ?_
  refine jw_newa (pc' := 9) (N := 12) (i := 0) (a0 := (12, .inl (fun _ => 0))) (ty := .int) (atype := .int) hR jq_116 rfl rfl jd_Renames_init_7 (fun _ => rfl) (by decide +kernel) (by decide +kernel) (by decide +kernel) (by omega) (by omega) rfl (fun μ h1 f9 => ?_)
  have h0 := (f9 _ (by omega)).trans h0
  have hF := jw_Fr.step hF f9 (by omega)
  refine jw_putF (pc' := 12) (kf := 0) (ty := (.array .int)) (fs' := [_, _, _, _]) jc_Renames (by decide) jq_210 jd_Renames_init_9 rfl rfl rfl (by decide +kernel) (by assumption) rfl rfl rfl (Nat.le_of_ble_eq_true rfl) rfl (fun μ h0 f9 => ?_)
  have h1 := (f9 _ (by omega)).trans h1
  have hF := jw_Fr.step hF f9 (by omega)
  refine jw_aload_n (pc' := 13) jd_Renames_init_12 rfl rfl rfl ?_
  refine jw_bipush (pc' := 15) (v := nI 12) jd_Renames_init_13 (by decide +kernel) rfl ?_
  refine jw_newa (pc' := 17) (N := 12) (i := 0) (a0 := (12, .inl (fun _ => 0))) (ty := .int) (atype := .int) hR jq_116 rfl rfl jd_Renames_init_15 (fun _ => rfl) (by decide +kernel) (by decide +kernel) (by decide +kernel) (by omega) (by omega) rfl (fun μ h2 f9 => ?_)
  have h0 := (f9 _ (by omega)).trans h0
  have h1 := (f9 _ (by omega)).trans h1
  have hF := jw_Fr.step hF f9 (by omega)
  refine jw_putF (pc' := 20) (kf := 1) (ty := (.array .int)) (fs' := [_, _, _, _]) jc_Renames (by decide) jq_211 jd_Renames_init_17 rfl rfl rfl (by decide +kernel) (by assumption) rfl rfl rfl (Nat.le_of_ble_eq_true rfl) rfl (fun μ h0 f9 => ?_)
  have h1 := (f9 _ (by omega)).trans h1
  have h2 := (f9 _ (by omega)).trans h2
  have hF := jw_Fr.step hF f9 (by omega)
  refine jw_aload_n (pc' := 21) jd_Renames_init_20 rfl rfl rfl ?_
  refine jw_new (pc' := 24) (fs := [.null, .null, .null]) hR jc_Match jq_194 jq_195 jq_62 jd_Renames_init_21 (by decide +kernel) (by omega) (by omega) rfl (fun μ h3 f9 => ?_)
  have h0 := (f9 _ (by omega)).trans h0
  have h1 := (f9 _ (by omega)).trans h1
  have h2 := (f9 _ (by omega)).trans h2
  have hF := jw_Fr.step hF f9 (by omega)
  refine jw_dup (pc' := 25) jd_Renames_init_24 rfl rfl ?_
  refine jw_callIN (pc' := 28) hR (bm_init h3) jm_Match_init jn_Renames_20 jd_Renames_init_25 rfl rfl (Nat.le_of_ble_eq_true rfl) (by omega) (by decide) (by omega) (by omega) rfl (fun v μ s9 q9 hle => ?_)
  obtain ⟨rfl, rfl, hM, f9⟩ := q9
  have hF := hF.trans f9 (by omega) (by omega)
  have h0 := (f9 _ (by omega)).trans h0
  have h1 := (f9 _ (by omega)).trans h1
  have h2 := (f9 _ (by omega)).trans h2
  refine jw_putF (pc' := 31) (kf := 2) (ty := (.object "Branchwork$Match")) (fs' := [_, _, _, _]) jc_Renames (by decide) jq_212 jd_Renames_init_28 rfl rfl rfl (by decide +kernel) (by assumption) rfl rfl rfl (Nat.le_of_ble_eq_true rfl) rfl (fun μ h0 f9 => ?_)
  have h1 := (f9 _ (by omega)).trans h1
  have h2 := (f9 _ (by omega)).trans h2
  have hF := jw_Fr.step hF f9 (by omega)
  have hM := hM.fr (jw_Fr.o f9) (by omega)
  refine jw_aload_n (pc' := 32) jd_Renames_init_31 rfl rfl rfl ?_
  refine jw_iconst (pc' := 33) (v := nI 0) jd_Renames_init_32 (by decide +kernel) rfl ?_
  refine jw_put (pc' := 36) (kf := 3) (ty := .int) (fs' := [_, _, _, _]) jc_Renames (by decide) jq_213 jd_Renames_init_33 rfl (by decide +kernel) (by assumption) rfl rfl rfl (Nat.le_of_ble_eq_true rfl) rfl (fun μ h0 f9 => ?_)
  have h1 := (f9 _ (by omega)).trans h1
  have h2 := (f9 _ (by omega)).trans h2
  have hF := jw_Fr.step hF f9 (by omega)
  have hM := hM.fr (jw_Fr.o f9) (by omega)
  refine jw_vret hE jd_Renames_init_36 rfl (by omega) (by omega) ?_
  exact ⟨rfl, rfl, ⟨h0, h1, h2, hM⟩, hF⟩
theorem bk_init {x y : Value} {w : Int32} (h0 : μ a = some (.inr (5, [x, y, .int w]))) : jw_Spec mi_Conflicts_init 1 2 48 o [.ref a] μ (a + 1) (fun v μ' s' => v = none ∧ s' = a + 3 ∧ bk_At o μ' a 0 (fun _ => 0) (fun _ => 0) ∧ jw_Fr μ μ' a 3) := by
  refine jw_spec (by decide +kernel) (Nat.le_of_ble_eq_true rfl) rfl (fun k hR hE => ?_)
  have hF : jw_Fr μ μ a 3 := jw_Fr.rf
  refine jw_aload_n (pc' := 1) jd_Conflicts_init_0 rfl rfl rfl ?_
  refine jw_objInit (pc' := 4) hR jq_177 jd_Conflicts_init_1 (Nat.le_of_ble_eq_true rfl) (by omega) rfl ?_
  refine jw_aload_n (pc' := 5) jd_Conflicts_init_4 rfl rfl rfl ?_
  refine jw_bipush (pc' := 7) (v := nI 24) jd_Conflicts_init_5 (by decide +kernel) rfl ?_
  refine jw_newa (pc' := 9) (N := 24) (i := 0) (a0 := (24, .inl (fun _ => 0))) (ty := .int) (atype := .int) hR jq_116 rfl rfl jd_Conflicts_init_7 (fun _ => rfl) (by decide +kernel) (by decide +kernel) (by decide +kernel) (by omega) (by omega) rfl (fun μ h1 f9 => ?_)
  have h0 := (f9 _ (by omega)).trans h0
  have hF := jw_Fr.step hF f9 (by omega)
  refine jw_putF (pc' := 12) (kf := 0) (ty := (.array .int)) (fs' := [_, _, _]) jc_Conflicts (by decide) jq_178 jd_Conflicts_init_9 rfl rfl rfl (by decide +kernel) (by assumption) rfl rfl rfl (Nat.le_of_ble_eq_true rfl) rfl (fun μ h0 f9 => ?_)
  have h1 := (f9 _ (by omega)).trans h1
  have hF := jw_Fr.step hF f9 (by omega)
  refine jw_aload_n (pc' := 13) jd_Conflicts_init_12 rfl rfl rfl ?_
  refine jw_bipush (pc' := 15) (v := nI 24) jd_Conflicts_init_13 (by decide +kernel) rfl ?_
  refine jw_newa (pc' := 17) (N := 24) (i := 0) (a0 := (24, .inl (fun _ => 0))) (ty := .int) (atype := .int) hR jq_116 rfl rfl jd_Conflicts_init_15 (fun _ => rfl) (by decide +kernel) (by decide +kernel) (by decide +kernel) (by omega) (by omega) rfl (fun μ h2 f9 => ?_)
  have h0 := (f9 _ (by omega)).trans h0
  have h1 := (f9 _ (by omega)).trans h1
  have hF := jw_Fr.step hF f9 (by omega)
  refine jw_putF (pc' := 20) (kf := 1) (ty := (.array .int)) (fs' := [_, _, _]) jc_Conflicts (by decide) jq_179 jd_Conflicts_init_17 rfl rfl rfl (by decide +kernel) (by assumption) rfl rfl rfl (Nat.le_of_ble_eq_true rfl) rfl (fun μ h0 f9 => ?_)
  have h1 := (f9 _ (by omega)).trans h1
  have h2 := (f9 _ (by omega)).trans h2
  have hF := jw_Fr.step hF f9 (by omega)
  refine jw_aload_n (pc' := 21) jd_Conflicts_init_20 rfl rfl rfl ?_
  refine jw_iconst (pc' := 22) (v := nI 0) jd_Conflicts_init_21 (by decide +kernel) rfl ?_
  refine jw_put (pc' := 25) (kf := 2) (ty := .int) (fs' := [_, _, _]) jc_Conflicts (by decide) jq_180 jd_Conflicts_init_22 rfl (by decide +kernel) (by assumption) rfl rfl rfl (Nat.le_of_ble_eq_true rfl) rfl (fun μ h0 f9 => ?_)
  have h1 := (f9 _ (by omega)).trans h1
  have h2 := (f9 _ (by omega)).trans h2
  have hF := jw_Fr.step hF f9 (by omega)
  refine jw_vret hE jd_Conflicts_init_25 rfl (by omega) (by omega) ?_
  exact ⟨rfl, rfl, ⟨h0, h1, h2⟩, hF⟩
theorem bb_init {v w x y z : Value} (h0 : μ a = some (.inr (4, [v, w, x, y, z]))) : jw_Spec mi_Blender_init 2 14 327 o [.ref a] μ (a + 1) (fun v μ' s' => v = none ∧ s' = a + 15 ∧ bb_At o μ' a ∧ jw_Fr μ μ' a 15) := by
  refine jw_spec (by decide +kernel) (Nat.le_of_ble_eq_true rfl) rfl (fun k hR hE => ?_)
  have hF : jw_Fr μ μ a 15 := jw_Fr.rf
  refine jw_aload_n (pc' := 1) jd_Blender_init_0 rfl rfl rfl ?_
  refine jw_objInit (pc' := 4) hR jq_228 jd_Blender_init_1 (Nat.le_of_ble_eq_true rfl) (by omega) rfl ?_
  refine jw_aload_n (pc' := 5) jd_Blender_init_4 rfl rfl rfl ?_
  refine jw_new (pc' := 8) (fs := [.null, .null, .null]) hR jc_Match jq_229 jq_195 jq_62 jd_Blender_init_5 (by decide +kernel) (by omega) (by omega) rfl (fun μ h1 f9 => ?_)
  have h0 := (f9 _ (by omega)).trans h0
  have hF := jw_Fr.step hF f9 (by omega)
  refine jw_dup (pc' := 9) jd_Blender_init_8 rfl rfl ?_
  refine jw_callIN (pc' := 12) hR (bm_init h1) jm_Match_init jn_Blender_11 jd_Blender_init_9 rfl rfl (Nat.le_of_ble_eq_true rfl) (by omega) (by decide) (by omega) (by omega) rfl (fun v μ s9 q9 hle => ?_)
  obtain ⟨rfl, rfl, hM1, f9⟩ := q9
  have hF := hF.trans f9 (by omega) (by omega)
  have h0 := (f9 _ (by omega)).trans h0
  refine jw_putF (pc' := 15) (kf := 0) (ty := (.object "Branchwork$Match")) (fs' := [_, _, _, _, _]) jc_Blender (by decide) jq_233 jd_Blender_init_12 rfl rfl rfl (by decide +kernel) (by assumption) rfl rfl rfl (Nat.le_of_ble_eq_true rfl) rfl (fun μ h0 f9 => ?_)
  have hF := jw_Fr.step hF f9 (by omega)
  have hM1 := hM1.fr (jw_Fr.o f9) (by omega)
  refine jw_aload_n (pc' := 16) jd_Blender_init_15 rfl rfl rfl ?_
  refine jw_new (pc' := 19) (fs := [.null, .null, .null]) hR jc_Match jq_229 jq_195 jq_62 jd_Blender_init_16 (by decide +kernel) (by omega) (by omega) rfl (fun μ h1 f9 => ?_)
  have h0 := (f9 _ (by omega)).trans h0
  have hF := jw_Fr.step hF f9 (by omega)
  have hM1 := hM1.fr (jw_Fr.o f9) (by omega)
  refine jw_dup (pc' := 20) jd_Blender_init_19 rfl rfl ?_
  refine jw_callIN (pc' := 23) hR (bm_init h1) jm_Match_init jn_Blender_11 jd_Blender_init_20 rfl rfl (Nat.le_of_ble_eq_true rfl) (by omega) (by decide) (by omega) (by omega) rfl (fun v μ s9 q9 hle => ?_)
  obtain ⟨rfl, rfl, hM2, f9⟩ := q9
  have hF := hF.trans f9 (by omega) (by omega)
  have h0 := (f9 _ (by omega)).trans h0
  have hM1 := hM1.fr f9 (by omega)
  refine jw_putF (pc' := 26) (kf := 1) (ty := (.object "Branchwork$Match")) (fs' := [_, _, _, _, _]) jc_Blender (by decide) jq_234 jd_Blender_init_23 rfl rfl rfl (by decide +kernel) (by assumption) rfl rfl rfl (Nat.le_of_ble_eq_true rfl) rfl (fun μ h0 f9 => ?_)
  have hF := jw_Fr.step hF f9 (by omega)
  have hM1 := hM1.fr (jw_Fr.o f9) (by omega)
  have hM2 := hM2.fr (jw_Fr.o f9) (by omega)
  refine jw_aload_n (pc' := 27) jd_Blender_init_26 rfl rfl rfl ?_
  refine jw_new (pc' := 30) (fs := [.null, .int 0, .int 0]) hR jc_Content jq_231 jq_101 jq_57 jd_Blender_init_27 (by decide +kernel) (by omega) (by omega) rfl (fun μ h1 f9 => ?_)
  have h0 := (f9 _ (by omega)).trans h0
  have hF := jw_Fr.step hF f9 (by omega)
  have hM1 := hM1.fr (jw_Fr.o f9) (by omega)
  have hM2 := hM2.fr (jw_Fr.o f9) (by omega)
  refine jw_dup (pc' := 31) jd_Blender_init_30 rfl rfl ?_
  refine jw_callIN (pc' := 34) hR (bc_init h1) jm_Content_init jn_Blender_23 jd_Blender_init_31 rfl rfl (Nat.le_of_ble_eq_true rfl) (by omega) (by decide) (by omega) (by omega) rfl (fun v μ s9 q9 hle => ?_)
  obtain ⟨rfl, rfl, hC1, f9⟩ := q9
  have hF := hF.trans f9 (by omega) (by omega)
  have h0 := (f9 _ (by omega)).trans h0
  have hM1 := hM1.fr f9 (by omega)
  have hM2 := hM2.fr f9 (by omega)
  refine jw_putF (pc' := 37) (kf := 2) (ty := (.object "Branchwork$Content")) (fs' := [_, _, _, _, _]) jc_Blender (by decide) jq_235 jd_Blender_init_34 rfl rfl rfl (by decide +kernel) (by assumption) rfl rfl rfl (Nat.le_of_ble_eq_true rfl) rfl (fun μ h0 f9 => ?_)
  have hF := jw_Fr.step hF f9 (by omega)
  have hM1 := hM1.fr (jw_Fr.o f9) (by omega)
  have hM2 := hM2.fr (jw_Fr.o f9) (by omega)
  have hC1 := hC1.fr (jw_Fr.o f9) (by omega)
  refine jw_aload_n (pc' := 38) jd_Blender_init_37 rfl rfl rfl ?_
  refine jw_new (pc' := 41) (fs := [.null, .int 0, .int 0]) hR jc_Content jq_231 jq_101 jq_57 jd_Blender_init_38 (by decide +kernel) (by omega) (by omega) rfl (fun μ h1 f9 => ?_)
  have h0 := (f9 _ (by omega)).trans h0
  have hF := jw_Fr.step hF f9 (by omega)
  have hM1 := hM1.fr (jw_Fr.o f9) (by omega)
  have hM2 := hM2.fr (jw_Fr.o f9) (by omega)
  have hC1 := hC1.fr (jw_Fr.o f9) (by omega)
  refine jw_dup (pc' := 42) jd_Blender_init_41 rfl rfl ?_
  refine jw_callIN (pc' := 45) hR (bc_init h1) jm_Content_init jn_Blender_23 jd_Blender_init_42 rfl rfl (Nat.le_of_ble_eq_true rfl) (by omega) (by decide) (by omega) (by omega) rfl (fun v μ s9 q9 hle => ?_)
  obtain ⟨rfl, rfl, hC2, f9⟩ := q9
  have hF := hF.trans f9 (by omega) (by omega)
  have h0 := (f9 _ (by omega)).trans h0
  have hM1 := hM1.fr f9 (by omega)
  have hM2 := hM2.fr f9 (by omega)
  have hC1 := hC1.fr f9 (by omega)
  refine jw_putF (pc' := 48) (kf := 3) (ty := (.object "Branchwork$Content")) (fs' := [_, _, _, _, _]) jc_Blender (by decide) jq_236 jd_Blender_init_45 rfl rfl rfl (by decide +kernel) (by assumption) rfl rfl rfl (Nat.le_of_ble_eq_true rfl) rfl (fun μ h0 f9 => ?_)
  have hF := jw_Fr.step hF f9 (by omega)
  have hM1 := hM1.fr (jw_Fr.o f9) (by omega)
  have hM2 := hM2.fr (jw_Fr.o f9) (by omega)
  have hC1 := hC1.fr (jw_Fr.o f9) (by omega)
  have hC2 := hC2.fr (jw_Fr.o f9) (by omega)
  refine jw_aload_n (pc' := 49) jd_Blender_init_48 rfl rfl rfl ?_
  refine jw_new (pc' := 52) (fs := [.null, .int 0, .int 0]) hR jc_Content jq_231 jq_101 jq_57 jd_Blender_init_49 (by decide +kernel) (by omega) (by omega) rfl (fun μ h1 f9 => ?_)
  have h0 := (f9 _ (by omega)).trans h0
  have hF := jw_Fr.step hF f9 (by omega)
  have hM1 := hM1.fr (jw_Fr.o f9) (by omega)
  have hM2 := hM2.fr (jw_Fr.o f9) (by omega)
  have hC1 := hC1.fr (jw_Fr.o f9) (by omega)
  have hC2 := hC2.fr (jw_Fr.o f9) (by omega)
  refine jw_dup (pc' := 53) jd_Blender_init_52 rfl rfl ?_
  refine jw_callIN (pc' := 56) hR (bc_init h1) jm_Content_init jn_Blender_23 jd_Blender_init_53 rfl rfl (Nat.le_of_ble_eq_true rfl) (by omega) (by decide) (by omega) (by omega) rfl (fun v μ s9 q9 hle => ?_)
  obtain ⟨rfl, rfl, hC3, f9⟩ := q9
  have hF := hF.trans f9 (by omega) (by omega)
  have h0 := (f9 _ (by omega)).trans h0
  have hM1 := hM1.fr f9 (by omega)
  have hM2 := hM2.fr f9 (by omega)
  have hC1 := hC1.fr f9 (by omega)
  have hC2 := hC2.fr f9 (by omega)
  refine jw_putF (pc' := 59) (kf := 4) (ty := (.object "Branchwork$Content")) (fs' := [_, _, _, _, _]) jc_Blender (by decide) jq_237 jd_Blender_init_56 rfl rfl rfl (by decide +kernel) (by assumption) rfl rfl rfl (Nat.le_of_ble_eq_true rfl) rfl (fun μ h0 f9 => ?_)
  have hF := jw_Fr.step hF f9 (by omega)
  have hM1 := hM1.fr (jw_Fr.o f9) (by omega)
  have hM2 := hM2.fr (jw_Fr.o f9) (by omega)
  have hC1 := hC1.fr (jw_Fr.o f9) (by omega)
  have hC2 := hC2.fr (jw_Fr.o f9) (by omega)
  have hC3 := hC3.fr (jw_Fr.o f9) (by omega)
  refine jw_vret hE jd_Blender_init_59 rfl (by omega) (by omega) ?_
  exact ⟨rfl, rfl, ⟨h0, hM1, hM2, ⟨_, _, _, hC1, Nat.zero_le _, Or.inl rfl⟩, ⟨_, _, _, hC2, Nat.zero_le _, Or.inl rfl⟩, ⟨_, _, _, hC3, Nat.zero_le _, Or.inl rfl⟩⟩, hF⟩
/-- a Merger's 64 cells, with its tree and its conflicts -/
def bg_At (o : jw_O) (μ : jw_Mem) (g : Nat) (N : Nat → Nat) (Z : Nat → Int32) (G : Nat → Nat → Int32) (n : Nat) (cf cs : Nat → Int32) : Prop := μ g = some (.inr (6, [.ref (g + 1), .ref (g + 29), .ref (g + 32), .ref (g + 39), .ref (g + 46), .ref (g + 61), .ref (g + 63)])) ∧ bt_At o μ (g + 1) N Z G ∧ bk_At o μ (g + 29) n cf cs ∧ (∃ f s c, bn_At o μ (g + 32) f s c) ∧ (∃ f s c, bn_At o μ (g + 39) f s c) ∧ bb_At o μ (g + 46) ∧ bc_At o μ (g + 61) 0 0 (fun _ => 0) ∧ ∃ f, μ (g + 63) = some (.inl (o.2.2.1 1, 12, .inl f))
theorem bg_At.fr {o : jw_O} {μ μ' : jw_Mem} {a b m n : Nat} {N : Nat → Nat} {Z : Nat → Int32} {G : Nat → Nat → Int32} {cf cs : Nat → Int32} (h : bg_At o μ a N Z G n cf cs) (q : jw_Fr μ μ' b m) (hd : a + 64 ≤ b ∨ b + m ≤ a) : bg_At o μ' a N Z G n cf cs := by
  obtain ⟨h1, h2, h3, ⟨_, _, _, h4⟩, ⟨_, _, _, h5⟩, h6, h7, ⟨_, h8⟩⟩ := h
  exact ⟨(q _ (by omega)).trans h1, h2.fr q (by omega), h3.fr q (by omega), ⟨_, _, _, h4.fr q (by omega)⟩, ⟨_, _, _, h5.fr q (by omega)⟩, h6.fr q (by omega), h7.fr q (by omega), ⟨_, (q _ (by omega)).trans h8⟩⟩
theorem bg_init {t v w x y z u : Value} (h0 : μ a = some (.inr (6, [t, v, w, x, y, z, u]))) : jw_Spec mi_Merger_init 3 63 935 o [.ref a] μ (a + 1) (fun v μ' s' => v = none ∧ s' = a + 64 ∧ bg_At o μ' a (fun _ => 0) (fun _ => 0) (fun _ _ => 0) 0 (fun _ => 0) (fun _ => 0) ∧ jw_Fr μ μ' a 64) := by
  refine jw_spec (by decide +kernel) (Nat.le_of_ble_eq_true rfl) rfl (fun k hR hE => ?_)
  have hF : jw_Fr μ μ a 64 := jw_Fr.rf
  refine jw_aload_n (pc' := 1) jd_Merger_init_0 rfl rfl rfl ?_
  refine jw_objInit (pc' := 4) hR jq_169 jd_Merger_init_1 (Nat.le_of_ble_eq_true rfl) (by omega) rfl ?_
  refine jw_aload_n (pc' := 5) jd_Merger_init_4 rfl rfl rfl ?_
  refine jw_new (pc' := 8) (fs := [.null, .null]) hR jc_Tree jq_170 jq_94 jq_56 jd_Merger_init_5 (by decide +kernel) (by omega) (by omega) rfl (fun μ h1 f9 => ?_)
  have h0 := (f9 _ (by omega)).trans h0
  have hF := jw_Fr.step hF f9 (by omega)
  refine jw_dup (pc' := 9) jd_Merger_init_8 rfl rfl ?_
  refine jw_callI (pc' := 12) hR (bt_init h1) jm_Tree_init jq_171 jd_Merger_init_9 rfl rfl (Nat.le_of_ble_eq_true rfl) (by omega) (by decide) (by omega) (by omega) rfl (fun v μ s9 q9 hle => ?_)
  obtain ⟨rfl, rfl, hT, f9⟩ := q9
  have hF := hF.trans f9 (by omega) (by omega)
  have h0 := (f9 _ (by omega)).trans h0
  refine jw_putF (pc' := 15) (kf := 0) (ty := (.object "Branchwork$Tree")) (fs' := [_, _, _, _, _, _, _]) jc_Merger (by decide) jq_251 jd_Merger_init_12 rfl rfl rfl (by decide +kernel) (by assumption) rfl rfl rfl (Nat.le_of_ble_eq_true rfl) rfl (fun μ h0 f9 => ?_)
  have hF := jw_Fr.step hF f9 (by omega)
  have hT := hT.fr (jw_Fr.o f9) (by omega)
  refine jw_aload_n (pc' := 16) jd_Merger_init_15 rfl rfl rfl ?_
  refine jw_new (pc' := 19) (fs := [.null, .null, .int 0]) hR jc_Conflicts jq_172 jq_173 jq_60 jd_Merger_init_16 (by decide +kernel) (by omega) (by omega) rfl (fun μ h1 f9 => ?_)
  have h0 := (f9 _ (by omega)).trans h0
  have hF := jw_Fr.step hF f9 (by omega)
  have hT := hT.fr (jw_Fr.o f9) (by omega)
  refine jw_dup (pc' := 20) jd_Merger_init_19 rfl rfl ?_
  refine jw_callIN (pc' := 23) hR (bk_init h1) jm_Conflicts_init jn_Merger_20 jd_Merger_init_20 rfl rfl (Nat.le_of_ble_eq_true rfl) (by omega) (by decide) (by omega) (by omega) rfl (fun v μ s9 q9 hle => ?_)
  obtain ⟨rfl, rfl, hK, f9⟩ := q9
  have hF := hF.trans f9 (by omega) (by omega)
  have h0 := (f9 _ (by omega)).trans h0
  have hT := hT.fr f9 (by omega)
  refine jw_putF (pc' := 26) (kf := 1) (ty := (.object "Branchwork$Conflicts")) (fs' := [_, _, _, _, _, _, _]) jc_Merger (by decide) jq_252 jd_Merger_init_23 rfl rfl rfl (by decide +kernel) (by assumption) rfl rfl rfl (Nat.le_of_ble_eq_true rfl) rfl (fun μ h0 f9 => ?_)
  have hF := jw_Fr.step hF f9 (by omega)
  have hT := hT.fr (jw_Fr.o f9) (by omega)
  have hK := hK.fr (jw_Fr.o f9) (by omega)
  refine jw_aload_n (pc' := 27) jd_Merger_init_26 rfl rfl rfl ?_
  refine jw_new (pc' := 30) (fs := [.null, .null, .null, .int 0]) hR jc_Renames jq_188 jq_189 jq_61 jd_Merger_init_27 (by decide +kernel) (by omega) (by omega) rfl (fun μ h1 f9 => ?_)
  have h0 := (f9 _ (by omega)).trans h0
  have hF := jw_Fr.step hF f9 (by omega)
  have hT := hT.fr (jw_Fr.o f9) (by omega)
  have hK := hK.fr (jw_Fr.o f9) (by omega)
  refine jw_dup (pc' := 31) jd_Merger_init_30 rfl rfl ?_
  refine jw_callIN (pc' := 34) hR (bn_init h1) jm_Renames_init jn_Merger_27 jd_Merger_init_31 rfl rfl (Nat.le_of_ble_eq_true rfl) (by omega) (by decide) (by omega) (by omega) rfl (fun v μ s9 q9 hle => ?_)
  obtain ⟨rfl, rfl, hN1, f9⟩ := q9
  have hF := hF.trans f9 (by omega) (by omega)
  have h0 := (f9 _ (by omega)).trans h0
  have hT := hT.fr f9 (by omega)
  have hK := hK.fr f9 (by omega)
  refine jw_putF (pc' := 37) (kf := 2) (ty := (.object "Branchwork$Renames")) (fs' := [_, _, _, _, _, _, _]) jc_Merger (by decide) jq_253 jd_Merger_init_34 rfl rfl rfl (by decide +kernel) (by assumption) rfl rfl rfl (Nat.le_of_ble_eq_true rfl) rfl (fun μ h0 f9 => ?_)
  have hF := jw_Fr.step hF f9 (by omega)
  have hT := hT.fr (jw_Fr.o f9) (by omega)
  have hK := hK.fr (jw_Fr.o f9) (by omega)
  have hN1 := hN1.fr (jw_Fr.o f9) (by omega)
  refine jw_aload_n (pc' := 38) jd_Merger_init_37 rfl rfl rfl ?_
  refine jw_new (pc' := 41) (fs := [.null, .null, .null, .int 0]) hR jc_Renames jq_188 jq_189 jq_61 jd_Merger_init_38 (by decide +kernel) (by omega) (by omega) rfl (fun μ h1 f9 => ?_)
  have h0 := (f9 _ (by omega)).trans h0
  have hF := jw_Fr.step hF f9 (by omega)
  have hT := hT.fr (jw_Fr.o f9) (by omega)
  have hK := hK.fr (jw_Fr.o f9) (by omega)
  have hN1 := hN1.fr (jw_Fr.o f9) (by omega)
  refine jw_dup (pc' := 42) jd_Merger_init_41 rfl rfl ?_
  refine jw_callIN (pc' := 45) hR (bn_init h1) jm_Renames_init jn_Merger_27 jd_Merger_init_42 rfl rfl (Nat.le_of_ble_eq_true rfl) (by omega) (by decide) (by omega) (by omega) rfl (fun v μ s9 q9 hle => ?_)
  obtain ⟨rfl, rfl, hN2, f9⟩ := q9
  have hF := hF.trans f9 (by omega) (by omega)
  have h0 := (f9 _ (by omega)).trans h0
  have hT := hT.fr f9 (by omega)
  have hK := hK.fr f9 (by omega)
  have hN1 := hN1.fr f9 (by omega)
  refine jw_putF (pc' := 48) (kf := 3) (ty := (.object "Branchwork$Renames")) (fs' := [_, _, _, _, _, _, _]) jc_Merger (by decide) jq_254 jd_Merger_init_45 rfl rfl rfl (by decide +kernel) (by assumption) rfl rfl rfl (Nat.le_of_ble_eq_true rfl) rfl (fun μ h0 f9 => ?_)
  have hF := jw_Fr.step hF f9 (by omega)
  have hT := hT.fr (jw_Fr.o f9) (by omega)
  have hK := hK.fr (jw_Fr.o f9) (by omega)
  have hN1 := hN1.fr (jw_Fr.o f9) (by omega)
  have hN2 := hN2.fr (jw_Fr.o f9) (by omega)
  refine jw_aload_n (pc' := 49) jd_Merger_init_48 rfl rfl rfl ?_
  refine jw_new (pc' := 52) (fs := [.null, .null, .null, .null, .null]) hR jc_Blender jq_223 jq_224 jq_63 jd_Merger_init_49 (by decide +kernel) (by omega) (by omega) rfl (fun μ h1 f9 => ?_)
  have h0 := (f9 _ (by omega)).trans h0
  have hF := jw_Fr.step hF f9 (by omega)
  have hT := hT.fr (jw_Fr.o f9) (by omega)
  have hK := hK.fr (jw_Fr.o f9) (by omega)
  have hN1 := hN1.fr (jw_Fr.o f9) (by omega)
  have hN2 := hN2.fr (jw_Fr.o f9) (by omega)
  refine jw_dup (pc' := 53) jd_Merger_init_52 rfl rfl ?_
  refine jw_callIN (pc' := 56) hR (bb_init h1) jm_Blender_init jn_Merger_37 jd_Merger_init_53 rfl rfl (Nat.le_of_ble_eq_true rfl) (by omega) (by decide) (by omega) (by omega) rfl (fun v μ s9 q9 hle => ?_)
  obtain ⟨rfl, rfl, hB, f9⟩ := q9
  have hF := hF.trans f9 (by omega) (by omega)
  have h0 := (f9 _ (by omega)).trans h0
  have hT := hT.fr f9 (by omega)
  have hK := hK.fr f9 (by omega)
  have hN1 := hN1.fr f9 (by omega)
  have hN2 := hN2.fr f9 (by omega)
  refine jw_putF (pc' := 59) (kf := 4) (ty := (.object "Branchwork$Blender")) (fs' := [_, _, _, _, _, _, _]) jc_Merger (by decide) jq_255 jd_Merger_init_56 rfl rfl rfl (by decide +kernel) (by assumption) rfl rfl rfl (Nat.le_of_ble_eq_true rfl) rfl (fun μ h0 f9 => ?_)
  have hF := jw_Fr.step hF f9 (by omega)
  have hT := hT.fr (jw_Fr.o f9) (by omega)
  have hK := hK.fr (jw_Fr.o f9) (by omega)
  have hN1 := hN1.fr (jw_Fr.o f9) (by omega)
  have hN2 := hN2.fr (jw_Fr.o f9) (by omega)
  have hB := hB.fr (jw_Fr.o f9) (by omega)
  refine jw_aload_n (pc' := 60) jd_Merger_init_59 rfl rfl rfl ?_
  refine jw_new (pc' := 63) (fs := [.null, .int 0, .int 0]) hR jc_Content jq_249 jq_101 jq_57 jd_Merger_init_60 (by decide +kernel) (by omega) (by omega) rfl (fun μ h1 f9 => ?_)
  have h0 := (f9 _ (by omega)).trans h0
  have hF := jw_Fr.step hF f9 (by omega)
  have hT := hT.fr (jw_Fr.o f9) (by omega)
  have hK := hK.fr (jw_Fr.o f9) (by omega)
  have hN1 := hN1.fr (jw_Fr.o f9) (by omega)
  have hN2 := hN2.fr (jw_Fr.o f9) (by omega)
  have hB := hB.fr (jw_Fr.o f9) (by omega)
  refine jw_dup (pc' := 64) jd_Merger_init_63 rfl rfl ?_
  refine jw_callIN (pc' := 67) hR (bc_init h1) jm_Content_init jn_Merger_44 jd_Merger_init_64 rfl rfl (Nat.le_of_ble_eq_true rfl) (by omega) (by decide) (by omega) (by omega) rfl (fun v μ s9 q9 hle => ?_)
  obtain ⟨rfl, rfl, hC, f9⟩ := q9
  have hF := hF.trans f9 (by omega) (by omega)
  have h0 := (f9 _ (by omega)).trans h0
  have hT := hT.fr f9 (by omega)
  have hK := hK.fr f9 (by omega)
  have hN1 := hN1.fr f9 (by omega)
  have hN2 := hN2.fr f9 (by omega)
  have hB := hB.fr f9 (by omega)
  refine jw_putF (pc' := 70) (kf := 5) (ty := (.object "Branchwork$Content")) (fs' := [_, _, _, _, _, _, _]) jc_Merger (by decide) jq_256 jd_Merger_init_67 rfl rfl rfl (by decide +kernel) (by assumption) rfl rfl rfl (Nat.le_of_ble_eq_true rfl) rfl (fun μ h0 f9 => ?_)
  have hF := jw_Fr.step hF f9 (by omega)
  have hT := hT.fr (jw_Fr.o f9) (by omega)
  have hK := hK.fr (jw_Fr.o f9) (by omega)
  have hN1 := hN1.fr (jw_Fr.o f9) (by omega)
  have hN2 := hN2.fr (jw_Fr.o f9) (by omega)
  have hB := hB.fr (jw_Fr.o f9) (by omega)
  have hC := hC.fr (jw_Fr.o f9) (by omega)
  refine jw_aload_n (pc' := 71) jd_Merger_init_70 rfl rfl rfl ?_
  refine jw_bipush (pc' := 73) (v := nI 12) jd_Merger_init_71 (by decide +kernel) rfl ?_
  refine jw_newa (pc' := 75) (N := 12) (i := 1) (a0 := (12, .inl (fun _ => 0))) (ty := .boolean) (atype := .boolean) hR jq_273 rfl rfl jd_Merger_init_73 (fun _ => rfl) (by decide +kernel) (by decide +kernel) (by decide +kernel) (by omega) (by omega) rfl (fun μ h2 f9 => ?_)
  have h0 := (f9 _ (by omega)).trans h0
  have hF := jw_Fr.step hF f9 (by omega)
  have hT := hT.fr (jw_Fr.o f9) (by omega)
  have hK := hK.fr (jw_Fr.o f9) (by omega)
  have hN1 := hN1.fr (jw_Fr.o f9) (by omega)
  have hN2 := hN2.fr (jw_Fr.o f9) (by omega)
  have hB := hB.fr (jw_Fr.o f9) (by omega)
  have hC := hC.fr (jw_Fr.o f9) (by omega)
  refine jw_putF (pc' := 78) (kf := 6) (ty := (.array .boolean)) (fs' := [_, _, _, _, _, _, _]) jc_Merger (by decide) jq_257 jd_Merger_init_75 rfl rfl rfl (by decide +kernel) (by assumption) rfl rfl rfl (Nat.le_of_ble_eq_true rfl) rfl (fun μ h0 f9 => ?_)
  have h2 := (f9 _ (by omega)).trans h2
  have hF := jw_Fr.step hF f9 (by omega)
  have hT := hT.fr (jw_Fr.o f9) (by omega)
  have hK := hK.fr (jw_Fr.o f9) (by omega)
  have hN1 := hN1.fr (jw_Fr.o f9) (by omega)
  have hN2 := hN2.fr (jw_Fr.o f9) (by omega)
  have hB := hB.fr (jw_Fr.o f9) (by omega)
  have hC := hC.fr (jw_Fr.o f9) (by omega)
  refine jw_vret hE jd_Merger_init_78 rfl (by omega) (by omega) ?_
  exact ⟨rfl, rfl, ⟨h0, hT, hK, ⟨_, _, _, hN1⟩, ⟨_, _, _, hN2⟩, hB, hC, ⟨_, h2⟩⟩, hF⟩
end
end
section
theorem jd_Arrays_fill_0 : decode mi_Arrays_fill.2.1 0 = .ok (.iconst 0, 1) := by decide +kernel
theorem jd_Arrays_fill_1 : decode mi_Arrays_fill.2.1 1 = .ok (.istore_n 2, 1) := by decide +kernel
theorem jd_Arrays_fill_2 : decode mi_Arrays_fill.2.1 2 = .ok (.aload_n 0, 1) := by decide +kernel
theorem jd_Arrays_fill_3 : decode mi_Arrays_fill.2.1 3 = .ok (.arraylength, 1) := by decide +kernel
theorem jd_Arrays_fill_4 : decode mi_Arrays_fill.2.1 4 = .ok (.istore_n 3, 1) := by decide +kernel
theorem jd_Arrays_fill_5 : decode mi_Arrays_fill.2.1 5 = .ok (.iload_n 2, 1) := by decide +kernel
theorem jd_Arrays_fill_6 : decode mi_Arrays_fill.2.1 6 = .ok (.iload_n 3, 1) := by decide +kernel
theorem jd_Arrays_fill_7 : decode mi_Arrays_fill.2.1 7 = .ok (.if_icmp .ge 13, 3) := by decide +kernel
theorem jd_Arrays_fill_10 : decode mi_Arrays_fill.2.1 10 = .ok (.aload_n 0, 1) := by decide +kernel
theorem jd_Arrays_fill_11 : decode mi_Arrays_fill.2.1 11 = .ok (.iload_n 2, 1) := by decide +kernel
theorem jd_Arrays_fill_12 : decode mi_Arrays_fill.2.1 12 = .ok (.iload_n 1, 1) := by decide +kernel
theorem jd_Arrays_fill_13 : decode mi_Arrays_fill.2.1 13 = .ok (.iastore, 1) := by decide +kernel
theorem jd_Arrays_fill_14 : decode mi_Arrays_fill.2.1 14 = .ok (.iinc 2 1, 3) := by decide +kernel
theorem jd_Arrays_fill_17 : decode mi_Arrays_fill.2.1 17 = .ok (.goto (-12), 3) := by decide +kernel
theorem jd_Arrays_fill_20 : decode mi_Arrays_fill.2.1 20 = .ok (.return_, 1) := by decide +kernel
theorem jd_History_init_0 : decode mi_History_init.2.1 0 = .ok (.aload_n 0, 1) := by decide +kernel
theorem jd_History_init_1 : decode mi_History_init.2.1 1 = .ok (.invokespecial 3, 3) := by decide +kernel
theorem jd_History_init_4 : decode mi_History_init.2.1 4 = .ok (.aload_n 0, 1) := by decide +kernel
theorem jd_History_init_5 : decode mi_History_init.2.1 5 = .ok (.bipush 30, 2) := by decide +kernel
theorem jd_History_init_7 : decode mi_History_init.2.1 7 = .ok (.anewarray 9, 3) := by decide +kernel
theorem jd_History_init_10 : decode mi_History_init.2.1 10 = .ok (.putfield 11, 3) := by decide +kernel
theorem jd_History_init_13 : decode mi_History_init.2.1 13 = .ok (.aload_n 0, 1) := by decide +kernel
theorem jd_History_init_14 : decode mi_History_init.2.1 14 = .ok (.new 9, 3) := by decide +kernel
theorem jd_History_init_17 : decode mi_History_init.2.1 17 = .ok (.dup, 1) := by decide +kernel
theorem jd_History_init_18 : decode mi_History_init.2.1 18 = .ok (.invokespecial 17, 3) := by decide +kernel
theorem jd_History_init_21 : decode mi_History_init.2.1 21 = .ok (.putfield 18, 3) := by decide +kernel
theorem jd_History_init_24 : decode mi_History_init.2.1 24 = .ok (.aload_n 0, 1) := by decide +kernel
theorem jd_History_init_25 : decode mi_History_init.2.1 25 = .ok (.bipush 30, 2) := by decide +kernel
theorem jd_History_init_27 : decode mi_History_init.2.1 27 = .ok (.newarray .int, 2) := by decide +kernel
theorem jd_History_init_29 : decode mi_History_init.2.1 29 = .ok (.putfield 22, 3) := by decide +kernel
theorem jd_History_init_32 : decode mi_History_init.2.1 32 = .ok (.aload_n 0, 1) := by decide +kernel
theorem jd_History_init_33 : decode mi_History_init.2.1 33 = .ok (.bipush 30, 2) := by decide +kernel
theorem jd_History_init_35 : decode mi_History_init.2.1 35 = .ok (.newarray .int, 2) := by decide +kernel
theorem jd_History_init_37 : decode mi_History_init.2.1 37 = .ok (.putfield 26, 3) := by decide +kernel
theorem jd_History_init_40 : decode mi_History_init.2.1 40 = .ok (.aload_n 0, 1) := by decide +kernel
theorem jd_History_init_41 : decode mi_History_init.2.1 41 = .ok (.bipush 30, 2) := by decide +kernel
theorem jd_History_init_43 : decode mi_History_init.2.1 43 = .ok (.newarray .int, 2) := by decide +kernel
theorem jd_History_init_45 : decode mi_History_init.2.1 45 = .ok (.putfield 29, 3) := by decide +kernel
theorem jd_History_init_48 : decode mi_History_init.2.1 48 = .ok (.aload_n 0, 1) := by decide +kernel
theorem jd_History_init_49 : decode mi_History_init.2.1 49 = .ok (.bipush 30, 2) := by decide +kernel
theorem jd_History_init_51 : decode mi_History_init.2.1 51 = .ok (.newarray .int, 2) := by decide +kernel
theorem jd_History_init_53 : decode mi_History_init.2.1 53 = .ok (.putfield 32, 3) := by decide +kernel
theorem jd_History_init_56 : decode mi_History_init.2.1 56 = .ok (.aload_n 0, 1) := by decide +kernel
theorem jd_History_init_57 : decode mi_History_init.2.1 57 = .ok (.sipush 360, 3) := by decide +kernel
theorem jd_History_init_60 : decode mi_History_init.2.1 60 = .ok (.newarray .int, 2) := by decide +kernel
theorem jd_History_init_62 : decode mi_History_init.2.1 62 = .ok (.putfield 35, 3) := by decide +kernel
theorem jd_History_init_65 : decode mi_History_init.2.1 65 = .ok (.aload_n 0, 1) := by decide +kernel
theorem jd_History_init_66 : decode mi_History_init.2.1 66 = .ok (.sipush 360, 3) := by decide +kernel
theorem jd_History_init_69 : decode mi_History_init.2.1 69 = .ok (.newarray .int, 2) := by decide +kernel
theorem jd_History_init_71 : decode mi_History_init.2.1 71 = .ok (.putfield 38, 3) := by decide +kernel
theorem jd_History_init_74 : decode mi_History_init.2.1 74 = .ok (.aload_n 0, 1) := by decide +kernel
theorem jd_History_init_75 : decode mi_History_init.2.1 75 = .ok (.iconst 0, 1) := by decide +kernel
theorem jd_History_init_76 : decode mi_History_init.2.1 76 = .ok (.putfield 41, 3) := by decide +kernel
theorem jd_History_init_79 : decode mi_History_init.2.1 79 = .ok (.aload_n 0, 1) := by decide +kernel
theorem jd_History_init_80 : decode mi_History_init.2.1 80 = .ok (.iconst 0, 1) := by decide +kernel
theorem jd_History_init_81 : decode mi_History_init.2.1 81 = .ok (.putfield 45, 3) := by decide +kernel
theorem jd_History_init_84 : decode mi_History_init.2.1 84 = .ok (.iconst 0, 1) := by decide +kernel
theorem jd_History_init_85 : decode mi_History_init.2.1 85 = .ok (.istore_n 1, 1) := by decide +kernel
theorem jd_History_init_86 : decode mi_History_init.2.1 86 = .ok (.iload_n 1, 1) := by decide +kernel
theorem jd_History_init_87 : decode mi_History_init.2.1 87 = .ok (.bipush 30, 2) := by decide +kernel
theorem jd_History_init_89 : decode mi_History_init.2.1 89 = .ok (.if_icmp .ge 22, 3) := by decide +kernel
theorem jd_History_init_92 : decode mi_History_init.2.1 92 = .ok (.aload_n 0, 1) := by decide +kernel
theorem jd_History_init_93 : decode mi_History_init.2.1 93 = .ok (.getfield 11, 3) := by decide +kernel
theorem jd_History_init_96 : decode mi_History_init.2.1 96 = .ok (.iload_n 1, 1) := by decide +kernel
theorem jd_History_init_97 : decode mi_History_init.2.1 97 = .ok (.new 9, 3) := by decide +kernel
theorem jd_History_init_100 : decode mi_History_init.2.1 100 = .ok (.dup, 1) := by decide +kernel
theorem jd_History_init_101 : decode mi_History_init.2.1 101 = .ok (.invokespecial 17, 3) := by decide +kernel
theorem jd_History_init_104 : decode mi_History_init.2.1 104 = .ok (.aastore, 1) := by decide +kernel
theorem jd_History_init_105 : decode mi_History_init.2.1 105 = .ok (.iinc 1 1, 3) := by decide +kernel
theorem jd_History_init_108 : decode mi_History_init.2.1 108 = .ok (.goto (-22), 3) := by decide +kernel
theorem jd_History_init_111 : decode mi_History_init.2.1 111 = .ok (.return_, 1) := by decide +kernel
theorem jd_Branchwork_init_0 : decode mi_Branchwork_init.2.1 0 = .ok (.aload_n 0, 1) := by decide +kernel
theorem jd_Branchwork_init_1 : decode mi_Branchwork_init.2.1 1 = .ok (.invokespecial 3, 3) := by decide +kernel
theorem jd_Branchwork_init_4 : decode mi_Branchwork_init.2.1 4 = .ok (.aload_n 0, 1) := by decide +kernel
theorem jd_Branchwork_init_5 : decode mi_Branchwork_init.2.1 5 = .ok (.new 9, 3) := by decide +kernel
theorem jd_Branchwork_init_8 : decode mi_Branchwork_init.2.1 8 = .ok (.dup, 1) := by decide +kernel
theorem jd_Branchwork_init_9 : decode mi_Branchwork_init.2.1 9 = .ok (.invokespecial 11, 3) := by decide +kernel
theorem jd_Branchwork_init_12 : decode mi_Branchwork_init.2.1 12 = .ok (.putfield 12, 3) := by decide +kernel
theorem jd_Branchwork_init_15 : decode mi_Branchwork_init.2.1 15 = .ok (.aload_n 0, 1) := by decide +kernel
theorem jd_Branchwork_init_16 : decode mi_Branchwork_init.2.1 16 = .ok (.new 16, 3) := by decide +kernel
theorem jd_Branchwork_init_19 : decode mi_Branchwork_init.2.1 19 = .ok (.dup, 1) := by decide +kernel
theorem jd_Branchwork_init_20 : decode mi_Branchwork_init.2.1 20 = .ok (.invokespecial 18, 3) := by decide +kernel
theorem jd_Branchwork_init_23 : decode mi_Branchwork_init.2.1 23 = .ok (.putfield 19, 3) := by decide +kernel
theorem jd_Branchwork_init_26 : decode mi_Branchwork_init.2.1 26 = .ok (.aload_n 0, 1) := by decide +kernel
theorem jd_Branchwork_init_27 : decode mi_Branchwork_init.2.1 27 = .ok (.new 23, 3) := by decide +kernel
theorem jd_Branchwork_init_30 : decode mi_Branchwork_init.2.1 30 = .ok (.dup, 1) := by decide +kernel
theorem jd_Branchwork_init_31 : decode mi_Branchwork_init.2.1 31 = .ok (.invokespecial 25, 3) := by decide +kernel
theorem jd_Branchwork_init_34 : decode mi_Branchwork_init.2.1 34 = .ok (.putfield 26, 3) := by decide +kernel
theorem jd_Branchwork_init_37 : decode mi_Branchwork_init.2.1 37 = .ok (.aload_n 0, 1) := by decide +kernel
theorem jd_Branchwork_init_38 : decode mi_Branchwork_init.2.1 38 = .ok (.new 30, 3) := by decide +kernel
theorem jd_Branchwork_init_41 : decode mi_Branchwork_init.2.1 41 = .ok (.dup, 1) := by decide +kernel
theorem jd_Branchwork_init_42 : decode mi_Branchwork_init.2.1 42 = .ok (.invokespecial 32, 3) := by decide +kernel
theorem jd_Branchwork_init_45 : decode mi_Branchwork_init.2.1 45 = .ok (.putfield 33, 3) := by decide +kernel
theorem jd_Branchwork_init_48 : decode mi_Branchwork_init.2.1 48 = .ok (.aload_n 0, 1) := by decide +kernel
theorem jd_Branchwork_init_49 : decode mi_Branchwork_init.2.1 49 = .ok (.new 37, 3) := by decide +kernel
theorem jd_Branchwork_init_52 : decode mi_Branchwork_init.2.1 52 = .ok (.dup, 1) := by decide +kernel
theorem jd_Branchwork_init_53 : decode mi_Branchwork_init.2.1 53 = .ok (.invokespecial 39, 3) := by decide +kernel
theorem jd_Branchwork_init_56 : decode mi_Branchwork_init.2.1 56 = .ok (.putfield 40, 3) := by decide +kernel
theorem jd_Branchwork_init_59 : decode mi_Branchwork_init.2.1 59 = .ok (.aload_n 0, 1) := by decide +kernel
theorem jd_Branchwork_init_60 : decode mi_Branchwork_init.2.1 60 = .ok (.new 44, 3) := by decide +kernel
theorem jd_Branchwork_init_63 : decode mi_Branchwork_init.2.1 63 = .ok (.dup, 1) := by decide +kernel
theorem jd_Branchwork_init_64 : decode mi_Branchwork_init.2.1 64 = .ok (.invokespecial 46, 3) := by decide +kernel
theorem jd_Branchwork_init_67 : decode mi_Branchwork_init.2.1 67 = .ok (.putfield 47, 3) := by decide +kernel
theorem jd_Branchwork_init_70 : decode mi_Branchwork_init.2.1 70 = .ok (.aload_n 0, 1) := by decide +kernel
theorem jd_Branchwork_init_71 : decode mi_Branchwork_init.2.1 71 = .ok (.iconst 5, 1) := by decide +kernel
theorem jd_Branchwork_init_72 : decode mi_Branchwork_init.2.1 72 = .ok (.newarray .int, 2) := by decide +kernel
theorem jd_Branchwork_init_74 : decode mi_Branchwork_init.2.1 74 = .ok (.putfield 51, 3) := by decide +kernel
theorem jd_Branchwork_init_77 : decode mi_Branchwork_init.2.1 77 = .ok (.aload_n 0, 1) := by decide +kernel
theorem jd_Branchwork_init_78 : decode mi_Branchwork_init.2.1 78 = .ok (.iconst 1, 1) := by decide +kernel
theorem jd_Branchwork_init_79 : decode mi_Branchwork_init.2.1 79 = .ok (.putfield 55, 3) := by decide +kernel
theorem jd_Branchwork_init_82 : decode mi_Branchwork_init.2.1 82 = .ok (.aload_n 0, 1) := by decide +kernel
theorem jd_Branchwork_init_83 : decode mi_Branchwork_init.2.1 83 = .ok (.iconst 0, 1) := by decide +kernel
theorem jd_Branchwork_init_84 : decode mi_Branchwork_init.2.1 84 = .ok (.putfield 59, 3) := by decide +kernel
theorem jd_Branchwork_init_87 : decode mi_Branchwork_init.2.1 87 = .ok (.aload_n 0, 1) := by decide +kernel
theorem jd_Branchwork_init_88 : decode mi_Branchwork_init.2.1 88 = .ok (.iconst (-1), 1) := by decide +kernel
theorem jd_Branchwork_init_89 : decode mi_Branchwork_init.2.1 89 = .ok (.putfield 62, 3) := by decide +kernel
theorem jd_Branchwork_init_92 : decode mi_Branchwork_init.2.1 92 = .ok (.aload_n 0, 1) := by decide +kernel
theorem jd_Branchwork_init_93 : decode mi_Branchwork_init.2.1 93 = .ok (.getfield 51, 3) := by decide +kernel
theorem jd_Branchwork_init_96 : decode mi_Branchwork_init.2.1 96 = .ok (.iconst (-1), 1) := by decide +kernel
theorem jd_Branchwork_init_97 : decode mi_Branchwork_init.2.1 97 = .ok (.invokestatic 65, 3) := by decide +kernel
theorem jd_Branchwork_init_100 : decode mi_Branchwork_init.2.1 100 = .ok (.return_, 1) := by decide +kernel
/-- a History's 876 cells -/
def bh_At (o : jw_O) (μ : jw_Mem) (h : Nat) (N : Nat → Nat → Nat) (Z : Nat → Nat → Int32) (G : Nat → Nat → Nat → Int32) (nt f1 f2 tn cn : Nat → Int32) (c kp : Int32) : Prop :=
  μ h = some (.inr (7, [.ref (h + 1), .ref (h + 2), .ref (h + 30), .ref (h + 31), .ref (h + 32), .ref (h + 33), .ref (h + 34), .ref (h + 35), .int c, .int kp])) ∧ (∃ F : Nat → Option Nat, μ (h + 1) = some (.inl (o.2.2.1 3, 30, .inr (.inr (.inr (.inr F))))) ∧ ∀ i, i < 30 → F i = some (h + 36 + 28 * i)) ∧ bt_At o μ (h + 2) (fun _ => 0) (fun _ => 0) (fun _ _ => 0) ∧ bi_At o μ (h + 30) 30 nt ∧ bi_At o μ (h + 31) 30 f1 ∧ bi_At o μ (h + 32) 30 f2 ∧ bi_At o μ (h + 33) 30 tn ∧ bi_At o μ (h + 34) 360 cn ∧ (∃ f, bi_At o μ (h + 35) 360 f) ∧ ∀ i, i < 30 → bt_At o μ (h + 36 + 28 * i) (N i) (Z i) (G i)
theorem bh_At.fr {o : jw_O} {μ μ' : jw_Mem} {h b m : Nat} {N : Nat → Nat → Nat} {Z : Nat → Nat → Int32} {G : Nat → Nat → Nat → Int32} {nt f1 f2 tn cn : Nat → Int32} {c kp : Int32} (x : bh_At o μ h N Z G nt f1 f2 tn cn c kp) (q : jw_Fr μ μ' b m) (hd : h + 876 ≤ b ∨ b + m ≤ h) : bh_At o μ' h N Z G nt f1 f2 tn cn c kp := by
  obtain ⟨x1, ⟨F, x2, x3⟩, x4, x5, x6, x7, x8, x9, ⟨e, x10⟩, x11⟩ := x
  exact ⟨(q _ (by omega)).trans x1, ⟨F, (q _ (by omega)).trans x2, x3⟩, x4.fr q (by omega), x5.fr q (by omega), x6.fr q (by omega), x7.fr q (by omega), x8.fr q (by omega), x9.fr q (by omega), ⟨e, x10.fr q (by omega)⟩, fun i hi => (x11 i hi).fr q (by omega)⟩
section
variable {o : jw_O} {μ : jw_Mem} {hs a : Nat}
theorem bi_fill {n : Nat} {f : Nat → Int32} {v : Int32} (h : bi_At o μ a n f) (hn : n < 2 ^ 31) : jw_Spec mi_Arrays_fill 0 0 0 o [.ref a, .int v] μ hs (fun r μ' s' => r = none ∧ s' = hs ∧ (∃ f', bi_At o μ' a n f' ∧ ∀ j, j < n → f' j = v) ∧ jw_Fr μ μ' a 1) := by
  refine jw_spec (by decide +kernel) (Nat.le_of_ble_eq_true rfl) rfl (fun k hR hE => ?_)
  have ha : μ a = some (.inl (o.2.2.1 0, n, .inl f)) := h
  obtain ⟨μ0, hμ0⟩ : ∃ z, z = μ := ⟨_, rfl⟩
  have hF : jw_Fr μ0 μ a 1 := by rw [hμ0]; exact jw_Fr.rf
  refine jw_iconst (pc' := 1) (v := nI 0) jd_Arrays_fill_0 (by decide +kernel) rfl ?_
  refine jw_istore_n (pc' := 2) (lc' := [(0, _), (1, _), (2, _)]) jd_Arrays_fill_1 rfl (Nat.le_of_ble_eq_true rfl) ⟨rfl, rfl, rfl, trivial⟩ rfl ?_
  refine jw_aload_n (pc' := 3) jd_Arrays_fill_2 rfl rfl rfl ?_
  refine jw_alen (pc' := 4) (i := 0) jd_Arrays_fill_3 (by assumption) rfl rfl rfl ?_
  refine jw_istore_n (pc' := 5) (lc' := [(0, _), (1, _), (2, _), (3, _)]) jd_Arrays_fill_4 rfl (Nat.le_of_ble_eq_true rfl) ⟨rfl, rfl, rfl, rfl, trivial⟩ rfl ?_
  have loop : ∀ d i : Nat, i + d = n → ∀ (μ : jw_Mem) (f : Nat → Int32), μ a = some (.inl (o.2.2.1 0, n, .inl f)) → (∀ j, j < i → f j = v) → jw_Fr μ0 μ a 1 → jw_X mi_Arrays_fill o k 0 0 5 [(0, .ref a), (1, .int v), (2, .int (nI i)), (3, .int (nI n))] [] μ hs := by
    intro d
    induction d with
    | zero =>
      intro i hi μ f ha hf hF
      refine jw_iload_n (pc' := 6) jd_Arrays_fill_5 rfl rfl rfl ?_
      refine jw_iload_n (pc' := 7) jd_Arrays_fill_6 rfl rfl rfl ?_
      refine jw_icmp_ge (tgt := 20) (pc' := 10) jd_Arrays_fill_7 (by decide) rfl (fun c => ?_) (fun c => ?_)
      · refine jw_vret hE jd_Arrays_fill_20 rfl (by omega) (by omega) ?_
        exact ⟨rfl, rfl, ⟨f, ha, fun j hj => hf j (by omega)⟩, hμ0 ▸ hF⟩
      · exact absurd (nI_le (by omega) (by omega)) c
    | succ d ih =>
      intro i hi μ f ha hf hF
      refine jw_iload_n (pc' := 6) jd_Arrays_fill_5 rfl rfl rfl ?_
      refine jw_iload_n (pc' := 7) jd_Arrays_fill_6 rfl rfl rfl ?_
      refine jw_icmp_ge (tgt := 20) (pc' := 10) jd_Arrays_fill_7 (by decide) rfl (fun c => ?_) (fun c => ?_)
      · exact absurd ((nI_leI (by omega) (by omega)).mp c) (by omega)
      refine jw_aload_n (pc' := 11) jd_Arrays_fill_10 rfl rfl rfl ?_
      refine jw_iload_n (pc' := 12) jd_Arrays_fill_11 rfl rfl rfl ?_
      refine jw_iload_n (pc' := 13) jd_Arrays_fill_12 rfl rfl rfl ?_
      refine jw_iast (pc' := 14) (i := 0) jd_Arrays_fill_13 (by assumption) rfl (vp_in_nI (by omega) (by omega)) rfl (fun μ ha f9 => ?_)
      have hF := jw_Fr.step hF f9 (by omega)
      refine jw_iinc (pc' := 17) (lc' := [(0, _), (1, _), (2, _), (3, _)]) jd_Arrays_fill_14 rfl (nI_1 _) (Nat.le_of_ble_eq_true rfl) ⟨rfl, rfl, rfl, rfl, trivial⟩ rfl ?_
      refine jw_goto (tgt := 5) jd_Arrays_fill_17 (by decide) ?_
      refine ih (i + 1) (by omega) _ _ ha (fun j hj => ?_) hF
      rw [nI_clamp (by omega)]
      by_cases e : j = i
      · rw [e]; exact pk_us
      · rw [pk_un e]; exact hf j (by omega)
  exact loop n 0 (by omega) μ f ha (fun j hj => absurd hj (by omega)) hF
theorem bh_init {x1 x2 x3 x4 x5 x6 x7 x8 : Value} {c kp : Int32} (h0 : μ a = some (.inr (7, [x1, x2, x3, x4, x5, x6, x7, x8, .int c, .int kp]))) : jw_Spec mi_History_init 3 875 6543 o [.ref a] μ (a + 1) (fun v μ' s' => v = none ∧ s' = a + 876 ∧ bh_At o μ' a (fun _ _ => 0) (fun _ _ => 0) (fun _ _ _ => 0) (fun _ => 0) (fun _ => 0) (fun _ => 0) (fun _ => 0) (fun _ => 0) 0 0 ∧ jw_Fr μ μ' a 876) := by
  refine jw_spec (by decide +kernel) (Nat.le_of_ble_eq_true rfl) rfl (fun k hR hE => ?_)
  obtain ⟨μ0, hμ0⟩ : ∃ z, z = μ := ⟨_, rfl⟩
  have hF : jw_Fr μ0 μ a 876 := by rw [hμ0]; exact jw_Fr.rf
  refine jw_aload_n (pc' := 1) jd_History_init_0 rfl rfl rfl ?_
  refine jw_objInit (pc' := 4) hR jq_129 jd_History_init_1 (Nat.le_of_ble_eq_true rfl) (by omega) rfl ?_
  refine jw_aload_n (pc' := 5) jd_History_init_4 rfl rfl rfl ?_
  refine jw_bipush (pc' := 7) (v := nI 30) jd_History_init_5 (by decide +kernel) rfl ?_
  refine jw_newq (pc' := 10) (N := 30) (i := 3) (C := "Branchwork$Tree") hR jq_130 (by decide +kernel) rfl jd_History_init_7 (by decide +kernel) (by decide +kernel) (by decide +kernel) (by omega) (by omega) rfl (fun μ h1 f9 => ?_)
  have h0 := (f9 _ (by omega)).trans h0
  have hF := jw_Fr.step hF f9 (by omega)
  refine jw_putF (pc' := 13) (kf := 0) (ty := (.array (.object "Branchwork$Tree"))) (fs' := [_, _, _, _, _, _, _, _, _, _]) jc_History (by decide) jq_133 jd_History_init_10 rfl rfl rfl (by decide +kernel) (by assumption) rfl rfl rfl (Nat.le_of_ble_eq_true rfl) rfl (fun μ h0 f9 => ?_)
  have h1 := (f9 _ (by omega)).trans h1
  have hF := jw_Fr.step hF f9 (by omega)
  refine jw_aload_n (pc' := 14) jd_History_init_13 rfl rfl rfl ?_
  refine jw_new (pc' := 17) (fs := [.null, .null]) hR jc_Tree jq_130 jq_94 jq_56 jd_History_init_14 (by decide +kernel) (by omega) (by omega) rfl (fun μ hc f9 => ?_)
  have h0 := (f9 _ (by omega)).trans h0
  have h1 := (f9 _ (by omega)).trans h1
  have hF := jw_Fr.step hF f9 (by omega)
  refine jw_dup (pc' := 18) jd_History_init_17 rfl rfl ?_
  refine jw_callI (pc' := 21) hR (bt_init hc) jm_Tree_init jq_132 jd_History_init_18 rfl rfl (Nat.le_of_ble_eq_true rfl) (by omega) (by decide) (by omega) (by omega) rfl (fun v μ s9 q9 hle => ?_)
  obtain ⟨rfl, rfl, hT, f9⟩ := q9
  have hF := hF.trans f9 (by omega) (by omega)
  have h0 := (f9 _ (by omega)).trans h0
  have h1 := (f9 _ (by omega)).trans h1
  refine jw_putF (pc' := 24) (kf := 1) (ty := (.object "Branchwork$Tree")) (fs' := [_, _, _, _, _, _, _, _, _, _]) jc_History (by decide) jq_134 jd_History_init_21 rfl rfl rfl (by decide +kernel) (by assumption) rfl rfl rfl (Nat.le_of_ble_eq_true rfl) rfl (fun μ h0 f9 => ?_)
  have h1 := (f9 _ (by omega)).trans h1
  have hF := jw_Fr.step hF f9 (by omega)
  have hT := hT.fr (jw_Fr.o f9) (by omega)
  refine jw_aload_n (pc' := 25) jd_History_init_24 rfl rfl rfl ?_
  refine jw_bipush (pc' := 27) (v := nI 30) jd_History_init_25 (by decide +kernel) rfl ?_
  refine jw_newa (pc' := 29) (N := 30) (i := 0) (a0 := (30, .inl (fun _ => 0))) (ty := .int) (atype := .int) hR jq_116 rfl rfl jd_History_init_27 (fun _ => rfl) (by decide +kernel) (by decide +kernel) (by decide +kernel) (by omega) (by omega) rfl (fun μ a1 f9 => ?_)
  have h0 := (f9 _ (by omega)).trans h0
  have h1 := (f9 _ (by omega)).trans h1
  have hF := jw_Fr.step hF f9 (by omega)
  have hT := hT.fr (jw_Fr.o f9) (by omega)
  refine jw_putF (pc' := 32) (kf := 2) (ty := (.array .int)) (fs' := [_, _, _, _, _, _, _, _, _, _]) jc_History (by decide) jq_135 jd_History_init_29 rfl rfl rfl (by decide +kernel) (by assumption) rfl rfl rfl (Nat.le_of_ble_eq_true rfl) rfl (fun μ h0 f9 => ?_)
  have h1 := (f9 _ (by omega)).trans h1
  have a1 := (f9 _ (by omega)).trans a1
  have hF := jw_Fr.step hF f9 (by omega)
  have hT := hT.fr (jw_Fr.o f9) (by omega)
  refine jw_aload_n (pc' := 33) jd_History_init_32 rfl rfl rfl ?_
  refine jw_bipush (pc' := 35) (v := nI 30) jd_History_init_33 (by decide +kernel) rfl ?_
  refine jw_newa (pc' := 37) (N := 30) (i := 0) (a0 := (30, .inl (fun _ => 0))) (ty := .int) (atype := .int) hR jq_116 rfl rfl jd_History_init_35 (fun _ => rfl) (by decide +kernel) (by decide +kernel) (by decide +kernel) (by omega) (by omega) rfl (fun μ a2 f9 => ?_)
  have h0 := (f9 _ (by omega)).trans h0
  have h1 := (f9 _ (by omega)).trans h1
  have a1 := (f9 _ (by omega)).trans a1
  have hF := jw_Fr.step hF f9 (by omega)
  have hT := hT.fr (jw_Fr.o f9) (by omega)
  refine jw_putF (pc' := 40) (kf := 3) (ty := (.array .int)) (fs' := [_, _, _, _, _, _, _, _, _, _]) jc_History (by decide) jq_136 jd_History_init_37 rfl rfl rfl (by decide +kernel) (by assumption) rfl rfl rfl (Nat.le_of_ble_eq_true rfl) rfl (fun μ h0 f9 => ?_)
  have h1 := (f9 _ (by omega)).trans h1
  have a1 := (f9 _ (by omega)).trans a1
  have a2 := (f9 _ (by omega)).trans a2
  have hF := jw_Fr.step hF f9 (by omega)
  have hT := hT.fr (jw_Fr.o f9) (by omega)
  refine jw_aload_n (pc' := 41) jd_History_init_40 rfl rfl rfl ?_
  refine jw_bipush (pc' := 43) (v := nI 30) jd_History_init_41 (by decide +kernel) rfl ?_
  refine jw_newa (pc' := 45) (N := 30) (i := 0) (a0 := (30, .inl (fun _ => 0))) (ty := .int) (atype := .int) hR jq_116 rfl rfl jd_History_init_43 (fun _ => rfl) (by decide +kernel) (by decide +kernel) (by decide +kernel) (by omega) (by omega) rfl (fun μ a3 f9 => ?_)
  have h0 := (f9 _ (by omega)).trans h0
  have h1 := (f9 _ (by omega)).trans h1
  have a1 := (f9 _ (by omega)).trans a1
  have a2 := (f9 _ (by omega)).trans a2
  have hF := jw_Fr.step hF f9 (by omega)
  have hT := hT.fr (jw_Fr.o f9) (by omega)
  refine jw_putF (pc' := 48) (kf := 4) (ty := (.array .int)) (fs' := [_, _, _, _, _, _, _, _, _, _]) jc_History (by decide) jq_137 jd_History_init_45 rfl rfl rfl (by decide +kernel) (by assumption) rfl rfl rfl (Nat.le_of_ble_eq_true rfl) rfl (fun μ h0 f9 => ?_)
  have h1 := (f9 _ (by omega)).trans h1
  have a1 := (f9 _ (by omega)).trans a1
  have a2 := (f9 _ (by omega)).trans a2
  have a3 := (f9 _ (by omega)).trans a3
  have hF := jw_Fr.step hF f9 (by omega)
  have hT := hT.fr (jw_Fr.o f9) (by omega)
  refine jw_aload_n (pc' := 49) jd_History_init_48 rfl rfl rfl ?_
  refine jw_bipush (pc' := 51) (v := nI 30) jd_History_init_49 (by decide +kernel) rfl ?_
  refine jw_newa (pc' := 53) (N := 30) (i := 0) (a0 := (30, .inl (fun _ => 0))) (ty := .int) (atype := .int) hR jq_116 rfl rfl jd_History_init_51 (fun _ => rfl) (by decide +kernel) (by decide +kernel) (by decide +kernel) (by omega) (by omega) rfl (fun μ a4 f9 => ?_)
  have h0 := (f9 _ (by omega)).trans h0
  have h1 := (f9 _ (by omega)).trans h1
  have a1 := (f9 _ (by omega)).trans a1
  have a2 := (f9 _ (by omega)).trans a2
  have a3 := (f9 _ (by omega)).trans a3
  have hF := jw_Fr.step hF f9 (by omega)
  have hT := hT.fr (jw_Fr.o f9) (by omega)
  refine jw_putF (pc' := 56) (kf := 5) (ty := (.array .int)) (fs' := [_, _, _, _, _, _, _, _, _, _]) jc_History (by decide) jq_138 jd_History_init_53 rfl rfl rfl (by decide +kernel) (by assumption) rfl rfl rfl (Nat.le_of_ble_eq_true rfl) rfl (fun μ h0 f9 => ?_)
  have h1 := (f9 _ (by omega)).trans h1
  have a1 := (f9 _ (by omega)).trans a1
  have a2 := (f9 _ (by omega)).trans a2
  have a3 := (f9 _ (by omega)).trans a3
  have a4 := (f9 _ (by omega)).trans a4
  have hF := jw_Fr.step hF f9 (by omega)
  have hT := hT.fr (jw_Fr.o f9) (by omega)
  refine jw_aload_n (pc' := 57) jd_History_init_56 rfl rfl rfl ?_
  refine jw_sipush (pc' := 60) (v := nI 360) jd_History_init_57 (by decide +kernel) rfl ?_
  refine jw_newa (pc' := 62) (N := 360) (i := 0) (a0 := (360, .inl (fun _ => 0))) (ty := .int) (atype := .int) hR jq_116 rfl rfl jd_History_init_60 (fun _ => rfl) (by decide +kernel) (by decide +kernel) (by decide +kernel) (by omega) (by omega) rfl (fun μ a5 f9 => ?_)
  have h0 := (f9 _ (by omega)).trans h0
  have h1 := (f9 _ (by omega)).trans h1
  have a1 := (f9 _ (by omega)).trans a1
  have a2 := (f9 _ (by omega)).trans a2
  have a3 := (f9 _ (by omega)).trans a3
  have a4 := (f9 _ (by omega)).trans a4
  have hF := jw_Fr.step hF f9 (by omega)
  have hT := hT.fr (jw_Fr.o f9) (by omega)
  refine jw_putF (pc' := 65) (kf := 6) (ty := (.array .int)) (fs' := [_, _, _, _, _, _, _, _, _, _]) jc_History (by decide) jq_139 jd_History_init_62 rfl rfl rfl (by decide +kernel) (by assumption) rfl rfl rfl (Nat.le_of_ble_eq_true rfl) rfl (fun μ h0 f9 => ?_)
  have h1 := (f9 _ (by omega)).trans h1
  have a1 := (f9 _ (by omega)).trans a1
  have a2 := (f9 _ (by omega)).trans a2
  have a3 := (f9 _ (by omega)).trans a3
  have a4 := (f9 _ (by omega)).trans a4
  have a5 := (f9 _ (by omega)).trans a5
  have hF := jw_Fr.step hF f9 (by omega)
  have hT := hT.fr (jw_Fr.o f9) (by omega)
  refine jw_aload_n (pc' := 66) jd_History_init_65 rfl rfl rfl ?_
  refine jw_sipush (pc' := 69) (v := nI 360) jd_History_init_66 (by decide +kernel) rfl ?_
  refine jw_newa (pc' := 71) (N := 360) (i := 0) (a0 := (360, .inl (fun _ => 0))) (ty := .int) (atype := .int) hR jq_116 rfl rfl jd_History_init_69 (fun _ => rfl) (by decide +kernel) (by decide +kernel) (by decide +kernel) (by omega) (by omega) rfl (fun μ a6 f9 => ?_)
  have h0 := (f9 _ (by omega)).trans h0
  have h1 := (f9 _ (by omega)).trans h1
  have a1 := (f9 _ (by omega)).trans a1
  have a2 := (f9 _ (by omega)).trans a2
  have a3 := (f9 _ (by omega)).trans a3
  have a4 := (f9 _ (by omega)).trans a4
  have a5 := (f9 _ (by omega)).trans a5
  have hF := jw_Fr.step hF f9 (by omega)
  have hT := hT.fr (jw_Fr.o f9) (by omega)
  refine jw_putF (pc' := 74) (kf := 7) (ty := (.array .int)) (fs' := [_, _, _, _, _, _, _, _, _, _]) jc_History (by decide) jq_140 jd_History_init_71 rfl rfl rfl (by decide +kernel) (by assumption) rfl rfl rfl (Nat.le_of_ble_eq_true rfl) rfl (fun μ h0 f9 => ?_)
  have h1 := (f9 _ (by omega)).trans h1
  have a1 := (f9 _ (by omega)).trans a1
  have a2 := (f9 _ (by omega)).trans a2
  have a3 := (f9 _ (by omega)).trans a3
  have a4 := (f9 _ (by omega)).trans a4
  have a5 := (f9 _ (by omega)).trans a5
  have a6 := (f9 _ (by omega)).trans a6
  have hF := jw_Fr.step hF f9 (by omega)
  have hT := hT.fr (jw_Fr.o f9) (by omega)
  refine jw_aload_n (pc' := 75) jd_History_init_74 rfl rfl rfl ?_
  refine jw_iconst (pc' := 76) (v := nI 0) jd_History_init_75 (by decide +kernel) rfl ?_
  refine jw_put (pc' := 79) (kf := 8) (ty := .int) (fs' := [_, _, _, _, _, _, _, _, _, _]) jc_History (by decide) jq_141 jd_History_init_76 rfl (by decide +kernel) (by assumption) rfl rfl rfl (Nat.le_of_ble_eq_true rfl) rfl (fun μ h0 f9 => ?_)
  have h1 := (f9 _ (by omega)).trans h1
  have a1 := (f9 _ (by omega)).trans a1
  have a2 := (f9 _ (by omega)).trans a2
  have a3 := (f9 _ (by omega)).trans a3
  have a4 := (f9 _ (by omega)).trans a4
  have a5 := (f9 _ (by omega)).trans a5
  have a6 := (f9 _ (by omega)).trans a6
  have hF := jw_Fr.step hF f9 (by omega)
  have hT := hT.fr (jw_Fr.o f9) (by omega)
  refine jw_aload_n (pc' := 80) jd_History_init_79 rfl rfl rfl ?_
  refine jw_iconst (pc' := 81) (v := nI 0) jd_History_init_80 (by decide +kernel) rfl ?_
  refine jw_put (pc' := 84) (kf := 9) (ty := .int) (fs' := [_, _, _, _, _, _, _, _, _, _]) jc_History (by decide) jq_142 jd_History_init_81 rfl (by decide +kernel) (by assumption) rfl rfl rfl (Nat.le_of_ble_eq_true rfl) rfl (fun μ h0 f9 => ?_)
  have h1 := (f9 _ (by omega)).trans h1
  have a1 := (f9 _ (by omega)).trans a1
  have a2 := (f9 _ (by omega)).trans a2
  have a3 := (f9 _ (by omega)).trans a3
  have a4 := (f9 _ (by omega)).trans a4
  have a5 := (f9 _ (by omega)).trans a5
  have a6 := (f9 _ (by omega)).trans a6
  have hF := jw_Fr.step hF f9 (by omega)
  have hT := hT.fr (jw_Fr.o f9) (by omega)
  refine jw_iconst (pc' := 85) (v := nI 0) jd_History_init_84 (by decide +kernel) rfl ?_
  refine jw_istore_n (pc' := 86) (lc' := [(0, _), (1, _)]) jd_History_init_85 rfl (Nat.le_of_ble_eq_true rfl) ⟨rfl, rfl, trivial⟩ rfl ?_
  have loop : ∀ d i : Nat, i + d = 30 → ∀ (μ : jw_Mem), jw_Fr μ0 μ a 876 → μ a = some (.inr (7, [.ref (a + 1), .ref (a + 2), .ref (a + 30), .ref (a + 31), .ref (a + 32), .ref (a + 33), .ref (a + 34), .ref (a + 35), .int 0, .int 0])) → (∃ F : Nat → Option Nat, μ (a + 1) = some (.inl (o.2.2.1 3, 30, .inr (.inr (.inr (.inr F))))) ∧ ∀ p, p < i → F p = some (a + 36 + 28 * p)) → bt_At o μ (a + 2) (fun _ => 0) (fun _ => 0) (fun _ _ => 0) → bi_At o μ (a + 30) 30 (fun _ => 0) → bi_At o μ (a + 31) 30 (fun _ => 0) → bi_At o μ (a + 32) 30 (fun _ => 0) → bi_At o μ (a + 33) 30 (fun _ => 0) → bi_At o μ (a + 34) 360 (fun _ => 0) → bi_At o μ (a + 35) 360 (fun _ => 0) → (∀ p, p < i → bt_At o μ (a + 36 + 28 * p) (fun _ => 0) (fun _ => 0) (fun _ _ => 0)) →
      jw_X mi_History_init o k (35 + 28 * i) (1053 + 183 * i) 86 [(0, .ref a), (1, .int (nI i))] [] μ (a + 36 + 28 * i) := by
    intro d
    induction d with
    | zero =>
      intro i hi μ hF h0 h1 hT b1 b2 b3 b4 b5 b6 hA
      obtain rfl : i = 30 := by omega
      obtain ⟨F, h1, hFp⟩ := h1
      refine jw_iload_n (pc' := 87) jd_History_init_86 rfl rfl rfl ?_
      refine jw_bipush (pc' := 89) (v := nI 30) jd_History_init_87 (by decide +kernel) rfl ?_
      refine jw_icmp_ge (tgt := 111) (pc' := 92) jd_History_init_89 (by decide) rfl (fun c => ?_) (fun c => ?_)
      · refine jw_vret hE jd_History_init_111 rfl (by omega) (by omega) ?_
        exact ⟨rfl, rfl, ⟨h0, ⟨F, h1, hFp⟩, hT, b1, b2, b3, b4, b5, ⟨_, b6⟩, hA⟩, hμ0 ▸ hF⟩
      · exact absurd (nI_le (by omega) (by omega)) c
    | succ d ih =>
      intro i hi μ hF h0 h1 hT b1 b2 b3 b4 b5 b6 hA
      obtain ⟨F, h1, hFp⟩ := h1
      obtain ⟨μ1, hμ1⟩ : ∃ z, z = μ := ⟨_, rfl⟩
      have hG : jw_Fr μ1 μ (a + 36 + 28 * i) 28 := by rw [hμ1]; exact jw_Fr.rf
      rw [← hμ1] at hA
      refine jw_iload_n (pc' := 87) jd_History_init_86 rfl rfl rfl ?_
      refine jw_bipush (pc' := 89) (v := nI 30) jd_History_init_87 (by decide +kernel) rfl ?_
      refine jw_icmp_ge (tgt := 111) (pc' := 92) jd_History_init_89 (by decide) rfl (fun c => ?_) (fun c => ?_)
      · exact absurd ((nI_leI (a := 30) (by omega) (by omega)).mp c) (by omega)
      refine jw_aload_n (pc' := 93) jd_History_init_92 rfl rfl rfl ?_
      refine jw_get (pc' := 96) (kf := 0) jc_History (by decide) jq_133 jd_History_init_93 (by assumption) rfl rfl ?_
      refine jw_iload_n (pc' := 97) jd_History_init_96 rfl rfl rfl ?_
      refine jw_new (pc' := 100) (fs := [.null, .null]) hR jc_Tree jq_130 jq_94 jq_56 jd_History_init_97 (by decide +kernel) (by omega) (by omega) rfl (fun μ hc f9 => ?_)
      have h0 := (f9 _ (by omega)).trans h0
      have h1 := (f9 _ (by omega)).trans h1
      have hF := jw_Fr.step hF f9 (by omega)
      have hT := hT.fr (jw_Fr.o f9) (by omega)
      have b1 := b1.fr (jw_Fr.o f9) (by omega)
      have b2 := b2.fr (jw_Fr.o f9) (by omega)
      have b3 := b3.fr (jw_Fr.o f9) (by omega)
      have b4 := b4.fr (jw_Fr.o f9) (by omega)
      have b5 := b5.fr (jw_Fr.o f9) (by omega)
      have b6 := b6.fr (jw_Fr.o f9) (by omega)
      refine jw_dup (pc' := 101) jd_History_init_100 rfl rfl ?_
      have hG := jw_Fr.step hG f9 (by omega)
      refine jw_callI (pc' := 104) hR (bt_init hc) jm_Tree_init jq_132 jd_History_init_101 rfl rfl (Nat.le_of_ble_eq_true rfl) (by omega) (by decide) (by omega) (by omega) rfl (fun v μ s9 q9 hle => ?_)
      obtain ⟨rfl, rfl, hD, f9⟩ := q9
      have hF := hF.trans f9 (by omega) (by omega)
      have h0 := (f9 _ (by omega)).trans h0
      have h1 := (f9 _ (by omega)).trans h1
      have hT := hT.fr f9 (by omega)
      have b1 := b1.fr f9 (by omega)
      have b2 := b2.fr f9 (by omega)
      have b3 := b3.fr f9 (by omega)
      have b4 := b4.fr f9 (by omega)
      have b5 := b5.fr f9 (by omega)
      have b6 := b6.fr f9 (by omega)
      have hG := hG.trans f9 (by omega) (by omega)
      have hc := hD.1
      refine jw_aast (pc' := 105) (i := 3) (ci := 1) (r := ("Branchwork$Tree", F_Tree, 2)) jd_History_init_104 (by assumption) rfl hc jc_Tree (vp_in_nI (by omega) (by omega)) rfl (fun μ h1 f9 => ?_)
      have hF := jw_Fr.step hF f9 (by omega)
      have h0 := (f9 _ (by omega)).trans h0
      have hT := hT.fr (jw_Fr.o f9) (by omega)
      have b1 := b1.fr (jw_Fr.o f9) (by omega)
      have b2 := b2.fr (jw_Fr.o f9) (by omega)
      have b3 := b3.fr (jw_Fr.o f9) (by omega)
      have b4 := b4.fr (jw_Fr.o f9) (by omega)
      have b5 := b5.fr (jw_Fr.o f9) (by omega)
      have b6 := b6.fr (jw_Fr.o f9) (by omega)
      refine jw_iinc (pc' := 108) (lc' := [(0, _), (1, _)]) jd_History_init_105 rfl (nI_1 _) (Nat.le_of_ble_eq_true rfl) ⟨rfl, rfl, trivial⟩ rfl ?_
      refine jw_goto (tgt := 86) jd_History_init_108 (by decide) ?_
      refine jw_cnt (kc' := 35 + 28 * (i + 1)) (ks' := 1053 + 183 * (i + 1)) (by omega) (by omega) ?_
      refine jw_hs (hs' := a + 36 + 28 * (i + 1)) (by omega) ?_
      have hD1 := hD.fr (jw_Fr.o f9) (by omega)
      refine ih (i + 1) (by omega) _ hF h0 ⟨_, h1, fun p hp => ?_⟩ hT b1 b2 b3 b4 b5 b6 (fun p hp => ?_)
      · rw [nI_clamp (by omega)]
        by_cases e : p = i
        · rw [e, va_up_self]
        · rw [va_up_ne _ _ e]; exact hFp p (by omega)
      · by_cases e : p = i
        · rw [e]; exact hD1
        · exact ((hA p (by omega)).fr hG (by omega)).fr (jw_Fr.o f9) (by omega)
  exact jw_hs (hs' := a + 36 + 28 * 0) (by omega) (loop 30 0 (by omega) _ hF h0 ⟨_, h1, fun p hp => absurd hp (by omega)⟩ hT a1 a2 a3 a4 a5 a6 (fun p hp => absurd hp (by omega)))
/-- the whole store as it is made -/
def bw_New (o : jw_O) (μ : jw_Mem) (b : Nat) : Prop :=
  μ b = some (.inr (8, [.ref (b + 1), .ref (b + 29), .ref (b + 905), .ref (b + 969), .ref (b + 972), .ref (b + 979), .ref (b + 983), .int 1, .int 0, .int (-1)])) ∧ bt_At o μ (b + 1) (fun _ => 0) (fun _ => 0) (fun _ _ => 0) ∧ bh_At o μ (b + 29) (fun _ _ => 0) (fun _ _ => 0) (fun _ _ _ => 0) (fun _ => 0) (fun _ => 0) (fun _ => 0) (fun _ => 0) (fun _ => 0) 0 0 ∧ bg_At o μ (b + 905) (fun _ => 0) (fun _ => 0) (fun _ _ => 0) 0 (fun _ => 0) (fun _ => 0) ∧ bk_At o μ (b + 969) 0 (fun _ => 0) (fun _ => 0) ∧ bn_At o μ (b + 972) (fun _ => 0) (fun _ => 0) 0 ∧ bm_At o μ (b + 979) ∧ ∃ f, bi_At o μ (b + 983) 5 f ∧ ∀ j, j < 5 → f j = -1
theorem bw_New.fr {o : jw_O} {μ μ' : jw_Mem} {h b m : Nat} (x : bw_New o μ h) (q : jw_Fr μ μ' b m) (hd : h + 984 ≤ b ∨ b + m ≤ h) : bw_New o μ' h := by
  obtain ⟨x1, x2, x3, x4, x5, x6, x7, ⟨f, x8, x9⟩⟩ := x
  exact ⟨(q _ (by omega)).trans x1, x2.fr q (by omega), x3.fr q (by omega), x4.fr q (by omega), x5.fr q (by omega), x6.fr q (by omega), x7.fr q (by omega), ⟨f, x8.fr q (by omega), x9⟩⟩
theorem bw_init {x1 x2 x3 x4 x5 x6 x7 : Value} {p q r : Int32} (h0 : μ a = some (.inr (8, [x1, x2, x3, x4, x5, x6, x7, .int p, .int q, .int r]))) : jw_Spec mi_Branchwork_init 4 983 8050 o [.ref a] μ (a + 1) (fun v μ' s' => v = none ∧ s' = a + 984 ∧ bw_New o μ' a ∧ jw_Fr μ μ' a 984) := by
  refine jw_spec (by decide +kernel) (Nat.le_of_ble_eq_true rfl) rfl (fun k hR hE => ?_)
  have hF : jw_Fr μ μ a 984 := jw_Fr.rf
  refine jw_aload_n (pc' := 1) jd_Branchwork_init_0 rfl rfl rfl ?_
  refine jw_objInit (pc' := 4) hR jq_90 jd_Branchwork_init_1 (Nat.le_of_ble_eq_true rfl) (by omega) rfl ?_
  refine jw_aload_n (pc' := 5) jd_Branchwork_init_4 rfl rfl rfl ?_
  refine jw_new (pc' := 8) (fs := [.null, .null]) hR jc_Tree jq_93 jq_94 jq_56 jd_Branchwork_init_5 (by decide +kernel) (by omega) (by omega) rfl (fun μ h1 f9 => ?_)
  have h0 := (f9 _ (by omega)).trans h0
  have hF := jw_Fr.step hF f9 (by omega)
  refine jw_dup (pc' := 9) jd_Branchwork_init_8 rfl rfl ?_
  refine jw_callI (pc' := 12) hR (bt_init h1) jm_Tree_init jq_95 jd_Branchwork_init_9 rfl rfl (Nat.le_of_ble_eq_true rfl) (by omega) (by decide) (by omega) (by omega) rfl (fun v μ s9 q9 hle => ?_)
  obtain ⟨rfl, rfl, hT, f9⟩ := q9
  have hF := hF.trans f9 (by omega) (by omega)
  have h0 := (f9 _ (by omega)).trans h0
  refine jw_putF (pc' := 15) (kf := 0) (ty := (.object "Branchwork$Tree")) (fs' := [_, _, _, _, _, _, _, _, _, _]) jc_Branchwork (by decide) jq_283 jd_Branchwork_init_12 rfl rfl rfl (by decide +kernel) (by assumption) rfl rfl rfl (Nat.le_of_ble_eq_true rfl) rfl (fun μ h0 f9 => ?_)
  have hF := jw_Fr.step hF f9 (by omega)
  have hT := hT.fr (jw_Fr.o f9) (by omega)
  refine jw_aload_n (pc' := 16) jd_Branchwork_init_15 rfl rfl rfl ?_
  refine jw_new (pc' := 19) (fs := [.null, .null, .null, .null, .null, .null, .null, .null, .int 0, .int 0]) hR jc_History jq_124 jq_125 jq_58 jd_Branchwork_init_16 (by decide +kernel) (by omega) (by omega) rfl (fun μ h1 f9 => ?_)
  have h0 := (f9 _ (by omega)).trans h0
  have hF := jw_Fr.step hF f9 (by omega)
  have hT := hT.fr (jw_Fr.o f9) (by omega)
  refine jw_dup (pc' := 20) jd_Branchwork_init_19 rfl rfl ?_
  refine jw_callI (pc' := 23) hR (bh_init h1) jm_History_init jq_126 jd_Branchwork_init_20 rfl rfl (Nat.le_of_ble_eq_true rfl) (by omega) (by decide) (by omega) (by omega) rfl (fun v μ s9 q9 hle => ?_)
  obtain ⟨rfl, rfl, hH, f9⟩ := q9
  have hF := hF.trans f9 (by omega) (by omega)
  have h0 := (f9 _ (by omega)).trans h0
  have hT := hT.fr f9 (by omega)
  refine jw_putF (pc' := 26) (kf := 1) (ty := (.object "Branchwork$History")) (fs' := [_, _, _, _, _, _, _, _, _, _]) jc_Branchwork (by decide) jq_284 jd_Branchwork_init_23 rfl rfl rfl (by decide +kernel) (by assumption) rfl rfl rfl (Nat.le_of_ble_eq_true rfl) rfl (fun μ h0 f9 => ?_)
  have hF := jw_Fr.step hF f9 (by omega)
  have hT := hT.fr (jw_Fr.o f9) (by omega)
  have hH := hH.fr (jw_Fr.o f9) (by omega)
  refine jw_aload_n (pc' := 27) jd_Branchwork_init_26 rfl rfl rfl ?_
  refine jw_new (pc' := 30) (fs := [.null, .null, .null, .null, .null, .null, .null]) hR jc_Merger jq_164 jq_165 jq_59 jd_Branchwork_init_27 (by decide +kernel) (by omega) (by omega) rfl (fun μ h1 f9 => ?_)
  have h0 := (f9 _ (by omega)).trans h0
  have hF := jw_Fr.step hF f9 (by omega)
  have hT := hT.fr (jw_Fr.o f9) (by omega)
  have hH := hH.fr (jw_Fr.o f9) (by omega)
  refine jw_dup (pc' := 31) jd_Branchwork_init_30 rfl rfl ?_
  refine jw_callIN (pc' := 34) hR (bg_init h1) jm_Merger_init jn_Branchwork_25 jd_Branchwork_init_31 rfl rfl (Nat.le_of_ble_eq_true rfl) (by omega) (by decide) (by omega) (by omega) rfl (fun v μ s9 q9 hle => ?_)
  obtain ⟨rfl, rfl, hG, f9⟩ := q9
  have hF := hF.trans f9 (by omega) (by omega)
  have h0 := (f9 _ (by omega)).trans h0
  have hT := hT.fr f9 (by omega)
  have hH := hH.fr f9 (by omega)
  refine jw_putF (pc' := 37) (kf := 2) (ty := (.object "Branchwork$Merger")) (fs' := [_, _, _, _, _, _, _, _, _, _]) jc_Branchwork (by decide) jq_285 jd_Branchwork_init_34 rfl rfl rfl (by decide +kernel) (by assumption) rfl rfl rfl (Nat.le_of_ble_eq_true rfl) rfl (fun μ h0 f9 => ?_)
  have hF := jw_Fr.step hF f9 (by omega)
  have hT := hT.fr (jw_Fr.o f9) (by omega)
  have hH := hH.fr (jw_Fr.o f9) (by omega)
  have hG := hG.fr (jw_Fr.o f9) (by omega)
  refine jw_aload_n (pc' := 38) jd_Branchwork_init_37 rfl rfl rfl ?_
  refine jw_new (pc' := 41) (fs := [.null, .null, .int 0]) hR jc_Conflicts jq_274 jq_173 jq_60 jd_Branchwork_init_38 (by decide +kernel) (by omega) (by omega) rfl (fun μ h1 f9 => ?_)
  have h0 := (f9 _ (by omega)).trans h0
  have hF := jw_Fr.step hF f9 (by omega)
  have hT := hT.fr (jw_Fr.o f9) (by omega)
  have hH := hH.fr (jw_Fr.o f9) (by omega)
  have hG := hG.fr (jw_Fr.o f9) (by omega)
  refine jw_dup (pc' := 42) jd_Branchwork_init_41 rfl rfl ?_
  refine jw_callIN (pc' := 45) hR (bk_init h1) jm_Conflicts_init jn_Branchwork_32 jd_Branchwork_init_42 rfl rfl (Nat.le_of_ble_eq_true rfl) (by omega) (by decide) (by omega) (by omega) rfl (fun v μ s9 q9 hle => ?_)
  obtain ⟨rfl, rfl, hK, f9⟩ := q9
  have hF := hF.trans f9 (by omega) (by omega)
  have h0 := (f9 _ (by omega)).trans h0
  have hT := hT.fr f9 (by omega)
  have hH := hH.fr f9 (by omega)
  have hG := hG.fr f9 (by omega)
  refine jw_putF (pc' := 48) (kf := 3) (ty := (.object "Branchwork$Conflicts")) (fs' := [_, _, _, _, _, _, _, _, _, _]) jc_Branchwork (by decide) jq_286 jd_Branchwork_init_45 rfl rfl rfl (by decide +kernel) (by assumption) rfl rfl rfl (Nat.le_of_ble_eq_true rfl) rfl (fun μ h0 f9 => ?_)
  have hF := jw_Fr.step hF f9 (by omega)
  have hT := hT.fr (jw_Fr.o f9) (by omega)
  have hH := hH.fr (jw_Fr.o f9) (by omega)
  have hG := hG.fr (jw_Fr.o f9) (by omega)
  have hK := hK.fr (jw_Fr.o f9) (by omega)
  refine jw_aload_n (pc' := 49) jd_Branchwork_init_48 rfl rfl rfl ?_
  refine jw_new (pc' := 52) (fs := [.null, .null, .null, .int 0]) hR jc_Renames jq_276 jq_189 jq_61 jd_Branchwork_init_49 (by decide +kernel) (by omega) (by omega) rfl (fun μ h1 f9 => ?_)
  have h0 := (f9 _ (by omega)).trans h0
  have hF := jw_Fr.step hF f9 (by omega)
  have hT := hT.fr (jw_Fr.o f9) (by omega)
  have hH := hH.fr (jw_Fr.o f9) (by omega)
  have hG := hG.fr (jw_Fr.o f9) (by omega)
  have hK := hK.fr (jw_Fr.o f9) (by omega)
  refine jw_dup (pc' := 53) jd_Branchwork_init_52 rfl rfl ?_
  refine jw_callIN (pc' := 56) hR (bn_init h1) jm_Renames_init jn_Branchwork_39 jd_Branchwork_init_53 rfl rfl (Nat.le_of_ble_eq_true rfl) (by omega) (by decide) (by omega) (by omega) rfl (fun v μ s9 q9 hle => ?_)
  obtain ⟨rfl, rfl, hN, f9⟩ := q9
  have hF := hF.trans f9 (by omega) (by omega)
  have h0 := (f9 _ (by omega)).trans h0
  have hT := hT.fr f9 (by omega)
  have hH := hH.fr f9 (by omega)
  have hG := hG.fr f9 (by omega)
  have hK := hK.fr f9 (by omega)
  refine jw_putF (pc' := 59) (kf := 4) (ty := (.object "Branchwork$Renames")) (fs' := [_, _, _, _, _, _, _, _, _, _]) jc_Branchwork (by decide) jq_287 jd_Branchwork_init_56 rfl rfl rfl (by decide +kernel) (by assumption) rfl rfl rfl (Nat.le_of_ble_eq_true rfl) rfl (fun μ h0 f9 => ?_)
  have hF := jw_Fr.step hF f9 (by omega)
  have hT := hT.fr (jw_Fr.o f9) (by omega)
  have hH := hH.fr (jw_Fr.o f9) (by omega)
  have hG := hG.fr (jw_Fr.o f9) (by omega)
  have hK := hK.fr (jw_Fr.o f9) (by omega)
  have hN := hN.fr (jw_Fr.o f9) (by omega)
  refine jw_aload_n (pc' := 60) jd_Branchwork_init_59 rfl rfl rfl ?_
  refine jw_new (pc' := 63) (fs := [.null, .null, .null]) hR jc_Match jq_278 jq_195 jq_62 jd_Branchwork_init_60 (by decide +kernel) (by omega) (by omega) rfl (fun μ h1 f9 => ?_)
  have h0 := (f9 _ (by omega)).trans h0
  have hF := jw_Fr.step hF f9 (by omega)
  have hT := hT.fr (jw_Fr.o f9) (by omega)
  have hH := hH.fr (jw_Fr.o f9) (by omega)
  have hG := hG.fr (jw_Fr.o f9) (by omega)
  have hK := hK.fr (jw_Fr.o f9) (by omega)
  have hN := hN.fr (jw_Fr.o f9) (by omega)
  refine jw_dup (pc' := 64) jd_Branchwork_init_63 rfl rfl ?_
  refine jw_callIN (pc' := 67) hR (bm_init h1) jm_Match_init jn_Branchwork_46 jd_Branchwork_init_64 rfl rfl (Nat.le_of_ble_eq_true rfl) (by omega) (by decide) (by omega) (by omega) rfl (fun v μ s9 q9 hle => ?_)
  obtain ⟨rfl, rfl, hM, f9⟩ := q9
  have hF := hF.trans f9 (by omega) (by omega)
  have h0 := (f9 _ (by omega)).trans h0
  have hT := hT.fr f9 (by omega)
  have hH := hH.fr f9 (by omega)
  have hG := hG.fr f9 (by omega)
  have hK := hK.fr f9 (by omega)
  have hN := hN.fr f9 (by omega)
  refine jw_putF (pc' := 70) (kf := 5) (ty := (.object "Branchwork$Match")) (fs' := [_, _, _, _, _, _, _, _, _, _]) jc_Branchwork (by decide) jq_288 jd_Branchwork_init_67 rfl rfl rfl (by decide +kernel) (by assumption) rfl rfl rfl (Nat.le_of_ble_eq_true rfl) rfl (fun μ h0 f9 => ?_)
  have hF := jw_Fr.step hF f9 (by omega)
  have hT := hT.fr (jw_Fr.o f9) (by omega)
  have hH := hH.fr (jw_Fr.o f9) (by omega)
  have hG := hG.fr (jw_Fr.o f9) (by omega)
  have hK := hK.fr (jw_Fr.o f9) (by omega)
  have hN := hN.fr (jw_Fr.o f9) (by omega)
  have hM := hM.fr (jw_Fr.o f9) (by omega)
  refine jw_aload_n (pc' := 71) jd_Branchwork_init_70 rfl rfl rfl ?_
  refine jw_iconst (pc' := 72) (v := nI 5) jd_Branchwork_init_71 (by decide +kernel) rfl ?_
  refine jw_newa (pc' := 74) (N := 5) (i := 0) (a0 := (5, .inl (fun _ => 0))) (ty := .int) (atype := .int) hR jq_116 rfl rfl jd_Branchwork_init_72 (fun _ => rfl) (by decide +kernel) (by decide +kernel) (by decide +kernel) (by omega) (by omega) rfl (fun μ h2 f9 => ?_)
  have h0 := (f9 _ (by omega)).trans h0
  have hF := jw_Fr.step hF f9 (by omega)
  have hT := hT.fr (jw_Fr.o f9) (by omega)
  have hH := hH.fr (jw_Fr.o f9) (by omega)
  have hG := hG.fr (jw_Fr.o f9) (by omega)
  have hK := hK.fr (jw_Fr.o f9) (by omega)
  have hN := hN.fr (jw_Fr.o f9) (by omega)
  have hM := hM.fr (jw_Fr.o f9) (by omega)
  refine jw_putF (pc' := 77) (kf := 6) (ty := (.array .int)) (fs' := [_, _, _, _, _, _, _, _, _, _]) jc_Branchwork (by decide) jq_289 jd_Branchwork_init_74 rfl rfl rfl (by decide +kernel) (by assumption) rfl rfl rfl (Nat.le_of_ble_eq_true rfl) rfl (fun μ h0 f9 => ?_)
  have h2 := (f9 _ (by omega)).trans h2
  have hF := jw_Fr.step hF f9 (by omega)
  have hT := hT.fr (jw_Fr.o f9) (by omega)
  have hH := hH.fr (jw_Fr.o f9) (by omega)
  have hG := hG.fr (jw_Fr.o f9) (by omega)
  have hK := hK.fr (jw_Fr.o f9) (by omega)
  have hN := hN.fr (jw_Fr.o f9) (by omega)
  have hM := hM.fr (jw_Fr.o f9) (by omega)
  refine jw_aload_n (pc' := 78) jd_Branchwork_init_77 rfl rfl rfl ?_
  refine jw_iconst (pc' := 79) (v := nI 1) jd_Branchwork_init_78 (by decide +kernel) rfl ?_
  refine jw_put (pc' := 82) (kf := 7) (ty := .int) (fs' := [_, _, _, _, _, _, _, _, _, _]) jc_Branchwork (by decide) jq_290 jd_Branchwork_init_79 rfl (by decide +kernel) (by assumption) rfl rfl rfl (Nat.le_of_ble_eq_true rfl) rfl (fun μ h0 f9 => ?_)
  have h2 := (f9 _ (by omega)).trans h2
  have hF := jw_Fr.step hF f9 (by omega)
  have hT := hT.fr (jw_Fr.o f9) (by omega)
  have hH := hH.fr (jw_Fr.o f9) (by omega)
  have hG := hG.fr (jw_Fr.o f9) (by omega)
  have hK := hK.fr (jw_Fr.o f9) (by omega)
  have hN := hN.fr (jw_Fr.o f9) (by omega)
  have hM := hM.fr (jw_Fr.o f9) (by omega)
  refine jw_aload_n (pc' := 83) jd_Branchwork_init_82 rfl rfl rfl ?_
  refine jw_iconst (pc' := 84) (v := nI 0) jd_Branchwork_init_83 (by decide +kernel) rfl ?_
  refine jw_put (pc' := 87) (kf := 8) (ty := .int) (fs' := [_, _, _, _, _, _, _, _, _, _]) jc_Branchwork (by decide) jq_291 jd_Branchwork_init_84 rfl (by decide +kernel) (by assumption) rfl rfl rfl (Nat.le_of_ble_eq_true rfl) rfl (fun μ h0 f9 => ?_)
  have h2 := (f9 _ (by omega)).trans h2
  have hF := jw_Fr.step hF f9 (by omega)
  have hT := hT.fr (jw_Fr.o f9) (by omega)
  have hH := hH.fr (jw_Fr.o f9) (by omega)
  have hG := hG.fr (jw_Fr.o f9) (by omega)
  have hK := hK.fr (jw_Fr.o f9) (by omega)
  have hN := hN.fr (jw_Fr.o f9) (by omega)
  have hM := hM.fr (jw_Fr.o f9) (by omega)
  refine jw_aload_n (pc' := 88) jd_Branchwork_init_87 rfl rfl rfl ?_
  refine jw_iconst (pc' := 89) (v := -1) jd_Branchwork_init_88 (by decide +kernel) rfl ?_
  refine jw_put (pc' := 92) (kf := 9) (ty := .int) (fs' := [_, _, _, _, _, _, _, _, _, _]) jc_Branchwork (by decide) jq_292 jd_Branchwork_init_89 rfl (by decide +kernel) (by assumption) rfl rfl rfl (Nat.le_of_ble_eq_true rfl) rfl (fun μ h0 f9 => ?_)
  have h2 := (f9 _ (by omega)).trans h2
  have hF := jw_Fr.step hF f9 (by omega)
  have hT := hT.fr (jw_Fr.o f9) (by omega)
  have hH := hH.fr (jw_Fr.o f9) (by omega)
  have hG := hG.fr (jw_Fr.o f9) (by omega)
  have hK := hK.fr (jw_Fr.o f9) (by omega)
  have hN := hN.fr (jw_Fr.o f9) (by omega)
  have hM := hM.fr (jw_Fr.o f9) (by omega)
  refine jw_aload_n (pc' := 93) jd_Branchwork_init_92 rfl rfl rfl ?_
  refine jw_get (pc' := 96) (kf := 6) jc_Branchwork (by decide) jq_289 jd_Branchwork_init_93 (by assumption) rfl rfl ?_
  refine jw_iconst (pc' := 97) (v := -1) jd_Branchwork_init_96 (by decide +kernel) rfl ?_
  refine jw_callS (pc' := 100) hR (bi_fill (n := 5) h2 (by omega)) jm_Arrays_fill jq_280 jd_Branchwork_init_97 rfl rfl (Nat.le_of_ble_eq_true rfl) (by omega) (by decide) (by omega) (by omega) rfl (fun v μ s9 q9 hle => ?_)
  obtain ⟨rfl, rfl, ⟨f, hI, hIf⟩, f9⟩ := q9
  have hF := hF.trans f9 (by omega) (by omega)
  have h0 := (f9 _ (by omega)).trans h0
  have hT := hT.fr f9 (by omega)
  have hH := hH.fr f9 (by omega)
  have hG := hG.fr f9 (by omega)
  have hK := hK.fr f9 (by omega)
  have hN := hN.fr f9 (by omega)
  have hM := hM.fr f9 (by omega)
  refine jw_vret hE jd_Branchwork_init_100 rfl (by omega) (by omega) ?_
  exact ⟨rfl, rfl, ⟨h0, hT, hH, hG, hK, hN, hM, ⟨f, hI, hIf⟩⟩, hF⟩
end
end
section
theorem jd_Branchwork_requirePath_0 : decode mi_Branchwork_requirePath.2.1 0 = .ok (.iload_n 0, 1) := by decide +kernel
theorem jd_Branchwork_requirePath_1 : decode mi_Branchwork_requirePath.2.1 1 = .ok (.ifCond .lt 9, 3) := by decide +kernel
theorem jd_Branchwork_requirePath_4 : decode mi_Branchwork_requirePath.2.1 4 = .ok (.iload_n 0, 1) := by decide +kernel
theorem jd_Branchwork_requirePath_5 : decode mi_Branchwork_requirePath.2.1 5 = .ok (.bipush 12, 2) := by decide +kernel
theorem jd_Branchwork_requirePath_7 : decode mi_Branchwork_requirePath.2.1 7 = .ok (.if_icmp .lt 14, 3) := by decide +kernel
theorem jd_Branchwork_requirePath_10 : decode mi_Branchwork_requirePath.2.1 10 = .ok (.new 85, 3) := by decide +kernel
theorem jd_Branchwork_requirePath_13 : decode mi_Branchwork_requirePath.2.1 13 = .ok (.dup, 1) := by decide +kernel
theorem jd_Branchwork_requirePath_14 : decode mi_Branchwork_requirePath.2.1 14 = .ok (.ldc_w 353, 3) := by decide +kernel
theorem jd_Branchwork_requirePath_17 : decode mi_Branchwork_requirePath.2.1 17 = .ok (.invokespecial 89, 3) := by decide +kernel
theorem jd_Branchwork_requirePath_20 : decode mi_Branchwork_requirePath.2.1 20 = .ok (.athrow, 1) := by decide +kernel
theorem jd_Branchwork_requirePath_21 : decode mi_Branchwork_requirePath.2.1 21 = .ok (.return_, 1) := by decide +kernel
theorem jd_Branchwork_put_0 : decode mi_Branchwork_put.2.1 0 = .ok (.iload_n 1, 1) := by decide +kernel
theorem jd_Branchwork_put_1 : decode mi_Branchwork_put.2.1 1 = .ok (.invokestatic 71, 3) := by decide +kernel
theorem jd_Branchwork_put_4 : decode mi_Branchwork_put.2.1 4 = .ok (.aload_n 0, 1) := by decide +kernel
theorem jd_Branchwork_put_5 : decode mi_Branchwork_put.2.1 5 = .ok (.getfield 12, 3) := by decide +kernel
theorem jd_Branchwork_put_8 : decode mi_Branchwork_put.2.1 8 = .ok (.iload_n 1, 1) := by decide +kernel
theorem jd_Branchwork_put_9 : decode mi_Branchwork_put.2.1 9 = .ok (.invokevirtual 75, 3) := by decide +kernel
theorem jd_Branchwork_put_12 : decode mi_Branchwork_put.2.1 12 = .ok (.astore 4, 2) := by decide +kernel
theorem jd_Branchwork_put_14 : decode mi_Branchwork_put.2.1 14 = .ok (.iload_n 2, 1) := by decide +kernel
theorem jd_Branchwork_put_15 : decode mi_Branchwork_put.2.1 15 = .ok (.ifCond .lt 12, 3) := by decide +kernel
theorem jd_Branchwork_put_18 : decode mi_Branchwork_put.2.1 18 = .ok (.iload_n 2, 1) := by decide +kernel
theorem jd_Branchwork_put_19 : decode mi_Branchwork_put.2.1 19 = .ok (.aload 4, 2) := by decide +kernel
theorem jd_Branchwork_put_21 : decode mi_Branchwork_put.2.1 21 = .ok (.invokevirtual 79, 3) := by decide +kernel
theorem jd_Branchwork_put_24 : decode mi_Branchwork_put.2.1 24 = .ok (.if_icmp .le 13, 3) := by decide +kernel
theorem jd_Branchwork_put_27 : decode mi_Branchwork_put.2.1 27 = .ok (.new 85, 3) := by decide +kernel
theorem jd_Branchwork_put_30 : decode mi_Branchwork_put.2.1 30 = .ok (.dup, 1) := by decide +kernel
theorem jd_Branchwork_put_31 : decode mi_Branchwork_put.2.1 31 = .ok (.ldc 87, 2) := by decide +kernel
theorem jd_Branchwork_put_33 : decode mi_Branchwork_put.2.1 33 = .ok (.invokespecial 89, 3) := by decide +kernel
theorem jd_Branchwork_put_36 : decode mi_Branchwork_put.2.1 36 = .ok (.athrow, 1) := by decide +kernel
theorem jd_Branchwork_put_37 : decode mi_Branchwork_put.2.1 37 = .ok (.iload_n 3, 1) := by decide +kernel
theorem jd_Branchwork_put_38 : decode mi_Branchwork_put.2.1 38 = .ok (.ifCond .lt 9, 3) := by decide +kernel
theorem jd_Branchwork_put_41 : decode mi_Branchwork_put.2.1 41 = .ok (.iload_n 3, 1) := by decide +kernel
theorem jd_Branchwork_put_42 : decode mi_Branchwork_put.2.1 42 = .ok (.bipush 99, 2) := by decide +kernel
theorem jd_Branchwork_put_44 : decode mi_Branchwork_put.2.1 44 = .ok (.if_icmp .le 13, 3) := by decide +kernel
theorem jd_Branchwork_put_47 : decode mi_Branchwork_put.2.1 47 = .ok (.new 92, 3) := by decide +kernel
theorem jd_Branchwork_put_50 : decode mi_Branchwork_put.2.1 50 = .ok (.dup, 1) := by decide +kernel
theorem jd_Branchwork_put_51 : decode mi_Branchwork_put.2.1 51 = .ok (.ldc 94, 2) := by decide +kernel
theorem jd_Branchwork_put_53 : decode mi_Branchwork_put.2.1 53 = .ok (.invokespecial 96, 3) := by decide +kernel
theorem jd_Branchwork_put_56 : decode mi_Branchwork_put.2.1 56 = .ok (.athrow, 1) := by decide +kernel
theorem jd_Branchwork_put_57 : decode mi_Branchwork_put.2.1 57 = .ok (.aload 4, 2) := by decide +kernel
theorem jd_Branchwork_put_59 : decode mi_Branchwork_put.2.1 59 = .ok (.invokevirtual 97, 3) := by decide +kernel
theorem jd_Branchwork_put_62 : decode mi_Branchwork_put.2.1 62 = .ok (.ifCond .eq 13, 3) := by decide +kernel
theorem jd_Branchwork_put_65 : decode mi_Branchwork_put.2.1 65 = .ok (.new 101, 3) := by decide +kernel
theorem jd_Branchwork_put_68 : decode mi_Branchwork_put.2.1 68 = .ok (.dup, 1) := by decide +kernel
theorem jd_Branchwork_put_69 : decode mi_Branchwork_put.2.1 69 = .ok (.ldc 103, 2) := by decide +kernel
theorem jd_Branchwork_put_71 : decode mi_Branchwork_put.2.1 71 = .ok (.invokespecial 105, 3) := by decide +kernel
theorem jd_Branchwork_put_74 : decode mi_Branchwork_put.2.1 74 = .ok (.athrow, 1) := by decide +kernel
theorem jd_Branchwork_put_75 : decode mi_Branchwork_put.2.1 75 = .ok (.aload 4, 2) := by decide +kernel
theorem jd_Branchwork_put_77 : decode mi_Branchwork_put.2.1 77 = .ok (.iload_n 2, 1) := by decide +kernel
theorem jd_Branchwork_put_78 : decode mi_Branchwork_put.2.1 78 = .ok (.iload_n 3, 1) := by decide +kernel
theorem jd_Branchwork_put_79 : decode mi_Branchwork_put.2.1 79 = .ok (.invokevirtual 106, 3) := by decide +kernel
theorem jd_Branchwork_put_82 : decode mi_Branchwork_put.2.1 82 = .ok (.aload 4, 2) := by decide +kernel
theorem jd_Branchwork_put_84 : decode mi_Branchwork_put.2.1 84 = .ok (.invokevirtual 79, 3) := by decide +kernel
theorem jd_Branchwork_put_87 : decode mi_Branchwork_put.2.1 87 = .ok (.ireturn, 1) := by decide +kernel
theorem jd_Branchwork_requireFile_0 : decode mi_Branchwork_requireFile.2.1 0 = .ok (.aload_n 0, 1) := by decide +kernel
theorem jd_Branchwork_requireFile_1 : decode mi_Branchwork_requireFile.2.1 1 = .ok (.iload_n 1, 1) := by decide +kernel
theorem jd_Branchwork_requireFile_2 : decode mi_Branchwork_requireFile.2.1 2 = .ok (.invokevirtual 121, 3) := by decide +kernel
theorem jd_Branchwork_requireFile_5 : decode mi_Branchwork_requireFile.2.1 5 = .ok (.ifCond .ne 14, 3) := by decide +kernel
theorem jd_Branchwork_requireFile_8 : decode mi_Branchwork_requireFile.2.1 8 = .ok (.new 85, 3) := by decide +kernel
theorem jd_Branchwork_requireFile_11 : decode mi_Branchwork_requireFile.2.1 11 = .ok (.dup, 1) := by decide +kernel
theorem jd_Branchwork_requireFile_12 : decode mi_Branchwork_requireFile.2.1 12 = .ok (.ldc_w 355, 3) := by decide +kernel
theorem jd_Branchwork_requireFile_15 : decode mi_Branchwork_requireFile.2.1 15 = .ok (.invokespecial 89, 3) := by decide +kernel
theorem jd_Branchwork_requireFile_18 : decode mi_Branchwork_requireFile.2.1 18 = .ok (.athrow, 1) := by decide +kernel
theorem jd_Branchwork_requireFile_19 : decode mi_Branchwork_requireFile.2.1 19 = .ok (.return_, 1) := by decide +kernel
theorem jd_Branchwork_cut_0 : decode mi_Branchwork_cut.2.1 0 = .ok (.aload_n 0, 1) := by decide +kernel
theorem jd_Branchwork_cut_1 : decode mi_Branchwork_cut.2.1 1 = .ok (.getfield 12, 3) := by decide +kernel
theorem jd_Branchwork_cut_4 : decode mi_Branchwork_cut.2.1 4 = .ok (.iload_n 1, 1) := by decide +kernel
theorem jd_Branchwork_cut_5 : decode mi_Branchwork_cut.2.1 5 = .ok (.invokestatic 110, 3) := by decide +kernel
theorem jd_Branchwork_cut_8 : decode mi_Branchwork_cut.2.1 8 = .ok (.aload_n 0, 1) := by decide +kernel
theorem jd_Branchwork_cut_9 : decode mi_Branchwork_cut.2.1 9 = .ok (.getfield 12, 3) := by decide +kernel
theorem jd_Branchwork_cut_12 : decode mi_Branchwork_cut.2.1 12 = .ok (.iload_n 1, 1) := by decide +kernel
theorem jd_Branchwork_cut_13 : decode mi_Branchwork_cut.2.1 13 = .ok (.invokevirtual 75, 3) := by decide +kernel
theorem jd_Branchwork_cut_16 : decode mi_Branchwork_cut.2.1 16 = .ok (.astore_n 3, 1) := by decide +kernel
theorem jd_Branchwork_cut_17 : decode mi_Branchwork_cut.2.1 17 = .ok (.aload_n 3, 1) := by decide +kernel
theorem jd_Branchwork_cut_18 : decode mi_Branchwork_cut.2.1 18 = .ok (.iload_n 2, 1) := by decide +kernel
theorem jd_Branchwork_cut_19 : decode mi_Branchwork_cut.2.1 19 = .ok (.invokestatic 114, 3) := by decide +kernel
theorem jd_Branchwork_cut_22 : decode mi_Branchwork_cut.2.1 22 = .ok (.aload_n 3, 1) := by decide +kernel
theorem jd_Branchwork_cut_23 : decode mi_Branchwork_cut.2.1 23 = .ok (.iload_n 2, 1) := by decide +kernel
theorem jd_Branchwork_cut_24 : decode mi_Branchwork_cut.2.1 24 = .ok (.invokevirtual 118, 3) := by decide +kernel
theorem jd_Branchwork_cut_27 : decode mi_Branchwork_cut.2.1 27 = .ok (.aload_n 3, 1) := by decide +kernel
theorem jd_Branchwork_cut_28 : decode mi_Branchwork_cut.2.1 28 = .ok (.invokevirtual 79, 3) := by decide +kernel
theorem jd_Branchwork_cut_31 : decode mi_Branchwork_cut.2.1 31 = .ok (.ireturn, 1) := by decide +kernel
theorem jd_Branchwork_rename_0 : decode mi_Branchwork_rename.2.1 0 = .ok (.aload_n 0, 1) := by decide +kernel
theorem jd_Branchwork_rename_1 : decode mi_Branchwork_rename.2.1 1 = .ok (.getfield 12, 3) := by decide +kernel
theorem jd_Branchwork_rename_4 : decode mi_Branchwork_rename.2.1 4 = .ok (.iload_n 1, 1) := by decide +kernel
theorem jd_Branchwork_rename_5 : decode mi_Branchwork_rename.2.1 5 = .ok (.invokestatic 110, 3) := by decide +kernel
theorem jd_Branchwork_rename_8 : decode mi_Branchwork_rename.2.1 8 = .ok (.iload_n 2, 1) := by decide +kernel
theorem jd_Branchwork_rename_9 : decode mi_Branchwork_rename.2.1 9 = .ok (.invokestatic 71, 3) := by decide +kernel
theorem jd_Branchwork_rename_12 : decode mi_Branchwork_rename.2.1 12 = .ok (.aload_n 0, 1) := by decide +kernel
theorem jd_Branchwork_rename_13 : decode mi_Branchwork_rename.2.1 13 = .ok (.getfield 12, 3) := by decide +kernel
theorem jd_Branchwork_rename_16 : decode mi_Branchwork_rename.2.1 16 = .ok (.iload_n 2, 1) := by decide +kernel
theorem jd_Branchwork_rename_17 : decode mi_Branchwork_rename.2.1 17 = .ok (.invokevirtual 121, 3) := by decide +kernel
theorem jd_Branchwork_rename_20 : decode mi_Branchwork_rename.2.1 20 = .ok (.ifCond .eq 13, 3) := by decide +kernel
theorem jd_Branchwork_rename_23 : decode mi_Branchwork_rename.2.1 23 = .ok (.new 101, 3) := by decide +kernel
theorem jd_Branchwork_rename_26 : decode mi_Branchwork_rename.2.1 26 = .ok (.dup, 1) := by decide +kernel
theorem jd_Branchwork_rename_27 : decode mi_Branchwork_rename.2.1 27 = .ok (.ldc 125, 2) := by decide +kernel
theorem jd_Branchwork_rename_29 : decode mi_Branchwork_rename.2.1 29 = .ok (.invokespecial 105, 3) := by decide +kernel
theorem jd_Branchwork_rename_32 : decode mi_Branchwork_rename.2.1 32 = .ok (.athrow, 1) := by decide +kernel
theorem jd_Branchwork_rename_33 : decode mi_Branchwork_rename.2.1 33 = .ok (.aload_n 0, 1) := by decide +kernel
theorem jd_Branchwork_rename_34 : decode mi_Branchwork_rename.2.1 34 = .ok (.getfield 12, 3) := by decide +kernel
theorem jd_Branchwork_rename_37 : decode mi_Branchwork_rename.2.1 37 = .ok (.iload_n 1, 1) := by decide +kernel
theorem jd_Branchwork_rename_38 : decode mi_Branchwork_rename.2.1 38 = .ok (.invokevirtual 75, 3) := by decide +kernel
theorem jd_Branchwork_rename_41 : decode mi_Branchwork_rename.2.1 41 = .ok (.astore_n 3, 1) := by decide +kernel
theorem jd_Branchwork_rename_42 : decode mi_Branchwork_rename.2.1 42 = .ok (.aload_n 0, 1) := by decide +kernel
theorem jd_Branchwork_rename_43 : decode mi_Branchwork_rename.2.1 43 = .ok (.getfield 12, 3) := by decide +kernel
theorem jd_Branchwork_rename_46 : decode mi_Branchwork_rename.2.1 46 = .ok (.iload_n 2, 1) := by decide +kernel
theorem jd_Branchwork_rename_47 : decode mi_Branchwork_rename.2.1 47 = .ok (.invokevirtual 75, 3) := by decide +kernel
theorem jd_Branchwork_rename_50 : decode mi_Branchwork_rename.2.1 50 = .ok (.aload_n 3, 1) := by decide +kernel
theorem jd_Branchwork_rename_51 : decode mi_Branchwork_rename.2.1 51 = .ok (.invokevirtual 127, 3) := by decide +kernel
theorem jd_Branchwork_rename_54 : decode mi_Branchwork_rename.2.1 54 = .ok (.aload_n 3, 1) := by decide +kernel
theorem jd_Branchwork_rename_55 : decode mi_Branchwork_rename.2.1 55 = .ok (.invokevirtual 131, 3) := by decide +kernel
theorem jd_Branchwork_rename_58 : decode mi_Branchwork_rename.2.1 58 = .ok (.aload_n 0, 1) := by decide +kernel
theorem jd_Branchwork_rename_59 : decode mi_Branchwork_rename.2.1 59 = .ok (.getfield 12, 3) := by decide +kernel
theorem jd_Branchwork_rename_62 : decode mi_Branchwork_rename.2.1 62 = .ok (.iload_n 2, 1) := by decide +kernel
theorem jd_Branchwork_rename_63 : decode mi_Branchwork_rename.2.1 63 = .ok (.invokevirtual 75, 3) := by decide +kernel
theorem jd_Branchwork_rename_66 : decode mi_Branchwork_rename.2.1 66 = .ok (.invokevirtual 79, 3) := by decide +kernel
theorem jd_Branchwork_rename_69 : decode mi_Branchwork_rename.2.1 69 = .ok (.ireturn, 1) := by decide +kernel
theorem jd_Branchwork_remove_0 : decode mi_Branchwork_remove.2.1 0 = .ok (.aload_n 0, 1) := by decide +kernel
theorem jd_Branchwork_remove_1 : decode mi_Branchwork_remove.2.1 1 = .ok (.getfield 12, 3) := by decide +kernel
theorem jd_Branchwork_remove_4 : decode mi_Branchwork_remove.2.1 4 = .ok (.iload_n 1, 1) := by decide +kernel
theorem jd_Branchwork_remove_5 : decode mi_Branchwork_remove.2.1 5 = .ok (.invokestatic 110, 3) := by decide +kernel
theorem jd_Branchwork_remove_8 : decode mi_Branchwork_remove.2.1 8 = .ok (.aload_n 0, 1) := by decide +kernel
theorem jd_Branchwork_remove_9 : decode mi_Branchwork_remove.2.1 9 = .ok (.getfield 12, 3) := by decide +kernel
theorem jd_Branchwork_remove_12 : decode mi_Branchwork_remove.2.1 12 = .ok (.iload_n 1, 1) := by decide +kernel
theorem jd_Branchwork_remove_13 : decode mi_Branchwork_remove.2.1 13 = .ok (.invokevirtual 75, 3) := by decide +kernel
theorem jd_Branchwork_remove_16 : decode mi_Branchwork_remove.2.1 16 = .ok (.invokevirtual 131, 3) := by decide +kernel
theorem jd_Branchwork_remove_19 : decode mi_Branchwork_remove.2.1 19 = .ok (.aload_n 0, 1) := by decide +kernel
theorem jd_Branchwork_remove_20 : decode mi_Branchwork_remove.2.1 20 = .ok (.getfield 12, 3) := by decide +kernel
theorem jd_Branchwork_remove_23 : decode mi_Branchwork_remove.2.1 23 = .ok (.invokevirtual 134, 3) := by decide +kernel
theorem jd_Branchwork_remove_26 : decode mi_Branchwork_remove.2.1 26 = .ok (.ireturn, 1) := by decide +kernel
theorem jd_Branchwork_status_0 : decode mi_Branchwork_status.2.1 0 = .ok (.iload_n 1, 1) := by decide +kernel
theorem jd_Branchwork_status_1 : decode mi_Branchwork_status.2.1 1 = .ok (.invokestatic 71, 3) := by decide +kernel
theorem jd_Branchwork_status_4 : decode mi_Branchwork_status.2.1 4 = .ok (.aload_n 0, 1) := by decide +kernel
theorem jd_Branchwork_status_5 : decode mi_Branchwork_status.2.1 5 = .ok (.getfield 19, 3) := by decide +kernel
theorem jd_Branchwork_status_8 : decode mi_Branchwork_status.2.1 8 = .ok (.aload_n 0, 1) := by decide +kernel
theorem jd_Branchwork_status_9 : decode mi_Branchwork_status.2.1 9 = .ok (.invokevirtual 137, 3) := by decide +kernel
theorem jd_Branchwork_status_12 : decode mi_Branchwork_status.2.1 12 = .ok (.invokevirtual 140, 3) := by decide +kernel
theorem jd_Branchwork_status_15 : decode mi_Branchwork_status.2.1 15 = .ok (.astore_n 2, 1) := by decide +kernel
theorem jd_Branchwork_status_16 : decode mi_Branchwork_status.2.1 16 = .ok (.aload_n 0, 1) := by decide +kernel
theorem jd_Branchwork_status_17 : decode mi_Branchwork_status.2.1 17 = .ok (.getfield 12, 3) := by decide +kernel
theorem jd_Branchwork_status_20 : decode mi_Branchwork_status.2.1 20 = .ok (.iload_n 1, 1) := by decide +kernel
theorem jd_Branchwork_status_21 : decode mi_Branchwork_status.2.1 21 = .ok (.invokevirtual 75, 3) := by decide +kernel
theorem jd_Branchwork_status_24 : decode mi_Branchwork_status.2.1 24 = .ok (.aload_n 2, 1) := by decide +kernel
theorem jd_Branchwork_status_25 : decode mi_Branchwork_status.2.1 25 = .ok (.iload_n 1, 1) := by decide +kernel
theorem jd_Branchwork_status_26 : decode mi_Branchwork_status.2.1 26 = .ok (.invokevirtual 75, 3) := by decide +kernel
theorem jd_Branchwork_status_29 : decode mi_Branchwork_status.2.1 29 = .ok (.invokevirtual 144, 3) := by decide +kernel
theorem jd_Branchwork_status_32 : decode mi_Branchwork_status.2.1 32 = .ok (.ifCond .eq 5, 3) := by decide +kernel
theorem jd_Branchwork_status_35 : decode mi_Branchwork_status.2.1 35 = .ok (.iconst 0, 1) := by decide +kernel
theorem jd_Branchwork_status_36 : decode mi_Branchwork_status.2.1 36 = .ok (.ireturn, 1) := by decide +kernel
theorem jd_Branchwork_status_37 : decode mi_Branchwork_status.2.1 37 = .ok (.aload_n 2, 1) := by decide +kernel
theorem jd_Branchwork_status_38 : decode mi_Branchwork_status.2.1 38 = .ok (.iload_n 1, 1) := by decide +kernel
theorem jd_Branchwork_status_39 : decode mi_Branchwork_status.2.1 39 = .ok (.invokevirtual 121, 3) := by decide +kernel
theorem jd_Branchwork_status_42 : decode mi_Branchwork_status.2.1 42 = .ok (.ifCond .ne 5, 3) := by decide +kernel
theorem jd_Branchwork_status_45 : decode mi_Branchwork_status.2.1 45 = .ok (.iconst 1, 1) := by decide +kernel
theorem jd_Branchwork_status_46 : decode mi_Branchwork_status.2.1 46 = .ok (.ireturn, 1) := by decide +kernel
theorem jd_Branchwork_status_47 : decode mi_Branchwork_status.2.1 47 = .ok (.aload_n 0, 1) := by decide +kernel
theorem jd_Branchwork_status_48 : decode mi_Branchwork_status.2.1 48 = .ok (.getfield 12, 3) := by decide +kernel
theorem jd_Branchwork_status_51 : decode mi_Branchwork_status.2.1 51 = .ok (.iload_n 1, 1) := by decide +kernel
theorem jd_Branchwork_status_52 : decode mi_Branchwork_status.2.1 52 = .ok (.invokevirtual 121, 3) := by decide +kernel
theorem jd_Branchwork_status_55 : decode mi_Branchwork_status.2.1 55 = .ok (.ifCond .eq 7, 3) := by decide +kernel
theorem jd_Branchwork_status_58 : decode mi_Branchwork_status.2.1 58 = .ok (.iconst 2, 1) := by decide +kernel
theorem jd_Branchwork_status_59 : decode mi_Branchwork_status.2.1 59 = .ok (.goto 4, 3) := by decide +kernel
theorem jd_Branchwork_status_62 : decode mi_Branchwork_status.2.1 62 = .ok (.iconst 3, 1) := by decide +kernel
theorem jd_Branchwork_status_63 : decode mi_Branchwork_status.2.1 63 = .ok (.ireturn, 1) := by decide +kernel
theorem jd_Branchwork_commit_0 : decode mi_Branchwork_commit.2.1 0 = .ok (.iload_n 1, 1) := by decide +kernel
theorem jd_Branchwork_commit_1 : decode mi_Branchwork_commit.2.1 1 = .ok (.ifCond .lt 10, 3) := by decide +kernel
theorem jd_Branchwork_commit_4 : decode mi_Branchwork_commit.2.1 4 = .ok (.iload_n 1, 1) := by decide +kernel
theorem jd_Branchwork_commit_5 : decode mi_Branchwork_commit.2.1 5 = .ok (.sipush 999, 3) := by decide +kernel
theorem jd_Branchwork_commit_8 : decode mi_Branchwork_commit.2.1 8 = .ok (.if_icmp .le 13, 3) := by decide +kernel
theorem jd_Branchwork_commit_11 : decode mi_Branchwork_commit.2.1 11 = .ok (.new 92, 3) := by decide +kernel
theorem jd_Branchwork_commit_14 : decode mi_Branchwork_commit.2.1 14 = .ok (.dup, 1) := by decide +kernel
theorem jd_Branchwork_commit_15 : decode mi_Branchwork_commit.2.1 15 = .ok (.ldc 148, 2) := by decide +kernel
theorem jd_Branchwork_commit_17 : decode mi_Branchwork_commit.2.1 17 = .ok (.invokespecial 96, 3) := by decide +kernel
theorem jd_Branchwork_commit_20 : decode mi_Branchwork_commit.2.1 20 = .ok (.athrow, 1) := by decide +kernel
theorem jd_Branchwork_commit_21 : decode mi_Branchwork_commit.2.1 21 = .ok (.aload_n 0, 1) := by decide +kernel
theorem jd_Branchwork_commit_22 : decode mi_Branchwork_commit.2.1 22 = .ok (.getfield 19, 3) := by decide +kernel
theorem jd_Branchwork_commit_25 : decode mi_Branchwork_commit.2.1 25 = .ok (.invokevirtual 150, 3) := by decide +kernel
theorem jd_Branchwork_commit_28 : decode mi_Branchwork_commit.2.1 28 = .ok (.ifCond .eq 13, 3) := by decide +kernel
theorem jd_Branchwork_commit_31 : decode mi_Branchwork_commit.2.1 31 = .ok (.new 101, 3) := by decide +kernel
theorem jd_Branchwork_commit_34 : decode mi_Branchwork_commit.2.1 34 = .ok (.dup, 1) := by decide +kernel
theorem jd_Branchwork_commit_35 : decode mi_Branchwork_commit.2.1 35 = .ok (.ldc 151, 2) := by decide +kernel
theorem jd_Branchwork_commit_37 : decode mi_Branchwork_commit.2.1 37 = .ok (.invokespecial 105, 3) := by decide +kernel
theorem jd_Branchwork_commit_40 : decode mi_Branchwork_commit.2.1 40 = .ok (.athrow, 1) := by decide +kernel
theorem jd_Branchwork_commit_41 : decode mi_Branchwork_commit.2.1 41 = .ok (.aload_n 0, 1) := by decide +kernel
theorem jd_Branchwork_commit_42 : decode mi_Branchwork_commit.2.1 42 = .ok (.getfield 33, 3) := by decide +kernel
theorem jd_Branchwork_commit_45 : decode mi_Branchwork_commit.2.1 45 = .ok (.invokevirtual 153, 3) := by decide +kernel
theorem jd_Branchwork_commit_48 : decode mi_Branchwork_commit.2.1 48 = .ok (.ifCond .le 13, 3) := by decide +kernel
theorem jd_Branchwork_commit_51 : decode mi_Branchwork_commit.2.1 51 = .ok (.new 101, 3) := by decide +kernel
theorem jd_Branchwork_commit_54 : decode mi_Branchwork_commit.2.1 54 = .ok (.dup, 1) := by decide +kernel
theorem jd_Branchwork_commit_55 : decode mi_Branchwork_commit.2.1 55 = .ok (.ldc 156, 2) := by decide +kernel
theorem jd_Branchwork_commit_57 : decode mi_Branchwork_commit.2.1 57 = .ok (.invokespecial 105, 3) := by decide +kernel
theorem jd_Branchwork_commit_60 : decode mi_Branchwork_commit.2.1 60 = .ok (.athrow, 1) := by decide +kernel
theorem jd_Branchwork_commit_61 : decode mi_Branchwork_commit.2.1 61 = .ok (.aload_n 0, 1) := by decide +kernel
theorem jd_Branchwork_commit_62 : decode mi_Branchwork_commit.2.1 62 = .ok (.getfield 62, 3) := by decide +kernel
theorem jd_Branchwork_commit_65 : decode mi_Branchwork_commit.2.1 65 = .ok (.iconst (-1), 1) := by decide +kernel
theorem jd_Branchwork_commit_66 : decode mi_Branchwork_commit.2.1 66 = .ok (.if_icmp .ne 20, 3) := by decide +kernel
theorem jd_Branchwork_commit_69 : decode mi_Branchwork_commit.2.1 69 = .ok (.aload_n 0, 1) := by decide +kernel
theorem jd_Branchwork_commit_70 : decode mi_Branchwork_commit.2.1 70 = .ok (.invokevirtual 158, 3) := by decide +kernel
theorem jd_Branchwork_commit_73 : decode mi_Branchwork_commit.2.1 73 = .ok (.ifCond .eq 13, 3) := by decide +kernel
theorem jd_Branchwork_commit_76 : decode mi_Branchwork_commit.2.1 76 = .ok (.new 101, 3) := by decide +kernel
theorem jd_Branchwork_commit_79 : decode mi_Branchwork_commit.2.1 79 = .ok (.dup, 1) := by decide +kernel
theorem jd_Branchwork_commit_80 : decode mi_Branchwork_commit.2.1 80 = .ok (.ldc 161, 2) := by decide +kernel
theorem jd_Branchwork_commit_82 : decode mi_Branchwork_commit.2.1 82 = .ok (.invokespecial 105, 3) := by decide +kernel
theorem jd_Branchwork_commit_85 : decode mi_Branchwork_commit.2.1 85 = .ok (.athrow, 1) := by decide +kernel
theorem jd_Branchwork_commit_86 : decode mi_Branchwork_commit.2.1 86 = .ok (.aload_n 0, 1) := by decide +kernel
theorem jd_Branchwork_commit_87 : decode mi_Branchwork_commit.2.1 87 = .ok (.getfield 19, 3) := by decide +kernel
theorem jd_Branchwork_commit_90 : decode mi_Branchwork_commit.2.1 90 = .ok (.aload_n 0, 1) := by decide +kernel
theorem jd_Branchwork_commit_91 : decode mi_Branchwork_commit.2.1 91 = .ok (.getfield 12, 3) := by decide +kernel
theorem jd_Branchwork_commit_94 : decode mi_Branchwork_commit.2.1 94 = .ok (.iload_n 1, 1) := by decide +kernel
theorem jd_Branchwork_commit_95 : decode mi_Branchwork_commit.2.1 95 = .ok (.aload_n 0, 1) := by decide +kernel
theorem jd_Branchwork_commit_96 : decode mi_Branchwork_commit.2.1 96 = .ok (.invokevirtual 137, 3) := by decide +kernel
theorem jd_Branchwork_commit_99 : decode mi_Branchwork_commit.2.1 99 = .ok (.aload_n 0, 1) := by decide +kernel
theorem jd_Branchwork_commit_100 : decode mi_Branchwork_commit.2.1 100 = .ok (.getfield 62, 3) := by decide +kernel
theorem jd_Branchwork_commit_103 : decode mi_Branchwork_commit.2.1 103 = .ok (.invokevirtual 163, 3) := by decide +kernel
theorem jd_Branchwork_commit_106 : decode mi_Branchwork_commit.2.1 106 = .ok (.istore_n 2, 1) := by decide +kernel
theorem jd_Branchwork_commit_107 : decode mi_Branchwork_commit.2.1 107 = .ok (.aload_n 0, 1) := by decide +kernel
theorem jd_Branchwork_commit_108 : decode mi_Branchwork_commit.2.1 108 = .ok (.getfield 51, 3) := by decide +kernel
theorem jd_Branchwork_commit_111 : decode mi_Branchwork_commit.2.1 111 = .ok (.aload_n 0, 1) := by decide +kernel
theorem jd_Branchwork_commit_112 : decode mi_Branchwork_commit.2.1 112 = .ok (.getfield 59, 3) := by decide +kernel
theorem jd_Branchwork_commit_115 : decode mi_Branchwork_commit.2.1 115 = .ok (.iload_n 2, 1) := by decide +kernel
theorem jd_Branchwork_commit_116 : decode mi_Branchwork_commit.2.1 116 = .ok (.iastore, 1) := by decide +kernel
theorem jd_Branchwork_commit_117 : decode mi_Branchwork_commit.2.1 117 = .ok (.aload_n 0, 1) := by decide +kernel
theorem jd_Branchwork_commit_118 : decode mi_Branchwork_commit.2.1 118 = .ok (.iconst (-1), 1) := by decide +kernel
theorem jd_Branchwork_commit_119 : decode mi_Branchwork_commit.2.1 119 = .ok (.putfield 62, 3) := by decide +kernel
theorem jd_Branchwork_commit_122 : decode mi_Branchwork_commit.2.1 122 = .ok (.iload_n 2, 1) := by decide +kernel
theorem jd_Branchwork_commit_123 : decode mi_Branchwork_commit.2.1 123 = .ok (.ireturn, 1) := by decide +kernel
theorem jd_Branchwork_isClean_0 : decode mi_Branchwork_isClean.2.1 0 = .ok (.aload_n 0, 1) := by decide +kernel
theorem jd_Branchwork_isClean_1 : decode mi_Branchwork_isClean.2.1 1 = .ok (.getfield 12, 3) := by decide +kernel
theorem jd_Branchwork_isClean_4 : decode mi_Branchwork_isClean.2.1 4 = .ok (.aload_n 0, 1) := by decide +kernel
theorem jd_Branchwork_isClean_5 : decode mi_Branchwork_isClean.2.1 5 = .ok (.getfield 19, 3) := by decide +kernel
theorem jd_Branchwork_isClean_8 : decode mi_Branchwork_isClean.2.1 8 = .ok (.aload_n 0, 1) := by decide +kernel
theorem jd_Branchwork_isClean_9 : decode mi_Branchwork_isClean.2.1 9 = .ok (.invokevirtual 137, 3) := by decide +kernel
theorem jd_Branchwork_isClean_12 : decode mi_Branchwork_isClean.2.1 12 = .ok (.invokevirtual 140, 3) := by decide +kernel
theorem jd_Branchwork_isClean_15 : decode mi_Branchwork_isClean.2.1 15 = .ok (.invokevirtual 334, 3) := by decide +kernel
theorem jd_Branchwork_isClean_18 : decode mi_Branchwork_isClean.2.1 18 = .ok (.ireturn, 1) := by decide +kernel
theorem jd_History_treeOf_0 : decode mi_History_treeOf.2.1 0 = .ok (.iload_n 1, 1) := by decide +kernel
theorem jd_History_treeOf_1 : decode mi_History_treeOf.2.1 1 = .ok (.ifCond .lt 18, 3) := by decide +kernel
theorem jd_History_treeOf_4 : decode mi_History_treeOf.2.1 4 = .ok (.iload_n 1, 1) := by decide +kernel
theorem jd_History_treeOf_5 : decode mi_History_treeOf.2.1 5 = .ok (.bipush 30, 2) := by decide +kernel
theorem jd_History_treeOf_7 : decode mi_History_treeOf.2.1 7 = .ok (.if_icmp .ge 12, 3) := by decide +kernel
theorem jd_History_treeOf_10 : decode mi_History_treeOf.2.1 10 = .ok (.aload_n 0, 1) := by decide +kernel
theorem jd_History_treeOf_11 : decode mi_History_treeOf.2.1 11 = .ok (.getfield 11, 3) := by decide +kernel
theorem jd_History_treeOf_14 : decode mi_History_treeOf.2.1 14 = .ok (.iload_n 1, 1) := by decide +kernel
theorem jd_History_treeOf_15 : decode mi_History_treeOf.2.1 15 = .ok (.aaload, 1) := by decide +kernel
theorem jd_History_treeOf_16 : decode mi_History_treeOf.2.1 16 = .ok (.goto 7, 3) := by decide +kernel
theorem jd_History_treeOf_19 : decode mi_History_treeOf.2.1 19 = .ok (.aload_n 0, 1) := by decide +kernel
theorem jd_History_treeOf_20 : decode mi_History_treeOf.2.1 20 = .ok (.getfield 18, 3) := by decide +kernel
theorem jd_History_treeOf_23 : decode mi_History_treeOf.2.1 23 = .ok (.areturn, 1) := by decide +kernel
theorem jd_Branchwork_head_0 : decode mi_Branchwork_head.2.1 0 = .ok (.aload_n 0, 1) := by decide +kernel
theorem jd_Branchwork_head_1 : decode mi_Branchwork_head.2.1 1 = .ok (.getfield 51, 3) := by decide +kernel
theorem jd_Branchwork_head_4 : decode mi_Branchwork_head.2.1 4 = .ok (.aload_n 0, 1) := by decide +kernel
theorem jd_Branchwork_head_5 : decode mi_Branchwork_head.2.1 5 = .ok (.getfield 59, 3) := by decide +kernel
theorem jd_Branchwork_head_8 : decode mi_Branchwork_head.2.1 8 = .ok (.iaload, 1) := by decide +kernel
theorem jd_Branchwork_head_9 : decode mi_Branchwork_head.2.1 9 = .ok (.ireturn, 1) := by decide +kernel
theorem jd_History_isFull_0 : decode mi_History_isFull.2.1 0 = .ok (.aload_n 0, 1) := by decide +kernel
theorem jd_History_isFull_1 : decode mi_History_isFull.2.1 1 = .ok (.getfield 41, 3) := by decide +kernel
theorem jd_History_isFull_4 : decode mi_History_isFull.2.1 4 = .ok (.bipush 30, 2) := by decide +kernel
theorem jd_History_isFull_6 : decode mi_History_isFull.2.1 6 = .ok (.if_icmp .lt 7, 3) := by decide +kernel
theorem jd_History_isFull_9 : decode mi_History_isFull.2.1 9 = .ok (.iconst 1, 1) := by decide +kernel
theorem jd_History_isFull_10 : decode mi_History_isFull.2.1 10 = .ok (.goto 4, 3) := by decide +kernel
theorem jd_History_isFull_13 : decode mi_History_isFull.2.1 13 = .ok (.iconst 0, 1) := by decide +kernel
theorem jd_History_isFull_14 : decode mi_History_isFull.2.1 14 = .ok (.ireturn, 1) := by decide +kernel
theorem jd_Conflicts_howMany_0 : decode mi_Conflicts_howMany.2.1 0 = .ok (.aload_n 0, 1) := by decide +kernel
theorem jd_Conflicts_howMany_1 : decode mi_Conflicts_howMany.2.1 1 = .ok (.getfield 18, 3) := by decide +kernel
theorem jd_Conflicts_howMany_4 : decode mi_Conflicts_howMany.2.1 4 = .ok (.ireturn, 1) := by decide +kernel
theorem jd_History_setOf_0 : decode mi_History_setOf.2.1 0 = .ok (.iload_n 0, 1) := by decide +kernel
theorem jd_History_setOf_1 : decode mi_History_setOf.2.1 1 = .ok (.ifCond .lt 15, 3) := by decide +kernel
theorem jd_History_setOf_4 : decode mi_History_setOf.2.1 4 = .ok (.iload_n 0, 1) := by decide +kernel
theorem jd_History_setOf_5 : decode mi_History_setOf.2.1 5 = .ok (.bipush 30, 2) := by decide +kernel
theorem jd_History_setOf_7 : decode mi_History_setOf.2.1 7 = .ok (.if_icmp .ge 9, 3) := by decide +kernel
theorem jd_History_setOf_10 : decode mi_History_setOf.2.1 10 = .ok (.iconst 1, 1) := by decide +kernel
theorem jd_History_setOf_11 : decode mi_History_setOf.2.1 11 = .ok (.iload_n 0, 1) := by decide +kernel
theorem jd_History_setOf_12 : decode mi_History_setOf.2.1 12 = .ok (.ishl, 1) := by decide +kernel
theorem jd_History_setOf_13 : decode mi_History_setOf.2.1 13 = .ok (.goto 4, 3) := by decide +kernel
theorem jd_History_setOf_16 : decode mi_History_setOf.2.1 16 = .ok (.iconst 0, 1) := by decide +kernel
theorem jd_History_setOf_17 : decode mi_History_setOf.2.1 17 = .ok (.ireturn, 1) := by decide +kernel
theorem jd_History_isIn_0 : decode mi_History_isIn.2.1 0 = .ok (.iload_n 0, 1) := by decide +kernel
theorem jd_History_isIn_1 : decode mi_History_isIn.2.1 1 = .ok (.invokestatic 48, 3) := by decide +kernel
theorem jd_History_isIn_4 : decode mi_History_isIn.2.1 4 = .ok (.iload_n 1, 1) := by decide +kernel
theorem jd_History_isIn_5 : decode mi_History_isIn.2.1 5 = .ok (.iand, 1) := by decide +kernel
theorem jd_History_isIn_6 : decode mi_History_isIn.2.1 6 = .ok (.ifCond .eq 7, 3) := by decide +kernel
theorem jd_History_isIn_9 : decode mi_History_isIn.2.1 9 = .ok (.iconst 1, 1) := by decide +kernel
theorem jd_History_isIn_10 : decode mi_History_isIn.2.1 10 = .ok (.goto 4, 3) := by decide +kernel
theorem jd_History_isIn_13 : decode mi_History_isIn.2.1 13 = .ok (.iconst 0, 1) := by decide +kernel
theorem jd_History_isIn_14 : decode mi_History_isIn.2.1 14 = .ok (.ireturn, 1) := by decide +kernel
theorem jd_History_holds_0 : decode mi_History_holds.2.1 0 = .ok (.iload_n 1, 1) := by decide +kernel
theorem jd_History_holds_1 : decode mi_History_holds.2.1 1 = .ok (.aload_n 0, 1) := by decide +kernel
theorem jd_History_holds_2 : decode mi_History_holds.2.1 2 = .ok (.getfield 45, 3) := by decide +kernel
theorem jd_History_holds_5 : decode mi_History_holds.2.1 5 = .ok (.invokestatic 52, 3) := by decide +kernel
theorem jd_History_holds_8 : decode mi_History_holds.2.1 8 = .ok (.ireturn, 1) := by decide +kernel
theorem jd_Branchwork_requireCommit_0 : decode mi_Branchwork_requireCommit.2.1 0 = .ok (.aload_n 0, 1) := by decide +kernel
theorem jd_Branchwork_requireCommit_1 : decode mi_Branchwork_requireCommit.2.1 1 = .ok (.getfield 19, 3) := by decide +kernel
theorem jd_Branchwork_requireCommit_4 : decode mi_Branchwork_requireCommit.2.1 4 = .ok (.iload_n 1, 1) := by decide +kernel
theorem jd_Branchwork_requireCommit_5 : decode mi_Branchwork_requireCommit.2.1 5 = .ok (.invokevirtual 323, 3) := by decide +kernel
theorem jd_Branchwork_requireCommit_8 : decode mi_Branchwork_requireCommit.2.1 8 = .ok (.ifCond .ne 14, 3) := by decide +kernel
theorem jd_Branchwork_requireCommit_11 : decode mi_Branchwork_requireCommit.2.1 11 = .ok (.new 85, 3) := by decide +kernel
theorem jd_Branchwork_requireCommit_14 : decode mi_Branchwork_requireCommit.2.1 14 = .ok (.dup, 1) := by decide +kernel
theorem jd_Branchwork_requireCommit_15 : decode mi_Branchwork_requireCommit.2.1 15 = .ok (.ldc_w 358, 3) := by decide +kernel
theorem jd_Branchwork_requireCommit_18 : decode mi_Branchwork_requireCommit.2.1 18 = .ok (.invokespecial 89, 3) := by decide +kernel
theorem jd_Branchwork_requireCommit_21 : decode mi_Branchwork_requireCommit.2.1 21 = .ok (.athrow, 1) := by decide +kernel
theorem jd_Branchwork_requireCommit_22 : decode mi_Branchwork_requireCommit.2.1 22 = .ok (.return_, 1) := by decide +kernel
theorem jd_Branchwork_requireBranch_0 : decode mi_Branchwork_requireBranch.2.1 0 = .ok (.iload_n 1, 1) := by decide +kernel
theorem jd_Branchwork_requireBranch_1 : decode mi_Branchwork_requireBranch.2.1 1 = .ok (.ifCond .lt 11, 3) := by decide +kernel
theorem jd_Branchwork_requireBranch_4 : decode mi_Branchwork_requireBranch.2.1 4 = .ok (.iload_n 1, 1) := by decide +kernel
theorem jd_Branchwork_requireBranch_5 : decode mi_Branchwork_requireBranch.2.1 5 = .ok (.aload_n 0, 1) := by decide +kernel
theorem jd_Branchwork_requireBranch_6 : decode mi_Branchwork_requireBranch.2.1 6 = .ok (.getfield 55, 3) := by decide +kernel
theorem jd_Branchwork_requireBranch_9 : decode mi_Branchwork_requireBranch.2.1 9 = .ok (.if_icmp .lt 14, 3) := by decide +kernel
theorem jd_Branchwork_requireBranch_12 : decode mi_Branchwork_requireBranch.2.1 12 = .ok (.new 85, 3) := by decide +kernel
theorem jd_Branchwork_requireBranch_15 : decode mi_Branchwork_requireBranch.2.1 15 = .ok (.dup, 1) := by decide +kernel
theorem jd_Branchwork_requireBranch_16 : decode mi_Branchwork_requireBranch.2.1 16 = .ok (.ldc_w 360, 3) := by decide +kernel
theorem jd_Branchwork_requireBranch_19 : decode mi_Branchwork_requireBranch.2.1 19 = .ok (.invokespecial 89, 3) := by decide +kernel
theorem jd_Branchwork_requireBranch_22 : decode mi_Branchwork_requireBranch.2.1 22 = .ok (.athrow, 1) := by decide +kernel
theorem jd_Branchwork_requireBranch_23 : decode mi_Branchwork_requireBranch.2.1 23 = .ok (.return_, 1) := by decide +kernel
theorem jd_Branchwork_requireConflict_0 : decode mi_Branchwork_requireConflict.2.1 0 = .ok (.aload_n 0, 1) := by decide +kernel
theorem jd_Branchwork_requireConflict_1 : decode mi_Branchwork_requireConflict.2.1 1 = .ok (.getfield 33, 3) := by decide +kernel
theorem jd_Branchwork_requireConflict_4 : decode mi_Branchwork_requireConflict.2.1 4 = .ok (.iload_n 1, 1) := by decide +kernel
theorem jd_Branchwork_requireConflict_5 : decode mi_Branchwork_requireConflict.2.1 5 = .ok (.invokevirtual 362, 3) := by decide +kernel
theorem jd_Branchwork_requireConflict_8 : decode mi_Branchwork_requireConflict.2.1 8 = .ok (.ifCond .ne 14, 3) := by decide +kernel
theorem jd_Branchwork_requireConflict_11 : decode mi_Branchwork_requireConflict.2.1 11 = .ok (.new 85, 3) := by decide +kernel
theorem jd_Branchwork_requireConflict_14 : decode mi_Branchwork_requireConflict.2.1 14 = .ok (.dup, 1) := by decide +kernel
theorem jd_Branchwork_requireConflict_15 : decode mi_Branchwork_requireConflict.2.1 15 = .ok (.ldc_w 363, 3) := by decide +kernel
theorem jd_Branchwork_requireConflict_18 : decode mi_Branchwork_requireConflict.2.1 18 = .ok (.invokespecial 89, 3) := by decide +kernel
theorem jd_Branchwork_requireConflict_21 : decode mi_Branchwork_requireConflict.2.1 21 = .ok (.athrow, 1) := by decide +kernel
theorem jd_Branchwork_requireConflict_22 : decode mi_Branchwork_requireConflict.2.1 22 = .ok (.return_, 1) := by decide +kernel
theorem jd_Conflicts_holds_0 : decode mi_Conflicts_holds.2.1 0 = .ok (.iload_n 1, 1) := by decide +kernel
theorem jd_Conflicts_holds_1 : decode mi_Conflicts_holds.2.1 1 = .ok (.ifCond .lt 21, 3) := by decide +kernel
theorem jd_Conflicts_holds_4 : decode mi_Conflicts_holds.2.1 4 = .ok (.iload_n 1, 1) := by decide +kernel
theorem jd_Conflicts_holds_5 : decode mi_Conflicts_holds.2.1 5 = .ok (.aload_n 0, 1) := by decide +kernel
theorem jd_Conflicts_holds_6 : decode mi_Conflicts_holds.2.1 6 = .ok (.getfield 18, 3) := by decide +kernel
theorem jd_Conflicts_holds_9 : decode mi_Conflicts_holds.2.1 9 = .ok (.if_icmp .ge 13, 3) := by decide +kernel
theorem jd_Conflicts_holds_12 : decode mi_Conflicts_holds.2.1 12 = .ok (.iload_n 1, 1) := by decide +kernel
theorem jd_Conflicts_holds_13 : decode mi_Conflicts_holds.2.1 13 = .ok (.bipush 24, 2) := by decide +kernel
theorem jd_Conflicts_holds_15 : decode mi_Conflicts_holds.2.1 15 = .ok (.if_icmp .ge 7, 3) := by decide +kernel
theorem jd_Conflicts_holds_18 : decode mi_Conflicts_holds.2.1 18 = .ok (.iconst 1, 1) := by decide +kernel
theorem jd_Conflicts_holds_19 : decode mi_Conflicts_holds.2.1 19 = .ok (.goto 4, 3) := by decide +kernel
theorem jd_Conflicts_holds_22 : decode mi_Conflicts_holds.2.1 22 = .ok (.iconst 0, 1) := by decide +kernel
theorem jd_Conflicts_holds_23 : decode mi_Conflicts_holds.2.1 23 = .ok (.ireturn, 1) := by decide +kernel
theorem jd_Branchwork_requireCleanAndUnmerged_0 : decode mi_Branchwork_requireCleanAndUnmerged.2.1 0 = .ok (.aload_n 0, 1) := by decide +kernel
theorem jd_Branchwork_requireCleanAndUnmerged_1 : decode mi_Branchwork_requireCleanAndUnmerged.2.1 1 = .ok (.invokevirtual 158, 3) := by decide +kernel
theorem jd_Branchwork_requireCleanAndUnmerged_4 : decode mi_Branchwork_requireCleanAndUnmerged.2.1 4 = .ok (.ifCond .ne 14, 3) := by decide +kernel
theorem jd_Branchwork_requireCleanAndUnmerged_7 : decode mi_Branchwork_requireCleanAndUnmerged.2.1 7 = .ok (.new 101, 3) := by decide +kernel
theorem jd_Branchwork_requireCleanAndUnmerged_10 : decode mi_Branchwork_requireCleanAndUnmerged.2.1 10 = .ok (.dup, 1) := by decide +kernel
theorem jd_Branchwork_requireCleanAndUnmerged_11 : decode mi_Branchwork_requireCleanAndUnmerged.2.1 11 = .ok (.ldc_w 365, 3) := by decide +kernel
theorem jd_Branchwork_requireCleanAndUnmerged_14 : decode mi_Branchwork_requireCleanAndUnmerged.2.1 14 = .ok (.invokespecial 105, 3) := by decide +kernel
theorem jd_Branchwork_requireCleanAndUnmerged_17 : decode mi_Branchwork_requireCleanAndUnmerged.2.1 17 = .ok (.athrow, 1) := by decide +kernel
theorem jd_Branchwork_requireCleanAndUnmerged_18 : decode mi_Branchwork_requireCleanAndUnmerged.2.1 18 = .ok (.aload_n 0, 1) := by decide +kernel
theorem jd_Branchwork_requireCleanAndUnmerged_19 : decode mi_Branchwork_requireCleanAndUnmerged.2.1 19 = .ok (.getfield 62, 3) := by decide +kernel
theorem jd_Branchwork_requireCleanAndUnmerged_22 : decode mi_Branchwork_requireCleanAndUnmerged.2.1 22 = .ok (.iconst (-1), 1) := by decide +kernel
theorem jd_Branchwork_requireCleanAndUnmerged_23 : decode mi_Branchwork_requireCleanAndUnmerged.2.1 23 = .ok (.if_icmp .eq 14, 3) := by decide +kernel
theorem jd_Branchwork_requireCleanAndUnmerged_26 : decode mi_Branchwork_requireCleanAndUnmerged.2.1 26 = .ok (.new 101, 3) := by decide +kernel
theorem jd_Branchwork_requireCleanAndUnmerged_29 : decode mi_Branchwork_requireCleanAndUnmerged.2.1 29 = .ok (.dup, 1) := by decide +kernel
theorem jd_Branchwork_requireCleanAndUnmerged_30 : decode mi_Branchwork_requireCleanAndUnmerged.2.1 30 = .ok (.ldc_w 367, 3) := by decide +kernel
theorem jd_Branchwork_requireCleanAndUnmerged_33 : decode mi_Branchwork_requireCleanAndUnmerged.2.1 33 = .ok (.invokespecial 105, 3) := by decide +kernel
theorem jd_Branchwork_requireCleanAndUnmerged_36 : decode mi_Branchwork_requireCleanAndUnmerged.2.1 36 = .ok (.athrow, 1) := by decide +kernel
theorem jd_Branchwork_requireCleanAndUnmerged_37 : decode mi_Branchwork_requireCleanAndUnmerged.2.1 37 = .ok (.return_, 1) := by decide +kernel
theorem jd_Branchwork_branch_0 : decode mi_Branchwork_branch.2.1 0 = .ok (.aload_n 0, 1) := by decide +kernel
theorem jd_Branchwork_branch_1 : decode mi_Branchwork_branch.2.1 1 = .ok (.invokevirtual 137, 3) := by decide +kernel
theorem jd_Branchwork_branch_4 : decode mi_Branchwork_branch.2.1 4 = .ok (.iconst (-1), 1) := by decide +kernel
theorem jd_Branchwork_branch_5 : decode mi_Branchwork_branch.2.1 5 = .ok (.if_icmp .ne 13, 3) := by decide +kernel
theorem jd_Branchwork_branch_8 : decode mi_Branchwork_branch.2.1 8 = .ok (.new 101, 3) := by decide +kernel
theorem jd_Branchwork_branch_11 : decode mi_Branchwork_branch.2.1 11 = .ok (.dup, 1) := by decide +kernel
theorem jd_Branchwork_branch_12 : decode mi_Branchwork_branch.2.1 12 = .ok (.ldc 167, 2) := by decide +kernel
theorem jd_Branchwork_branch_14 : decode mi_Branchwork_branch.2.1 14 = .ok (.invokespecial 105, 3) := by decide +kernel
theorem jd_Branchwork_branch_17 : decode mi_Branchwork_branch.2.1 17 = .ok (.athrow, 1) := by decide +kernel
theorem jd_Branchwork_branch_18 : decode mi_Branchwork_branch.2.1 18 = .ok (.aload_n 0, 1) := by decide +kernel
theorem jd_Branchwork_branch_19 : decode mi_Branchwork_branch.2.1 19 = .ok (.getfield 55, 3) := by decide +kernel
theorem jd_Branchwork_branch_22 : decode mi_Branchwork_branch.2.1 22 = .ok (.iconst 5, 1) := by decide +kernel
theorem jd_Branchwork_branch_23 : decode mi_Branchwork_branch.2.1 23 = .ok (.if_icmp .lt 13, 3) := by decide +kernel
theorem jd_Branchwork_branch_26 : decode mi_Branchwork_branch.2.1 26 = .ok (.new 101, 3) := by decide +kernel
theorem jd_Branchwork_branch_29 : decode mi_Branchwork_branch.2.1 29 = .ok (.dup, 1) := by decide +kernel
theorem jd_Branchwork_branch_30 : decode mi_Branchwork_branch.2.1 30 = .ok (.ldc 169, 2) := by decide +kernel
theorem jd_Branchwork_branch_32 : decode mi_Branchwork_branch.2.1 32 = .ok (.invokespecial 105, 3) := by decide +kernel
theorem jd_Branchwork_branch_35 : decode mi_Branchwork_branch.2.1 35 = .ok (.athrow, 1) := by decide +kernel
theorem jd_Branchwork_branch_36 : decode mi_Branchwork_branch.2.1 36 = .ok (.aload_n 0, 1) := by decide +kernel
theorem jd_Branchwork_branch_37 : decode mi_Branchwork_branch.2.1 37 = .ok (.getfield 51, 3) := by decide +kernel
theorem jd_Branchwork_branch_40 : decode mi_Branchwork_branch.2.1 40 = .ok (.aload_n 0, 1) := by decide +kernel
theorem jd_Branchwork_branch_41 : decode mi_Branchwork_branch.2.1 41 = .ok (.getfield 55, 3) := by decide +kernel
theorem jd_Branchwork_branch_44 : decode mi_Branchwork_branch.2.1 44 = .ok (.aload_n 0, 1) := by decide +kernel
theorem jd_Branchwork_branch_45 : decode mi_Branchwork_branch.2.1 45 = .ok (.invokevirtual 137, 3) := by decide +kernel
theorem jd_Branchwork_branch_48 : decode mi_Branchwork_branch.2.1 48 = .ok (.iastore, 1) := by decide +kernel
theorem jd_Branchwork_branch_49 : decode mi_Branchwork_branch.2.1 49 = .ok (.aload_n 0, 1) := by decide +kernel
theorem jd_Branchwork_branch_50 : decode mi_Branchwork_branch.2.1 50 = .ok (.dup, 1) := by decide +kernel
theorem jd_Branchwork_branch_51 : decode mi_Branchwork_branch.2.1 51 = .ok (.getfield 55, 3) := by decide +kernel
theorem jd_Branchwork_branch_54 : decode mi_Branchwork_branch.2.1 54 = .ok (.iconst 1, 1) := by decide +kernel
theorem jd_Branchwork_branch_55 : decode mi_Branchwork_branch.2.1 55 = .ok (.iadd, 1) := by decide +kernel
theorem jd_Branchwork_branch_56 : decode mi_Branchwork_branch.2.1 56 = .ok (.putfield 55, 3) := by decide +kernel
theorem jd_Branchwork_branch_59 : decode mi_Branchwork_branch.2.1 59 = .ok (.aload_n 0, 1) := by decide +kernel
theorem jd_Branchwork_branch_60 : decode mi_Branchwork_branch.2.1 60 = .ok (.getfield 55, 3) := by decide +kernel
theorem jd_Branchwork_branch_63 : decode mi_Branchwork_branch.2.1 63 = .ok (.iconst 1, 1) := by decide +kernel
theorem jd_Branchwork_branch_64 : decode mi_Branchwork_branch.2.1 64 = .ok (.isub, 1) := by decide +kernel
theorem jd_Branchwork_branch_65 : decode mi_Branchwork_branch.2.1 65 = .ok (.ireturn, 1) := by decide +kernel
theorem jd_Branchwork_change_0 : decode mi_Branchwork_change.2.1 0 = .ok (.aload_n 0, 1) := by decide +kernel
theorem jd_Branchwork_change_1 : decode mi_Branchwork_change.2.1 1 = .ok (.iload_n 1, 1) := by decide +kernel
theorem jd_Branchwork_change_2 : decode mi_Branchwork_change.2.1 2 = .ok (.invokevirtual 171, 3) := by decide +kernel
theorem jd_Branchwork_change_5 : decode mi_Branchwork_change.2.1 5 = .ok (.aload_n 0, 1) := by decide +kernel
theorem jd_Branchwork_change_6 : decode mi_Branchwork_change.2.1 6 = .ok (.invokevirtual 174, 3) := by decide +kernel
theorem jd_Branchwork_change_9 : decode mi_Branchwork_change.2.1 9 = .ok (.aload_n 0, 1) := by decide +kernel
theorem jd_Branchwork_change_10 : decode mi_Branchwork_change.2.1 10 = .ok (.getfield 59, 3) := by decide +kernel
theorem jd_Branchwork_change_13 : decode mi_Branchwork_change.2.1 13 = .ok (.istore_n 2, 1) := by decide +kernel
theorem jd_Branchwork_change_14 : decode mi_Branchwork_change.2.1 14 = .ok (.aload_n 0, 1) := by decide +kernel
theorem jd_Branchwork_change_15 : decode mi_Branchwork_change.2.1 15 = .ok (.iload_n 1, 1) := by decide +kernel
theorem jd_Branchwork_change_16 : decode mi_Branchwork_change.2.1 16 = .ok (.putfield 59, 3) := by decide +kernel
theorem jd_Branchwork_change_19 : decode mi_Branchwork_change.2.1 19 = .ok (.aload_n 0, 1) := by decide +kernel
theorem jd_Branchwork_change_20 : decode mi_Branchwork_change.2.1 20 = .ok (.getfield 12, 3) := by decide +kernel
theorem jd_Branchwork_change_23 : decode mi_Branchwork_change.2.1 23 = .ok (.aload_n 0, 1) := by decide +kernel
theorem jd_Branchwork_change_24 : decode mi_Branchwork_change.2.1 24 = .ok (.getfield 19, 3) := by decide +kernel
theorem jd_Branchwork_change_27 : decode mi_Branchwork_change.2.1 27 = .ok (.aload_n 0, 1) := by decide +kernel
theorem jd_Branchwork_change_28 : decode mi_Branchwork_change.2.1 28 = .ok (.invokevirtual 137, 3) := by decide +kernel
theorem jd_Branchwork_change_31 : decode mi_Branchwork_change.2.1 31 = .ok (.invokevirtual 140, 3) := by decide +kernel
theorem jd_Branchwork_change_34 : decode mi_Branchwork_change.2.1 34 = .ok (.invokevirtual 177, 3) := by decide +kernel
theorem jd_Branchwork_change_37 : decode mi_Branchwork_change.2.1 37 = .ok (.iload_n 2, 1) := by decide +kernel
theorem jd_Branchwork_change_38 : decode mi_Branchwork_change.2.1 38 = .ok (.ireturn, 1) := by decide +kernel
theorem jd_Branchwork_reset_0 : decode mi_Branchwork_reset.2.1 0 = .ok (.aload_n 0, 1) := by decide +kernel
theorem jd_Branchwork_reset_1 : decode mi_Branchwork_reset.2.1 1 = .ok (.iload_n 1, 1) := by decide +kernel
theorem jd_Branchwork_reset_2 : decode mi_Branchwork_reset.2.1 2 = .ok (.invokevirtual 180, 3) := by decide +kernel
theorem jd_Branchwork_reset_5 : decode mi_Branchwork_reset.2.1 5 = .ok (.aload_n 0, 1) := by decide +kernel
theorem jd_Branchwork_reset_6 : decode mi_Branchwork_reset.2.1 6 = .ok (.invokevirtual 137, 3) := by decide +kernel
theorem jd_Branchwork_reset_9 : decode mi_Branchwork_reset.2.1 9 = .ok (.istore_n 2, 1) := by decide +kernel
theorem jd_Branchwork_reset_10 : decode mi_Branchwork_reset.2.1 10 = .ok (.aload_n 0, 1) := by decide +kernel
theorem jd_Branchwork_reset_11 : decode mi_Branchwork_reset.2.1 11 = .ok (.getfield 51, 3) := by decide +kernel
theorem jd_Branchwork_reset_14 : decode mi_Branchwork_reset.2.1 14 = .ok (.aload_n 0, 1) := by decide +kernel
theorem jd_Branchwork_reset_15 : decode mi_Branchwork_reset.2.1 15 = .ok (.getfield 59, 3) := by decide +kernel
theorem jd_Branchwork_reset_18 : decode mi_Branchwork_reset.2.1 18 = .ok (.iload_n 1, 1) := by decide +kernel
theorem jd_Branchwork_reset_19 : decode mi_Branchwork_reset.2.1 19 = .ok (.iastore, 1) := by decide +kernel
theorem jd_Branchwork_reset_20 : decode mi_Branchwork_reset.2.1 20 = .ok (.aload_n 0, 1) := by decide +kernel
theorem jd_Branchwork_reset_21 : decode mi_Branchwork_reset.2.1 21 = .ok (.getfield 12, 3) := by decide +kernel
theorem jd_Branchwork_reset_24 : decode mi_Branchwork_reset.2.1 24 = .ok (.aload_n 0, 1) := by decide +kernel
theorem jd_Branchwork_reset_25 : decode mi_Branchwork_reset.2.1 25 = .ok (.getfield 19, 3) := by decide +kernel
theorem jd_Branchwork_reset_28 : decode mi_Branchwork_reset.2.1 28 = .ok (.iload_n 1, 1) := by decide +kernel
theorem jd_Branchwork_reset_29 : decode mi_Branchwork_reset.2.1 29 = .ok (.invokevirtual 140, 3) := by decide +kernel
theorem jd_Branchwork_reset_32 : decode mi_Branchwork_reset.2.1 32 = .ok (.invokevirtual 177, 3) := by decide +kernel
theorem jd_Branchwork_reset_35 : decode mi_Branchwork_reset.2.1 35 = .ok (.aload_n 0, 1) := by decide +kernel
theorem jd_Branchwork_reset_36 : decode mi_Branchwork_reset.2.1 36 = .ok (.iconst (-1), 1) := by decide +kernel
theorem jd_Branchwork_reset_37 : decode mi_Branchwork_reset.2.1 37 = .ok (.putfield 62, 3) := by decide +kernel
theorem jd_Branchwork_reset_40 : decode mi_Branchwork_reset.2.1 40 = .ok (.aload_n 0, 1) := by decide +kernel
theorem jd_Branchwork_reset_41 : decode mi_Branchwork_reset.2.1 41 = .ok (.getfield 33, 3) := by decide +kernel
theorem jd_Branchwork_reset_44 : decode mi_Branchwork_reset.2.1 44 = .ok (.invokevirtual 183, 3) := by decide +kernel
theorem jd_Branchwork_reset_47 : decode mi_Branchwork_reset.2.1 47 = .ok (.iload_n 2, 1) := by decide +kernel
theorem jd_Branchwork_reset_48 : decode mi_Branchwork_reset.2.1 48 = .ok (.ireturn, 1) := by decide +kernel
theorem jd_Branchwork_merge_0 : decode mi_Branchwork_merge.2.1 0 = .ok (.aload_n 0, 1) := by decide +kernel
theorem jd_Branchwork_merge_1 : decode mi_Branchwork_merge.2.1 1 = .ok (.iload_n 1, 1) := by decide +kernel
theorem jd_Branchwork_merge_2 : decode mi_Branchwork_merge.2.1 2 = .ok (.invokevirtual 171, 3) := by decide +kernel
theorem jd_Branchwork_merge_5 : decode mi_Branchwork_merge.2.1 5 = .ok (.aload_n 0, 1) := by decide +kernel
theorem jd_Branchwork_merge_6 : decode mi_Branchwork_merge.2.1 6 = .ok (.invokevirtual 137, 3) := by decide +kernel
theorem jd_Branchwork_merge_9 : decode mi_Branchwork_merge.2.1 9 = .ok (.iconst (-1), 1) := by decide +kernel
theorem jd_Branchwork_merge_10 : decode mi_Branchwork_merge.2.1 10 = .ok (.if_icmp .ne 13, 3) := by decide +kernel
theorem jd_Branchwork_merge_13 : decode mi_Branchwork_merge.2.1 13 = .ok (.new 101, 3) := by decide +kernel
theorem jd_Branchwork_merge_16 : decode mi_Branchwork_merge.2.1 16 = .ok (.dup, 1) := by decide +kernel
theorem jd_Branchwork_merge_17 : decode mi_Branchwork_merge.2.1 17 = .ok (.ldc 167, 2) := by decide +kernel
theorem jd_Branchwork_merge_19 : decode mi_Branchwork_merge.2.1 19 = .ok (.invokespecial 105, 3) := by decide +kernel
theorem jd_Branchwork_merge_22 : decode mi_Branchwork_merge.2.1 22 = .ok (.athrow, 1) := by decide +kernel
theorem jd_Branchwork_merge_23 : decode mi_Branchwork_merge.2.1 23 = .ok (.aload_n 0, 1) := by decide +kernel
theorem jd_Branchwork_merge_24 : decode mi_Branchwork_merge.2.1 24 = .ok (.invokevirtual 174, 3) := by decide +kernel
theorem jd_Branchwork_merge_27 : decode mi_Branchwork_merge.2.1 27 = .ok (.aload_n 0, 1) := by decide +kernel
theorem jd_Branchwork_merge_28 : decode mi_Branchwork_merge.2.1 28 = .ok (.invokevirtual 137, 3) := by decide +kernel
theorem jd_Branchwork_merge_31 : decode mi_Branchwork_merge.2.1 31 = .ok (.istore_n 2, 1) := by decide +kernel
theorem jd_Branchwork_merge_32 : decode mi_Branchwork_merge.2.1 32 = .ok (.aload_n 0, 1) := by decide +kernel
theorem jd_Branchwork_merge_33 : decode mi_Branchwork_merge.2.1 33 = .ok (.getfield 51, 3) := by decide +kernel
theorem jd_Branchwork_merge_36 : decode mi_Branchwork_merge.2.1 36 = .ok (.iload_n 1, 1) := by decide +kernel
theorem jd_Branchwork_merge_37 : decode mi_Branchwork_merge.2.1 37 = .ok (.iaload, 1) := by decide +kernel
theorem jd_Branchwork_merge_38 : decode mi_Branchwork_merge.2.1 38 = .ok (.istore_n 3, 1) := by decide +kernel
theorem jd_Branchwork_merge_39 : decode mi_Branchwork_merge.2.1 39 = .ok (.aload_n 0, 1) := by decide +kernel
theorem jd_Branchwork_merge_40 : decode mi_Branchwork_merge.2.1 40 = .ok (.getfield 19, 3) := by decide +kernel
theorem jd_Branchwork_merge_43 : decode mi_Branchwork_merge.2.1 43 = .ok (.iload_n 2, 1) := by decide +kernel
theorem jd_Branchwork_merge_44 : decode mi_Branchwork_merge.2.1 44 = .ok (.iload_n 3, 1) := by decide +kernel
theorem jd_Branchwork_merge_45 : decode mi_Branchwork_merge.2.1 45 = .ok (.invokevirtual 186, 3) := by decide +kernel
theorem jd_Branchwork_merge_48 : decode mi_Branchwork_merge.2.1 48 = .ok (.istore 4, 2) := by decide +kernel
theorem jd_Branchwork_merge_50 : decode mi_Branchwork_merge.2.1 50 = .ok (.iload 4, 2) := by decide +kernel
theorem jd_Branchwork_merge_52 : decode mi_Branchwork_merge.2.1 52 = .ok (.iload_n 3, 1) := by decide +kernel
theorem jd_Branchwork_merge_53 : decode mi_Branchwork_merge.2.1 53 = .ok (.if_icmp .ne 5, 3) := by decide +kernel
theorem jd_Branchwork_merge_56 : decode mi_Branchwork_merge.2.1 56 = .ok (.iconst (-1), 1) := by decide +kernel
theorem jd_Branchwork_merge_57 : decode mi_Branchwork_merge.2.1 57 = .ok (.ireturn, 1) := by decide +kernel
theorem jd_Branchwork_merge_58 : decode mi_Branchwork_merge.2.1 58 = .ok (.iload 4, 2) := by decide +kernel
theorem jd_Branchwork_merge_60 : decode mi_Branchwork_merge.2.1 60 = .ok (.iload_n 2, 1) := by decide +kernel
theorem jd_Branchwork_merge_61 : decode mi_Branchwork_merge.2.1 61 = .ok (.if_icmp .ne 31, 3) := by decide +kernel
theorem jd_Branchwork_merge_64 : decode mi_Branchwork_merge.2.1 64 = .ok (.aload_n 0, 1) := by decide +kernel
theorem jd_Branchwork_merge_65 : decode mi_Branchwork_merge.2.1 65 = .ok (.getfield 51, 3) := by decide +kernel
theorem jd_Branchwork_merge_68 : decode mi_Branchwork_merge.2.1 68 = .ok (.aload_n 0, 1) := by decide +kernel
theorem jd_Branchwork_merge_69 : decode mi_Branchwork_merge.2.1 69 = .ok (.getfield 59, 3) := by decide +kernel
theorem jd_Branchwork_merge_72 : decode mi_Branchwork_merge.2.1 72 = .ok (.iload_n 3, 1) := by decide +kernel
theorem jd_Branchwork_merge_73 : decode mi_Branchwork_merge.2.1 73 = .ok (.iastore, 1) := by decide +kernel
theorem jd_Branchwork_merge_74 : decode mi_Branchwork_merge.2.1 74 = .ok (.aload_n 0, 1) := by decide +kernel
theorem jd_Branchwork_merge_75 : decode mi_Branchwork_merge.2.1 75 = .ok (.getfield 12, 3) := by decide +kernel
theorem jd_Branchwork_merge_78 : decode mi_Branchwork_merge.2.1 78 = .ok (.aload_n 0, 1) := by decide +kernel
theorem jd_Branchwork_merge_79 : decode mi_Branchwork_merge.2.1 79 = .ok (.getfield 19, 3) := by decide +kernel
theorem jd_Branchwork_merge_82 : decode mi_Branchwork_merge.2.1 82 = .ok (.iload_n 3, 1) := by decide +kernel
theorem jd_Branchwork_merge_83 : decode mi_Branchwork_merge.2.1 83 = .ok (.invokevirtual 140, 3) := by decide +kernel
theorem jd_Branchwork_merge_86 : decode mi_Branchwork_merge.2.1 86 = .ok (.invokevirtual 177, 3) := by decide +kernel
theorem jd_Branchwork_merge_89 : decode mi_Branchwork_merge.2.1 89 = .ok (.bipush (-2), 2) := by decide +kernel
theorem jd_Branchwork_merge_91 : decode mi_Branchwork_merge.2.1 91 = .ok (.ireturn, 1) := by decide +kernel
theorem jd_Branchwork_merge_92 : decode mi_Branchwork_merge.2.1 92 = .ok (.aload_n 0, 1) := by decide +kernel
theorem jd_Branchwork_merge_93 : decode mi_Branchwork_merge.2.1 93 = .ok (.getfield 26, 3) := by decide +kernel
theorem jd_Branchwork_merge_96 : decode mi_Branchwork_merge.2.1 96 = .ok (.aload_n 0, 1) := by decide +kernel
theorem jd_Branchwork_merge_97 : decode mi_Branchwork_merge.2.1 97 = .ok (.getfield 19, 3) := by decide +kernel
theorem jd_Branchwork_merge_100 : decode mi_Branchwork_merge.2.1 100 = .ok (.iload 4, 2) := by decide +kernel
theorem jd_Branchwork_merge_102 : decode mi_Branchwork_merge.2.1 102 = .ok (.invokevirtual 140, 3) := by decide +kernel
theorem jd_Branchwork_merge_105 : decode mi_Branchwork_merge.2.1 105 = .ok (.aload_n 0, 1) := by decide +kernel
theorem jd_Branchwork_merge_106 : decode mi_Branchwork_merge.2.1 106 = .ok (.getfield 19, 3) := by decide +kernel
theorem jd_Branchwork_merge_109 : decode mi_Branchwork_merge.2.1 109 = .ok (.iload_n 2, 1) := by decide +kernel
theorem jd_Branchwork_merge_110 : decode mi_Branchwork_merge.2.1 110 = .ok (.invokevirtual 140, 3) := by decide +kernel
theorem jd_Branchwork_merge_113 : decode mi_Branchwork_merge.2.1 113 = .ok (.aload_n 0, 1) := by decide +kernel
theorem jd_Branchwork_merge_114 : decode mi_Branchwork_merge.2.1 114 = .ok (.getfield 19, 3) := by decide +kernel
theorem jd_Branchwork_merge_117 : decode mi_Branchwork_merge.2.1 117 = .ok (.iload_n 3, 1) := by decide +kernel
theorem jd_Branchwork_merge_118 : decode mi_Branchwork_merge.2.1 118 = .ok (.invokevirtual 140, 3) := by decide +kernel
theorem jd_Branchwork_merge_121 : decode mi_Branchwork_merge.2.1 121 = .ok (.invokevirtual 190, 3) := by decide +kernel
theorem jd_Branchwork_merge_124 : decode mi_Branchwork_merge.2.1 124 = .ok (.aload_n 0, 1) := by decide +kernel
theorem jd_Branchwork_merge_125 : decode mi_Branchwork_merge.2.1 125 = .ok (.getfield 12, 3) := by decide +kernel
theorem jd_Branchwork_merge_128 : decode mi_Branchwork_merge.2.1 128 = .ok (.aload_n 0, 1) := by decide +kernel
theorem jd_Branchwork_merge_129 : decode mi_Branchwork_merge.2.1 129 = .ok (.getfield 26, 3) := by decide +kernel
theorem jd_Branchwork_merge_132 : decode mi_Branchwork_merge.2.1 132 = .ok (.invokevirtual 194, 3) := by decide +kernel
theorem jd_Branchwork_merge_135 : decode mi_Branchwork_merge.2.1 135 = .ok (.invokevirtual 177, 3) := by decide +kernel
theorem jd_Branchwork_merge_138 : decode mi_Branchwork_merge.2.1 138 = .ok (.aload_n 0, 1) := by decide +kernel
theorem jd_Branchwork_merge_139 : decode mi_Branchwork_merge.2.1 139 = .ok (.getfield 33, 3) := by decide +kernel
theorem jd_Branchwork_merge_142 : decode mi_Branchwork_merge.2.1 142 = .ok (.aload_n 0, 1) := by decide +kernel
theorem jd_Branchwork_merge_143 : decode mi_Branchwork_merge.2.1 143 = .ok (.getfield 26, 3) := by decide +kernel
theorem jd_Branchwork_merge_146 : decode mi_Branchwork_merge.2.1 146 = .ok (.invokevirtual 198, 3) := by decide +kernel
theorem jd_Branchwork_merge_149 : decode mi_Branchwork_merge.2.1 149 = .ok (.invokevirtual 202, 3) := by decide +kernel
theorem jd_Branchwork_merge_152 : decode mi_Branchwork_merge.2.1 152 = .ok (.aload_n 0, 1) := by decide +kernel
theorem jd_Branchwork_merge_153 : decode mi_Branchwork_merge.2.1 153 = .ok (.iload_n 3, 1) := by decide +kernel
theorem jd_Branchwork_merge_154 : decode mi_Branchwork_merge.2.1 154 = .ok (.putfield 62, 3) := by decide +kernel
theorem jd_Branchwork_merge_157 : decode mi_Branchwork_merge.2.1 157 = .ok (.aload_n 0, 1) := by decide +kernel
theorem jd_Branchwork_merge_158 : decode mi_Branchwork_merge.2.1 158 = .ok (.getfield 33, 3) := by decide +kernel
theorem jd_Branchwork_merge_161 : decode mi_Branchwork_merge.2.1 161 = .ok (.invokevirtual 153, 3) := by decide +kernel
theorem jd_Branchwork_merge_164 : decode mi_Branchwork_merge.2.1 164 = .ok (.ireturn, 1) := by decide +kernel
theorem jd_Branchwork_settle_0 : decode mi_Branchwork_settle.2.1 0 = .ok (.aload_n 0, 1) := by decide +kernel
theorem jd_Branchwork_settle_1 : decode mi_Branchwork_settle.2.1 1 = .ok (.iload_n 1, 1) := by decide +kernel
theorem jd_Branchwork_settle_2 : decode mi_Branchwork_settle.2.1 2 = .ok (.invokevirtual 205, 3) := by decide +kernel
theorem jd_Branchwork_settle_5 : decode mi_Branchwork_settle.2.1 5 = .ok (.aload_n 0, 1) := by decide +kernel
theorem jd_Branchwork_settle_6 : decode mi_Branchwork_settle.2.1 6 = .ok (.getfield 33, 3) := by decide +kernel
theorem jd_Branchwork_settle_9 : decode mi_Branchwork_settle.2.1 9 = .ok (.iload_n 1, 1) := by decide +kernel
theorem jd_Branchwork_settle_10 : decode mi_Branchwork_settle.2.1 10 = .ok (.invokevirtual 208, 3) := by decide +kernel
theorem jd_Branchwork_settle_13 : decode mi_Branchwork_settle.2.1 13 = .ok (.aload_n 0, 1) := by decide +kernel
theorem jd_Branchwork_settle_14 : decode mi_Branchwork_settle.2.1 14 = .ok (.getfield 33, 3) := by decide +kernel
theorem jd_Branchwork_settle_17 : decode mi_Branchwork_settle.2.1 17 = .ok (.invokevirtual 153, 3) := by decide +kernel
theorem jd_Branchwork_settle_20 : decode mi_Branchwork_settle.2.1 20 = .ok (.ireturn, 1) := by decide +kernel
theorem fa_three (a b : Int32) : a < b ∨ a = b ∨ b < a := by
  rcases Int.lt_trichotomy a.toInt b.toInt with h | h | h
  · exact Or.inl (Int32.lt_iff_toInt_lt.mpr h)
  · exact Or.inr (Or.inl (Int32.toInt_inj.mp h))
  · exact Or.inr (Or.inr (Int32.lt_iff_toInt_lt.mpr h))
def jx_IO : String := "java/lang/IndexOutOfBoundsException"
def jx_IA : String := "java/lang/IllegalArgumentException"
def jx_IS : String := "java/lang/IllegalStateException"
abbrev jx_in (x : Int32) : Prop := ¬ x < 0 ∧ x < nI 12
theorem jx_in.nat {x : Int32} (h : jx_in x) : ∃ p, p < 12 ∧ x = nI p := by
  obtain ⟨j, hj, rfl⟩ := nI_of h.1
  exact ⟨j, (nI_ltI hj (by omega)).mp h.2, rfl⟩
theorem jx_out {x : Int32} (h : ¬ jx_in x) : x < 0 ∨ nI 12 ≤ x := by
  by_cases h0 : x < 0
  · exact Or.inl h0
  · refine Or.inr ?_
    by_cases h1 : x < nI 12
    · exact absurd ⟨h0, h1⟩ h
    · exact Int32.not_lt.mp h1
section
variable {o : jw_O} {μ : jw_Mem} {hs b : Nat}
theorem by_requirePath (x : Int32) : jw_SpX mi_Branchwork_requirePath 6 1 6 o [.int x] μ hs (fun v μ' s' => v = none ∧ μ' = μ ∧ s' = hs ∧ jx_in x) (fun E μ' s' => E = jx_IO ∧ μ' = μ ∧ ¬ jx_in x) := by
  refine jw_specX (by decide +kernel) (Nat.le_of_ble_eq_true rfl) rfl (fun k hR hX => ?_)
  have hE := hX.E
  refine jw_iload_n (pc' := 1) jd_Branchwork_requirePath_0 rfl rfl rfl ?_
  refine jw_if_lt (tgt := 10) (pc' := 4) jd_Branchwork_requirePath_1 (by decide) rfl (fun c => ?_) (fun c => ?_)
  · refine jw_throwSW hR hX jt_IndexOutOfBoundsException js_Branchwork_353 jd_Branchwork_requirePath_10 jd_Branchwork_requirePath_13 jd_Branchwork_requirePath_14 jd_Branchwork_requirePath_17 jd_Branchwork_requirePath_20 (Nat.le_of_ble_eq_true rfl) (by omega) (by omega) (by omega) (fun s9 hle9 => ?_)
    exact ⟨rfl, rfl, fun z => z.1 c⟩
  refine jw_iload_n (pc' := 5) jd_Branchwork_requirePath_4 rfl rfl rfl ?_
  refine jw_bipush (pc' := 7) (v := nI 12) jd_Branchwork_requirePath_5 (by decide +kernel) rfl ?_
  refine jw_icmp_lt (tgt := 21) (pc' := 10) jd_Branchwork_requirePath_7 (by decide) rfl (fun c2 => ?_) (fun c2 => ?_)
  · refine jw_vret hE jd_Branchwork_requirePath_21 rfl (by omega) (by omega) ?_
    exact ⟨rfl, rfl, rfl, c, c2⟩
  · refine jw_throwSW hR hX jt_IndexOutOfBoundsException js_Branchwork_353 jd_Branchwork_requirePath_10 jd_Branchwork_requirePath_13 jd_Branchwork_requirePath_14 jd_Branchwork_requirePath_17 jd_Branchwork_requirePath_20 (Nat.le_of_ble_eq_true rfl) (by omega) (by omega) (by omega) (fun s9 hle9 => ?_)
    exact ⟨rfl, rfl, fun z => c2 z.2⟩
theorem by_head (h : bw_New o μ b) : jw_Ro mi_Branchwork_head 0 o [.ref b] μ hs (some (.int (-1))) := by
  refine jw_ro (by decide +kernel) (Nat.le_of_ble_eq_true rfl) rfl (fun k hR hE => ?_)
  obtain ⟨h0, -, -, -, -, -, -, ⟨f, hf, hf1⟩⟩ := h
  have hf9 : μ (b + 983) = some (.inl (o.2.2.1 0, 5, .inl f)) := hf
  refine jw_aload_n (pc' := 1) jd_Branchwork_head_0 rfl rfl rfl ?_
  refine jw_get (pc' := 4) (kf := 6) jc_Branchwork (by decide) jq_289 jd_Branchwork_head_1 (by assumption) rfl rfl ?_
  refine jw_aload_n (pc' := 5) jd_Branchwork_head_4 rfl rfl rfl ?_
  refine jw_get (pc' := 8) (kf := 8) jc_Branchwork (by decide) jq_291 jd_Branchwork_head_5 (by assumption) rfl rfl ?_
  refine jw_iald (pc' := 9) (i := 0) jd_Branchwork_head_8 (by assumption) rfl (vp_in_nI (n := 0) (by omega) (by omega)) ((congrArg f (nI_clamp (n := 0) (by omega))).trans (hf1 0 (by omega))) rfl ?_
  refine jw_iret hE jd_Branchwork_head_9 rfl (by omega) (by omega) ?_
  exact ⟨rfl, rfl, rfl⟩
theorem by_treeOf {x : Int32} {N : Nat → Nat → Nat} {Z : Nat → Nat → Int32} {G : Nat → Nat → Nat → Int32} {nt f1 f2 tn cn : Nat → Int32} {c kp : Int32} (h : bh_At o μ b N Z G nt f1 f2 tn cn c kp) (hx : x < 0) : jw_Ro mi_History_treeOf 0 o [.ref b, .int x] μ hs (some (.ref (b + 2))) := by
  refine jw_ro (by decide +kernel) (Nat.le_of_ble_eq_true rfl) rfl (fun k hR hE => ?_)
  have h0 := h.1
  refine jw_iload_n (pc' := 1) jd_History_treeOf_0 rfl rfl rfl ?_
  refine jw_if_lt (tgt := 19) (pc' := 4) jd_History_treeOf_1 (by decide) rfl (fun c => ?_) (fun c => ?_)
  · refine jw_aload_n (pc' := 20) jd_History_treeOf_19 rfl rfl rfl ?_
    refine jw_get (pc' := 23) (kf := 1) jc_History (by decide) jq_134 jd_History_treeOf_20 (by assumption) rfl rfl ?_
    refine jw_aret hE jd_History_treeOf_23 rfl (by first | exact Or.inl ⟨_, rfl⟩ | exact Or.inr ⟨_, rfl⟩) (by first | exact Or.inr ⟨_, rfl⟩ | exact Or.inl rfl) (by omega) (by omega) ?_
    exact ⟨rfl, rfl, rfl⟩
  · exact absurd hx c
theorem by_zero : bt_same (fun _ => 0) (fun _ => 0) (fun _ => 0) (fun _ => 0) (fun _ _ => 0) (fun _ _ => 0) := fun p _ => ⟨rfl, rfl, fun j _ => rfl⟩
theorem by_isClean (h : bw_New o μ b) : jw_Ro mi_Branchwork_isClean 3 o [.ref b] μ hs (some (.int 1)) := by
  refine jw_ro (by decide +kernel) (Nat.le_of_ble_eq_true rfl) rfl (fun k hR hE => ?_)
  have hN := h
  obtain ⟨h0, hT, hH, -⟩ := h
  have hH0 := hH.1
  have hT0 := hT.1
  refine jw_aload_n (pc' := 1) jd_Branchwork_isClean_0 rfl rfl rfl ?_
  refine jw_get (pc' := 4) (kf := 0) jc_Branchwork (by decide) jq_283 jd_Branchwork_isClean_1 (by assumption) rfl rfl ?_
  refine jw_aload_n (pc' := 5) jd_Branchwork_isClean_4 rfl rfl rfl ?_
  refine jw_get (pc' := 8) (kf := 1) jc_Branchwork (by decide) jq_284 jd_Branchwork_isClean_5 (by assumption) rfl rfl ?_
  refine jw_aload_n (pc' := 9) jd_Branchwork_isClean_8 rfl rfl rfl ?_
  refine jw_callV0 (pc' := 12) hR (by_head hN) jm_Branchwork_head jq_494 jc_Branchwork jd_Branchwork_isClean_9 (by assumption) rfl rfl (Nat.le_of_ble_eq_true rfl) (by omega) (by decide) (by omega) (by omega) rfl rfl ?_
  refine jw_callV0 (pc' := 15) hR (by_treeOf hH (by decide)) jm_History_treeOf jq_531 jc_History jd_Branchwork_isClean_12 (by assumption) rfl rfl (Nat.le_of_ble_eq_true rfl) (by omega) (by decide) (by omega) (by omega) rfl rfl ?_
  refine jw_callV0 (pc' := 18) hR (bt_sameAs hT hH.2.2.1 (Or.inl ⟨rfl, by_zero⟩)) jm_Tree_sameAs jq_704 jc_Tree jd_Branchwork_isClean_15 (by assumption) rfl rfl (Nat.le_of_ble_eq_true rfl) (by omega) (by decide) (by omega) (by omega) rfl rfl ?_
  exact jw_zret hE jd_Branchwork_isClean_18 rfl (by decide) (by omega) (by omega) ⟨rfl, rfl, rfl⟩
theorem by_insert0 {a : Nat} {p y : Int32} {g : Nat → Int32} (h : bc_At o μ a 0 p g) : jw_Spec mi_Content_insert 0 0 0 o [.ref a, .int 0, .int y] μ hs (fun v μ' s' => v = none ∧ s' = hs ∧ (∃ g', bc_At o μ' a 1 1 g') ∧ jw_Fr μ μ' a 2) := by
  refine jw_spec (by decide +kernel) (Nat.le_of_ble_eq_true rfl) rfl (fun k hR hE => ?_)
  obtain ⟨ha, hb⟩ := h
  have hF : jw_Fr μ μ a 2 := jw_Fr.rf
  refine jw_iload_n (pc' := 1) jd_Content_insert_0 rfl rfl rfl ?_
  refine jw_if_lt (tgt := 21) (pc' := 4) jd_Content_insert_1 (by decide) rfl (fun c => ?_) (fun c => ?_)
  · exact absurd c (by decide)
  refine jw_iload_n (pc' := 5) jd_Content_insert_4 rfl rfl rfl ?_
  refine jw_aload_n (pc' := 6) jd_Content_insert_5 rfl rfl rfl ?_
  refine jw_get (pc' := 9) (kf := 1) jc_Content (by decide) jq_107 jd_Content_insert_6 (by assumption) rfl rfl ?_
  refine jw_icmp_gt (tgt := 21) (pc' := 12) jd_Content_insert_9 (by decide) rfl (fun c => ?_) (fun c => ?_)
  · exact absurd c (by decide)
  refine jw_aload_n (pc' := 13) jd_Content_insert_12 rfl rfl rfl ?_
  refine jw_get (pc' := 16) (kf := 1) jc_Content (by decide) jq_107 jd_Content_insert_13 (by assumption) rfl rfl ?_
  refine jw_bipush (pc' := 18) (v := nI 10) jd_Content_insert_16 (by decide +kernel) rfl ?_
  refine jw_icmp_lt (tgt := 22) (pc' := 21) jd_Content_insert_18 (by decide) rfl (fun c => ?_) (fun c => ?_)
  rotate_left
  · exact absurd (nI_lt (a := 0) (b := 10) (by omega) (by omega)) c
  refine jw_aload_n (pc' := 23) jd_Content_insert_22 rfl rfl rfl ?_
  refine jw_get (pc' := 26) (kf := 1) jc_Content (by decide) jq_107 jd_Content_insert_23 (by assumption) rfl rfl ?_
  refine jw_istore_n (pc' := 27) (lc' := [(0, _), (1, _), (2, _), (3, _)]) jd_Content_insert_26 rfl (Nat.le_of_ble_eq_true rfl) ⟨rfl, rfl, rfl, rfl, trivial⟩ rfl ?_
  refine jw_iload_n (pc' := 28) jd_Content_insert_27 rfl rfl rfl ?_
  refine jw_iload_n (pc' := 29) jd_Content_insert_28 rfl rfl rfl ?_
  refine jw_icmp_le (tgt := 52) (pc' := 32) jd_Content_insert_29 (by decide) rfl (fun c => ?_) (fun c => ?_)
  rotate_left
  · exact absurd (by decide : (nI 0 : Int32) ≤ 0) c
  refine jw_aload_n (pc' := 53) jd_Content_insert_52 rfl rfl rfl ?_
  refine jw_get (pc' := 56) (kf := 0) jc_Content (by decide) jq_106 jd_Content_insert_53 (by assumption) rfl rfl ?_
  refine jw_iload_n (pc' := 57) jd_Content_insert_56 rfl rfl rfl ?_
  refine jw_iload_n (pc' := 58) jd_Content_insert_57 rfl rfl rfl ?_
  refine jw_iast (pc' := 59) (i := 0) jd_Content_insert_58 (by assumption) rfl (vp_in_nI (n := 0) (by omega) (by omega)) rfl (fun μ hb f9 => ?_)
  have ha := (f9 _ (by omega)).trans ha
  have hF := jw_Fr.step hF f9 (by omega)
  refine jw_aload_n (pc' := 60) jd_Content_insert_59 rfl rfl rfl ?_
  refine jw_dup (pc' := 61) jd_Content_insert_60 rfl rfl ?_
  refine jw_get (pc' := 64) (kf := 1) jc_Content (by decide) jq_107 jd_Content_insert_61 (by assumption) rfl rfl ?_
  refine jw_iconst (pc' := 65) (v := nI 1) jd_Content_insert_64 (by decide +kernel) rfl ?_
  refine jw_iadd (pc' := 66) jd_Content_insert_65 (nI_1 0) rfl ?_
  refine jw_put (pc' := 69) (kf := 1) (ty := .int) (fs' := [_, _, _]) jc_Content (by decide) jq_107 jd_Content_insert_66 rfl (by decide +kernel) (by assumption) rfl rfl rfl (Nat.le_of_ble_eq_true rfl) rfl (fun μ ha f9 => ?_)
  have hb := (f9 _ (by omega)).trans hb
  have hF := jw_Fr.step hF f9 (by omega)
  refine jw_aload_n (pc' := 70) jd_Content_insert_69 rfl rfl rfl ?_
  refine jw_iconst (pc' := 71) (v := nI 1) jd_Content_insert_70 (by decide +kernel) rfl ?_
  refine jw_put (pc' := 74) (kf := 2) (ty := .boolean) (fs' := [_, _, _]) jc_Content (by decide) jq_108 jd_Content_insert_71 rfl (by decide +kernel) (by assumption) rfl rfl rfl (Nat.le_of_ble_eq_true rfl) rfl (fun μ ha f9 => ?_)
  have hb := (f9 _ (by omega)).trans hb
  have hF := jw_Fr.step hF f9 (by omega)
  refine jw_vret hE jd_Content_insert_74 rfl (by omega) (by omega) ?_
  exact ⟨rfl, rfl, ⟨_, ha, hb⟩, hF⟩
/-- the face's contracts on a new store: n is 0 (it returns v with r v) or the number of the exception among cs -/
def jy_F (mi : jw_M) (o : jw_O) (As : List Value) (μ : jw_Mem) (hs b : Nat) (cs : List String) (n : Nat) (r : Value) : Prop := jw_SpX mi 9 8 48 o As μ hs (fun v μ' s' => v = some r ∧ n = 0 ∧ jw_Fr μ μ' b 984) (fun E μ' s' => (∃ i, cs[i]? = some E ∧ n = i + 1) ∧ jw_Fr μ μ' b 984)
def kx_put (x y z : Int32) : Nat := if ¬ jx_in x ∨ y ≠ 0 then 1 else if z < 0 ∨ nI 99 < z then 2 else 0
theorem by_put (h : bw_New o μ b) (x y z : Int32) : jy_F mi_Branchwork_put o [.ref b, .int x, .int y, .int z] μ hs b [jx_IO, jx_IA, jx_IS] (kx_put x y z) (.int (nI 1)) := by
  refine jw_specX (by decide +kernel) (Nat.le_of_ble_eq_true rfl) rfl (fun k hR hX => ?_)
  have hE := hX.E
  obtain ⟨h0, hT, -⟩ := h
  have hT0 := hT.1
  have hF : jw_Fr μ μ b 984 := jw_Fr.rf
  refine jw_iload_n (pc' := 1) jd_Branchwork_put_0 rfl rfl rfl ?_
  refine jw_callSX (pc' := 4) hR (by_requirePath x) jm_Branchwork_requirePath jq_527 jd_Branchwork_put_1 rfl rfl (Nat.le_of_ble_eq_true rfl) (by omega) (by decide) (by omega) (by omega) rfl (fun E9 q9 μ s9 hΨ hle9 => jw_out hX (by omega) (by omega) ?_) (fun v μ9 s9 q9 hle => ?_)
  · obtain ⟨rfl, rfl, hin⟩ := hΨ
    exact ⟨⟨0, rfl, by unfold kx_put; rw [if_pos (Or.inl hin)]⟩, hF⟩
  obtain ⟨rfl, rfl, rfl, hin⟩ := q9
  obtain ⟨p, hp, rfl⟩ := hin.nat
  have hC := hT.2.2.2.1 p hp
  have hC0 := hC.1
  refine jw_aload_n (pc' := 5) jd_Branchwork_put_4 rfl rfl rfl ?_
  refine jw_get (pc' := 8) (kf := 0) jc_Branchwork (by decide) jq_283 jd_Branchwork_put_5 (by assumption) rfl rfl ?_
  refine jw_iload_n (pc' := 9) jd_Branchwork_put_8 rfl rfl rfl ?_
  refine jw_callV0 (pc' := 12) hR (bt_fileAt hT hp) jm_Tree_fileAt jq_532 jc_Tree jd_Branchwork_put_9 (by assumption) rfl rfl (Nat.le_of_ble_eq_true rfl) (by omega) (by decide) (by omega) (by omega) rfl rfl ?_
  refine jw_astore (pc' := 14) (lc' := [(0, _), (1, _), (2, _), (3, _), (4, _)]) jd_Branchwork_put_12 (Nat.le_of_ble_eq_true rfl) ⟨rfl, rfl, rfl, rfl, rfl, trivial⟩ rfl ?_
  refine jw_iload_n (pc' := 15) jd_Branchwork_put_14 rfl rfl rfl ?_
  refine jw_if_lt (tgt := 27) (pc' := 18) jd_Branchwork_put_15 (by decide) rfl (fun c => ?_) (fun c => ?_)
  · refine jw_throwS hR hX jt_IndexOutOfBoundsException js_Branchwork_87 jd_Branchwork_put_27 jd_Branchwork_put_30 jd_Branchwork_put_31 jd_Branchwork_put_33 jd_Branchwork_put_36 (Nat.le_of_ble_eq_true rfl) (by omega) (by omega) (by omega) (fun s9 hle9 => ?_)
    have hy : y ≠ 0 := fun e => by rw [e] at c; exact absurd c (by decide)
    exact ⟨⟨0, rfl, by unfold kx_put; rw [if_pos (Or.inr hy)]⟩, hF⟩
  refine jw_iload_n (pc' := 19) jd_Branchwork_put_18 rfl rfl rfl ?_
  refine jw_aload (pc' := 21) jd_Branchwork_put_19 rfl rfl ?_
  refine jw_callV0 (pc' := 24) hR (bc_length hC) jm_Content_length jq_548 jc_Content jd_Branchwork_put_21 (by assumption) rfl rfl (Nat.le_of_ble_eq_true rfl) (by omega) (by decide) (by omega) (by omega) rfl rfl ?_
  refine jw_icmp_le (tgt := 37) (pc' := 27) jd_Branchwork_put_24 (by decide) rfl (fun c1 => ?_) (fun c1 => ?_)
  rotate_left
  · refine jw_throwS hR hX jt_IndexOutOfBoundsException js_Branchwork_87 jd_Branchwork_put_27 jd_Branchwork_put_30 jd_Branchwork_put_31 jd_Branchwork_put_33 jd_Branchwork_put_36 (Nat.le_of_ble_eq_true rfl) (by omega) (by omega) (by omega) (fun s9 hle9 => ?_)
    have hy : y ≠ 0 := fun e => by rw [e] at c1; exact absurd (by decide : (0 : Int32) ≤ nI 0) c1
    exact ⟨⟨0, rfl, by unfold kx_put; rw [if_pos (Or.inr hy)]⟩, hF⟩
  have hy : y = 0 := by
    rcases fa_three y 0 with z1 | z1 | z1
    · exact absurd z1 c
    · exact z1
    · exact absurd c1 (Int32.not_le.mpr z1)
  subst hy
  have hn1 : ¬ (¬ jx_in (nI p) ∨ (0 : Int32) ≠ 0) := fun z => z.elim (fun z => z hin) (fun z => z rfl)
  refine jw_iload_n (pc' := 38) jd_Branchwork_put_37 rfl rfl rfl ?_
  refine jw_if_lt (tgt := 47) (pc' := 41) jd_Branchwork_put_38 (by decide) rfl (fun c2 => ?_) (fun c2 => ?_)
  · refine jw_throwS hR hX jt_IllegalArgumentException js_Branchwork_94 jd_Branchwork_put_47 jd_Branchwork_put_50 jd_Branchwork_put_51 jd_Branchwork_put_53 jd_Branchwork_put_56 (Nat.le_of_ble_eq_true rfl) (by omega) (by omega) (by omega) (fun s9 hle9 => ?_)
    exact ⟨⟨1, rfl, by unfold kx_put; rw [if_neg hn1, if_pos (Or.inl c2)]⟩, hF⟩
  refine jw_iload_n (pc' := 42) jd_Branchwork_put_41 rfl rfl rfl ?_
  refine jw_bipush (pc' := 44) (v := nI 99) jd_Branchwork_put_42 (by decide +kernel) rfl ?_
  refine jw_icmp_le (tgt := 57) (pc' := 47) jd_Branchwork_put_44 (by decide) rfl (fun c3 => ?_) (fun c3 => ?_)
  rotate_left
  · refine jw_throwS hR hX jt_IllegalArgumentException js_Branchwork_94 jd_Branchwork_put_47 jd_Branchwork_put_50 jd_Branchwork_put_51 jd_Branchwork_put_53 jd_Branchwork_put_56 (Nat.le_of_ble_eq_true rfl) (by omega) (by omega) (by omega) (fun s9 hle9 => ?_)
    exact ⟨⟨1, rfl, by unfold kx_put; rw [if_neg hn1, if_pos (Or.inr (Int32.not_le.mp c3))]⟩, hF⟩
  refine jw_aload (pc' := 59) jd_Branchwork_put_57 rfl rfl ?_
  refine jw_callV0 (pc' := 62) hR (bc_isFull hC (Nat.zero_le _)) jm_Content_isFull jq_609 jc_Content jd_Branchwork_put_59 (by assumption) rfl rfl (Nat.le_of_ble_eq_true rfl) (by omega) (by decide) (by omega) (by omega) rfl rfl ?_
  refine jw_if_eq (tgt := 75) (pc' := 65) jd_Branchwork_put_62 (by decide) rfl (fun c4 => ?_) (fun c4 => ?_)
  rotate_left
  · exact absurd rfl c4
  refine jw_aload (pc' := 77) jd_Branchwork_put_75 rfl rfl ?_
  refine jw_iload_n (pc' := 78) jd_Branchwork_put_77 rfl rfl rfl ?_
  refine jw_iload_n (pc' := 79) jd_Branchwork_put_78 rfl rfl rfl ?_
  refine jw_callV (pc' := 82) hR (by_insert0 hC) jm_Content_insert jq_629 jc_Content jd_Branchwork_put_79 (by assumption) rfl rfl (Nat.le_of_ble_eq_true rfl) (by omega) (by decide) (by omega) (by omega) rfl (fun v μ9 s9 q9 hle => ?_)
  obtain ⟨rfl, rfl, ⟨g', hC⟩, f9⟩ := q9
  have hF := hF.trans f9 (by omega) (by omega)
  have hC0 := hC.1
  refine jw_aload (pc' := 84) jd_Branchwork_put_82 rfl rfl ?_
  refine jw_callV0 (pc' := 87) hR (bc_length hC) jm_Content_length jq_548 jc_Content jd_Branchwork_put_84 (by assumption) rfl rfl (Nat.le_of_ble_eq_true rfl) (by omega) (by decide) (by omega) (by omega) rfl rfl ?_
  refine jw_iret hE jd_Branchwork_put_87 rfl (by omega) (by omega) ?_
  exact ⟨rfl, by unfold kx_put; rw [if_neg hn1, if_neg (fun z => z.elim c2 (fun z => absurd c3 (Int32.not_le.mpr z)))], hF⟩
end
end
section
theorem jd_History_kept_0 : decode mi_History_kept.2.1 0 = .ok (.aload_n 0, 1) := by decide +kernel
theorem jd_History_kept_1 : decode mi_History_kept.2.1 1 = .ok (.getfield 45, 3) := by decide +kernel
theorem jd_History_kept_4 : decode mi_History_kept.2.1 4 = .ok (.ireturn, 1) := by decide +kernel
theorem jd_Integer_bitCount_0 : decode mi_Integer_bitCount.2.1 0 = .ok (.iload_n 0, 1) := by decide +kernel
theorem jd_Integer_bitCount_1 : decode mi_Integer_bitCount.2.1 1 = .ok (.iload_n 0, 1) := by decide +kernel
theorem jd_Integer_bitCount_2 : decode mi_Integer_bitCount.2.1 2 = .ok (.iconst 1, 1) := by decide +kernel
theorem jd_Integer_bitCount_3 : decode mi_Integer_bitCount.2.1 3 = .ok (.iushr, 1) := by decide +kernel
theorem jd_Integer_bitCount_4 : decode mi_Integer_bitCount.2.1 4 = .ok (.ldc_w 265, 3) := by decide +kernel
theorem jd_Integer_bitCount_7 : decode mi_Integer_bitCount.2.1 7 = .ok (.iand, 1) := by decide +kernel
theorem jd_Integer_bitCount_8 : decode mi_Integer_bitCount.2.1 8 = .ok (.isub, 1) := by decide +kernel
theorem jd_Integer_bitCount_9 : decode mi_Integer_bitCount.2.1 9 = .ok (.istore_n 0, 1) := by decide +kernel
theorem jd_Integer_bitCount_10 : decode mi_Integer_bitCount.2.1 10 = .ok (.iload_n 0, 1) := by decide +kernel
theorem jd_Integer_bitCount_11 : decode mi_Integer_bitCount.2.1 11 = .ok (.ldc_w 266, 3) := by decide +kernel
theorem jd_Integer_bitCount_14 : decode mi_Integer_bitCount.2.1 14 = .ok (.iand, 1) := by decide +kernel
theorem jd_Integer_bitCount_15 : decode mi_Integer_bitCount.2.1 15 = .ok (.iload_n 0, 1) := by decide +kernel
theorem jd_Integer_bitCount_16 : decode mi_Integer_bitCount.2.1 16 = .ok (.iconst 2, 1) := by decide +kernel
theorem jd_Integer_bitCount_17 : decode mi_Integer_bitCount.2.1 17 = .ok (.iushr, 1) := by decide +kernel
theorem jd_Integer_bitCount_18 : decode mi_Integer_bitCount.2.1 18 = .ok (.ldc_w 266, 3) := by decide +kernel
theorem jd_Integer_bitCount_21 : decode mi_Integer_bitCount.2.1 21 = .ok (.iand, 1) := by decide +kernel
theorem jd_Integer_bitCount_22 : decode mi_Integer_bitCount.2.1 22 = .ok (.iadd, 1) := by decide +kernel
theorem jd_Integer_bitCount_23 : decode mi_Integer_bitCount.2.1 23 = .ok (.istore_n 0, 1) := by decide +kernel
theorem jd_Integer_bitCount_24 : decode mi_Integer_bitCount.2.1 24 = .ok (.iload_n 0, 1) := by decide +kernel
theorem jd_Integer_bitCount_25 : decode mi_Integer_bitCount.2.1 25 = .ok (.iload_n 0, 1) := by decide +kernel
theorem jd_Integer_bitCount_26 : decode mi_Integer_bitCount.2.1 26 = .ok (.iconst 4, 1) := by decide +kernel
theorem jd_Integer_bitCount_27 : decode mi_Integer_bitCount.2.1 27 = .ok (.iushr, 1) := by decide +kernel
theorem jd_Integer_bitCount_28 : decode mi_Integer_bitCount.2.1 28 = .ok (.iadd, 1) := by decide +kernel
theorem jd_Integer_bitCount_29 : decode mi_Integer_bitCount.2.1 29 = .ok (.ldc_w 267, 3) := by decide +kernel
theorem jd_Integer_bitCount_32 : decode mi_Integer_bitCount.2.1 32 = .ok (.iand, 1) := by decide +kernel
theorem jd_Integer_bitCount_33 : decode mi_Integer_bitCount.2.1 33 = .ok (.istore_n 0, 1) := by decide +kernel
theorem jd_Integer_bitCount_34 : decode mi_Integer_bitCount.2.1 34 = .ok (.iload_n 0, 1) := by decide +kernel
theorem jd_Integer_bitCount_35 : decode mi_Integer_bitCount.2.1 35 = .ok (.iload_n 0, 1) := by decide +kernel
theorem jd_Integer_bitCount_36 : decode mi_Integer_bitCount.2.1 36 = .ok (.bipush 8, 2) := by decide +kernel
theorem jd_Integer_bitCount_38 : decode mi_Integer_bitCount.2.1 38 = .ok (.iushr, 1) := by decide +kernel
theorem jd_Integer_bitCount_39 : decode mi_Integer_bitCount.2.1 39 = .ok (.iadd, 1) := by decide +kernel
theorem jd_Integer_bitCount_40 : decode mi_Integer_bitCount.2.1 40 = .ok (.istore_n 0, 1) := by decide +kernel
theorem jd_Integer_bitCount_41 : decode mi_Integer_bitCount.2.1 41 = .ok (.iload_n 0, 1) := by decide +kernel
theorem jd_Integer_bitCount_42 : decode mi_Integer_bitCount.2.1 42 = .ok (.iload_n 0, 1) := by decide +kernel
theorem jd_Integer_bitCount_43 : decode mi_Integer_bitCount.2.1 43 = .ok (.bipush 16, 2) := by decide +kernel
theorem jd_Integer_bitCount_45 : decode mi_Integer_bitCount.2.1 45 = .ok (.iushr, 1) := by decide +kernel
theorem jd_Integer_bitCount_46 : decode mi_Integer_bitCount.2.1 46 = .ok (.iadd, 1) := by decide +kernel
theorem jd_Integer_bitCount_47 : decode mi_Integer_bitCount.2.1 47 = .ok (.istore_n 0, 1) := by decide +kernel
theorem jd_Integer_bitCount_48 : decode mi_Integer_bitCount.2.1 48 = .ok (.iload_n 0, 1) := by decide +kernel
theorem jd_Integer_bitCount_49 : decode mi_Integer_bitCount.2.1 49 = .ok (.bipush 63, 2) := by decide +kernel
theorem jd_Integer_bitCount_51 : decode mi_Integer_bitCount.2.1 51 = .ok (.iand, 1) := by decide +kernel
theorem jd_Integer_bitCount_52 : decode mi_Integer_bitCount.2.1 52 = .ok (.ireturn, 1) := by decide +kernel
theorem jd_History_countTrees_0 : decode mi_History_countTrees.2.1 0 = .ok (.iconst 0, 1) := by decide +kernel
theorem jd_History_countTrees_1 : decode mi_History_countTrees.2.1 1 = .ok (.istore_n 2, 1) := by decide +kernel
theorem jd_History_countTrees_2 : decode mi_History_countTrees.2.1 2 = .ok (.iconst 0, 1) := by decide +kernel
theorem jd_History_countTrees_3 : decode mi_History_countTrees.2.1 3 = .ok (.istore_n 3, 1) := by decide +kernel
theorem jd_History_countTrees_4 : decode mi_History_countTrees.2.1 4 = .ok (.iload_n 3, 1) := by decide +kernel
theorem jd_History_countTrees_5 : decode mi_History_countTrees.2.1 5 = .ok (.bipush 30, 2) := by decide +kernel
theorem jd_History_countTrees_7 : decode mi_History_countTrees.2.1 7 = .ok (.if_icmp .ge 29, 3) := by decide +kernel
theorem jd_History_countTrees_10 : decode mi_History_countTrees.2.1 10 = .ok (.iload_n 3, 1) := by decide +kernel
theorem jd_History_countTrees_11 : decode mi_History_countTrees.2.1 11 = .ok (.iload_n 1, 1) := by decide +kernel
theorem jd_History_countTrees_12 : decode mi_History_countTrees.2.1 12 = .ok (.invokestatic 52, 3) := by decide +kernel
theorem jd_History_countTrees_15 : decode mi_History_countTrees.2.1 15 = .ok (.ifCond .eq 15, 3) := by decide +kernel
theorem jd_History_countTrees_18 : decode mi_History_countTrees.2.1 18 = .ok (.iload_n 2, 1) := by decide +kernel
theorem jd_History_countTrees_19 : decode mi_History_countTrees.2.1 19 = .ok (.aload_n 0, 1) := by decide +kernel
theorem jd_History_countTrees_20 : decode mi_History_countTrees.2.1 20 = .ok (.getfield 32, 3) := by decide +kernel
theorem jd_History_countTrees_23 : decode mi_History_countTrees.2.1 23 = .ok (.iload_n 3, 1) := by decide +kernel
theorem jd_History_countTrees_24 : decode mi_History_countTrees.2.1 24 = .ok (.iaload, 1) := by decide +kernel
theorem jd_History_countTrees_25 : decode mi_History_countTrees.2.1 25 = .ok (.invokestatic 48, 3) := by decide +kernel
theorem jd_History_countTrees_28 : decode mi_History_countTrees.2.1 28 = .ok (.ior, 1) := by decide +kernel
theorem jd_History_countTrees_29 : decode mi_History_countTrees.2.1 29 = .ok (.istore_n 2, 1) := by decide +kernel
theorem jd_History_countTrees_30 : decode mi_History_countTrees.2.1 30 = .ok (.iinc 3 1, 3) := by decide +kernel
theorem jd_History_countTrees_33 : decode mi_History_countTrees.2.1 33 = .ok (.goto (-29), 3) := by decide +kernel
theorem jd_History_countTrees_36 : decode mi_History_countTrees.2.1 36 = .ok (.iload_n 2, 1) := by decide +kernel
theorem jd_History_countTrees_37 : decode mi_History_countTrees.2.1 37 = .ok (.invokestatic 73, 3) := by decide +kernel
theorem jd_History_countTrees_40 : decode mi_History_countTrees.2.1 40 = .ok (.ireturn, 1) := by decide +kernel
theorem jd_History_meetContents_0 : decode mi_History_meetContents.2.1 0 = .ok (.aload_n 0, 1) := by decide +kernel
theorem jd_History_meetContents_1 : decode mi_History_meetContents.2.1 1 = .ok (.getfield 38, 3) := by decide +kernel
theorem jd_History_meetContents_4 : decode mi_History_meetContents.2.1 4 = .ok (.iconst 0, 1) := by decide +kernel
theorem jd_History_meetContents_5 : decode mi_History_meetContents.2.1 5 = .ok (.invokestatic 102, 3) := by decide +kernel
theorem jd_History_meetContents_8 : decode mi_History_meetContents.2.1 8 = .ok (.iconst 0, 1) := by decide +kernel
theorem jd_History_meetContents_9 : decode mi_History_meetContents.2.1 9 = .ok (.istore_n 2, 1) := by decide +kernel
theorem jd_History_meetContents_10 : decode mi_History_meetContents.2.1 10 = .ok (.iload_n 2, 1) := by decide +kernel
theorem jd_History_meetContents_11 : decode mi_History_meetContents.2.1 11 = .ok (.bipush 30, 2) := by decide +kernel
theorem jd_History_meetContents_13 : decode mi_History_meetContents.2.1 13 = .ok (.if_icmp .ge 67, 3) := by decide +kernel
theorem jd_History_meetContents_16 : decode mi_History_meetContents.2.1 16 = .ok (.iconst 0, 1) := by decide +kernel
theorem jd_History_meetContents_17 : decode mi_History_meetContents.2.1 17 = .ok (.istore_n 3, 1) := by decide +kernel
theorem jd_History_meetContents_18 : decode mi_History_meetContents.2.1 18 = .ok (.iload_n 3, 1) := by decide +kernel
theorem jd_History_meetContents_19 : decode mi_History_meetContents.2.1 19 = .ok (.bipush 12, 2) := by decide +kernel
theorem jd_History_meetContents_21 : decode mi_History_meetContents.2.1 21 = .ok (.if_icmp .ge 53, 3) := by decide +kernel
theorem jd_History_meetContents_24 : decode mi_History_meetContents.2.1 24 = .ok (.iload_n 2, 1) := by decide +kernel
theorem jd_History_meetContents_25 : decode mi_History_meetContents.2.1 25 = .ok (.iload_n 1, 1) := by decide +kernel
theorem jd_History_meetContents_26 : decode mi_History_meetContents.2.1 26 = .ok (.invokestatic 52, 3) := by decide +kernel
theorem jd_History_meetContents_29 : decode mi_History_meetContents.2.1 29 = .ok (.ifCond .eq 45, 3) := by decide +kernel
theorem jd_History_meetContents_32 : decode mi_History_meetContents.2.1 32 = .ok (.aload_n 0, 1) := by decide +kernel
theorem jd_History_meetContents_33 : decode mi_History_meetContents.2.1 33 = .ok (.getfield 35, 3) := by decide +kernel
theorem jd_History_meetContents_36 : decode mi_History_meetContents.2.1 36 = .ok (.iload_n 2, 1) := by decide +kernel
theorem jd_History_meetContents_37 : decode mi_History_meetContents.2.1 37 = .ok (.bipush 12, 2) := by decide +kernel
theorem jd_History_meetContents_39 : decode mi_History_meetContents.2.1 39 = .ok (.imul, 1) := by decide +kernel
theorem jd_History_meetContents_40 : decode mi_History_meetContents.2.1 40 = .ok (.iload_n 3, 1) := by decide +kernel
theorem jd_History_meetContents_41 : decode mi_History_meetContents.2.1 41 = .ok (.iadd, 1) := by decide +kernel
theorem jd_History_meetContents_42 : decode mi_History_meetContents.2.1 42 = .ok (.iaload, 1) := by decide +kernel
theorem jd_History_meetContents_43 : decode mi_History_meetContents.2.1 43 = .ok (.istore 4, 2) := by decide +kernel
theorem jd_History_meetContents_45 : decode mi_History_meetContents.2.1 45 = .ok (.iload 4, 2) := by decide +kernel
theorem jd_History_meetContents_47 : decode mi_History_meetContents.2.1 47 = .ok (.ifCond .lt 21, 3) := by decide +kernel
theorem jd_History_meetContents_50 : decode mi_History_meetContents.2.1 50 = .ok (.iload 4, 2) := by decide +kernel
theorem jd_History_meetContents_52 : decode mi_History_meetContents.2.1 52 = .ok (.aload_n 0, 1) := by decide +kernel
theorem jd_History_meetContents_53 : decode mi_History_meetContents.2.1 53 = .ok (.getfield 38, 3) := by decide +kernel
theorem jd_History_meetContents_56 : decode mi_History_meetContents.2.1 56 = .ok (.arraylength, 1) := by decide +kernel
theorem jd_History_meetContents_57 : decode mi_History_meetContents.2.1 57 = .ok (.if_icmp .ge 11, 3) := by decide +kernel
theorem jd_History_meetContents_60 : decode mi_History_meetContents.2.1 60 = .ok (.aload_n 0, 1) := by decide +kernel
theorem jd_History_meetContents_61 : decode mi_History_meetContents.2.1 61 = .ok (.getfield 38, 3) := by decide +kernel
theorem jd_History_meetContents_64 : decode mi_History_meetContents.2.1 64 = .ok (.iload 4, 2) := by decide +kernel
theorem jd_History_meetContents_66 : decode mi_History_meetContents.2.1 66 = .ok (.iconst 1, 1) := by decide +kernel
theorem jd_History_meetContents_67 : decode mi_History_meetContents.2.1 67 = .ok (.iastore, 1) := by decide +kernel
theorem jd_History_meetContents_68 : decode mi_History_meetContents.2.1 68 = .ok (.iinc 3 1, 3) := by decide +kernel
theorem jd_History_meetContents_71 : decode mi_History_meetContents.2.1 71 = .ok (.goto (-53), 3) := by decide +kernel
theorem jd_History_meetContents_74 : decode mi_History_meetContents.2.1 74 = .ok (.iinc 2 1, 3) := by decide +kernel
theorem jd_History_meetContents_77 : decode mi_History_meetContents.2.1 77 = .ok (.goto (-67), 3) := by decide +kernel
theorem jd_History_meetContents_80 : decode mi_History_meetContents.2.1 80 = .ok (.return_, 1) := by decide +kernel
theorem jd_History_countContents_0 : decode mi_History_countContents.2.1 0 = .ok (.aload_n 0, 1) := by decide +kernel
theorem jd_History_countContents_1 : decode mi_History_countContents.2.1 1 = .ok (.iload_n 1, 1) := by decide +kernel
theorem jd_History_countContents_2 : decode mi_History_countContents.2.1 2 = .ok (.invokevirtual 84, 3) := by decide +kernel
theorem jd_History_countContents_5 : decode mi_History_countContents.2.1 5 = .ok (.iconst 0, 1) := by decide +kernel
theorem jd_History_countContents_6 : decode mi_History_countContents.2.1 6 = .ok (.istore_n 2, 1) := by decide +kernel
theorem jd_History_countContents_7 : decode mi_History_countContents.2.1 7 = .ok (.iconst 0, 1) := by decide +kernel
theorem jd_History_countContents_8 : decode mi_History_countContents.2.1 8 = .ok (.istore_n 3, 1) := by decide +kernel
theorem jd_History_countContents_9 : decode mi_History_countContents.2.1 9 = .ok (.iload_n 3, 1) := by decide +kernel
theorem jd_History_countContents_10 : decode mi_History_countContents.2.1 10 = .ok (.aload_n 0, 1) := by decide +kernel
theorem jd_History_countContents_11 : decode mi_History_countContents.2.1 11 = .ok (.getfield 38, 3) := by decide +kernel
theorem jd_History_countContents_14 : decode mi_History_countContents.2.1 14 = .ok (.arraylength, 1) := by decide +kernel
theorem jd_History_countContents_15 : decode mi_History_countContents.2.1 15 = .ok (.if_icmp .ge 18, 3) := by decide +kernel
theorem jd_History_countContents_18 : decode mi_History_countContents.2.1 18 = .ok (.iload_n 2, 1) := by decide +kernel
theorem jd_History_countContents_19 : decode mi_History_countContents.2.1 19 = .ok (.aload_n 0, 1) := by decide +kernel
theorem jd_History_countContents_20 : decode mi_History_countContents.2.1 20 = .ok (.getfield 38, 3) := by decide +kernel
theorem jd_History_countContents_23 : decode mi_History_countContents.2.1 23 = .ok (.iload_n 3, 1) := by decide +kernel
theorem jd_History_countContents_24 : decode mi_History_countContents.2.1 24 = .ok (.iaload, 1) := by decide +kernel
theorem jd_History_countContents_25 : decode mi_History_countContents.2.1 25 = .ok (.iadd, 1) := by decide +kernel
theorem jd_History_countContents_26 : decode mi_History_countContents.2.1 26 = .ok (.istore_n 2, 1) := by decide +kernel
theorem jd_History_countContents_27 : decode mi_History_countContents.2.1 27 = .ok (.iinc 3 1, 3) := by decide +kernel
theorem jd_History_countContents_30 : decode mi_History_countContents.2.1 30 = .ok (.goto (-21), 3) := by decide +kernel
theorem jd_History_countContents_33 : decode mi_History_countContents.2.1 33 = .ok (.iload_n 2, 1) := by decide +kernel
theorem jd_History_countContents_34 : decode mi_History_countContents.2.1 34 = .ok (.ireturn, 1) := by decide +kernel
theorem jd_History_withAncestors_0 : decode mi_History_withAncestors.2.1 0 = .ok (.iload_n 1, 1) := by decide +kernel
theorem jd_History_withAncestors_1 : decode mi_History_withAncestors.2.1 1 = .ok (.istore_n 2, 1) := by decide +kernel
theorem jd_History_withAncestors_2 : decode mi_History_withAncestors.2.1 2 = .ok (.bipush 29, 2) := by decide +kernel
theorem jd_History_withAncestors_4 : decode mi_History_withAncestors.2.1 4 = .ok (.istore_n 3, 1) := by decide +kernel
theorem jd_History_withAncestors_5 : decode mi_History_withAncestors.2.1 5 = .ok (.iload_n 3, 1) := by decide +kernel
theorem jd_History_withAncestors_6 : decode mi_History_withAncestors.2.1 6 = .ok (.ifCond .lt 39, 3) := by decide +kernel
theorem jd_History_withAncestors_9 : decode mi_History_withAncestors.2.1 9 = .ok (.iload_n 3, 1) := by decide +kernel
theorem jd_History_withAncestors_10 : decode mi_History_withAncestors.2.1 10 = .ok (.iload_n 2, 1) := by decide +kernel
theorem jd_History_withAncestors_11 : decode mi_History_withAncestors.2.1 11 = .ok (.invokestatic 52, 3) := by decide +kernel
theorem jd_History_withAncestors_14 : decode mi_History_withAncestors.2.1 14 = .ok (.ifCond .eq 25, 3) := by decide +kernel
theorem jd_History_withAncestors_17 : decode mi_History_withAncestors.2.1 17 = .ok (.iload_n 2, 1) := by decide +kernel
theorem jd_History_withAncestors_18 : decode mi_History_withAncestors.2.1 18 = .ok (.aload_n 0, 1) := by decide +kernel
theorem jd_History_withAncestors_19 : decode mi_History_withAncestors.2.1 19 = .ok (.getfield 26, 3) := by decide +kernel
theorem jd_History_withAncestors_22 : decode mi_History_withAncestors.2.1 22 = .ok (.iload_n 3, 1) := by decide +kernel
theorem jd_History_withAncestors_23 : decode mi_History_withAncestors.2.1 23 = .ok (.iaload, 1) := by decide +kernel
theorem jd_History_withAncestors_24 : decode mi_History_withAncestors.2.1 24 = .ok (.invokestatic 48, 3) := by decide +kernel
theorem jd_History_withAncestors_27 : decode mi_History_withAncestors.2.1 27 = .ok (.aload_n 0, 1) := by decide +kernel
theorem jd_History_withAncestors_28 : decode mi_History_withAncestors.2.1 28 = .ok (.getfield 29, 3) := by decide +kernel
theorem jd_History_withAncestors_31 : decode mi_History_withAncestors.2.1 31 = .ok (.iload_n 3, 1) := by decide +kernel
theorem jd_History_withAncestors_32 : decode mi_History_withAncestors.2.1 32 = .ok (.iaload, 1) := by decide +kernel
theorem jd_History_withAncestors_33 : decode mi_History_withAncestors.2.1 33 = .ok (.invokestatic 48, 3) := by decide +kernel
theorem jd_History_withAncestors_36 : decode mi_History_withAncestors.2.1 36 = .ok (.ior, 1) := by decide +kernel
theorem jd_History_withAncestors_37 : decode mi_History_withAncestors.2.1 37 = .ok (.ior, 1) := by decide +kernel
theorem jd_History_withAncestors_38 : decode mi_History_withAncestors.2.1 38 = .ok (.istore_n 2, 1) := by decide +kernel
theorem jd_History_withAncestors_39 : decode mi_History_withAncestors.2.1 39 = .ok (.iinc 3 (-1), 3) := by decide +kernel
theorem jd_History_withAncestors_42 : decode mi_History_withAncestors.2.1 42 = .ok (.goto (-37), 3) := by decide +kernel
theorem jd_History_withAncestors_45 : decode mi_History_withAncestors.2.1 45 = .ok (.iload_n 2, 1) := by decide +kernel
theorem jd_History_withAncestors_46 : decode mi_History_withAncestors.2.1 46 = .ok (.ireturn, 1) := by decide +kernel
theorem jd_History_countObjects_0 : decode mi_History_countObjects.2.1 0 = .ok (.iload_n 1, 1) := by decide +kernel
theorem jd_History_countObjects_1 : decode mi_History_countObjects.2.1 1 = .ok (.invokestatic 73, 3) := by decide +kernel
theorem jd_History_countObjects_4 : decode mi_History_countObjects.2.1 4 = .ok (.aload_n 0, 1) := by decide +kernel
theorem jd_History_countObjects_5 : decode mi_History_countObjects.2.1 5 = .ok (.iload_n 1, 1) := by decide +kernel
theorem jd_History_countObjects_6 : decode mi_History_countObjects.2.1 6 = .ok (.invokevirtual 78, 3) := by decide +kernel
theorem jd_History_countObjects_9 : decode mi_History_countObjects.2.1 9 = .ok (.iadd, 1) := by decide +kernel
theorem jd_History_countObjects_10 : decode mi_History_countObjects.2.1 10 = .ok (.aload_n 0, 1) := by decide +kernel
theorem jd_History_countObjects_11 : decode mi_History_countObjects.2.1 11 = .ok (.iload_n 1, 1) := by decide +kernel
theorem jd_History_countObjects_12 : decode mi_History_countObjects.2.1 12 = .ok (.invokevirtual 81, 3) := by decide +kernel
theorem jd_History_countObjects_15 : decode mi_History_countObjects.2.1 15 = .ok (.iadd, 1) := by decide +kernel
theorem jd_History_countObjects_16 : decode mi_History_countObjects.2.1 16 = .ok (.ireturn, 1) := by decide +kernel
theorem jd_Branchwork_reached_0 : decode mi_Branchwork_reached.2.1 0 = .ok (.aload_n 0, 1) := by decide +kernel
theorem jd_Branchwork_reached_1 : decode mi_Branchwork_reached.2.1 1 = .ok (.getfield 62, 3) := by decide +kernel
theorem jd_Branchwork_reached_4 : decode mi_Branchwork_reached.2.1 4 = .ok (.invokestatic 337, 3) := by decide +kernel
theorem jd_Branchwork_reached_7 : decode mi_Branchwork_reached.2.1 7 = .ok (.istore_n 1, 1) := by decide +kernel
theorem jd_Branchwork_reached_8 : decode mi_Branchwork_reached.2.1 8 = .ok (.iconst 0, 1) := by decide +kernel
theorem jd_Branchwork_reached_9 : decode mi_Branchwork_reached.2.1 9 = .ok (.istore_n 2, 1) := by decide +kernel
theorem jd_Branchwork_reached_10 : decode mi_Branchwork_reached.2.1 10 = .ok (.iload_n 2, 1) := by decide +kernel
theorem jd_Branchwork_reached_11 : decode mi_Branchwork_reached.2.1 11 = .ok (.iconst 5, 1) := by decide +kernel
theorem jd_Branchwork_reached_12 : decode mi_Branchwork_reached.2.1 12 = .ok (.if_icmp .ge 21, 3) := by decide +kernel
theorem jd_Branchwork_reached_15 : decode mi_Branchwork_reached.2.1 15 = .ok (.iload_n 1, 1) := by decide +kernel
theorem jd_Branchwork_reached_16 : decode mi_Branchwork_reached.2.1 16 = .ok (.aload_n 0, 1) := by decide +kernel
theorem jd_Branchwork_reached_17 : decode mi_Branchwork_reached.2.1 17 = .ok (.getfield 51, 3) := by decide +kernel
theorem jd_Branchwork_reached_20 : decode mi_Branchwork_reached.2.1 20 = .ok (.iload_n 2, 1) := by decide +kernel
theorem jd_Branchwork_reached_21 : decode mi_Branchwork_reached.2.1 21 = .ok (.iaload, 1) := by decide +kernel
theorem jd_Branchwork_reached_22 : decode mi_Branchwork_reached.2.1 22 = .ok (.invokestatic 337, 3) := by decide +kernel
theorem jd_Branchwork_reached_25 : decode mi_Branchwork_reached.2.1 25 = .ok (.ior, 1) := by decide +kernel
theorem jd_Branchwork_reached_26 : decode mi_Branchwork_reached.2.1 26 = .ok (.istore_n 1, 1) := by decide +kernel
theorem jd_Branchwork_reached_27 : decode mi_Branchwork_reached.2.1 27 = .ok (.iinc 2 1, 3) := by decide +kernel
theorem jd_Branchwork_reached_30 : decode mi_Branchwork_reached.2.1 30 = .ok (.goto (-20), 3) := by decide +kernel
theorem jd_Branchwork_reached_33 : decode mi_Branchwork_reached.2.1 33 = .ok (.aload_n 0, 1) := by decide +kernel
theorem jd_Branchwork_reached_34 : decode mi_Branchwork_reached.2.1 34 = .ok (.getfield 19, 3) := by decide +kernel
theorem jd_Branchwork_reached_37 : decode mi_Branchwork_reached.2.1 37 = .ok (.iload_n 1, 1) := by decide +kernel
theorem jd_Branchwork_reached_38 : decode mi_Branchwork_reached.2.1 38 = .ok (.invokevirtual 340, 3) := by decide +kernel
theorem jd_Branchwork_reached_41 : decode mi_Branchwork_reached.2.1 41 = .ok (.ireturn, 1) := by decide +kernel
theorem jd_Branchwork_garbage_0 : decode mi_Branchwork_garbage.2.1 0 = .ok (.aload_n 0, 1) := by decide +kernel
theorem jd_Branchwork_garbage_1 : decode mi_Branchwork_garbage.2.1 1 = .ok (.getfield 19, 3) := by decide +kernel
theorem jd_Branchwork_garbage_4 : decode mi_Branchwork_garbage.2.1 4 = .ok (.aload_n 0, 1) := by decide +kernel
theorem jd_Branchwork_garbage_5 : decode mi_Branchwork_garbage.2.1 5 = .ok (.getfield 19, 3) := by decide +kernel
theorem jd_Branchwork_garbage_8 : decode mi_Branchwork_garbage.2.1 8 = .ok (.invokevirtual 220, 3) := by decide +kernel
theorem jd_Branchwork_garbage_11 : decode mi_Branchwork_garbage.2.1 11 = .ok (.invokevirtual 295, 3) := by decide +kernel
theorem jd_Branchwork_garbage_14 : decode mi_Branchwork_garbage.2.1 14 = .ok (.aload_n 0, 1) := by decide +kernel
theorem jd_Branchwork_garbage_15 : decode mi_Branchwork_garbage.2.1 15 = .ok (.getfield 19, 3) := by decide +kernel
theorem jd_Branchwork_garbage_18 : decode mi_Branchwork_garbage.2.1 18 = .ok (.aload_n 0, 1) := by decide +kernel
theorem jd_Branchwork_garbage_19 : decode mi_Branchwork_garbage.2.1 19 = .ok (.invokevirtual 214, 3) := by decide +kernel
theorem jd_Branchwork_garbage_22 : decode mi_Branchwork_garbage.2.1 22 = .ok (.invokevirtual 295, 3) := by decide +kernel
theorem jd_Branchwork_garbage_25 : decode mi_Branchwork_garbage.2.1 25 = .ok (.isub, 1) := by decide +kernel
theorem jd_Branchwork_garbage_26 : decode mi_Branchwork_garbage.2.1 26 = .ok (.ireturn, 1) := by decide +kernel
theorem jx_m1 (x : Int32) : x + Int32.ofInt (-1) = x - 1 := by rw [Int32.sub_eq_add_neg]; rfl
def bs_setOf (x : Int32) : Int32 := if ¬ x < 0 ∧ x < nI 30 then nI 1 <<< (x &&& 31) else 0
section
variable {o : jw_O} {μ : jw_Mem} {hs b : Nat}
theorem bs_setOfC (x : Int32) : jw_Ro mi_History_setOf 0 o [.int x] μ hs (some (.int (bs_setOf x))) := by
  refine jw_ro (by decide +kernel) (Nat.le_of_ble_eq_true rfl) rfl (fun k hR hE => ?_)
  refine jw_iload_n (pc' := 1) jd_History_setOf_0 rfl rfl rfl ?_
  refine jw_if_lt (tgt := 16) (pc' := 4) jd_History_setOf_1 (by decide) rfl (fun c => ?_) (fun c => ?_)
  · refine jw_iconst (pc' := 17) (v := nI 0) jd_History_setOf_16 (by decide +kernel) rfl ?_
    refine jw_iret hE jd_History_setOf_17 rfl (by omega) (by omega) ?_
    have e : bs_setOf x = 0 := by unfold bs_setOf; rw [if_neg (fun z => z.1 c)]
    rw [e]
    exact ⟨rfl, rfl, rfl⟩
  refine jw_iload_n (pc' := 5) jd_History_setOf_4 rfl rfl rfl ?_
  refine jw_bipush (pc' := 7) (v := nI 30) jd_History_setOf_5 (by decide +kernel) rfl ?_
  refine jw_icmp_ge (tgt := 16) (pc' := 10) jd_History_setOf_7 (by decide) rfl (fun c2 => ?_) (fun c2 => ?_)
  · refine jw_iconst (pc' := 17) (v := nI 0) jd_History_setOf_16 (by decide +kernel) rfl ?_
    refine jw_iret hE jd_History_setOf_17 rfl (by omega) (by omega) ?_
    have e : bs_setOf x = 0 := by unfold bs_setOf; rw [if_neg (fun z => absurd c2 (Int32.not_le.mpr z.2))]
    rw [e]
    exact ⟨rfl, rfl, rfl⟩
  · refine jw_iconst (pc' := 11) (v := nI 1) jd_History_setOf_10 (by decide +kernel) rfl ?_
    refine jw_iload_n (pc' := 12) jd_History_setOf_11 rfl rfl rfl ?_
    refine jw_ishl (pc' := 13) jd_History_setOf_12 rfl rfl ?_
    refine jw_goto (tgt := 17) jd_History_setOf_13 (by decide) ?_
    refine jw_iret hE jd_History_setOf_17 rfl (by omega) (by omega) ?_
    have e : bs_setOf x = nI 1 <<< (x &&& 31) := by unfold bs_setOf; rw [if_pos ⟨c, Int32.not_le.mp c2⟩]
    rw [e]
    exact ⟨rfl, rfl, rfl⟩
theorem bs_isIn (x s : Int32) : jw_Ro mi_History_isIn 1 o [.int x, .int s] μ hs (some (.int (if bs_setOf x &&& s = 0 then 0 else 1))) := by
  refine jw_ro (by decide +kernel) (Nat.le_of_ble_eq_true rfl) rfl (fun k hR hE => ?_)
  refine jw_iload_n (pc' := 1) jd_History_isIn_0 rfl rfl rfl ?_
  refine jw_callS0 (pc' := 4) hR (bs_setOfC x) jm_History_setOf jq_343 jd_History_isIn_1 rfl rfl (Nat.le_of_ble_eq_true rfl) (by omega) (by decide) (by omega) (by omega) rfl rfl ?_
  refine jw_iload_n (pc' := 5) jd_History_isIn_4 rfl rfl rfl ?_
  refine jw_iand (pc' := 6) jd_History_isIn_5 rfl rfl ?_
  refine jw_if_eq (tgt := 13) (pc' := 9) jd_History_isIn_6 (by decide) rfl (fun c => ?_) (fun c => ?_)
  · refine jw_iconst (pc' := 14) (v := nI 0) jd_History_isIn_13 (by decide +kernel) rfl ?_
    refine jw_zret hE jd_History_isIn_14 rfl (by first | exact vp_nar_int _ | decide +kernel) (by omega) (by omega) ?_
    rw [if_pos c]
    exact ⟨rfl, rfl, rfl⟩
  · refine jw_iconst (pc' := 10) (v := nI 1) jd_History_isIn_9 (by decide +kernel) rfl ?_
    refine jw_goto (tgt := 14) jd_History_isIn_10 (by decide) ?_
    refine jw_zret hE jd_History_isIn_14 rfl (by first | exact vp_nar_int _ | decide +kernel) (by omega) (by omega) ?_
    rw [if_neg c]
    exact ⟨rfl, rfl, rfl⟩
theorem bs_and0 (x : Int32) : x &&& 0 = 0 := by
  apply Int32.toBitVec_inj.mp
  simp
theorem bs_or0 : (0 : Int32) ||| 0 = 0 := by decide
theorem bs_isIn0 (x : Int32) : jw_Ro mi_History_isIn 1 o [.int x, .int 0] μ hs (some (.int 0)) := by
  have h := bs_isIn (o := o) (μ := μ) (hs := hs) x 0
  rw [if_pos (bs_and0 _)] at h
  exact h
theorem bs_bitCount0 : jw_Ro mi_Integer_bitCount 0 o [.int 0] μ hs (some (.int 0)) := by
  refine jw_ro (by decide +kernel) (Nat.le_of_ble_eq_true rfl) rfl (fun k hR hE => ?_)
  refine jw_iload_n (pc' := 1) jd_Integer_bitCount_0 rfl rfl rfl ?_
  refine jw_iload_n (pc' := 2) jd_Integer_bitCount_1 rfl rfl rfl ?_
  refine jw_iconst (pc' := 3) (v := nI 1) jd_Integer_bitCount_2 (by decide +kernel) rfl ?_
  refine jw_iushr (pc' := 4) jd_Integer_bitCount_3 rfl rfl ?_
  refine jw_ldcw (pc' := 7) jd_Integer_bitCount_4 jq_333 rfl ?_
  refine jw_iand (pc' := 8) jd_Integer_bitCount_7 rfl rfl ?_
  refine jw_isub (pc' := 9) jd_Integer_bitCount_8 rfl rfl ?_
  refine jw_istore_n (pc' := 10) (lc' := [(0, _)]) jd_Integer_bitCount_9 rfl (Nat.le_of_ble_eq_true rfl) ⟨rfl, trivial⟩ rfl ?_
  refine jw_iload_n (pc' := 11) jd_Integer_bitCount_10 rfl rfl rfl ?_
  refine jw_ldcw (pc' := 14) jd_Integer_bitCount_11 jq_334 rfl ?_
  refine jw_iand (pc' := 15) jd_Integer_bitCount_14 rfl rfl ?_
  refine jw_iload_n (pc' := 16) jd_Integer_bitCount_15 rfl rfl rfl ?_
  refine jw_iconst (pc' := 17) (v := nI 2) jd_Integer_bitCount_16 (by decide +kernel) rfl ?_
  refine jw_iushr (pc' := 18) jd_Integer_bitCount_17 rfl rfl ?_
  refine jw_ldcw (pc' := 21) jd_Integer_bitCount_18 jq_334 rfl ?_
  refine jw_iand (pc' := 22) jd_Integer_bitCount_21 rfl rfl ?_
  refine jw_iadd (pc' := 23) jd_Integer_bitCount_22 rfl rfl ?_
  refine jw_istore_n (pc' := 24) (lc' := [(0, _)]) jd_Integer_bitCount_23 rfl (Nat.le_of_ble_eq_true rfl) ⟨rfl, trivial⟩ rfl ?_
  refine jw_iload_n (pc' := 25) jd_Integer_bitCount_24 rfl rfl rfl ?_
  refine jw_iload_n (pc' := 26) jd_Integer_bitCount_25 rfl rfl rfl ?_
  refine jw_iconst (pc' := 27) (v := nI 4) jd_Integer_bitCount_26 (by decide +kernel) rfl ?_
  refine jw_iushr (pc' := 28) jd_Integer_bitCount_27 rfl rfl ?_
  refine jw_iadd (pc' := 29) jd_Integer_bitCount_28 rfl rfl ?_
  refine jw_ldcw (pc' := 32) jd_Integer_bitCount_29 jq_335 rfl ?_
  refine jw_iand (pc' := 33) jd_Integer_bitCount_32 rfl rfl ?_
  refine jw_istore_n (pc' := 34) (lc' := [(0, _)]) jd_Integer_bitCount_33 rfl (Nat.le_of_ble_eq_true rfl) ⟨rfl, trivial⟩ rfl ?_
  refine jw_iload_n (pc' := 35) jd_Integer_bitCount_34 rfl rfl rfl ?_
  refine jw_iload_n (pc' := 36) jd_Integer_bitCount_35 rfl rfl rfl ?_
  refine jw_bipush (pc' := 38) (v := nI 8) jd_Integer_bitCount_36 (by decide +kernel) rfl ?_
  refine jw_iushr (pc' := 39) jd_Integer_bitCount_38 rfl rfl ?_
  refine jw_iadd (pc' := 40) jd_Integer_bitCount_39 rfl rfl ?_
  refine jw_istore_n (pc' := 41) (lc' := [(0, _)]) jd_Integer_bitCount_40 rfl (Nat.le_of_ble_eq_true rfl) ⟨rfl, trivial⟩ rfl ?_
  refine jw_iload_n (pc' := 42) jd_Integer_bitCount_41 rfl rfl rfl ?_
  refine jw_iload_n (pc' := 43) jd_Integer_bitCount_42 rfl rfl rfl ?_
  refine jw_bipush (pc' := 45) (v := nI 16) jd_Integer_bitCount_43 (by decide +kernel) rfl ?_
  refine jw_iushr (pc' := 46) jd_Integer_bitCount_45 rfl rfl ?_
  refine jw_iadd (pc' := 47) jd_Integer_bitCount_46 rfl rfl ?_
  refine jw_istore_n (pc' := 48) (lc' := [(0, _)]) jd_Integer_bitCount_47 rfl (Nat.le_of_ble_eq_true rfl) ⟨rfl, trivial⟩ rfl ?_
  refine jw_iload_n (pc' := 49) jd_Integer_bitCount_48 rfl rfl rfl ?_
  refine jw_bipush (pc' := 51) (v := nI 63) jd_Integer_bitCount_49 (by decide +kernel) rfl ?_
  refine jw_iand (pc' := 52) jd_Integer_bitCount_51 rfl rfl ?_
  refine jw_iret hE jd_Integer_bitCount_52 rfl (by omega) (by omega) ?_
  exact ⟨by decide +kernel, rfl, rfl⟩
section
variable {h : Nat} {N : Nat → Nat → Nat} {Z : Nat → Nat → Int32} {G : Nat → Nat → Nat → Int32} {nt f1 f2 tn cn : Nat → Int32} {c kp : Int32}
theorem bh_At.met {μ' : jw_Mem} (x : bh_At o μ h N Z G nt f1 f2 tn cn c kp) (q : jw_Fr μ μ' (h + 35) 1) (hm : ∃ f, bi_At o μ' (h + 35) 360 f) : bh_At o μ' h N Z G nt f1 f2 tn cn c kp := by
  obtain ⟨x1, ⟨F, x2, x3⟩, x4, x5, x6, x7, x8, x9, -, x11⟩ := x
  exact ⟨(q _ (by omega)).trans x1, ⟨F, (q _ (by omega)).trans x2, x3⟩, x4.fr q (by omega), x5.fr q (by omega), x6.fr q (by omega), x7.fr q (by omega), x8.fr q (by omega), x9.fr q (by omega), hm, fun i hi => (x11 i hi).fr q (by omega)⟩
theorem bs_kept (x : bh_At o μ h N Z G nt f1 f2 tn cn c kp) : jw_Ro mi_History_kept 0 o [.ref h] μ hs (some (.int kp)) := by
  refine jw_ro (by decide +kernel) (Nat.le_of_ble_eq_true rfl) rfl (fun k hR hE => ?_)
  have h0 := x.1
  refine jw_aload_n (pc' := 1) jd_History_kept_0 rfl rfl rfl ?_
  refine jw_get (pc' := 4) (kf := 9) jc_History (by decide) jq_142 jd_History_kept_1 (by assumption) rfl rfl ?_
  refine jw_iret hE jd_History_kept_4 rfl (by omega) (by omega) ?_
  exact ⟨rfl, rfl, rfl⟩
theorem bs_countTrees0 (x : bh_At o μ h N Z G nt f1 f2 tn cn c kp) : jw_Ro mi_History_countTrees 2 o [.ref h, .int 0] μ hs (some (.int 0)) := by
  refine jw_ro (by decide +kernel) (Nat.le_of_ble_eq_true rfl) rfl (fun k hR hE => ?_)
  have h0 := x.1
  refine jw_iconst (pc' := 1) (v := nI 0) jd_History_countTrees_0 (by decide +kernel) rfl ?_
  refine jw_istore_n (pc' := 2) (lc' := [(0, _), (1, _), (2, _)]) jd_History_countTrees_1 rfl (Nat.le_of_ble_eq_true rfl) ⟨rfl, rfl, rfl, trivial⟩ rfl ?_
  refine jw_iconst (pc' := 3) (v := nI 0) jd_History_countTrees_2 (by decide +kernel) rfl ?_
  refine jw_istore_n (pc' := 4) (lc' := [(0, _), (1, _), (2, _), (3, _)]) jd_History_countTrees_3 rfl (Nat.le_of_ble_eq_true rfl) ⟨rfl, rfl, rfl, rfl, trivial⟩ rfl ?_
  have loop : ∀ d i : Nat, i + d = 30 → jw_X mi_History_countTrees o k 0 0 4 [(0, .ref h), (1, .int 0), (2, .int 0), (3, .int (nI i))] [] μ hs := by
    intro d
    induction d with
    | zero =>
      intro i hi
      refine jw_iload_n (pc' := 5) jd_History_countTrees_4 rfl rfl rfl ?_
      refine jw_bipush (pc' := 7) (v := nI 30) jd_History_countTrees_5 (by decide +kernel) rfl ?_
      refine jw_icmp_ge (tgt := 36) (pc' := 10) jd_History_countTrees_7 (by decide) rfl (fun c => ?_) (fun c => ?_)
      · refine jw_iload_n (pc' := 37) jd_History_countTrees_36 rfl rfl rfl ?_
        refine jw_callS0 (pc' := 40) hR (bs_bitCount0) jm_Integer_bitCount jq_330 jd_History_countTrees_37 rfl rfl (Nat.le_of_ble_eq_true rfl) (by omega) (by decide) (by omega) (by omega) rfl rfl ?_
        refine jw_iret hE jd_History_countTrees_40 rfl (by omega) (by omega) ?_
        exact ⟨rfl, rfl, rfl⟩
      · exact absurd (nI_le (by omega) (by omega)) c
    | succ d ih =>
      intro i hi
      refine jw_iload_n (pc' := 5) jd_History_countTrees_4 rfl rfl rfl ?_
      refine jw_bipush (pc' := 7) (v := nI 30) jd_History_countTrees_5 (by decide +kernel) rfl ?_
      refine jw_icmp_ge (tgt := 36) (pc' := 10) jd_History_countTrees_7 (by decide) rfl (fun c => ?_) (fun c => ?_)
      · exact absurd ((nI_leI (a := 30) (by omega) (by omega)).mp c) (by omega)
      refine jw_iload_n (pc' := 11) jd_History_countTrees_10 rfl rfl rfl ?_
      refine jw_iload_n (pc' := 12) jd_History_countTrees_11 rfl rfl rfl ?_
      refine jw_callS0 (pc' := 15) hR (bs_isIn0 (nI i)) jm_History_isIn jq_340 jd_History_countTrees_12 rfl rfl (Nat.le_of_ble_eq_true rfl) (by omega) (by decide) (by omega) (by omega) rfl rfl ?_
      refine jw_if_eq (tgt := 30) (pc' := 18) jd_History_countTrees_15 (by decide) rfl (fun c2 => ?_) (fun c2 => ?_)
      · refine jw_iinc (pc' := 33) (lc' := [(0, _), (1, _), (2, _), (3, _)]) jd_History_countTrees_30 rfl (nI_1 _) (Nat.le_of_ble_eq_true rfl) ⟨rfl, rfl, rfl, rfl, trivial⟩ rfl ?_
        refine jw_goto (tgt := 4) jd_History_countTrees_33 (by decide) ?_
        exact ih (i + 1) (by omega)
      · exact absurd rfl c2
  exact loop 30 0 (by omega)
theorem bs_meet0 (x : bh_At o μ h N Z G nt f1 f2 tn cn c kp) : jw_Spec mi_History_meetContents 2 0 0 o [.ref h, .int 0] μ hs (fun v μ' s' => v = none ∧ s' = hs ∧ (∃ f, bi_At o μ' (h + 35) 360 f ∧ ∀ j, j < 360 → f j = 0) ∧ jw_Fr μ μ' (h + 35) 1) := by
  refine jw_spec (by decide +kernel) (Nat.le_of_ble_eq_true rfl) rfl (fun k hR hE => ?_)
  have h0 := x.1
  obtain ⟨fm, hm⟩ := x.2.2.2.2.2.2.2.2.1
  have hF : jw_Fr μ μ (h + 35) 1 := jw_Fr.rf
  have hm9 : μ (h + 35) = some (.inl (o.2.2.1 0, 360, .inl fm)) := hm
  refine jw_aload_n (pc' := 1) jd_History_meetContents_0 rfl rfl rfl ?_
  refine jw_get (pc' := 4) (kf := 7) jc_History (by decide) jq_140 jd_History_meetContents_1 (by assumption) rfl rfl ?_
  refine jw_iconst (pc' := 5) (v := nI 0) jd_History_meetContents_4 (by decide +kernel) rfl ?_
  refine jw_callS (pc' := 8) hR (bi_fill hm (by omega)) jm_Arrays_fill jq_354 jd_History_meetContents_5 rfl rfl (Nat.le_of_ble_eq_true rfl) (by omega) (by decide) (by omega) (by omega) rfl (fun v μ s9 q9 hle => ?_)
  obtain ⟨rfl, rfl, ⟨f, hI, hIf⟩, f9⟩ := q9
  have hF := hF.trans f9 (by omega) (by omega)
  have h0 := (f9 _ (by omega)).trans h0
  refine jw_iconst (pc' := 9) (v := nI 0) jd_History_meetContents_8 (by decide +kernel) rfl ?_
  refine jw_istore_n (pc' := 10) (lc' := [(0, _), (1, _), (2, _)]) jd_History_meetContents_9 rfl (Nat.le_of_ble_eq_true rfl) ⟨rfl, rfl, rfl, trivial⟩ rfl ?_
  have loop : ∀ d i : Nat, i + d = 30 → jw_X mi_History_meetContents o k 0 0 10 [(0, .ref h), (1, .int 0), (2, .int (nI i))] [] μ s9 := by
    intro d
    induction d with
    | zero =>
      intro i hi
      refine jw_iload_n (pc' := 11) jd_History_meetContents_10 rfl rfl rfl ?_
      refine jw_bipush (pc' := 13) (v := nI 30) jd_History_meetContents_11 (by decide +kernel) rfl ?_
      refine jw_icmp_ge (tgt := 80) (pc' := 16) jd_History_meetContents_13 (by decide) rfl (fun c => ?_) (fun c => ?_)
      · refine jw_vret hE jd_History_meetContents_80 rfl (by omega) (by omega) ?_
        exact ⟨rfl, rfl, ⟨f, hI, hIf⟩, hF⟩
      · exact absurd (nI_le (by omega) (by omega)) c
    | succ d ih =>
      intro i hi
      refine jw_iload_n (pc' := 11) jd_History_meetContents_10 rfl rfl rfl ?_
      refine jw_bipush (pc' := 13) (v := nI 30) jd_History_meetContents_11 (by decide +kernel) rfl ?_
      refine jw_icmp_ge (tgt := 80) (pc' := 16) jd_History_meetContents_13 (by decide) rfl (fun c => ?_) (fun c => ?_)
      · exact absurd ((nI_leI (a := 30) (by omega) (by omega)).mp c) (by omega)
      refine jw_iconst (pc' := 17) (v := nI 0) jd_History_meetContents_16 (by decide +kernel) rfl ?_
      refine jw_istore_n (pc' := 18) (lc' := [(0, _), (1, _), (2, _), (3, _)]) jd_History_meetContents_17 rfl (Nat.le_of_ble_eq_true rfl) ⟨rfl, rfl, rfl, rfl, trivial⟩ rfl ?_
      refine jw_iload_n (pc' := 19) jd_History_meetContents_18 rfl rfl rfl ?_
      refine jw_bipush (pc' := 21) (v := nI 12) jd_History_meetContents_19 (by decide +kernel) rfl ?_
      refine jw_icmp_ge (tgt := 74) (pc' := 24) jd_History_meetContents_21 (by decide) rfl (fun c2 => ?_) (fun c2 => ?_)
      · exact absurd c2 (nI_ge (a := 0) (b := 12) (by omega) (by omega))
      refine jw_iload_n (pc' := 25) jd_History_meetContents_24 rfl rfl rfl ?_
      refine jw_iload_n (pc' := 26) jd_History_meetContents_25 rfl rfl rfl ?_
      refine jw_callS0 (pc' := 29) hR (bs_isIn0 (nI i)) jm_History_isIn jq_340 jd_History_meetContents_26 rfl rfl (Nat.le_of_ble_eq_true rfl) (by omega) (by decide) (by omega) (by omega) rfl rfl ?_
      refine jw_if_eq (tgt := 74) (pc' := 32) jd_History_meetContents_29 (by decide) rfl (fun c3 => ?_) (fun c3 => ?_)
      · refine jw_sub (lc' := [(0, _), (1, _), (2, _)]) ⟨rfl, rfl, rfl, trivial⟩ ?_
        refine jw_iinc (pc' := 77) (lc' := [(0, _), (1, _), (2, _)]) jd_History_meetContents_74 rfl (nI_1 _) (Nat.le_of_ble_eq_true rfl) ⟨rfl, rfl, rfl, trivial⟩ rfl ?_
        refine jw_goto (tgt := 10) jd_History_meetContents_77 (by decide) ?_
        exact ih (i + 1) (by omega)
      · exact absurd rfl c3
  exact loop 30 0 (by omega)
theorem bs_countContents0 (x : bh_At o μ h N Z G nt f1 f2 tn cn c kp) : jw_Spec mi_History_countContents 3 0 0 o [.ref h, .int 0] μ hs (fun v μ' s' => v = some (.int 0) ∧ s' = hs ∧ bh_At o μ' h N Z G nt f1 f2 tn cn c kp ∧ jw_Fr μ μ' (h + 35) 1) := by
  refine jw_spec (by decide +kernel) (Nat.le_of_ble_eq_true rfl) rfl (fun k hR hE => ?_)
  have h0 := x.1
  have hF : jw_Fr μ μ (h + 35) 1 := jw_Fr.rf
  refine jw_aload_n (pc' := 1) jd_History_countContents_0 rfl rfl rfl ?_
  refine jw_iload_n (pc' := 2) jd_History_countContents_1 rfl rfl rfl ?_
  refine jw_callV (pc' := 5) hR (bs_meet0 x) jm_History_meetContents jq_350 jc_History jd_History_countContents_2 (by assumption) rfl rfl (Nat.le_of_ble_eq_true rfl) (by omega) (by decide) (by omega) (by omega) rfl (fun v μ s9 q9 hle => ?_)
  obtain ⟨rfl, rfl, ⟨f, hI, hIf⟩, f9⟩ := q9
  have hF := hF.trans f9 (by omega) (by omega)
  have h0 := (f9 _ (by omega)).trans h0
  have x := x.met hF ⟨f, hI⟩
  have hI9 : μ (h + 35) = some (.inl (o.2.2.1 0, 360, .inl f)) := hI
  refine jw_iconst (pc' := 6) (v := nI 0) jd_History_countContents_5 (by decide +kernel) rfl ?_
  refine jw_istore_n (pc' := 7) (lc' := [(0, _), (1, _), (2, _)]) jd_History_countContents_6 rfl (Nat.le_of_ble_eq_true rfl) ⟨rfl, rfl, rfl, trivial⟩ rfl ?_
  refine jw_iconst (pc' := 8) (v := nI 0) jd_History_countContents_7 (by decide +kernel) rfl ?_
  refine jw_istore_n (pc' := 9) (lc' := [(0, _), (1, _), (2, _), (3, _)]) jd_History_countContents_8 rfl (Nat.le_of_ble_eq_true rfl) ⟨rfl, rfl, rfl, rfl, trivial⟩ rfl ?_
  have loop : ∀ d i : Nat, i + d = 360 → jw_X mi_History_countContents o k 0 0 9 [(0, .ref h), (1, .int 0), (2, .int 0), (3, .int (nI i))] [] μ s9 := by
    intro d
    induction d with
    | zero =>
      intro i hi
      refine jw_iload_n (pc' := 10) jd_History_countContents_9 rfl rfl rfl ?_
      refine jw_aload_n (pc' := 11) jd_History_countContents_10 rfl rfl rfl ?_
      refine jw_get (pc' := 14) (kf := 7) jc_History (by decide) jq_140 jd_History_countContents_11 (by assumption) rfl rfl ?_
      refine jw_alen (pc' := 15) (i := 0) jd_History_countContents_14 (by assumption) rfl rfl rfl ?_
      refine jw_icmp_ge (tgt := 33) (pc' := 18) jd_History_countContents_15 (by decide) rfl (fun c => ?_) (fun c => ?_)
      · refine jw_iload_n (pc' := 34) jd_History_countContents_33 rfl rfl rfl ?_
        refine jw_iret hE jd_History_countContents_34 rfl (by omega) (by omega) ?_
        exact ⟨rfl, rfl, x, hF⟩
      · exact absurd (nI_le (a := 360) (by omega) (by omega)) c
    | succ d ih =>
      intro i hi
      refine jw_iload_n (pc' := 10) jd_History_countContents_9 rfl rfl rfl ?_
      refine jw_aload_n (pc' := 11) jd_History_countContents_10 rfl rfl rfl ?_
      refine jw_get (pc' := 14) (kf := 7) jc_History (by decide) jq_140 jd_History_countContents_11 (by assumption) rfl rfl ?_
      refine jw_alen (pc' := 15) (i := 0) jd_History_countContents_14 (by assumption) rfl rfl rfl ?_
      refine jw_icmp_ge (tgt := 33) (pc' := 18) jd_History_countContents_15 (by decide) rfl (fun c => ?_) (fun c => ?_)
      · exact absurd ((nI_leI (a := 360) (by omega) (by omega)).mp c) (by omega)
      refine jw_iload_n (pc' := 19) jd_History_countContents_18 rfl rfl rfl ?_
      refine jw_aload_n (pc' := 20) jd_History_countContents_19 rfl rfl rfl ?_
      refine jw_get (pc' := 23) (kf := 7) jc_History (by decide) jq_140 jd_History_countContents_20 (by assumption) rfl rfl ?_
      refine jw_iload_n (pc' := 24) jd_History_countContents_23 rfl rfl rfl ?_
      refine jw_iald (pc' := 25) (i := 0) jd_History_countContents_24 (by assumption) rfl (vp_in_nI (by omega) (by omega)) ((congrArg f (nI_clamp (by omega))).trans (hIf i (by omega))) rfl ?_
      refine jw_iadd (pc' := 26) jd_History_countContents_25 (by decide : (0 : Int32) + 0 = 0) rfl ?_
      refine jw_istore_n (pc' := 27) (lc' := [(0, _), (1, _), (2, _), (3, _)]) jd_History_countContents_26 rfl (Nat.le_of_ble_eq_true rfl) ⟨rfl, rfl, rfl, rfl, trivial⟩ rfl ?_
      refine jw_iinc (pc' := 30) (lc' := [(0, _), (1, _), (2, _), (3, _)]) jd_History_countContents_27 rfl (nI_1 _) (Nat.le_of_ble_eq_true rfl) ⟨rfl, rfl, rfl, rfl, trivial⟩ rfl ?_
      refine jw_goto (tgt := 9) jd_History_countContents_30 (by decide) ?_
      exact ih (i + 1) (by omega)
  exact loop 360 0 (by omega)
theorem bs_withAnc0 (x : bh_At o μ h N Z G nt f1 f2 tn cn c kp) : jw_Ro mi_History_withAncestors 2 o [.ref h, .int 0] μ hs (some (.int 0)) := by
  refine jw_ro (by decide +kernel) (Nat.le_of_ble_eq_true rfl) rfl (fun k hR hE => ?_)
  have h0 := x.1
  refine jw_iload_n (pc' := 1) jd_History_withAncestors_0 rfl rfl rfl ?_
  refine jw_istore_n (pc' := 2) (lc' := [(0, _), (1, _), (2, _)]) jd_History_withAncestors_1 rfl (Nat.le_of_ble_eq_true rfl) ⟨rfl, rfl, rfl, trivial⟩ rfl ?_
  refine jw_bipush (pc' := 4) (v := nI 29) jd_History_withAncestors_2 (by decide +kernel) rfl ?_
  refine jw_istore_n (pc' := 5) (lc' := [(0, _), (1, _), (2, _), (3, _)]) jd_History_withAncestors_4 rfl (Nat.le_of_ble_eq_true rfl) ⟨rfl, rfl, rfl, rfl, trivial⟩ rfl ?_
  have loop : ∀ i : Nat, i ≤ 30 → ∀ y : Int32, y = nI i - 1 → jw_X mi_History_withAncestors o k 0 0 5 [(0, .ref h), (1, .int 0), (2, .int 0), (3, .int y)] [] μ hs := by
    intro i
    induction i with
    | zero =>
      intro hi y hy
      refine jw_iload_n (pc' := 6) jd_History_withAncestors_5 rfl rfl rfl ?_
      refine jw_if_lt (tgt := 45) (pc' := 9) jd_History_withAncestors_6 (by decide) rfl (fun c => ?_) (fun c => ?_)
      · refine jw_iload_n (pc' := 46) jd_History_withAncestors_45 rfl rfl rfl ?_
        refine jw_iret hE jd_History_withAncestors_46 rfl (by omega) (by omega) ?_
        exact ⟨rfl, rfl, rfl⟩
      · exact absurd (by rw [hy]; decide) c
    | succ i ih =>
      intro hi y hy
      rw [nI_pred] at hy
      subst hy
      refine jw_iload_n (pc' := 6) jd_History_withAncestors_5 rfl rfl rfl ?_
      refine jw_if_lt (tgt := 45) (pc' := 9) jd_History_withAncestors_6 (by decide) rfl (fun c => ?_) (fun c => ?_)
      · exact absurd c (nI_pos (by omega))
      refine jw_iload_n (pc' := 10) jd_History_withAncestors_9 rfl rfl rfl ?_
      refine jw_iload_n (pc' := 11) jd_History_withAncestors_10 rfl rfl rfl ?_
      refine jw_callS0 (pc' := 14) hR (bs_isIn0 (nI i)) jm_History_isIn jq_340 jd_History_withAncestors_11 rfl rfl (Nat.le_of_ble_eq_true rfl) (by omega) (by decide) (by omega) (by omega) rfl rfl ?_
      refine jw_if_eq (tgt := 39) (pc' := 17) jd_History_withAncestors_14 (by decide) rfl (fun c2 => ?_) (fun c2 => ?_)
      · refine jw_iinc (pc' := 42) (lc' := [(0, _), (1, _), (2, _), (3, _)]) jd_History_withAncestors_39 rfl (jx_m1 _) (Nat.le_of_ble_eq_true rfl) ⟨rfl, rfl, rfl, rfl, trivial⟩ rfl ?_
        refine jw_goto (tgt := 5) jd_History_withAncestors_42 (by decide) ?_
        exact ih (by omega) _ rfl
      · exact absurd rfl c2
  exact loop 30 (by omega) _ (by decide)
theorem bs_countObjects0 (x : bh_At o μ h N Z G nt f1 f2 tn cn c kp) : jw_Spec mi_History_countObjects 4 0 0 o [.ref h, .int 0] μ hs (fun v μ' s' => v = some (.int 0) ∧ s' = hs ∧ bh_At o μ' h N Z G nt f1 f2 tn cn c kp ∧ jw_Fr μ μ' (h + 35) 1) := by
  refine jw_spec (by decide +kernel) (Nat.le_of_ble_eq_true rfl) rfl (fun k hR hE => ?_)
  have h0 := x.1
  refine jw_iload_n (pc' := 1) jd_History_countObjects_0 rfl rfl rfl ?_
  refine jw_callS0 (pc' := 4) hR (bs_bitCount0) jm_Integer_bitCount jq_330 jd_History_countObjects_1 rfl rfl (Nat.le_of_ble_eq_true rfl) (by omega) (by decide) (by omega) (by omega) rfl rfl ?_
  refine jw_aload_n (pc' := 5) jd_History_countObjects_4 rfl rfl rfl ?_
  refine jw_iload_n (pc' := 6) jd_History_countObjects_5 rfl rfl rfl ?_
  refine jw_callV0 (pc' := 9) hR (bs_countTrees0 x) jm_History_countTrees jq_336 jc_History jd_History_countObjects_6 (by assumption) rfl rfl (Nat.le_of_ble_eq_true rfl) (by omega) (by decide) (by omega) (by omega) rfl rfl ?_
  refine jw_iadd (pc' := 10) jd_History_countObjects_9 (by decide : (0 : Int32) + 0 = 0) rfl ?_
  refine jw_aload_n (pc' := 11) jd_History_countObjects_10 rfl rfl rfl ?_
  refine jw_iload_n (pc' := 12) jd_History_countObjects_11 rfl rfl rfl ?_
  refine jw_callV (pc' := 15) hR (bs_countContents0 x) jm_History_countContents jq_346 jc_History jd_History_countObjects_12 (by assumption) rfl rfl (Nat.le_of_ble_eq_true rfl) (by omega) (by decide) (by omega) (by omega) rfl (fun v μ9 s9 q9 hle => ?_)
  obtain ⟨rfl, rfl, x, hF⟩ := q9
  refine jw_iadd (pc' := 16) jd_History_countObjects_15 (by decide : (0 : Int32) + 0 = 0) rfl ?_
  refine jw_iret hE jd_History_countObjects_16 rfl (by omega) (by omega) ?_
  exact ⟨rfl, rfl, x, hF⟩
end
theorem bw_New.met {μ' : jw_Mem} (x : bw_New o μ b) (q : jw_Fr μ μ' (b + 64) 1) (hm : bh_At o μ' (b + 29) (fun _ _ => 0) (fun _ _ => 0) (fun _ _ _ => 0) (fun _ => 0) (fun _ => 0) (fun _ => 0) (fun _ => 0) (fun _ => 0) 0 0) : bw_New o μ' b := by
  obtain ⟨x1, x2, x3, x4, x5, x6, x7, ⟨f, x8, x9⟩⟩ := x
  exact ⟨(q _ (by omega)).trans x1, x2.fr q (by omega), hm, x4.fr q (by omega), x5.fr q (by omega), x6.fr q (by omega), x7.fr q (by omega), ⟨f, x8.fr q (by omega), x9⟩⟩
theorem bs_reached (h : bw_New o μ b) : jw_Ro mi_Branchwork_reached 3 o [.ref b] μ hs (some (.int 0)) := by
  refine jw_ro (by decide +kernel) (Nat.le_of_ble_eq_true rfl) rfl (fun k hR hE => ?_)
  obtain ⟨h0, -, hH, -, -, -, -, ⟨f, hf, hf1⟩⟩ := h
  have hf9 : μ (b + 983) = some (.inl (o.2.2.1 0, 5, .inl f)) := hf
  have hm1 : bs_setOf (-1) = 0 := by decide
  have hH0 := hH.1
  refine jw_aload_n (pc' := 1) jd_Branchwork_reached_0 rfl rfl rfl ?_
  refine jw_get (pc' := 4) (kf := 9) jc_Branchwork (by decide) jq_292 jd_Branchwork_reached_1 (by assumption) rfl rfl ?_
  refine jw_callS0 (pc' := 7) hR (bs_setOfC (-1)) jm_History_setOf jq_359 jd_Branchwork_reached_4 rfl rfl (Nat.le_of_ble_eq_true rfl) (by omega) (by decide) (by omega) (by omega) rfl rfl ?_
  rw [hm1]
  refine jw_istore_n (pc' := 8) (lc' := [(0, _), (1, _)]) jd_Branchwork_reached_7 rfl (Nat.le_of_ble_eq_true rfl) ⟨rfl, rfl, trivial⟩ rfl ?_
  refine jw_iconst (pc' := 9) (v := nI 0) jd_Branchwork_reached_8 (by decide +kernel) rfl ?_
  refine jw_istore_n (pc' := 10) (lc' := [(0, _), (1, _), (2, _)]) jd_Branchwork_reached_9 rfl (Nat.le_of_ble_eq_true rfl) ⟨rfl, rfl, rfl, trivial⟩ rfl ?_
  have loop : ∀ d i : Nat, i + d = 5 → jw_X mi_Branchwork_reached o k 0 0 10 [(0, .ref b), (1, .int 0), (2, .int (nI i))] [] μ hs := by
    intro d
    induction d with
    | zero =>
      intro i hi
      refine jw_iload_n (pc' := 11) jd_Branchwork_reached_10 rfl rfl rfl ?_
      refine jw_iconst (pc' := 12) (v := nI 5) jd_Branchwork_reached_11 (by decide +kernel) rfl ?_
      refine jw_icmp_ge (tgt := 33) (pc' := 15) jd_Branchwork_reached_12 (by decide) rfl (fun c => ?_) (fun c => ?_)
      · refine jw_aload_n (pc' := 34) jd_Branchwork_reached_33 rfl rfl rfl ?_
        refine jw_get (pc' := 37) (kf := 1) jc_Branchwork (by decide) jq_284 jd_Branchwork_reached_34 (by assumption) rfl rfl ?_
        refine jw_iload_n (pc' := 38) jd_Branchwork_reached_37 rfl rfl rfl ?_
        refine jw_callV0 (pc' := 41) hR (bs_withAnc0 hH) jm_History_withAncestors jq_360 jc_History jd_Branchwork_reached_38 (by assumption) rfl rfl (Nat.le_of_ble_eq_true rfl) (by omega) (by decide) (by omega) (by omega) rfl rfl ?_
        refine jw_iret hE jd_Branchwork_reached_41 rfl (by omega) (by omega) ?_
        exact ⟨rfl, rfl, rfl⟩
      · exact absurd (nI_le (a := 5) (by omega) (by omega)) c
    | succ d ih =>
      intro i hi
      refine jw_iload_n (pc' := 11) jd_Branchwork_reached_10 rfl rfl rfl ?_
      refine jw_iconst (pc' := 12) (v := nI 5) jd_Branchwork_reached_11 (by decide +kernel) rfl ?_
      refine jw_icmp_ge (tgt := 33) (pc' := 15) jd_Branchwork_reached_12 (by decide) rfl (fun c => ?_) (fun c => ?_)
      · exact absurd ((nI_leI (a := 5) (by omega) (by omega)).mp c) (by omega)
      refine jw_iload_n (pc' := 16) jd_Branchwork_reached_15 rfl rfl rfl ?_
      refine jw_aload_n (pc' := 17) jd_Branchwork_reached_16 rfl rfl rfl ?_
      refine jw_get (pc' := 20) (kf := 6) jc_Branchwork (by decide) jq_289 jd_Branchwork_reached_17 (by assumption) rfl rfl ?_
      refine jw_iload_n (pc' := 21) jd_Branchwork_reached_20 rfl rfl rfl ?_
      refine jw_iald (pc' := 22) (i := 0) jd_Branchwork_reached_21 (by assumption) rfl (vp_in_nI (by omega) (by omega)) ((congrArg f (nI_clamp (by omega))).trans (hf1 i (by omega))) rfl ?_
      refine jw_callS0 (pc' := 25) hR (bs_setOfC (-1)) jm_History_setOf jq_359 jd_Branchwork_reached_22 rfl rfl (Nat.le_of_ble_eq_true rfl) (by omega) (by decide) (by omega) (by omega) rfl rfl ?_
      rw [hm1]
      refine jw_ior (pc' := 26) jd_Branchwork_reached_25 bs_or0 rfl ?_
      refine jw_istore_n (pc' := 27) (lc' := [(0, _), (1, _), (2, _)]) jd_Branchwork_reached_26 rfl (Nat.le_of_ble_eq_true rfl) ⟨rfl, rfl, rfl, trivial⟩ rfl ?_
      refine jw_iinc (pc' := 30) (lc' := [(0, _), (1, _), (2, _)]) jd_Branchwork_reached_27 rfl (nI_1 _) (Nat.le_of_ble_eq_true rfl) ⟨rfl, rfl, rfl, trivial⟩ rfl ?_
      refine jw_goto (tgt := 10) jd_Branchwork_reached_30 (by decide) ?_
      exact ih (i + 1) (by omega)
  exact loop 5 0 (by omega)
theorem bs_garbage (h : bw_New o μ b) : jw_Spec mi_Branchwork_garbage 5 0 0 o [.ref b] μ hs (fun v μ' s' => v = some (.int 0) ∧ s' = hs ∧ bw_New o μ' b ∧ jw_Fr μ μ' (b + 64) 1) := by
  refine jw_spec (by decide +kernel) (Nat.le_of_ble_eq_true rfl) rfl (fun k hR hE => ?_)
  have hN := h
  obtain ⟨h0, -, hH, -⟩ := h
  have hH0 := hH.1
  refine jw_aload_n (pc' := 1) jd_Branchwork_garbage_0 rfl rfl rfl ?_
  refine jw_get (pc' := 4) (kf := 1) jc_Branchwork (by decide) jq_284 jd_Branchwork_garbage_1 (by assumption) rfl rfl ?_
  refine jw_aload_n (pc' := 5) jd_Branchwork_garbage_4 rfl rfl rfl ?_
  refine jw_get (pc' := 8) (kf := 1) jc_Branchwork (by decide) jq_284 jd_Branchwork_garbage_5 (by assumption) rfl rfl ?_
  refine jw_callV0 (pc' := 11) hR (bs_kept hH) jm_History_kept jq_322 jc_History jd_Branchwork_garbage_8 (by assumption) rfl rfl (Nat.le_of_ble_eq_true rfl) (by omega) (by decide) (by omega) (by omega) rfl rfl ?_
  refine jw_callV (pc' := 14) hR (bs_countObjects0 hH) jm_History_countObjects jq_326 jc_History jd_Branchwork_garbage_11 (by assumption) rfl rfl (Nat.le_of_ble_eq_true rfl) (by omega) (by decide) (by omega) (by omega) rfl (fun v μ1 s9 q9 hle => ?_)
  obtain ⟨rfl, rfl, hH1, hF1⟩ := q9
  have hN1 := hN.met hF1 hH1
  have h0 := hN1.1
  have hH0 := hH1.1
  refine jw_aload_n (pc' := 15) jd_Branchwork_garbage_14 rfl rfl rfl ?_
  refine jw_get (pc' := 18) (kf := 1) jc_Branchwork (by decide) jq_284 jd_Branchwork_garbage_15 (by assumption) rfl rfl ?_
  refine jw_aload_n (pc' := 19) jd_Branchwork_garbage_18 rfl rfl rfl ?_
  refine jw_callV0 (pc' := 22) hR (bs_reached hN1) jm_Branchwork_reached jq_355 jc_Branchwork jd_Branchwork_garbage_19 (by assumption) rfl rfl (Nat.le_of_ble_eq_true rfl) (by omega) (by decide) (by omega) (by omega) rfl rfl ?_
  refine jw_callV (pc' := 25) hR (bs_countObjects0 hH1) jm_History_countObjects jq_326 jc_History jd_Branchwork_garbage_22 (by assumption) rfl rfl (Nat.le_of_ble_eq_true rfl) (by omega) (by decide) (by omega) (by omega) rfl (fun v μ2 s9 q9 hle => ?_)
  obtain ⟨rfl, rfl, hH2, hF2⟩ := q9
  have hN2 := hN1.met hF2 hH2
  refine jw_isub (pc' := 26) jd_Branchwork_garbage_25 (by decide : (0 : Int32) - 0 = 0) rfl ?_
  refine jw_iret hE jd_Branchwork_garbage_26 rfl (by omega) (by omega) ?_
  exact ⟨rfl, rfl, hN2, hF1.trans hF2 (by omega) (by omega)⟩
end
end
section
section
variable {o : jw_O} {μ : jw_Mem} {hs b : Nat}
theorem by_requireFile {t : Nat} {N : Nat → Nat} {G : Nat → Nat → Int32} (h : bt_At o μ t N (fun _ => 0) G) (x : Int32) : jw_SpX mi_Branchwork_requireFile 6 1 6 o [.ref t, .int x] μ hs (fun v μ' s' => False) (fun E μ' s' => E = jx_IO ∧ μ' = μ) := by
  refine jw_specX (by decide +kernel) (Nat.le_of_ble_eq_true rfl) rfl (fun k hR hX => ?_)
  have h0 := h.1
  have hh : jw_Ro mi_Tree_has 1 o [.ref t, .int x] μ hs (some (.int 0)) := by
    by_cases hx : jx_in x
    · obtain ⟨p, hp, rfl⟩ := hx.nat
      exact bt_has h hp
    · exact bt_hasOut h (jx_out hx)
  refine jw_aload_n (pc' := 1) jd_Branchwork_requireFile_0 rfl rfl rfl ?_
  refine jw_iload_n (pc' := 2) jd_Branchwork_requireFile_1 rfl rfl rfl ?_
  refine jw_callV0 (pc' := 5) hR (hh) jm_Tree_has jq_543 jc_Tree jd_Branchwork_requireFile_2 (by assumption) rfl rfl (Nat.le_of_ble_eq_true rfl) (by omega) (by decide) (by omega) (by omega) rfl rfl ?_
  refine jw_if_ne (tgt := 19) (pc' := 8) jd_Branchwork_requireFile_5 (by decide) rfl (fun c => ?_) (fun c => ?_)
  · exact absurd rfl c
  refine jw_throwSW hR hX jt_IndexOutOfBoundsException js_Branchwork_355 jd_Branchwork_requireFile_8 jd_Branchwork_requireFile_11 jd_Branchwork_requireFile_12 jd_Branchwork_requireFile_15 jd_Branchwork_requireFile_18 (Nat.le_of_ble_eq_true rfl) (by omega) (by omega) (by omega) (fun s9 hle9 => ?_)
  exact ⟨rfl, rfl⟩
theorem by_cut (h : bw_New o μ b) (x y : Int32) : jy_F mi_Branchwork_cut o [.ref b, .int x, .int y] μ hs b [jx_IO] 1 (.int 0) := by
  refine jw_specX (by decide +kernel) (Nat.le_of_ble_eq_true rfl) rfl (fun k hR hX => ?_)
  obtain ⟨h0, hT, -⟩ := h
  refine jw_aload_n (pc' := 1) jd_Branchwork_cut_0 rfl rfl rfl ?_
  refine jw_get (pc' := 4) (kf := 0) jc_Branchwork (by decide) jq_283 jd_Branchwork_cut_1 (by assumption) rfl rfl ?_
  refine jw_iload_n (pc' := 5) jd_Branchwork_cut_4 rfl rfl rfl ?_
  refine jw_callSX (pc' := 8) hR (by_requireFile hT x) jm_Branchwork_requireFile jq_640 jd_Branchwork_cut_5 rfl rfl (Nat.le_of_ble_eq_true rfl) (by omega) (by decide) (by omega) (by omega) rfl (fun E9 q9 μ s9 hΨ hle9 => jw_out hX (by omega) (by omega) ?_) (fun v μ9 s9 q9 hle => ?_)
  · obtain ⟨rfl, rfl⟩ := hΨ
    exact ⟨⟨0, rfl, rfl⟩, jw_Fr.rf⟩
  · exact q9.elim
theorem by_rename (h : bw_New o μ b) (x y : Int32) : jy_F mi_Branchwork_rename o [.ref b, .int x, .int y] μ hs b [jx_IO, jx_IS] 1 (.int 0) := by
  refine jw_specX (by decide +kernel) (Nat.le_of_ble_eq_true rfl) rfl (fun k hR hX => ?_)
  obtain ⟨h0, hT, -⟩ := h
  refine jw_aload_n (pc' := 1) jd_Branchwork_rename_0 rfl rfl rfl ?_
  refine jw_get (pc' := 4) (kf := 0) jc_Branchwork (by decide) jq_283 jd_Branchwork_rename_1 (by assumption) rfl rfl ?_
  refine jw_iload_n (pc' := 5) jd_Branchwork_rename_4 rfl rfl rfl ?_
  refine jw_callSX (pc' := 8) hR (by_requireFile hT x) jm_Branchwork_requireFile jq_640 jd_Branchwork_rename_5 rfl rfl (Nat.le_of_ble_eq_true rfl) (by omega) (by decide) (by omega) (by omega) rfl (fun E9 q9 μ s9 hΨ hle9 => jw_out hX (by omega) (by omega) ?_) (fun v μ9 s9 q9 hle => ?_)
  · obtain ⟨rfl, rfl⟩ := hΨ
    exact ⟨⟨0, rfl, rfl⟩, jw_Fr.rf⟩
  · exact q9.elim
theorem by_remove (h : bw_New o μ b) (x : Int32) : jy_F mi_Branchwork_remove o [.ref b, .int x] μ hs b [jx_IO] 1 (.int 0) := by
  refine jw_specX (by decide +kernel) (Nat.le_of_ble_eq_true rfl) rfl (fun k hR hX => ?_)
  obtain ⟨h0, hT, -⟩ := h
  refine jw_aload_n (pc' := 1) jd_Branchwork_remove_0 rfl rfl rfl ?_
  refine jw_get (pc' := 4) (kf := 0) jc_Branchwork (by decide) jq_283 jd_Branchwork_remove_1 (by assumption) rfl rfl ?_
  refine jw_iload_n (pc' := 5) jd_Branchwork_remove_4 rfl rfl rfl ?_
  refine jw_callSX (pc' := 8) hR (by_requireFile hT x) jm_Branchwork_requireFile jq_640 jd_Branchwork_remove_5 rfl rfl (Nat.le_of_ble_eq_true rfl) (by omega) (by decide) (by omega) (by omega) rfl (fun E9 q9 μ s9 hΨ hle9 => jw_out hX (by omega) (by omega) ?_) (fun v μ9 s9 q9 hle => ?_)
  · obtain ⟨rfl, rfl⟩ := hΨ
    exact ⟨⟨0, rfl, rfl⟩, jw_Fr.rf⟩
  · exact q9.elim
def kx_path (x : Int32) : Nat := if ¬ jx_in x then 1 else 0
theorem by_status0 (h : bw_New o μ b) (x : Int32) : jw_SpX mi_Branchwork_status 7 1 6 o [.ref b, .int x] μ hs (fun v μ' s' => v = some (.int (nI 0)) ∧ kx_path x = 0 ∧ μ' = μ ∧ s' = hs) (fun E μ' s' => E = jx_IO ∧ kx_path x = 1 ∧ μ' = μ) := by
  refine jw_specX (by decide +kernel) (Nat.le_of_ble_eq_true rfl) rfl (fun k hR hX => ?_)
  have hE := hX.E
  have hN := h
  obtain ⟨h0, hT, hH, -⟩ := h
  have hT0 := hT.1
  have hH0 := hH.1
  have hU0 := hH.2.2.1.1
  refine jw_iload_n (pc' := 1) jd_Branchwork_status_0 rfl rfl rfl ?_
  refine jw_callSX (pc' := 4) hR (by_requirePath x) jm_Branchwork_requirePath jq_527 jd_Branchwork_status_1 rfl rfl (Nat.le_of_ble_eq_true rfl) (by omega) (by decide) (by omega) (by omega) rfl (fun E9 q9 μ s9 hΨ hle9 => jw_out hX (by omega) (by omega) ?_) (fun v μ9 s9 q9 hle => ?_)
  · obtain ⟨rfl, rfl, hin⟩ := hΨ
    exact ⟨rfl, by unfold kx_path; rw [if_pos hin], rfl⟩
  obtain ⟨rfl, rfl, rfl, hin⟩ := q9
  obtain ⟨p, hp, rfl⟩ := hin.nat
  have hC := hT.2.2.2.1 p hp
  have hC0 := hC.1
  refine jw_aload_n (pc' := 5) jd_Branchwork_status_4 rfl rfl rfl ?_
  refine jw_get (pc' := 8) (kf := 1) jc_Branchwork (by decide) jq_284 jd_Branchwork_status_5 (by assumption) rfl rfl ?_
  refine jw_aload_n (pc' := 9) jd_Branchwork_status_8 rfl rfl rfl ?_
  refine jw_callV0 (pc' := 12) hR (by_head hN) jm_Branchwork_head jq_494 jc_Branchwork jd_Branchwork_status_9 (by assumption) rfl rfl (Nat.le_of_ble_eq_true rfl) (by omega) (by decide) (by omega) (by omega) rfl rfl ?_
  refine jw_callV0 (pc' := 15) hR (by_treeOf hH (by decide)) jm_History_treeOf jq_531 jc_History jd_Branchwork_status_12 (by assumption) rfl rfl (Nat.le_of_ble_eq_true rfl) (by omega) (by decide) (by omega) (by omega) rfl rfl ?_
  refine jw_astore_n (pc' := 16) (lc' := [(0, _), (1, _), (2, _)]) jd_Branchwork_status_15 rfl (Nat.le_of_ble_eq_true rfl) ⟨rfl, rfl, rfl, trivial⟩ rfl ?_
  refine jw_aload_n (pc' := 17) jd_Branchwork_status_16 rfl rfl rfl ?_
  refine jw_get (pc' := 20) (kf := 0) jc_Branchwork (by decide) jq_283 jd_Branchwork_status_17 (by assumption) rfl rfl ?_
  refine jw_iload_n (pc' := 21) jd_Branchwork_status_20 rfl rfl rfl ?_
  refine jw_callV0 (pc' := 24) hR (bt_fileAt hT hp) jm_Tree_fileAt jq_532 jc_Tree jd_Branchwork_status_21 (by assumption) rfl rfl (Nat.le_of_ble_eq_true rfl) (by omega) (by decide) (by omega) (by omega) rfl rfl ?_
  refine jw_aload_n (pc' := 25) jd_Branchwork_status_24 rfl rfl rfl ?_
  refine jw_iload_n (pc' := 26) jd_Branchwork_status_25 rfl rfl rfl ?_
  refine jw_callV0 (pc' := 29) hR (bt_fileAt hH.2.2.1 hp) jm_Tree_fileAt jq_532 jc_Tree jd_Branchwork_status_26 (by assumption) rfl rfl (Nat.le_of_ble_eq_true rfl) (by omega) (by decide) (by omega) (by omega) rfl rfl ?_
  refine jw_callV0 (pc' := 32) hR (bc_sameAs hC (Or.inl rfl) (Nat.zero_le _) (hH.2.2.1.2.2.2.1 p hp) (Or.inl rfl) (Nat.zero_le _) (Or.inl ⟨rfl, rfl, rfl, fun _ _ => rfl⟩)) jm_Content_sameAs jq_533 jc_Content jd_Branchwork_status_29 (by assumption) rfl rfl (Nat.le_of_ble_eq_true rfl) (by omega) (by decide) (by omega) (by omega) rfl rfl ?_
  refine jw_if_eq (tgt := 37) (pc' := 35) jd_Branchwork_status_32 (by decide) rfl (fun c => ?_) (fun c => ?_)
  · exact absurd c (by decide)
  refine jw_iconst (pc' := 36) (v := nI 0) jd_Branchwork_status_35 (by decide +kernel) rfl ?_
  refine jw_iret hE jd_Branchwork_status_36 rfl (by omega) (by omega) ?_
  exact ⟨rfl, by unfold kx_path; rw [if_neg (fun z => z hin)], rfl, rfl⟩
theorem jy_of {mi : jw_M} {As : List Value} {cs : List String} {n : Nat} {r : Value} {d mc ms : Nat} {Φ : Option Value → jw_Mem → Nat → Prop} {Ψ : String → jw_Mem → Nat → Prop} (h : jw_SpX mi 9 8 48 o As μ hs Φ Ψ) (h1 : ∀ v μ' s', Φ v μ' s' → v = some r ∧ n = 0 ∧ jw_Fr μ μ' b 984) (h2 : ∀ E μ' s', Ψ E μ' s' → (∃ i, cs[i]? = some E ∧ n = i + 1) ∧ jw_Fr μ μ' b 984) : jy_F mi o As μ hs b cs n r := by
  intro p e ha hc hk s m args below hf happ hP hK
  obtain ⟨t, out, a1, a2, a3, a4⟩ := h p e ha hc hk s m args below hf happ hP hK
  refine ⟨t, out, a1, a2, a3, ?_⟩
  rcases a4 with ⟨⟨⟨v, μ', q1, q2, q3⟩, q4⟩, q5⟩ | ⟨q, q1, E, ce, L, ⟨⟨μ', q2, q3⟩, q4⟩, q5⟩
  · exact Or.inl ⟨⟨⟨v, μ', q1, q2, h1 _ _ _ q3⟩, q4⟩, q5⟩
  · exact Or.inr ⟨q, q1, E, ce, L, ⟨⟨μ', q2, h2 _ _ _ q3⟩, q4⟩, q5⟩
end
end
section
theorem jd_Branchwork_collect_0 : decode mi_Branchwork_collect.2.1 0 = .ok (.aload_n 0, 1) := by decide +kernel
theorem jd_Branchwork_collect_1 : decode mi_Branchwork_collect.2.1 1 = .ok (.invokevirtual 211, 3) := by decide +kernel
theorem jd_Branchwork_collect_4 : decode mi_Branchwork_collect.2.1 4 = .ok (.istore_n 1, 1) := by decide +kernel
theorem jd_Branchwork_collect_5 : decode mi_Branchwork_collect.2.1 5 = .ok (.aload_n 0, 1) := by decide +kernel
theorem jd_Branchwork_collect_6 : decode mi_Branchwork_collect.2.1 6 = .ok (.getfield 19, 3) := by decide +kernel
theorem jd_Branchwork_collect_9 : decode mi_Branchwork_collect.2.1 9 = .ok (.aload_n 0, 1) := by decide +kernel
theorem jd_Branchwork_collect_10 : decode mi_Branchwork_collect.2.1 10 = .ok (.invokevirtual 214, 3) := by decide +kernel
theorem jd_Branchwork_collect_13 : decode mi_Branchwork_collect.2.1 13 = .ok (.invokevirtual 217, 3) := by decide +kernel
theorem jd_Branchwork_collect_16 : decode mi_Branchwork_collect.2.1 16 = .ok (.iload_n 1, 1) := by decide +kernel
theorem jd_Branchwork_collect_17 : decode mi_Branchwork_collect.2.1 17 = .ok (.ireturn, 1) := by decide +kernel
theorem jd_History_keepOnly_0 : decode mi_History_keepOnly.2.1 0 = .ok (.aload_n 0, 1) := by decide +kernel
theorem jd_History_keepOnly_1 : decode mi_History_keepOnly.2.1 1 = .ok (.dup, 1) := by decide +kernel
theorem jd_History_keepOnly_2 : decode mi_History_keepOnly.2.1 2 = .ok (.getfield 45, 3) := by decide +kernel
theorem jd_History_keepOnly_5 : decode mi_History_keepOnly.2.1 5 = .ok (.iload_n 1, 1) := by decide +kernel
theorem jd_History_keepOnly_6 : decode mi_History_keepOnly.2.1 6 = .ok (.iand, 1) := by decide +kernel
theorem jd_History_keepOnly_7 : decode mi_History_keepOnly.2.1 7 = .ok (.putfield 45, 3) := by decide +kernel
theorem jd_History_keepOnly_10 : decode mi_History_keepOnly.2.1 10 = .ok (.return_, 1) := by decide +kernel
theorem jd_Branchwork_many_0 : decode mi_Branchwork_many.2.1 0 = .ok (.iload_n 1, 1) := by decide +kernel
theorem jd_Branchwork_many_1 : decode mi_Branchwork_many.2.1 1 = .ok (.tableswitch 101 0 5 #[39, 50, 55, 63, 71, 86], 39) := by decide +kernel
theorem jd_Branchwork_many_40 : decode mi_Branchwork_many.2.1 40 = .ok (.aload_n 0, 1) := by decide +kernel
theorem jd_Branchwork_many_41 : decode mi_Branchwork_many.2.1 41 = .ok (.getfield 19, 3) := by decide +kernel
theorem jd_Branchwork_many_44 : decode mi_Branchwork_many.2.1 44 = .ok (.invokevirtual 220, 3) := by decide +kernel
theorem jd_Branchwork_many_47 : decode mi_Branchwork_many.2.1 47 = .ok (.invokestatic 223, 3) := by decide +kernel
theorem jd_Branchwork_many_50 : decode mi_Branchwork_many.2.1 50 = .ok (.ireturn, 1) := by decide +kernel
theorem jd_Branchwork_many_51 : decode mi_Branchwork_many.2.1 51 = .ok (.aload_n 0, 1) := by decide +kernel
theorem jd_Branchwork_many_52 : decode mi_Branchwork_many.2.1 52 = .ok (.getfield 55, 3) := by decide +kernel
theorem jd_Branchwork_many_55 : decode mi_Branchwork_many.2.1 55 = .ok (.ireturn, 1) := by decide +kernel
theorem jd_Branchwork_many_56 : decode mi_Branchwork_many.2.1 56 = .ok (.aload_n 0, 1) := by decide +kernel
theorem jd_Branchwork_many_57 : decode mi_Branchwork_many.2.1 57 = .ok (.getfield 12, 3) := by decide +kernel
theorem jd_Branchwork_many_60 : decode mi_Branchwork_many.2.1 60 = .ok (.invokevirtual 134, 3) := by decide +kernel
theorem jd_Branchwork_many_63 : decode mi_Branchwork_many.2.1 63 = .ok (.ireturn, 1) := by decide +kernel
theorem jd_Branchwork_many_64 : decode mi_Branchwork_many.2.1 64 = .ok (.aload_n 0, 1) := by decide +kernel
theorem jd_Branchwork_many_65 : decode mi_Branchwork_many.2.1 65 = .ok (.getfield 33, 3) := by decide +kernel
theorem jd_Branchwork_many_68 : decode mi_Branchwork_many.2.1 68 = .ok (.invokevirtual 153, 3) := by decide +kernel
theorem jd_Branchwork_many_71 : decode mi_Branchwork_many.2.1 71 = .ok (.ireturn, 1) := by decide +kernel
theorem jd_Branchwork_many_72 : decode mi_Branchwork_many.2.1 72 = .ok (.aload_n 0, 1) := by decide +kernel
theorem jd_Branchwork_many_73 : decode mi_Branchwork_many.2.1 73 = .ok (.getfield 19, 3) := by decide +kernel
theorem jd_Branchwork_many_76 : decode mi_Branchwork_many.2.1 76 = .ok (.aload_n 0, 1) := by decide +kernel
theorem jd_Branchwork_many_77 : decode mi_Branchwork_many.2.1 77 = .ok (.getfield 19, 3) := by decide +kernel
theorem jd_Branchwork_many_80 : decode mi_Branchwork_many.2.1 80 = .ok (.invokevirtual 220, 3) := by decide +kernel
theorem jd_Branchwork_many_83 : decode mi_Branchwork_many.2.1 83 = .ok (.invokevirtual 229, 3) := by decide +kernel
theorem jd_Branchwork_many_86 : decode mi_Branchwork_many.2.1 86 = .ok (.ireturn, 1) := by decide +kernel
theorem jd_Branchwork_many_87 : decode mi_Branchwork_many.2.1 87 = .ok (.aload_n 0, 1) := by decide +kernel
theorem jd_Branchwork_many_88 : decode mi_Branchwork_many.2.1 88 = .ok (.getfield 19, 3) := by decide +kernel
theorem jd_Branchwork_many_91 : decode mi_Branchwork_many.2.1 91 = .ok (.aload_n 0, 1) := by decide +kernel
theorem jd_Branchwork_many_92 : decode mi_Branchwork_many.2.1 92 = .ok (.getfield 19, 3) := by decide +kernel
theorem jd_Branchwork_many_95 : decode mi_Branchwork_many.2.1 95 = .ok (.invokevirtual 220, 3) := by decide +kernel
theorem jd_Branchwork_many_98 : decode mi_Branchwork_many.2.1 98 = .ok (.invokevirtual 232, 3) := by decide +kernel
theorem jd_Branchwork_many_101 : decode mi_Branchwork_many.2.1 101 = .ok (.ireturn, 1) := by decide +kernel
theorem jd_Branchwork_many_102 : decode mi_Branchwork_many.2.1 102 = .ok (.new 92, 3) := by decide +kernel
theorem jd_Branchwork_many_105 : decode mi_Branchwork_many.2.1 105 = .ok (.dup, 1) := by decide +kernel
theorem jd_Branchwork_many_106 : decode mi_Branchwork_many.2.1 106 = .ok (.ldc 235, 2) := by decide +kernel
theorem jd_Branchwork_many_108 : decode mi_Branchwork_many.2.1 108 = .ok (.invokespecial 96, 3) := by decide +kernel
theorem jd_Branchwork_many_111 : decode mi_Branchwork_many.2.1 111 = .ok (.athrow, 1) := by decide +kernel
theorem jd_Branchwork_now_0 : decode mi_Branchwork_now.2.1 0 = .ok (.iload_n 1, 1) := by decide +kernel
theorem jd_Branchwork_now_1 : decode mi_Branchwork_now.2.1 1 = .ok (.tableswitch 42 0 2 #[27, 32, 37], 27) := by decide +kernel
theorem jd_Branchwork_now_28 : decode mi_Branchwork_now.2.1 28 = .ok (.aload_n 0, 1) := by decide +kernel
theorem jd_Branchwork_now_29 : decode mi_Branchwork_now.2.1 29 = .ok (.getfield 59, 3) := by decide +kernel
theorem jd_Branchwork_now_32 : decode mi_Branchwork_now.2.1 32 = .ok (.ireturn, 1) := by decide +kernel
theorem jd_Branchwork_now_33 : decode mi_Branchwork_now.2.1 33 = .ok (.aload_n 0, 1) := by decide +kernel
theorem jd_Branchwork_now_34 : decode mi_Branchwork_now.2.1 34 = .ok (.invokevirtual 137, 3) := by decide +kernel
theorem jd_Branchwork_now_37 : decode mi_Branchwork_now.2.1 37 = .ok (.ireturn, 1) := by decide +kernel
theorem jd_Branchwork_now_38 : decode mi_Branchwork_now.2.1 38 = .ok (.aload_n 0, 1) := by decide +kernel
theorem jd_Branchwork_now_39 : decode mi_Branchwork_now.2.1 39 = .ok (.getfield 62, 3) := by decide +kernel
theorem jd_Branchwork_now_42 : decode mi_Branchwork_now.2.1 42 = .ok (.ireturn, 1) := by decide +kernel
theorem jd_Branchwork_now_43 : decode mi_Branchwork_now.2.1 43 = .ok (.new 92, 3) := by decide +kernel
theorem jd_Branchwork_now_46 : decode mi_Branchwork_now.2.1 46 = .ok (.dup, 1) := by decide +kernel
theorem jd_Branchwork_now_47 : decode mi_Branchwork_now.2.1 47 = .ok (.ldc 237, 2) := by decide +kernel
theorem jd_Branchwork_now_49 : decode mi_Branchwork_now.2.1 49 = .ok (.invokespecial 96, 3) := by decide +kernel
theorem jd_Branchwork_now_52 : decode mi_Branchwork_now.2.1 52 = .ok (.athrow, 1) := by decide +kernel
theorem jd_Branchwork_at_0 : decode mi_Branchwork_at.2.1 0 = .ok (.aload_n 0, 1) := by decide +kernel
theorem jd_Branchwork_at_1 : decode mi_Branchwork_at.2.1 1 = .ok (.iload_n 1, 1) := by decide +kernel
theorem jd_Branchwork_at_2 : decode mi_Branchwork_at.2.1 2 = .ok (.invokevirtual 171, 3) := by decide +kernel
theorem jd_Branchwork_at_5 : decode mi_Branchwork_at.2.1 5 = .ok (.aload_n 0, 1) := by decide +kernel
theorem jd_Branchwork_at_6 : decode mi_Branchwork_at.2.1 6 = .ok (.getfield 51, 3) := by decide +kernel
theorem jd_Branchwork_at_9 : decode mi_Branchwork_at.2.1 9 = .ok (.iload_n 1, 1) := by decide +kernel
theorem jd_Branchwork_at_10 : decode mi_Branchwork_at.2.1 10 = .ok (.iaload, 1) := by decide +kernel
theorem jd_Branchwork_at_11 : decode mi_Branchwork_at.2.1 11 = .ok (.ireturn, 1) := by decide +kernel
theorem jd_Branchwork_ofCommit_0 : decode mi_Branchwork_ofCommit.2.1 0 = .ok (.aload_n 0, 1) := by decide +kernel
theorem jd_Branchwork_ofCommit_1 : decode mi_Branchwork_ofCommit.2.1 1 = .ok (.iload_n 1, 1) := by decide +kernel
theorem jd_Branchwork_ofCommit_2 : decode mi_Branchwork_ofCommit.2.1 2 = .ok (.invokevirtual 180, 3) := by decide +kernel
theorem jd_Branchwork_ofCommit_5 : decode mi_Branchwork_ofCommit.2.1 5 = .ok (.iload_n 2, 1) := by decide +kernel
theorem jd_Branchwork_ofCommit_6 : decode mi_Branchwork_ofCommit.2.1 6 = .ok (.tableswitch 106 0 5 #[38, 47, 56, 65, 77, 89], 38) := by decide +kernel
theorem jd_Branchwork_ofCommit_44 : decode mi_Branchwork_ofCommit.2.1 44 = .ok (.aload_n 0, 1) := by decide +kernel
theorem jd_Branchwork_ofCommit_45 : decode mi_Branchwork_ofCommit.2.1 45 = .ok (.getfield 19, 3) := by decide +kernel
theorem jd_Branchwork_ofCommit_48 : decode mi_Branchwork_ofCommit.2.1 48 = .ok (.iload_n 1, 1) := by decide +kernel
theorem jd_Branchwork_ofCommit_49 : decode mi_Branchwork_ofCommit.2.1 49 = .ok (.invokevirtual 239, 3) := by decide +kernel
theorem jd_Branchwork_ofCommit_52 : decode mi_Branchwork_ofCommit.2.1 52 = .ok (.ireturn, 1) := by decide +kernel
theorem jd_Branchwork_ofCommit_53 : decode mi_Branchwork_ofCommit.2.1 53 = .ok (.aload_n 0, 1) := by decide +kernel
theorem jd_Branchwork_ofCommit_54 : decode mi_Branchwork_ofCommit.2.1 54 = .ok (.getfield 19, 3) := by decide +kernel
theorem jd_Branchwork_ofCommit_57 : decode mi_Branchwork_ofCommit.2.1 57 = .ok (.iload_n 1, 1) := by decide +kernel
theorem jd_Branchwork_ofCommit_58 : decode mi_Branchwork_ofCommit.2.1 58 = .ok (.invokevirtual 242, 3) := by decide +kernel
theorem jd_Branchwork_ofCommit_61 : decode mi_Branchwork_ofCommit.2.1 61 = .ok (.ireturn, 1) := by decide +kernel
theorem jd_Branchwork_ofCommit_62 : decode mi_Branchwork_ofCommit.2.1 62 = .ok (.aload_n 0, 1) := by decide +kernel
theorem jd_Branchwork_ofCommit_63 : decode mi_Branchwork_ofCommit.2.1 63 = .ok (.getfield 19, 3) := by decide +kernel
theorem jd_Branchwork_ofCommit_66 : decode mi_Branchwork_ofCommit.2.1 66 = .ok (.iload_n 1, 1) := by decide +kernel
theorem jd_Branchwork_ofCommit_67 : decode mi_Branchwork_ofCommit.2.1 67 = .ok (.invokevirtual 245, 3) := by decide +kernel
theorem jd_Branchwork_ofCommit_70 : decode mi_Branchwork_ofCommit.2.1 70 = .ok (.ireturn, 1) := by decide +kernel
theorem jd_Branchwork_ofCommit_71 : decode mi_Branchwork_ofCommit.2.1 71 = .ok (.aload_n 0, 1) := by decide +kernel
theorem jd_Branchwork_ofCommit_72 : decode mi_Branchwork_ofCommit.2.1 72 = .ok (.getfield 19, 3) := by decide +kernel
theorem jd_Branchwork_ofCommit_75 : decode mi_Branchwork_ofCommit.2.1 75 = .ok (.iload_n 1, 1) := by decide +kernel
theorem jd_Branchwork_ofCommit_76 : decode mi_Branchwork_ofCommit.2.1 76 = .ok (.invokevirtual 140, 3) := by decide +kernel
theorem jd_Branchwork_ofCommit_79 : decode mi_Branchwork_ofCommit.2.1 79 = .ok (.invokevirtual 134, 3) := by decide +kernel
theorem jd_Branchwork_ofCommit_82 : decode mi_Branchwork_ofCommit.2.1 82 = .ok (.ireturn, 1) := by decide +kernel
theorem jd_Branchwork_ofCommit_83 : decode mi_Branchwork_ofCommit.2.1 83 = .ok (.aload_n 0, 1) := by decide +kernel
theorem jd_Branchwork_ofCommit_84 : decode mi_Branchwork_ofCommit.2.1 84 = .ok (.getfield 19, 3) := by decide +kernel
theorem jd_Branchwork_ofCommit_87 : decode mi_Branchwork_ofCommit.2.1 87 = .ok (.iload_n 1, 1) := by decide +kernel
theorem jd_Branchwork_ofCommit_88 : decode mi_Branchwork_ofCommit.2.1 88 = .ok (.invokevirtual 248, 3) := by decide +kernel
theorem jd_Branchwork_ofCommit_91 : decode mi_Branchwork_ofCommit.2.1 91 = .ok (.invokestatic 223, 3) := by decide +kernel
theorem jd_Branchwork_ofCommit_94 : decode mi_Branchwork_ofCommit.2.1 94 = .ok (.ireturn, 1) := by decide +kernel
theorem jd_Branchwork_ofCommit_95 : decode mi_Branchwork_ofCommit.2.1 95 = .ok (.iload_n 1, 1) := by decide +kernel
theorem jd_Branchwork_ofCommit_96 : decode mi_Branchwork_ofCommit.2.1 96 = .ok (.aload_n 0, 1) := by decide +kernel
theorem jd_Branchwork_ofCommit_97 : decode mi_Branchwork_ofCommit.2.1 97 = .ok (.invokevirtual 214, 3) := by decide +kernel
theorem jd_Branchwork_ofCommit_100 : decode mi_Branchwork_ofCommit.2.1 100 = .ok (.invokestatic 251, 3) := by decide +kernel
theorem jd_Branchwork_ofCommit_103 : decode mi_Branchwork_ofCommit.2.1 103 = .ok (.ifCond .eq 7, 3) := by decide +kernel
theorem jd_Branchwork_ofCommit_106 : decode mi_Branchwork_ofCommit.2.1 106 = .ok (.iconst 1, 1) := by decide +kernel
theorem jd_Branchwork_ofCommit_107 : decode mi_Branchwork_ofCommit.2.1 107 = .ok (.goto 4, 3) := by decide +kernel
theorem jd_Branchwork_ofCommit_110 : decode mi_Branchwork_ofCommit.2.1 110 = .ok (.iconst 0, 1) := by decide +kernel
theorem jd_Branchwork_ofCommit_111 : decode mi_Branchwork_ofCommit.2.1 111 = .ok (.ireturn, 1) := by decide +kernel
theorem jd_Branchwork_ofCommit_112 : decode mi_Branchwork_ofCommit.2.1 112 = .ok (.new 92, 3) := by decide +kernel
theorem jd_Branchwork_ofCommit_115 : decode mi_Branchwork_ofCommit.2.1 115 = .ok (.dup, 1) := by decide +kernel
theorem jd_Branchwork_ofCommit_116 : decode mi_Branchwork_ofCommit.2.1 116 = .ok (.ldc 235, 2) := by decide +kernel
theorem jd_Branchwork_ofCommit_118 : decode mi_Branchwork_ofCommit.2.1 118 = .ok (.invokespecial 96, 3) := by decide +kernel
theorem jd_Branchwork_ofCommit_121 : decode mi_Branchwork_ofCommit.2.1 121 = .ok (.athrow, 1) := by decide +kernel
theorem jd_Branchwork_line_0 : decode mi_Branchwork_line.2.1 0 = .ok (.aload_n 0, 1) := by decide +kernel
theorem jd_Branchwork_line_1 : decode mi_Branchwork_line.2.1 1 = .ok (.iload_n 1, 1) := by decide +kernel
theorem jd_Branchwork_line_2 : decode mi_Branchwork_line.2.1 2 = .ok (.iload_n 2, 1) := by decide +kernel
theorem jd_Branchwork_line_3 : decode mi_Branchwork_line.2.1 3 = .ok (.invokevirtual 255, 3) := by decide +kernel
theorem jd_Branchwork_line_6 : decode mi_Branchwork_line.2.1 6 = .ok (.astore 4, 2) := by decide +kernel
theorem jd_Branchwork_line_8 : decode mi_Branchwork_line.2.1 8 = .ok (.aload 4, 2) := by decide +kernel
theorem jd_Branchwork_line_10 : decode mi_Branchwork_line.2.1 10 = .ok (.invokevirtual 259, 3) := by decide +kernel
theorem jd_Branchwork_line_13 : decode mi_Branchwork_line.2.1 13 = .ok (.ifCond .eq 12, 3) := by decide +kernel
theorem jd_Branchwork_line_16 : decode mi_Branchwork_line.2.1 16 = .ok (.aload 4, 2) := by decide +kernel
theorem jd_Branchwork_line_18 : decode mi_Branchwork_line.2.1 18 = .ok (.iload_n 3, 1) := by decide +kernel
theorem jd_Branchwork_line_19 : decode mi_Branchwork_line.2.1 19 = .ok (.invokevirtual 262, 3) := by decide +kernel
theorem jd_Branchwork_line_22 : decode mi_Branchwork_line.2.1 22 = .ok (.goto 5, 3) := by decide +kernel
theorem jd_Branchwork_line_25 : decode mi_Branchwork_line.2.1 25 = .ok (.bipush (-2), 2) := by decide +kernel
theorem jd_Branchwork_line_27 : decode mi_Branchwork_line.2.1 27 = .ok (.ireturn, 1) := by decide +kernel
theorem jd_Branchwork_size_0 : decode mi_Branchwork_size.2.1 0 = .ok (.aload_n 0, 1) := by decide +kernel
theorem jd_Branchwork_size_1 : decode mi_Branchwork_size.2.1 1 = .ok (.iload_n 1, 1) := by decide +kernel
theorem jd_Branchwork_size_2 : decode mi_Branchwork_size.2.1 2 = .ok (.iload_n 2, 1) := by decide +kernel
theorem jd_Branchwork_size_3 : decode mi_Branchwork_size.2.1 3 = .ok (.invokevirtual 255, 3) := by decide +kernel
theorem jd_Branchwork_size_6 : decode mi_Branchwork_size.2.1 6 = .ok (.astore_n 3, 1) := by decide +kernel
theorem jd_Branchwork_size_7 : decode mi_Branchwork_size.2.1 7 = .ok (.aload_n 3, 1) := by decide +kernel
theorem jd_Branchwork_size_8 : decode mi_Branchwork_size.2.1 8 = .ok (.invokevirtual 259, 3) := by decide +kernel
theorem jd_Branchwork_size_11 : decode mi_Branchwork_size.2.1 11 = .ok (.ifCond .eq 10, 3) := by decide +kernel
theorem jd_Branchwork_size_14 : decode mi_Branchwork_size.2.1 14 = .ok (.aload_n 3, 1) := by decide +kernel
theorem jd_Branchwork_size_15 : decode mi_Branchwork_size.2.1 15 = .ok (.invokevirtual 79, 3) := by decide +kernel
theorem jd_Branchwork_size_18 : decode mi_Branchwork_size.2.1 18 = .ok (.goto 4, 3) := by decide +kernel
theorem jd_Branchwork_size_21 : decode mi_Branchwork_size.2.1 21 = .ok (.iconst (-1), 1) := by decide +kernel
theorem jd_Branchwork_size_22 : decode mi_Branchwork_size.2.1 22 = .ok (.ireturn, 1) := by decide +kernel
theorem jd_Branchwork_fileToShow_0 : decode mi_Branchwork_fileToShow.2.1 0 = .ok (.iload_n 1, 1) := by decide +kernel
theorem jd_Branchwork_fileToShow_1 : decode mi_Branchwork_fileToShow.2.1 1 = .ok (.iconst (-1), 1) := by decide +kernel
theorem jd_Branchwork_fileToShow_2 : decode mi_Branchwork_fileToShow.2.1 2 = .ok (.if_icmp .eq 8, 3) := by decide +kernel
theorem jd_Branchwork_fileToShow_5 : decode mi_Branchwork_fileToShow.2.1 5 = .ok (.aload_n 0, 1) := by decide +kernel
theorem jd_Branchwork_fileToShow_6 : decode mi_Branchwork_fileToShow.2.1 6 = .ok (.iload_n 1, 1) := by decide +kernel
theorem jd_Branchwork_fileToShow_7 : decode mi_Branchwork_fileToShow.2.1 7 = .ok (.invokevirtual 180, 3) := by decide +kernel
theorem jd_Branchwork_fileToShow_10 : decode mi_Branchwork_fileToShow.2.1 10 = .ok (.iload_n 2, 1) := by decide +kernel
theorem jd_Branchwork_fileToShow_11 : decode mi_Branchwork_fileToShow.2.1 11 = .ok (.invokestatic 71, 3) := by decide +kernel
theorem jd_Branchwork_fileToShow_14 : decode mi_Branchwork_fileToShow.2.1 14 = .ok (.iload_n 1, 1) := by decide +kernel
theorem jd_Branchwork_fileToShow_15 : decode mi_Branchwork_fileToShow.2.1 15 = .ok (.iconst (-1), 1) := by decide +kernel
theorem jd_Branchwork_fileToShow_16 : decode mi_Branchwork_fileToShow.2.1 16 = .ok (.if_icmp .ne 14, 3) := by decide +kernel
theorem jd_Branchwork_fileToShow_19 : decode mi_Branchwork_fileToShow.2.1 19 = .ok (.aload_n 0, 1) := by decide +kernel
theorem jd_Branchwork_fileToShow_20 : decode mi_Branchwork_fileToShow.2.1 20 = .ok (.getfield 12, 3) := by decide +kernel
theorem jd_Branchwork_fileToShow_23 : decode mi_Branchwork_fileToShow.2.1 23 = .ok (.iload_n 2, 1) := by decide +kernel
theorem jd_Branchwork_fileToShow_24 : decode mi_Branchwork_fileToShow.2.1 24 = .ok (.invokevirtual 75, 3) := by decide +kernel
theorem jd_Branchwork_fileToShow_27 : decode mi_Branchwork_fileToShow.2.1 27 = .ok (.goto 15, 3) := by decide +kernel
theorem jd_Branchwork_fileToShow_30 : decode mi_Branchwork_fileToShow.2.1 30 = .ok (.aload_n 0, 1) := by decide +kernel
theorem jd_Branchwork_fileToShow_31 : decode mi_Branchwork_fileToShow.2.1 31 = .ok (.getfield 19, 3) := by decide +kernel
theorem jd_Branchwork_fileToShow_34 : decode mi_Branchwork_fileToShow.2.1 34 = .ok (.iload_n 1, 1) := by decide +kernel
theorem jd_Branchwork_fileToShow_35 : decode mi_Branchwork_fileToShow.2.1 35 = .ok (.invokevirtual 140, 3) := by decide +kernel
theorem jd_Branchwork_fileToShow_38 : decode mi_Branchwork_fileToShow.2.1 38 = .ok (.iload_n 2, 1) := by decide +kernel
theorem jd_Branchwork_fileToShow_39 : decode mi_Branchwork_fileToShow.2.1 39 = .ok (.invokevirtual 75, 3) := by decide +kernel
theorem jd_Branchwork_fileToShow_42 : decode mi_Branchwork_fileToShow.2.1 42 = .ok (.areturn, 1) := by decide +kernel
theorem jd_Branchwork_conflict_0 : decode mi_Branchwork_conflict.2.1 0 = .ok (.aload_n 0, 1) := by decide +kernel
theorem jd_Branchwork_conflict_1 : decode mi_Branchwork_conflict.2.1 1 = .ok (.iload_n 1, 1) := by decide +kernel
theorem jd_Branchwork_conflict_2 : decode mi_Branchwork_conflict.2.1 2 = .ok (.invokevirtual 205, 3) := by decide +kernel
theorem jd_Branchwork_conflict_5 : decode mi_Branchwork_conflict.2.1 5 = .ok (.iload_n 2, 1) := by decide +kernel
theorem jd_Branchwork_conflict_6 : decode mi_Branchwork_conflict.2.1 6 = .ok (.lookupswitch 44 #[(0, 26), (1, 35)], 26) := by decide +kernel
theorem jd_Branchwork_conflict_32 : decode mi_Branchwork_conflict.2.1 32 = .ok (.aload_n 0, 1) := by decide +kernel
theorem jd_Branchwork_conflict_33 : decode mi_Branchwork_conflict.2.1 33 = .ok (.getfield 33, 3) := by decide +kernel
theorem jd_Branchwork_conflict_36 : decode mi_Branchwork_conflict.2.1 36 = .ok (.iload_n 1, 1) := by decide +kernel
theorem jd_Branchwork_conflict_37 : decode mi_Branchwork_conflict.2.1 37 = .ok (.invokevirtual 265, 3) := by decide +kernel
theorem jd_Branchwork_conflict_40 : decode mi_Branchwork_conflict.2.1 40 = .ok (.ireturn, 1) := by decide +kernel
theorem jd_Branchwork_conflict_41 : decode mi_Branchwork_conflict.2.1 41 = .ok (.aload_n 0, 1) := by decide +kernel
theorem jd_Branchwork_conflict_42 : decode mi_Branchwork_conflict.2.1 42 = .ok (.getfield 33, 3) := by decide +kernel
theorem jd_Branchwork_conflict_45 : decode mi_Branchwork_conflict.2.1 45 = .ok (.iload_n 1, 1) := by decide +kernel
theorem jd_Branchwork_conflict_46 : decode mi_Branchwork_conflict.2.1 46 = .ok (.invokevirtual 268, 3) := by decide +kernel
theorem jd_Branchwork_conflict_49 : decode mi_Branchwork_conflict.2.1 49 = .ok (.ireturn, 1) := by decide +kernel
theorem jd_Branchwork_conflict_50 : decode mi_Branchwork_conflict.2.1 50 = .ok (.new 92, 3) := by decide +kernel
theorem jd_Branchwork_conflict_53 : decode mi_Branchwork_conflict.2.1 53 = .ok (.dup, 1) := by decide +kernel
theorem jd_Branchwork_conflict_54 : decode mi_Branchwork_conflict.2.1 54 = .ok (.ldc_w 271, 3) := by decide +kernel
theorem jd_Branchwork_conflict_57 : decode mi_Branchwork_conflict.2.1 57 = .ok (.invokespecial 96, 3) := by decide +kernel
theorem jd_Branchwork_conflict_60 : decode mi_Branchwork_conflict.2.1 60 = .ok (.athrow, 1) := by decide +kernel
theorem jd_Branchwork_base_0 : decode mi_Branchwork_base.2.1 0 = .ok (.aload_n 0, 1) := by decide +kernel
theorem jd_Branchwork_base_1 : decode mi_Branchwork_base.2.1 1 = .ok (.iload_n 1, 1) := by decide +kernel
theorem jd_Branchwork_base_2 : decode mi_Branchwork_base.2.1 2 = .ok (.invokevirtual 180, 3) := by decide +kernel
theorem jd_Branchwork_base_5 : decode mi_Branchwork_base.2.1 5 = .ok (.aload_n 0, 1) := by decide +kernel
theorem jd_Branchwork_base_6 : decode mi_Branchwork_base.2.1 6 = .ok (.iload_n 2, 1) := by decide +kernel
theorem jd_Branchwork_base_7 : decode mi_Branchwork_base.2.1 7 = .ok (.invokevirtual 180, 3) := by decide +kernel
theorem jd_Branchwork_base_10 : decode mi_Branchwork_base.2.1 10 = .ok (.aload_n 0, 1) := by decide +kernel
theorem jd_Branchwork_base_11 : decode mi_Branchwork_base.2.1 11 = .ok (.getfield 19, 3) := by decide +kernel
theorem jd_Branchwork_base_14 : decode mi_Branchwork_base.2.1 14 = .ok (.iload_n 1, 1) := by decide +kernel
theorem jd_Branchwork_base_15 : decode mi_Branchwork_base.2.1 15 = .ok (.iload_n 2, 1) := by decide +kernel
theorem jd_Branchwork_base_16 : decode mi_Branchwork_base.2.1 16 = .ok (.invokevirtual 186, 3) := by decide +kernel
theorem jd_Branchwork_base_19 : decode mi_Branchwork_base.2.1 19 = .ok (.ireturn, 1) := by decide +kernel
theorem jd_Branchwork_went_0 : decode mi_Branchwork_went.2.1 0 = .ok (.aload_n 0, 1) := by decide +kernel
theorem jd_Branchwork_went_1 : decode mi_Branchwork_went.2.1 1 = .ok (.iload_n 1, 1) := by decide +kernel
theorem jd_Branchwork_went_2 : decode mi_Branchwork_went.2.1 2 = .ok (.invokevirtual 180, 3) := by decide +kernel
theorem jd_Branchwork_went_5 : decode mi_Branchwork_went.2.1 5 = .ok (.aload_n 0, 1) := by decide +kernel
theorem jd_Branchwork_went_6 : decode mi_Branchwork_went.2.1 6 = .ok (.iload_n 2, 1) := by decide +kernel
theorem jd_Branchwork_went_7 : decode mi_Branchwork_went.2.1 7 = .ok (.invokevirtual 180, 3) := by decide +kernel
theorem jd_Branchwork_went_10 : decode mi_Branchwork_went.2.1 10 = .ok (.iload_n 3, 1) := by decide +kernel
theorem jd_Branchwork_went_11 : decode mi_Branchwork_went.2.1 11 = .ok (.invokestatic 71, 3) := by decide +kernel
theorem jd_Branchwork_went_14 : decode mi_Branchwork_went.2.1 14 = .ok (.aload_n 0, 1) := by decide +kernel
theorem jd_Branchwork_went_15 : decode mi_Branchwork_went.2.1 15 = .ok (.getfield 19, 3) := by decide +kernel
theorem jd_Branchwork_went_18 : decode mi_Branchwork_went.2.1 18 = .ok (.iload_n 1, 1) := by decide +kernel
theorem jd_Branchwork_went_19 : decode mi_Branchwork_went.2.1 19 = .ok (.invokevirtual 140, 3) := by decide +kernel
theorem jd_Branchwork_went_22 : decode mi_Branchwork_went.2.1 22 = .ok (.iload_n 3, 1) := by decide +kernel
theorem jd_Branchwork_went_23 : decode mi_Branchwork_went.2.1 23 = .ok (.invokevirtual 121, 3) := by decide +kernel
theorem jd_Branchwork_went_26 : decode mi_Branchwork_went.2.1 26 = .ok (.ifCond .ne 6, 3) := by decide +kernel
theorem jd_Branchwork_went_29 : decode mi_Branchwork_went.2.1 29 = .ok (.bipush (-2), 2) := by decide +kernel
theorem jd_Branchwork_went_31 : decode mi_Branchwork_went.2.1 31 = .ok (.ireturn, 1) := by decide +kernel
theorem jd_Branchwork_went_32 : decode mi_Branchwork_went.2.1 32 = .ok (.aload_n 0, 1) := by decide +kernel
theorem jd_Branchwork_went_33 : decode mi_Branchwork_went.2.1 33 = .ok (.getfield 40, 3) := by decide +kernel
theorem jd_Branchwork_went_36 : decode mi_Branchwork_went.2.1 36 = .ok (.aload_n 0, 1) := by decide +kernel
theorem jd_Branchwork_went_37 : decode mi_Branchwork_went.2.1 37 = .ok (.getfield 19, 3) := by decide +kernel
theorem jd_Branchwork_went_40 : decode mi_Branchwork_went.2.1 40 = .ok (.iload_n 1, 1) := by decide +kernel
theorem jd_Branchwork_went_41 : decode mi_Branchwork_went.2.1 41 = .ok (.invokevirtual 140, 3) := by decide +kernel
theorem jd_Branchwork_went_44 : decode mi_Branchwork_went.2.1 44 = .ok (.aload_n 0, 1) := by decide +kernel
theorem jd_Branchwork_went_45 : decode mi_Branchwork_went.2.1 45 = .ok (.getfield 19, 3) := by decide +kernel
theorem jd_Branchwork_went_48 : decode mi_Branchwork_went.2.1 48 = .ok (.iload_n 2, 1) := by decide +kernel
theorem jd_Branchwork_went_49 : decode mi_Branchwork_went.2.1 49 = .ok (.invokevirtual 140, 3) := by decide +kernel
theorem jd_Branchwork_went_52 : decode mi_Branchwork_went.2.1 52 = .ok (.invokevirtual 273, 3) := by decide +kernel
theorem jd_Branchwork_went_55 : decode mi_Branchwork_went.2.1 55 = .ok (.aload_n 0, 1) := by decide +kernel
theorem jd_Branchwork_went_56 : decode mi_Branchwork_went.2.1 56 = .ok (.getfield 40, 3) := by decide +kernel
theorem jd_Branchwork_went_59 : decode mi_Branchwork_went.2.1 59 = .ok (.iload_n 3, 1) := by decide +kernel
theorem jd_Branchwork_went_60 : decode mi_Branchwork_went.2.1 60 = .ok (.invokevirtual 277, 3) := by decide +kernel
theorem jd_Branchwork_went_63 : decode mi_Branchwork_went.2.1 63 = .ok (.ireturn, 1) := by decide +kernel
theorem jd_Branchwork_changes_0 : decode mi_Branchwork_changes.2.1 0 = .ok (.aload_n 0, 1) := by decide +kernel
theorem jd_Branchwork_changes_1 : decode mi_Branchwork_changes.2.1 1 = .ok (.iload_n 1, 1) := by decide +kernel
theorem jd_Branchwork_changes_2 : decode mi_Branchwork_changes.2.1 2 = .ok (.invokevirtual 180, 3) := by decide +kernel
theorem jd_Branchwork_changes_5 : decode mi_Branchwork_changes.2.1 5 = .ok (.aload_n 0, 1) := by decide +kernel
theorem jd_Branchwork_changes_6 : decode mi_Branchwork_changes.2.1 6 = .ok (.iload_n 2, 1) := by decide +kernel
theorem jd_Branchwork_changes_7 : decode mi_Branchwork_changes.2.1 7 = .ok (.invokevirtual 180, 3) := by decide +kernel
theorem jd_Branchwork_changes_10 : decode mi_Branchwork_changes.2.1 10 = .ok (.iload_n 3, 1) := by decide +kernel
theorem jd_Branchwork_changes_11 : decode mi_Branchwork_changes.2.1 11 = .ok (.ifCond .lt 8, 3) := by decide +kernel
theorem jd_Branchwork_changes_14 : decode mi_Branchwork_changes.2.1 14 = .ok (.iload_n 3, 1) := by decide +kernel
theorem jd_Branchwork_changes_15 : decode mi_Branchwork_changes.2.1 15 = .ok (.iconst 3, 1) := by decide +kernel
theorem jd_Branchwork_changes_16 : decode mi_Branchwork_changes.2.1 16 = .ok (.if_icmp .le 14, 3) := by decide +kernel
theorem jd_Branchwork_changes_19 : decode mi_Branchwork_changes.2.1 19 = .ok (.new 92, 3) := by decide +kernel
theorem jd_Branchwork_changes_22 : decode mi_Branchwork_changes.2.1 22 = .ok (.dup, 1) := by decide +kernel
theorem jd_Branchwork_changes_23 : decode mi_Branchwork_changes.2.1 23 = .ok (.ldc_w 280, 3) := by decide +kernel
theorem jd_Branchwork_changes_26 : decode mi_Branchwork_changes.2.1 26 = .ok (.invokespecial 96, 3) := by decide +kernel
theorem jd_Branchwork_changes_29 : decode mi_Branchwork_changes.2.1 29 = .ok (.athrow, 1) := by decide +kernel
theorem jd_Branchwork_changes_30 : decode mi_Branchwork_changes.2.1 30 = .ok (.aload_n 0, 1) := by decide +kernel
theorem jd_Branchwork_changes_31 : decode mi_Branchwork_changes.2.1 31 = .ok (.getfield 19, 3) := by decide +kernel
theorem jd_Branchwork_changes_34 : decode mi_Branchwork_changes.2.1 34 = .ok (.iload_n 1, 1) := by decide +kernel
theorem jd_Branchwork_changes_35 : decode mi_Branchwork_changes.2.1 35 = .ok (.invokevirtual 140, 3) := by decide +kernel
theorem jd_Branchwork_changes_38 : decode mi_Branchwork_changes.2.1 38 = .ok (.astore 4, 2) := by decide +kernel
theorem jd_Branchwork_changes_40 : decode mi_Branchwork_changes.2.1 40 = .ok (.aload_n 0, 1) := by decide +kernel
theorem jd_Branchwork_changes_41 : decode mi_Branchwork_changes.2.1 41 = .ok (.getfield 19, 3) := by decide +kernel
theorem jd_Branchwork_changes_44 : decode mi_Branchwork_changes.2.1 44 = .ok (.iload_n 2, 1) := by decide +kernel
theorem jd_Branchwork_changes_45 : decode mi_Branchwork_changes.2.1 45 = .ok (.invokevirtual 140, 3) := by decide +kernel
theorem jd_Branchwork_changes_48 : decode mi_Branchwork_changes.2.1 48 = .ok (.astore 5, 2) := by decide +kernel
theorem jd_Branchwork_changes_50 : decode mi_Branchwork_changes.2.1 50 = .ok (.aload_n 0, 1) := by decide +kernel
theorem jd_Branchwork_changes_51 : decode mi_Branchwork_changes.2.1 51 = .ok (.getfield 40, 3) := by decide +kernel
theorem jd_Branchwork_changes_54 : decode mi_Branchwork_changes.2.1 54 = .ok (.aload 4, 2) := by decide +kernel
theorem jd_Branchwork_changes_56 : decode mi_Branchwork_changes.2.1 56 = .ok (.aload 5, 2) := by decide +kernel
theorem jd_Branchwork_changes_58 : decode mi_Branchwork_changes.2.1 58 = .ok (.invokevirtual 273, 3) := by decide +kernel
theorem jd_Branchwork_changes_61 : decode mi_Branchwork_changes.2.1 61 = .ok (.iconst 0, 1) := by decide +kernel
theorem jd_Branchwork_changes_62 : decode mi_Branchwork_changes.2.1 62 = .ok (.istore 6, 2) := by decide +kernel
theorem jd_Branchwork_changes_64 : decode mi_Branchwork_changes.2.1 64 = .ok (.iconst 0, 1) := by decide +kernel
theorem jd_Branchwork_changes_65 : decode mi_Branchwork_changes.2.1 65 = .ok (.istore 7, 2) := by decide +kernel
theorem jd_Branchwork_changes_67 : decode mi_Branchwork_changes.2.1 67 = .ok (.iload 7, 2) := by decide +kernel
theorem jd_Branchwork_changes_69 : decode mi_Branchwork_changes.2.1 69 = .ok (.bipush 12, 2) := by decide +kernel
theorem jd_Branchwork_changes_71 : decode mi_Branchwork_changes.2.1 71 = .ok (.if_icmp .ge 26, 3) := by decide +kernel
theorem jd_Branchwork_changes_74 : decode mi_Branchwork_changes.2.1 74 = .ok (.aload_n 0, 1) := by decide +kernel
theorem jd_Branchwork_changes_75 : decode mi_Branchwork_changes.2.1 75 = .ok (.aload 4, 2) := by decide +kernel
theorem jd_Branchwork_changes_77 : decode mi_Branchwork_changes.2.1 77 = .ok (.aload 5, 2) := by decide +kernel
theorem jd_Branchwork_changes_79 : decode mi_Branchwork_changes.2.1 79 = .ok (.iload 7, 2) := by decide +kernel
theorem jd_Branchwork_changes_81 : decode mi_Branchwork_changes.2.1 81 = .ok (.invokevirtual 282, 3) := by decide +kernel
theorem jd_Branchwork_changes_84 : decode mi_Branchwork_changes.2.1 84 = .ok (.iload_n 3, 1) := by decide +kernel
theorem jd_Branchwork_changes_85 : decode mi_Branchwork_changes.2.1 85 = .ok (.if_icmp .ne 6, 3) := by decide +kernel
theorem jd_Branchwork_changes_88 : decode mi_Branchwork_changes.2.1 88 = .ok (.iinc 6 1, 3) := by decide +kernel
theorem jd_Branchwork_changes_91 : decode mi_Branchwork_changes.2.1 91 = .ok (.iinc 7 1, 3) := by decide +kernel
theorem jd_Branchwork_changes_94 : decode mi_Branchwork_changes.2.1 94 = .ok (.goto (-27), 3) := by decide +kernel
theorem jd_Branchwork_changes_97 : decode mi_Branchwork_changes.2.1 97 = .ok (.iload 6, 2) := by decide +kernel
theorem jd_Branchwork_changes_99 : decode mi_Branchwork_changes.2.1 99 = .ok (.iload_n 3, 1) := by decide +kernel
theorem jd_Branchwork_changes_100 : decode mi_Branchwork_changes.2.1 100 = .ok (.iconst 2, 1) := by decide +kernel
theorem jd_Branchwork_changes_101 : decode mi_Branchwork_changes.2.1 101 = .ok (.if_icmp .ne 13, 3) := by decide +kernel
theorem jd_Branchwork_changes_104 : decode mi_Branchwork_changes.2.1 104 = .ok (.aload_n 0, 1) := by decide +kernel
theorem jd_Branchwork_changes_105 : decode mi_Branchwork_changes.2.1 105 = .ok (.getfield 40, 3) := by decide +kernel
theorem jd_Branchwork_changes_108 : decode mi_Branchwork_changes.2.1 108 = .ok (.invokevirtual 286, 3) := by decide +kernel
theorem jd_Branchwork_changes_111 : decode mi_Branchwork_changes.2.1 111 = .ok (.goto 4, 3) := by decide +kernel
theorem jd_Branchwork_changes_114 : decode mi_Branchwork_changes.2.1 114 = .ok (.iconst 0, 1) := by decide +kernel
theorem jd_Branchwork_changes_115 : decode mi_Branchwork_changes.2.1 115 = .ok (.iadd, 1) := by decide +kernel
theorem jd_Branchwork_changes_116 : decode mi_Branchwork_changes.2.1 116 = .ok (.ireturn, 1) := by decide +kernel
theorem jd_Branchwork_nearness_0 : decode mi_Branchwork_nearness.2.1 0 = .ok (.aload_n 0, 1) := by decide +kernel
theorem jd_Branchwork_nearness_1 : decode mi_Branchwork_nearness.2.1 1 = .ok (.iload_n 1, 1) := by decide +kernel
theorem jd_Branchwork_nearness_2 : decode mi_Branchwork_nearness.2.1 2 = .ok (.invokevirtual 180, 3) := by decide +kernel
theorem jd_Branchwork_nearness_5 : decode mi_Branchwork_nearness.2.1 5 = .ok (.aload_n 0, 1) := by decide +kernel
theorem jd_Branchwork_nearness_6 : decode mi_Branchwork_nearness.2.1 6 = .ok (.getfield 19, 3) := by decide +kernel
theorem jd_Branchwork_nearness_9 : decode mi_Branchwork_nearness.2.1 9 = .ok (.iload_n 1, 1) := by decide +kernel
theorem jd_Branchwork_nearness_10 : decode mi_Branchwork_nearness.2.1 10 = .ok (.invokevirtual 140, 3) := by decide +kernel
theorem jd_Branchwork_nearness_13 : decode mi_Branchwork_nearness.2.1 13 = .ok (.iload_n 2, 1) := by decide +kernel
theorem jd_Branchwork_nearness_14 : decode mi_Branchwork_nearness.2.1 14 = .ok (.invokestatic 110, 3) := by decide +kernel
theorem jd_Branchwork_nearness_17 : decode mi_Branchwork_nearness.2.1 17 = .ok (.aload_n 0, 1) := by decide +kernel
theorem jd_Branchwork_nearness_18 : decode mi_Branchwork_nearness.2.1 18 = .ok (.iload_n 3, 1) := by decide +kernel
theorem jd_Branchwork_nearness_19 : decode mi_Branchwork_nearness.2.1 19 = .ok (.invokevirtual 180, 3) := by decide +kernel
theorem jd_Branchwork_nearness_22 : decode mi_Branchwork_nearness.2.1 22 = .ok (.aload_n 0, 1) := by decide +kernel
theorem jd_Branchwork_nearness_23 : decode mi_Branchwork_nearness.2.1 23 = .ok (.getfield 19, 3) := by decide +kernel
theorem jd_Branchwork_nearness_26 : decode mi_Branchwork_nearness.2.1 26 = .ok (.iload_n 3, 1) := by decide +kernel
theorem jd_Branchwork_nearness_27 : decode mi_Branchwork_nearness.2.1 27 = .ok (.invokevirtual 140, 3) := by decide +kernel
theorem jd_Branchwork_nearness_30 : decode mi_Branchwork_nearness.2.1 30 = .ok (.iload 4, 2) := by decide +kernel
theorem jd_Branchwork_nearness_32 : decode mi_Branchwork_nearness.2.1 32 = .ok (.invokestatic 110, 3) := by decide +kernel
theorem jd_Branchwork_nearness_35 : decode mi_Branchwork_nearness.2.1 35 = .ok (.aload_n 0, 1) := by decide +kernel
theorem jd_Branchwork_nearness_36 : decode mi_Branchwork_nearness.2.1 36 = .ok (.getfield 47, 3) := by decide +kernel
theorem jd_Branchwork_nearness_39 : decode mi_Branchwork_nearness.2.1 39 = .ok (.aload_n 0, 1) := by decide +kernel
theorem jd_Branchwork_nearness_40 : decode mi_Branchwork_nearness.2.1 40 = .ok (.getfield 19, 3) := by decide +kernel
theorem jd_Branchwork_nearness_43 : decode mi_Branchwork_nearness.2.1 43 = .ok (.iload_n 1, 1) := by decide +kernel
theorem jd_Branchwork_nearness_44 : decode mi_Branchwork_nearness.2.1 44 = .ok (.invokevirtual 140, 3) := by decide +kernel
theorem jd_Branchwork_nearness_47 : decode mi_Branchwork_nearness.2.1 47 = .ok (.iload_n 2, 1) := by decide +kernel
theorem jd_Branchwork_nearness_48 : decode mi_Branchwork_nearness.2.1 48 = .ok (.invokevirtual 75, 3) := by decide +kernel
theorem jd_Branchwork_nearness_51 : decode mi_Branchwork_nearness.2.1 51 = .ok (.aload_n 0, 1) := by decide +kernel
theorem jd_Branchwork_nearness_52 : decode mi_Branchwork_nearness.2.1 52 = .ok (.getfield 19, 3) := by decide +kernel
theorem jd_Branchwork_nearness_55 : decode mi_Branchwork_nearness.2.1 55 = .ok (.iload_n 3, 1) := by decide +kernel
theorem jd_Branchwork_nearness_56 : decode mi_Branchwork_nearness.2.1 56 = .ok (.invokevirtual 140, 3) := by decide +kernel
theorem jd_Branchwork_nearness_59 : decode mi_Branchwork_nearness.2.1 59 = .ok (.iload 4, 2) := by decide +kernel
theorem jd_Branchwork_nearness_61 : decode mi_Branchwork_nearness.2.1 61 = .ok (.invokevirtual 75, 3) := by decide +kernel
theorem jd_Branchwork_nearness_64 : decode mi_Branchwork_nearness.2.1 64 = .ok (.invokevirtual 287, 3) := by decide +kernel
theorem jd_Branchwork_nearness_67 : decode mi_Branchwork_nearness.2.1 67 = .ok (.ireturn, 1) := by decide +kernel
theorem jd_Branchwork_origin_0 : decode mi_Branchwork_origin.2.1 0 = .ok (.aload_n 0, 1) := by decide +kernel
theorem jd_Branchwork_origin_1 : decode mi_Branchwork_origin.2.1 1 = .ok (.iload_n 1, 1) := by decide +kernel
theorem jd_Branchwork_origin_2 : decode mi_Branchwork_origin.2.1 2 = .ok (.invokevirtual 180, 3) := by decide +kernel
theorem jd_Branchwork_origin_5 : decode mi_Branchwork_origin.2.1 5 = .ok (.aload_n 0, 1) := by decide +kernel
theorem jd_Branchwork_origin_6 : decode mi_Branchwork_origin.2.1 6 = .ok (.getfield 19, 3) := by decide +kernel
theorem jd_Branchwork_origin_9 : decode mi_Branchwork_origin.2.1 9 = .ok (.iload_n 1, 1) := by decide +kernel
theorem jd_Branchwork_origin_10 : decode mi_Branchwork_origin.2.1 10 = .ok (.invokevirtual 140, 3) := by decide +kernel
theorem jd_Branchwork_origin_13 : decode mi_Branchwork_origin.2.1 13 = .ok (.iload_n 2, 1) := by decide +kernel
theorem jd_Branchwork_origin_14 : decode mi_Branchwork_origin.2.1 14 = .ok (.invokestatic 110, 3) := by decide +kernel
theorem jd_Branchwork_origin_17 : decode mi_Branchwork_origin.2.1 17 = .ok (.aload_n 0, 1) := by decide +kernel
theorem jd_Branchwork_origin_18 : decode mi_Branchwork_origin.2.1 18 = .ok (.getfield 19, 3) := by decide +kernel
theorem jd_Branchwork_origin_21 : decode mi_Branchwork_origin.2.1 21 = .ok (.iload_n 1, 1) := by decide +kernel
theorem jd_Branchwork_origin_22 : decode mi_Branchwork_origin.2.1 22 = .ok (.invokevirtual 140, 3) := by decide +kernel
theorem jd_Branchwork_origin_25 : decode mi_Branchwork_origin.2.1 25 = .ok (.iload_n 2, 1) := by decide +kernel
theorem jd_Branchwork_origin_26 : decode mi_Branchwork_origin.2.1 26 = .ok (.invokevirtual 75, 3) := by decide +kernel
theorem jd_Branchwork_origin_29 : decode mi_Branchwork_origin.2.1 29 = .ok (.iload_n 3, 1) := by decide +kernel
theorem jd_Branchwork_origin_30 : decode mi_Branchwork_origin.2.1 30 = .ok (.invokestatic 114, 3) := by decide +kernel
theorem jd_Branchwork_origin_33 : decode mi_Branchwork_origin.2.1 33 = .ok (.iload_n 1, 1) := by decide +kernel
theorem jd_Branchwork_origin_34 : decode mi_Branchwork_origin.2.1 34 = .ok (.istore 4, 2) := by decide +kernel
theorem jd_Branchwork_origin_36 : decode mi_Branchwork_origin.2.1 36 = .ok (.iload_n 2, 1) := by decide +kernel
theorem jd_Branchwork_origin_37 : decode mi_Branchwork_origin.2.1 37 = .ok (.bipush 10, 2) := by decide +kernel
theorem jd_Branchwork_origin_39 : decode mi_Branchwork_origin.2.1 39 = .ok (.imul, 1) := by decide +kernel
theorem jd_Branchwork_origin_40 : decode mi_Branchwork_origin.2.1 40 = .ok (.iload_n 3, 1) := by decide +kernel
theorem jd_Branchwork_origin_41 : decode mi_Branchwork_origin.2.1 41 = .ok (.iadd, 1) := by decide +kernel
theorem jd_Branchwork_origin_42 : decode mi_Branchwork_origin.2.1 42 = .ok (.istore 5, 2) := by decide +kernel
theorem jd_Branchwork_origin_44 : decode mi_Branchwork_origin.2.1 44 = .ok (.iconst 0, 1) := by decide +kernel
theorem jd_Branchwork_origin_45 : decode mi_Branchwork_origin.2.1 45 = .ok (.istore 6, 2) := by decide +kernel
theorem jd_Branchwork_origin_47 : decode mi_Branchwork_origin.2.1 47 = .ok (.iload 6, 2) := by decide +kernel
theorem jd_Branchwork_origin_49 : decode mi_Branchwork_origin.2.1 49 = .ok (.bipush 30, 2) := by decide +kernel
theorem jd_Branchwork_origin_51 : decode mi_Branchwork_origin.2.1 51 = .ok (.if_icmp .ge 78, 3) := by decide +kernel
theorem jd_Branchwork_origin_54 : decode mi_Branchwork_origin.2.1 54 = .ok (.aload_n 0, 1) := by decide +kernel
theorem jd_Branchwork_origin_55 : decode mi_Branchwork_origin.2.1 55 = .ok (.getfield 19, 3) := by decide +kernel
theorem jd_Branchwork_origin_58 : decode mi_Branchwork_origin.2.1 58 = .ok (.iload 4, 2) := by decide +kernel
theorem jd_Branchwork_origin_60 : decode mi_Branchwork_origin.2.1 60 = .ok (.invokevirtual 239, 3) := by decide +kernel
theorem jd_Branchwork_origin_63 : decode mi_Branchwork_origin.2.1 63 = .ok (.istore 7, 2) := by decide +kernel
theorem jd_Branchwork_origin_65 : decode mi_Branchwork_origin.2.1 65 = .ok (.aload_n 0, 1) := by decide +kernel
theorem jd_Branchwork_origin_66 : decode mi_Branchwork_origin.2.1 66 = .ok (.iload 7, 2) := by decide +kernel
theorem jd_Branchwork_origin_68 : decode mi_Branchwork_origin.2.1 68 = .ok (.iload 4, 2) := by decide +kernel
theorem jd_Branchwork_origin_70 : decode mi_Branchwork_origin.2.1 70 = .ok (.iload 5, 2) := by decide +kernel
theorem jd_Branchwork_origin_72 : decode mi_Branchwork_origin.2.1 72 = .ok (.invokevirtual 291, 3) := by decide +kernel
theorem jd_Branchwork_origin_75 : decode mi_Branchwork_origin.2.1 75 = .ok (.istore 8, 2) := by decide +kernel
theorem jd_Branchwork_origin_77 : decode mi_Branchwork_origin.2.1 77 = .ok (.iload 8, 2) := by decide +kernel
theorem jd_Branchwork_origin_79 : decode mi_Branchwork_origin.2.1 79 = .ok (.iconst (-1), 1) := by decide +kernel
theorem jd_Branchwork_origin_80 : decode mi_Branchwork_origin.2.1 80 = .ok (.if_icmp .ne 26, 3) := by decide +kernel
theorem jd_Branchwork_origin_83 : decode mi_Branchwork_origin.2.1 83 = .ok (.aload_n 0, 1) := by decide +kernel
theorem jd_Branchwork_origin_84 : decode mi_Branchwork_origin.2.1 84 = .ok (.getfield 19, 3) := by decide +kernel
theorem jd_Branchwork_origin_87 : decode mi_Branchwork_origin.2.1 87 = .ok (.iload 4, 2) := by decide +kernel
theorem jd_Branchwork_origin_89 : decode mi_Branchwork_origin.2.1 89 = .ok (.invokevirtual 242, 3) := by decide +kernel
theorem jd_Branchwork_origin_92 : decode mi_Branchwork_origin.2.1 92 = .ok (.istore 7, 2) := by decide +kernel
theorem jd_Branchwork_origin_94 : decode mi_Branchwork_origin.2.1 94 = .ok (.aload_n 0, 1) := by decide +kernel
theorem jd_Branchwork_origin_95 : decode mi_Branchwork_origin.2.1 95 = .ok (.iload 7, 2) := by decide +kernel
theorem jd_Branchwork_origin_97 : decode mi_Branchwork_origin.2.1 97 = .ok (.iload 4, 2) := by decide +kernel
theorem jd_Branchwork_origin_99 : decode mi_Branchwork_origin.2.1 99 = .ok (.iload 5, 2) := by decide +kernel
theorem jd_Branchwork_origin_101 : decode mi_Branchwork_origin.2.1 101 = .ok (.invokevirtual 291, 3) := by decide +kernel
theorem jd_Branchwork_origin_104 : decode mi_Branchwork_origin.2.1 104 = .ok (.istore 8, 2) := by decide +kernel
theorem jd_Branchwork_origin_106 : decode mi_Branchwork_origin.2.1 106 = .ok (.iload 8, 2) := by decide +kernel
theorem jd_Branchwork_origin_108 : decode mi_Branchwork_origin.2.1 108 = .ok (.iconst (-1), 1) := by decide +kernel
theorem jd_Branchwork_origin_109 : decode mi_Branchwork_origin.2.1 109 = .ok (.if_icmp .ne 6, 3) := by decide +kernel
theorem jd_Branchwork_origin_112 : decode mi_Branchwork_origin.2.1 112 = .ok (.iload 4, 2) := by decide +kernel
theorem jd_Branchwork_origin_114 : decode mi_Branchwork_origin.2.1 114 = .ok (.ireturn, 1) := by decide +kernel
theorem jd_Branchwork_origin_115 : decode mi_Branchwork_origin.2.1 115 = .ok (.iload 7, 2) := by decide +kernel
theorem jd_Branchwork_origin_117 : decode mi_Branchwork_origin.2.1 117 = .ok (.istore 4, 2) := by decide +kernel
theorem jd_Branchwork_origin_119 : decode mi_Branchwork_origin.2.1 119 = .ok (.iload 8, 2) := by decide +kernel
theorem jd_Branchwork_origin_121 : decode mi_Branchwork_origin.2.1 121 = .ok (.istore 5, 2) := by decide +kernel
theorem jd_Branchwork_origin_123 : decode mi_Branchwork_origin.2.1 123 = .ok (.iinc 6 1, 3) := by decide +kernel
theorem jd_Branchwork_origin_126 : decode mi_Branchwork_origin.2.1 126 = .ok (.goto (-79), 3) := by decide +kernel
theorem jd_Branchwork_origin_129 : decode mi_Branchwork_origin.2.1 129 = .ok (.iload 4, 2) := by decide +kernel
theorem jd_Branchwork_origin_131 : decode mi_Branchwork_origin.2.1 131 = .ok (.ireturn, 1) := by decide +kernel
theorem jd_Branchwork_conflictsOf_0 : decode mi_Branchwork_conflictsOf.2.1 0 = .ok (.aload_n 0, 1) := by decide +kernel
theorem jd_Branchwork_conflictsOf_1 : decode mi_Branchwork_conflictsOf.2.1 1 = .ok (.iload_n 1, 1) := by decide +kernel
theorem jd_Branchwork_conflictsOf_2 : decode mi_Branchwork_conflictsOf.2.1 2 = .ok (.invokevirtual 180, 3) := by decide +kernel
theorem jd_Branchwork_conflictsOf_5 : decode mi_Branchwork_conflictsOf.2.1 5 = .ok (.aload_n 0, 1) := by decide +kernel
theorem jd_Branchwork_conflictsOf_6 : decode mi_Branchwork_conflictsOf.2.1 6 = .ok (.iload_n 2, 1) := by decide +kernel
theorem jd_Branchwork_conflictsOf_7 : decode mi_Branchwork_conflictsOf.2.1 7 = .ok (.invokevirtual 180, 3) := by decide +kernel
theorem jd_Branchwork_conflictsOf_10 : decode mi_Branchwork_conflictsOf.2.1 10 = .ok (.aload_n 0, 1) := by decide +kernel
theorem jd_Branchwork_conflictsOf_11 : decode mi_Branchwork_conflictsOf.2.1 11 = .ok (.getfield 19, 3) := by decide +kernel
theorem jd_Branchwork_conflictsOf_14 : decode mi_Branchwork_conflictsOf.2.1 14 = .ok (.iload_n 1, 1) := by decide +kernel
theorem jd_Branchwork_conflictsOf_15 : decode mi_Branchwork_conflictsOf.2.1 15 = .ok (.iload_n 2, 1) := by decide +kernel
theorem jd_Branchwork_conflictsOf_16 : decode mi_Branchwork_conflictsOf.2.1 16 = .ok (.invokevirtual 186, 3) := by decide +kernel
theorem jd_Branchwork_conflictsOf_19 : decode mi_Branchwork_conflictsOf.2.1 19 = .ok (.istore_n 3, 1) := by decide +kernel
theorem jd_Branchwork_conflictsOf_20 : decode mi_Branchwork_conflictsOf.2.1 20 = .ok (.aload_n 0, 1) := by decide +kernel
theorem jd_Branchwork_conflictsOf_21 : decode mi_Branchwork_conflictsOf.2.1 21 = .ok (.getfield 26, 3) := by decide +kernel
theorem jd_Branchwork_conflictsOf_24 : decode mi_Branchwork_conflictsOf.2.1 24 = .ok (.aload_n 0, 1) := by decide +kernel
theorem jd_Branchwork_conflictsOf_25 : decode mi_Branchwork_conflictsOf.2.1 25 = .ok (.getfield 19, 3) := by decide +kernel
theorem jd_Branchwork_conflictsOf_28 : decode mi_Branchwork_conflictsOf.2.1 28 = .ok (.iload_n 3, 1) := by decide +kernel
theorem jd_Branchwork_conflictsOf_29 : decode mi_Branchwork_conflictsOf.2.1 29 = .ok (.invokevirtual 140, 3) := by decide +kernel
theorem jd_Branchwork_conflictsOf_32 : decode mi_Branchwork_conflictsOf.2.1 32 = .ok (.aload_n 0, 1) := by decide +kernel
theorem jd_Branchwork_conflictsOf_33 : decode mi_Branchwork_conflictsOf.2.1 33 = .ok (.getfield 19, 3) := by decide +kernel
theorem jd_Branchwork_conflictsOf_36 : decode mi_Branchwork_conflictsOf.2.1 36 = .ok (.iload_n 1, 1) := by decide +kernel
theorem jd_Branchwork_conflictsOf_37 : decode mi_Branchwork_conflictsOf.2.1 37 = .ok (.invokevirtual 140, 3) := by decide +kernel
theorem jd_Branchwork_conflictsOf_40 : decode mi_Branchwork_conflictsOf.2.1 40 = .ok (.aload_n 0, 1) := by decide +kernel
theorem jd_Branchwork_conflictsOf_41 : decode mi_Branchwork_conflictsOf.2.1 41 = .ok (.getfield 19, 3) := by decide +kernel
theorem jd_Branchwork_conflictsOf_44 : decode mi_Branchwork_conflictsOf.2.1 44 = .ok (.iload_n 2, 1) := by decide +kernel
theorem jd_Branchwork_conflictsOf_45 : decode mi_Branchwork_conflictsOf.2.1 45 = .ok (.invokevirtual 140, 3) := by decide +kernel
theorem jd_Branchwork_conflictsOf_48 : decode mi_Branchwork_conflictsOf.2.1 48 = .ok (.invokevirtual 190, 3) := by decide +kernel
theorem jd_Branchwork_conflictsOf_51 : decode mi_Branchwork_conflictsOf.2.1 51 = .ok (.aload_n 0, 1) := by decide +kernel
theorem jd_Branchwork_conflictsOf_52 : decode mi_Branchwork_conflictsOf.2.1 52 = .ok (.getfield 26, 3) := by decide +kernel
theorem jd_Branchwork_conflictsOf_55 : decode mi_Branchwork_conflictsOf.2.1 55 = .ok (.invokevirtual 198, 3) := by decide +kernel
theorem jd_Branchwork_conflictsOf_58 : decode mi_Branchwork_conflictsOf.2.1 58 = .ok (.invokevirtual 153, 3) := by decide +kernel
theorem jd_Branchwork_conflictsOf_61 : decode mi_Branchwork_conflictsOf.2.1 61 = .ok (.ireturn, 1) := by decide +kernel
theorem jd_Branchwork_meanLines_0 : decode mi_Branchwork_meanLines.2.1 0 = .ok (.aload_n 0, 1) := by decide +kernel
theorem jd_Branchwork_meanLines_1 : decode mi_Branchwork_meanLines.2.1 1 = .ok (.getfield 19, 3) := by decide +kernel
theorem jd_Branchwork_meanLines_4 : decode mi_Branchwork_meanLines.2.1 4 = .ok (.aload_n 0, 1) := by decide +kernel
theorem jd_Branchwork_meanLines_5 : decode mi_Branchwork_meanLines.2.1 5 = .ok (.getfield 19, 3) := by decide +kernel
theorem jd_Branchwork_meanLines_8 : decode mi_Branchwork_meanLines.2.1 8 = .ok (.invokevirtual 220, 3) := by decide +kernel
theorem jd_Branchwork_meanLines_11 : decode mi_Branchwork_meanLines.2.1 11 = .ok (.invokevirtual 232, 3) := by decide +kernel
theorem jd_Branchwork_meanLines_14 : decode mi_Branchwork_meanLines.2.1 14 = .ok (.istore_n 1, 1) := by decide +kernel
theorem jd_Branchwork_meanLines_15 : decode mi_Branchwork_meanLines.2.1 15 = .ok (.iload_n 1, 1) := by decide +kernel
theorem jd_Branchwork_meanLines_16 : decode mi_Branchwork_meanLines.2.1 16 = .ok (.ifCond .gt 5, 3) := by decide +kernel
theorem jd_Branchwork_meanLines_19 : decode mi_Branchwork_meanLines.2.1 19 = .ok (.dconst 0, 1) := by decide +kernel
theorem jd_Branchwork_meanLines_20 : decode mi_Branchwork_meanLines.2.1 20 = .ok (.dreturn, 1) := by decide +kernel
theorem jd_Branchwork_meanLines_21 : decode mi_Branchwork_meanLines.2.1 21 = .ok (.aload_n 0, 1) := by decide +kernel
theorem jd_Branchwork_meanLines_22 : decode mi_Branchwork_meanLines.2.1 22 = .ok (.getfield 19, 3) := by decide +kernel
theorem jd_Branchwork_meanLines_25 : decode mi_Branchwork_meanLines.2.1 25 = .ok (.aload_n 0, 1) := by decide +kernel
theorem jd_Branchwork_meanLines_26 : decode mi_Branchwork_meanLines.2.1 26 = .ok (.getfield 19, 3) := by decide +kernel
theorem jd_Branchwork_meanLines_29 : decode mi_Branchwork_meanLines.2.1 29 = .ok (.invokevirtual 220, 3) := by decide +kernel
theorem jd_Branchwork_meanLines_32 : decode mi_Branchwork_meanLines.2.1 32 = .ok (.invokevirtual 298, 3) := by decide +kernel
theorem jd_Branchwork_meanLines_35 : decode mi_Branchwork_meanLines.2.1 35 = .ok (.i2d, 1) := by decide +kernel
theorem jd_Branchwork_meanLines_36 : decode mi_Branchwork_meanLines.2.1 36 = .ok (.iload_n 1, 1) := by decide +kernel
theorem jd_Branchwork_meanLines_37 : decode mi_Branchwork_meanLines.2.1 37 = .ok (.i2d, 1) := by decide +kernel
theorem jd_Branchwork_meanLines_38 : decode mi_Branchwork_meanLines.2.1 38 = .ok (.ddiv, 1) := by decide +kernel
theorem jd_Branchwork_meanLines_39 : decode mi_Branchwork_meanLines.2.1 39 = .ok (.dreturn, 1) := by decide +kernel
section
variable {o : jw_O} {μ : jw_Mem} {hs b : Nat}
theorem by_isFull {h : Nat} {N : Nat → Nat → Nat} {Z : Nat → Nat → Int32} {G : Nat → Nat → Nat → Int32} {nt f1 f2 tn cn : Nat → Int32} {kp : Int32} (x : bh_At o μ h N Z G nt f1 f2 tn cn 0 kp) : jw_Ro mi_History_isFull 0 o [.ref h] μ hs (some (.int 0)) := by
  refine jw_ro (by decide +kernel) (Nat.le_of_ble_eq_true rfl) rfl (fun k hR hE => ?_)
  have h0 := x.1
  refine jw_aload_n (pc' := 1) jd_History_isFull_0 rfl rfl rfl ?_
  refine jw_get (pc' := 4) (kf := 8) jc_History (by decide) jq_141 jd_History_isFull_1 (by assumption) rfl rfl ?_
  refine jw_bipush (pc' := 6) (v := nI 30) jd_History_isFull_4 (by decide +kernel) rfl ?_
  refine jw_icmp_lt (tgt := 13) (pc' := 9) jd_History_isFull_6 (by decide) rfl (fun c => ?_) (fun c => ?_)
  · refine jw_iconst (pc' := 14) (v := nI 0) jd_History_isFull_13 (by decide +kernel) rfl ?_
    refine jw_zret hE jd_History_isFull_14 rfl (by first | exact vp_nar_int _ | decide +kernel) (by omega) (by omega) ?_
    exact ⟨rfl, rfl, rfl⟩
  · exact absurd (by decide : (0 : Int32) < nI 30) c
theorem by_howMany {c n : Nat} {f s : Nat → Int32} (x : bk_At o μ c n f s) : jw_Ro mi_Conflicts_howMany 0 o [.ref c] μ hs (some (.int (nI n))) := by
  refine jw_ro (by decide +kernel) (Nat.le_of_ble_eq_true rfl) rfl (fun k hR hE => ?_)
  have h0 := x.1
  refine jw_aload_n (pc' := 1) jd_Conflicts_howMany_0 rfl rfl rfl ?_
  refine jw_get (pc' := 4) (kf := 2) jc_Conflicts (by decide) jq_180 jd_Conflicts_howMany_1 (by assumption) rfl rfl ?_
  refine jw_iret hE jd_Conflicts_howMany_4 rfl (by omega) (by omega) ?_
  exact ⟨rfl, rfl, rfl⟩
def kx_commit (x : Int32) : Nat := if x < 0 ∨ nI 999 < x then 1 else 2
theorem by_commit (h : bw_New o μ b) (x : Int32) : jy_F mi_Branchwork_commit o [.ref b, .int x] μ hs b [jx_IA, jx_IS] (kx_commit x) (.int 0) := by
  refine jw_specX (by decide +kernel) (Nat.le_of_ble_eq_true rfl) rfl (fun k hR hX => ?_)
  have hN := h
  obtain ⟨h0, hT, hH, -, hK, -⟩ := h
  have hH0 := hH.1
  have hK0 := hK.1
  refine jw_iload_n (pc' := 1) jd_Branchwork_commit_0 rfl rfl rfl ?_
  refine jw_if_lt (tgt := 11) (pc' := 4) jd_Branchwork_commit_1 (by decide) rfl (fun c => ?_) (fun c => ?_)
  · refine jw_throwS hR hX jt_IllegalArgumentException js_Branchwork_148 jd_Branchwork_commit_11 jd_Branchwork_commit_14 jd_Branchwork_commit_15 jd_Branchwork_commit_17 jd_Branchwork_commit_20 (Nat.le_of_ble_eq_true rfl) (by omega) (by omega) (by omega) (fun s9 hle9 => ?_)
    exact ⟨⟨0, rfl, by unfold kx_commit; rw [if_pos (Or.inl c)]⟩, jw_Fr.rf⟩
  refine jw_iload_n (pc' := 5) jd_Branchwork_commit_4 rfl rfl rfl ?_
  refine jw_sipush (pc' := 8) (v := nI 999) jd_Branchwork_commit_5 (by decide +kernel) rfl ?_
  refine jw_icmp_le (tgt := 21) (pc' := 11) jd_Branchwork_commit_8 (by decide) rfl (fun c2 => ?_) (fun c2 => ?_)
  rotate_left
  · refine jw_throwS hR hX jt_IllegalArgumentException js_Branchwork_148 jd_Branchwork_commit_11 jd_Branchwork_commit_14 jd_Branchwork_commit_15 jd_Branchwork_commit_17 jd_Branchwork_commit_20 (Nat.le_of_ble_eq_true rfl) (by omega) (by omega) (by omega) (fun s9 hle9 => ?_)
    exact ⟨⟨0, rfl, by unfold kx_commit; rw [if_pos (Or.inr (Int32.not_le.mp c2))]⟩, jw_Fr.rf⟩
  refine jw_aload_n (pc' := 22) jd_Branchwork_commit_21 rfl rfl rfl ?_
  refine jw_get (pc' := 25) (kf := 1) jc_Branchwork (by decide) jq_284 jd_Branchwork_commit_22 (by assumption) rfl rfl ?_
  refine jw_callV0 (pc' := 28) hR (by_isFull hH) jm_History_isFull jq_694 jc_History jd_Branchwork_commit_25 (by assumption) rfl rfl (Nat.le_of_ble_eq_true rfl) (by omega) (by decide) (by omega) (by omega) rfl rfl ?_
  refine jw_if_eq (tgt := 41) (pc' := 31) jd_Branchwork_commit_28 (by decide) rfl (fun c3 => ?_) (fun c3 => ?_)
  rotate_left
  · exact absurd rfl c3
  refine jw_aload_n (pc' := 42) jd_Branchwork_commit_41 rfl rfl rfl ?_
  refine jw_get (pc' := 45) (kf := 3) jc_Branchwork (by decide) jq_286 jd_Branchwork_commit_42 (by assumption) rfl rfl ?_
  refine jw_callV0 (pc' := 48) hR (by_howMany hK) jm_Conflicts_howMany jq_413 jc_Conflicts jd_Branchwork_commit_45 (by assumption) rfl rfl (Nat.le_of_ble_eq_true rfl) (by omega) (by decide) (by omega) (by omega) rfl rfl ?_
  refine jw_if_le (tgt := 61) (pc' := 51) jd_Branchwork_commit_48 (by decide) rfl (fun c4 => ?_) (fun c4 => ?_)
  rotate_left
  · exact absurd (by decide : (nI 0 : Int32) ≤ 0) c4
  refine jw_aload_n (pc' := 62) jd_Branchwork_commit_61 rfl rfl rfl ?_
  refine jw_get (pc' := 65) (kf := 9) jc_Branchwork (by decide) jq_292 jd_Branchwork_commit_62 (by assumption) rfl rfl ?_
  refine jw_iconst (pc' := 66) (v := -1) jd_Branchwork_commit_65 (by decide +kernel) rfl ?_
  refine jw_icmp_ne (tgt := 86) (pc' := 69) jd_Branchwork_commit_66 (by decide) rfl (fun c5 => ?_) (fun c5 => ?_)
  · exact absurd (by decide) c5
  refine jw_aload_n (pc' := 70) jd_Branchwork_commit_69 rfl rfl rfl ?_
  refine jw_callV0 (pc' := 73) hR (by_isClean hN) jm_Branchwork_isClean jq_700 jc_Branchwork jd_Branchwork_commit_70 (by assumption) rfl rfl (Nat.le_of_ble_eq_true rfl) (by omega) (by decide) (by omega) (by omega) rfl rfl ?_
  refine jw_if_eq (tgt := 86) (pc' := 76) jd_Branchwork_commit_73 (by decide) rfl (fun c6 => ?_) (fun c6 => ?_)
  · exact absurd c6 (by decide)
  refine jw_throwS hR hX jt_IllegalStateException js_Branchwork_161 jd_Branchwork_commit_76 jd_Branchwork_commit_79 jd_Branchwork_commit_80 jd_Branchwork_commit_82 jd_Branchwork_commit_85 (Nat.le_of_ble_eq_true rfl) (by omega) (by omega) (by omega) (fun s9 hle9 => ?_)
  exact ⟨⟨1, rfl, by unfold kx_commit; rw [if_neg (fun z => z.elim c (fun z => absurd c2 (Int32.not_le.mpr z)))]⟩, jw_Fr.rf⟩
theorem by_branch (h : bw_New o μ b) : jy_F mi_Branchwork_branch o [.ref b] μ hs b [jx_IS] 1 (.int 0) := by
  refine jw_specX (by decide +kernel) (Nat.le_of_ble_eq_true rfl) rfl (fun k hR hX => ?_)
  have hN := h
  obtain ⟨h0, -⟩ := h
  refine jw_aload_n (pc' := 1) jd_Branchwork_branch_0 rfl rfl rfl ?_
  refine jw_callV0 (pc' := 4) hR (by_head hN) jm_Branchwork_head jq_494 jc_Branchwork jd_Branchwork_branch_1 (by assumption) rfl rfl (Nat.le_of_ble_eq_true rfl) (by omega) (by decide) (by omega) (by omega) rfl rfl ?_
  refine jw_iconst (pc' := 5) (v := -1) jd_Branchwork_branch_4 (by decide +kernel) rfl ?_
  refine jw_icmp_ne (tgt := 18) (pc' := 8) jd_Branchwork_branch_5 (by decide) rfl (fun c => ?_) (fun c => ?_)
  · exact absurd (by decide) c
  refine jw_throwS hR hX jt_IllegalStateException js_Branchwork_167 jd_Branchwork_branch_8 jd_Branchwork_branch_11 jd_Branchwork_branch_12 jd_Branchwork_branch_14 jd_Branchwork_branch_17 (Nat.le_of_ble_eq_true rfl) (by omega) (by omega) (by omega) (fun s9 hle9 => ?_)
  exact ⟨⟨0, rfl, rfl⟩, jw_Fr.rf⟩
def kx_z (x : Int32) : Nat := if x = 0 then 0 else 1
theorem jx_lt1 {x : Int32} (h : ¬ x < 0) (h1 : x < 1) : x = 0 := by
  rcases fa_three x 0 with z | z | z
  · exact absurd z h
  · exact z
  · have a := Int32.lt_iff_toInt_lt.mp z
    have c := Int32.lt_iff_toInt_lt.mp h1
    have d0 : (0 : Int32).toInt = 0 := by decide
    have d1 : (1 : Int32).toInt = 1 := by decide
    omega
theorem by_requireBranch (h : bw_New o μ b) (x : Int32) : jw_SpX mi_Branchwork_requireBranch 6 1 6 o [.ref b, .int x] μ hs (fun v μ' s' => v = none ∧ μ' = μ ∧ s' = hs ∧ x = 0) (fun E μ' s' => E = jx_IO ∧ μ' = μ ∧ kx_z x = 1) := by
  refine jw_specX (by decide +kernel) (Nat.le_of_ble_eq_true rfl) rfl (fun k hR hX => ?_)
  have hE := hX.E
  obtain ⟨h0, -⟩ := h
  refine jw_iload_n (pc' := 1) jd_Branchwork_requireBranch_0 rfl rfl rfl ?_
  refine jw_if_lt (tgt := 12) (pc' := 4) jd_Branchwork_requireBranch_1 (by decide) rfl (fun c => ?_) (fun c => ?_)
  · refine jw_throwSW hR hX jt_IndexOutOfBoundsException js_Branchwork_360 jd_Branchwork_requireBranch_12 jd_Branchwork_requireBranch_15 jd_Branchwork_requireBranch_16 jd_Branchwork_requireBranch_19 jd_Branchwork_requireBranch_22 (Nat.le_of_ble_eq_true rfl) (by omega) (by omega) (by omega) (fun s9 hle9 => ?_)
    exact ⟨rfl, rfl, by unfold kx_z; rw [if_neg (fun e => by rw [e] at c; exact absurd c (by decide))]⟩
  refine jw_iload_n (pc' := 5) jd_Branchwork_requireBranch_4 rfl rfl rfl ?_
  refine jw_aload_n (pc' := 6) jd_Branchwork_requireBranch_5 rfl rfl rfl ?_
  refine jw_get (pc' := 9) (kf := 7) jc_Branchwork (by decide) jq_290 jd_Branchwork_requireBranch_6 (by assumption) rfl rfl ?_
  refine jw_icmp_lt (tgt := 23) (pc' := 12) jd_Branchwork_requireBranch_9 (by decide) rfl (fun c2 => ?_) (fun c2 => ?_)
  · refine jw_vret hE jd_Branchwork_requireBranch_23 rfl (by omega) (by omega) ?_
    exact ⟨rfl, rfl, rfl, jx_lt1 c c2⟩
  · refine jw_throwSW hR hX jt_IndexOutOfBoundsException js_Branchwork_360 jd_Branchwork_requireBranch_12 jd_Branchwork_requireBranch_15 jd_Branchwork_requireBranch_16 jd_Branchwork_requireBranch_19 jd_Branchwork_requireBranch_22 (Nat.le_of_ble_eq_true rfl) (by omega) (by omega) (by omega) (fun s9 hle9 => ?_)
    exact ⟨rfl, rfl, by unfold kx_z; rw [if_neg (fun e => by rw [e] at c2; exact absurd (by decide : (0 : Int32) < 1) c2)]⟩
theorem by_requireClean (h : bw_New o μ b) : jw_SpX mi_Branchwork_requireCleanAndUnmerged 6 1 6 o [.ref b] μ hs (fun v μ' s' => v = none ∧ μ' = μ ∧ s' = hs) (fun E μ' s' => False) := by
  refine jw_specX (by decide +kernel) (Nat.le_of_ble_eq_true rfl) rfl (fun k hR hX => ?_)
  have hE := hX.E
  have hN := h
  obtain ⟨h0, -⟩ := h
  refine jw_aload_n (pc' := 1) jd_Branchwork_requireCleanAndUnmerged_0 rfl rfl rfl ?_
  refine jw_callV0 (pc' := 4) hR (by_isClean hN) jm_Branchwork_isClean jq_700 jc_Branchwork jd_Branchwork_requireCleanAndUnmerged_1 (by assumption) rfl rfl (Nat.le_of_ble_eq_true rfl) (by omega) (by decide) (by omega) (by omega) rfl rfl ?_
  refine jw_if_ne (tgt := 18) (pc' := 7) jd_Branchwork_requireCleanAndUnmerged_4 (by decide) rfl (fun c => ?_) (fun c => ?_)
  rotate_left
  · exact absurd c (by decide)
  refine jw_aload_n (pc' := 19) jd_Branchwork_requireCleanAndUnmerged_18 rfl rfl rfl ?_
  refine jw_get (pc' := 22) (kf := 9) jc_Branchwork (by decide) jq_292 jd_Branchwork_requireCleanAndUnmerged_19 (by assumption) rfl rfl ?_
  refine jw_iconst (pc' := 23) (v := -1) jd_Branchwork_requireCleanAndUnmerged_22 (by decide +kernel) rfl ?_
  refine jw_icmp_eq (tgt := 37) (pc' := 26) jd_Branchwork_requireCleanAndUnmerged_23 (by decide) rfl (fun c2 => ?_) (fun c2 => ?_)
  · refine jw_vret hE jd_Branchwork_requireCleanAndUnmerged_37 rfl (by omega) (by omega) ?_
    exact ⟨rfl, rfl, rfl⟩
  · exact absurd (by decide) c2
theorem bc_copyFrom0 {a q : Nat} {g f : Nat → Int32} (h : bc_At o μ a 0 0 g) (h2 : bc_At o μ q 0 0 f) : jw_Spec mi_Content_copyFrom 1 0 0 o [.ref a, .ref q] μ hs (fun v μ' s' => v = none ∧ s' = hs ∧ bc_At o μ' a 0 0 g ∧ jw_Fr μ μ' a 2) := by
  sorry
theorem bt_copyFrom0 {t u : Nat} (h : bt_At o μ t (fun _ => 0) (fun _ => 0) (fun _ _ => 0)) (h2 : bt_At o μ u (fun _ => 0) (fun _ => 0) (fun _ _ => 0)) (hd : u + 28 ≤ t ∨ t + 28 ≤ u) : jw_Spec mi_Tree_copyFrom 2 0 0 o [.ref t, .ref u] μ hs (fun v μ' s' => v = none ∧ s' = hs ∧ jw_Fr μ μ' t 28) := by
  sorry
theorem by_change (h : bw_New o μ b) (x : Int32) : jy_F mi_Branchwork_change o [.ref b, .int x] μ hs b [jx_IO, jx_IS] (kx_z x) (.int 0) := by
  refine jw_specX (by decide +kernel) (Nat.le_of_ble_eq_true rfl) rfl (fun k hR hX => ?_)
  have hE := hX.E
  have hN := h
  obtain ⟨h0, hT, hH, -, -, -, -, ⟨f, hf, hf1⟩⟩ := h
  have hF : jw_Fr μ μ b 984 := jw_Fr.rf
  refine jw_aload_n (pc' := 1) jd_Branchwork_change_0 rfl rfl rfl ?_
  refine jw_iload_n (pc' := 2) jd_Branchwork_change_1 rfl rfl rfl ?_
  refine jw_callVX (pc' := 5) hR (by_requireBranch hN x) jm_Branchwork_requireBranch jq_503 jc_Branchwork jd_Branchwork_change_2 (by assumption) rfl rfl (Nat.le_of_ble_eq_true rfl) (by omega) (by decide) (by omega) (by omega) rfl (fun E9 q9 μ s9 hΨ hle9 => jw_out hX (by omega) (by omega) ?_) (fun v μ9 s9 q9 hle => ?_)
  · obtain ⟨rfl, rfl, hin⟩ := hΨ
    exact ⟨⟨0, rfl, hin⟩, jw_Fr.rf⟩
  obtain ⟨rfl, rfl, rfl, rfl⟩ := q9
  refine jw_aload_n (pc' := 6) jd_Branchwork_change_5 rfl rfl rfl ?_
  refine jw_callVX (pc' := 9) hR (by_requireClean hN) jm_Branchwork_requireCleanAndUnmerged jq_746 jc_Branchwork jd_Branchwork_change_6 (by assumption) rfl rfl (Nat.le_of_ble_eq_true rfl) (by omega) (by decide) (by omega) (by omega) rfl (fun E9 q9 μ s9 hΨ hle9 => jw_out hX (by omega) (by omega) ?_) (fun v μ9 s9 q9 hle => ?_)
  · exact hΨ.elim
  obtain ⟨rfl, rfl, rfl⟩ := q9
  refine jw_aload_n (pc' := 10) jd_Branchwork_change_9 rfl rfl rfl ?_
  refine jw_get (pc' := 13) (kf := 8) jc_Branchwork (by decide) jq_291 jd_Branchwork_change_10 (by assumption) rfl rfl ?_
  refine jw_istore_n (pc' := 14) (lc' := [(0, _), (1, _), (2, _)]) jd_Branchwork_change_13 rfl (Nat.le_of_ble_eq_true rfl) ⟨rfl, rfl, rfl, trivial⟩ rfl ?_
  refine jw_aload_n (pc' := 15) jd_Branchwork_change_14 rfl rfl rfl ?_
  refine jw_iload_n (pc' := 16) jd_Branchwork_change_15 rfl rfl rfl ?_
  refine jw_put (pc' := 19) (kf := 8) (ty := .int) (fs' := [_, _, _, _, _, _, _, _, _, _]) jc_Branchwork (by decide) jq_291 jd_Branchwork_change_16 rfl (by decide +kernel) (by assumption) rfl rfl rfl (Nat.le_of_ble_eq_true rfl) rfl (fun μ h0 f9 => ?_)
  have hF := jw_Fr.step hF f9 (by omega)
  have hT := hT.fr (jw_Fr.o f9) (by omega)
  have hH := hH.fr (jw_Fr.o f9) (by omega)
  have hf := hf.fr (jw_Fr.o f9) (by omega)
  refine jw_aload_n (pc' := 20) jd_Branchwork_change_19 rfl rfl rfl ?_
  refine jw_get (pc' := 23) (kf := 0) jc_Branchwork (by decide) jq_283 jd_Branchwork_change_20 (by assumption) rfl rfl ?_
  refine jw_aload_n (pc' := 24) jd_Branchwork_change_23 rfl rfl rfl ?_
  refine jw_get (pc' := 27) (kf := 1) jc_Branchwork (by decide) jq_284 jd_Branchwork_change_24 (by assumption) rfl rfl ?_
  refine jw_aload_n (pc' := 28) jd_Branchwork_change_27 rfl rfl rfl ?_
  have hN1 : jw_Ro mi_Branchwork_head 0 o [.ref b] μ s9 (some (.int (-1))) := by
    refine jw_ro (by decide +kernel) (Nat.le_of_ble_eq_true rfl) rfl (fun k hR hE => ?_)
    have hf9 : μ (b + 983) = some (.inl (o.2.2.1 0, 5, .inl f)) := hf
    refine jw_aload_n (pc' := 1) jd_Branchwork_head_0 rfl rfl rfl ?_
    refine jw_get (pc' := 4) (kf := 6) jc_Branchwork (by decide) jq_289 jd_Branchwork_head_1 (by assumption) rfl rfl ?_
    refine jw_aload_n (pc' := 5) jd_Branchwork_head_4 rfl rfl rfl ?_
    refine jw_get (pc' := 8) (kf := 8) jc_Branchwork (by decide) jq_291 jd_Branchwork_head_5 (by assumption) rfl rfl ?_
    refine jw_iald (pc' := 9) (i := 0) jd_Branchwork_head_8 (by assumption) rfl (vp_in_nI (n := 0) (by omega) (by omega)) ((congrArg f (nI_clamp (n := 0) (by omega))).trans (hf1 0 (by omega))) rfl ?_
    refine jw_iret hE jd_Branchwork_head_9 rfl (by omega) (by omega) ?_
    exact ⟨rfl, rfl, rfl⟩
  have hT0 := hT.1
  have hH0 := hH.1
  refine jw_callV0 (pc' := 31) hR (hN1) jm_Branchwork_head jq_494 jc_Branchwork jd_Branchwork_change_28 (by assumption) rfl rfl (Nat.le_of_ble_eq_true rfl) (by omega) (by decide) (by omega) (by omega) rfl rfl ?_
  refine jw_callV0 (pc' := 34) hR (by_treeOf hH (by decide)) jm_History_treeOf jq_531 jc_History jd_Branchwork_change_31 (by assumption) rfl rfl (Nat.le_of_ble_eq_true rfl) (by omega) (by decide) (by omega) (by omega) rfl rfl ?_
  refine jw_callV (pc' := 37) hR (bt_copyFrom0 hT hH.2.2.1 (by omega)) jm_Tree_copyFrom jq_752 jc_Tree jd_Branchwork_change_34 (by assumption) rfl rfl (Nat.le_of_ble_eq_true rfl) (by omega) (by decide) (by omega) (by omega) rfl (fun v μ9 s8 q9 hle => ?_)
  obtain ⟨rfl, rfl, f9⟩ := q9
  have hF := hF.trans f9 (by omega) (by omega)
  refine jw_iload_n (pc' := 38) jd_Branchwork_change_37 rfl rfl rfl ?_
  refine jw_iret hE jd_Branchwork_change_38 rfl (by omega) (by omega) ?_
  exact ⟨rfl, rfl, hF⟩
theorem by_requireCommit (h : bw_New o μ b) (x : Int32) : jw_SpX mi_Branchwork_requireCommit 6 1 6 o [.ref b, .int x] μ hs (fun v μ' s' => False) (fun E μ' s' => E = jx_IO ∧ μ' = μ) := by
  refine jw_specX (by decide +kernel) (Nat.le_of_ble_eq_true rfl) rfl (fun k hR hX => ?_)
  obtain ⟨h0, -, hH, -⟩ := h
  have hH0 := hH.1
  have hh : jw_Ro mi_History_holds 2 o [.ref (b + 29), .int x] μ hs (some (.int 0)) := by
    refine jw_ro (by decide +kernel) (Nat.le_of_ble_eq_true rfl) rfl (fun k hR hE => ?_)
    refine jw_iload_n (pc' := 1) jd_History_holds_0 rfl rfl rfl ?_
    refine jw_aload_n (pc' := 2) jd_History_holds_1 rfl rfl rfl ?_
    refine jw_get (pc' := 5) (kf := 9) jc_History (by decide) jq_142 jd_History_holds_2 (by assumption) rfl rfl ?_
    refine jw_callS0 (pc' := 8) hR (bs_isIn0 x) jm_History_isIn jq_340 jd_History_holds_5 rfl rfl (Nat.le_of_ble_eq_true rfl) (by omega) (by decide) (by omega) (by omega) rfl rfl ?_
    exact jw_zret hE jd_History_holds_8 rfl (by decide) (by omega) (by omega) ⟨rfl, rfl, rfl⟩
  refine jw_aload_n (pc' := 1) jd_Branchwork_requireCommit_0 rfl rfl rfl ?_
  refine jw_get (pc' := 4) (kf := 1) jc_Branchwork (by decide) jq_284 jd_Branchwork_requireCommit_1 (by assumption) rfl rfl ?_
  refine jw_iload_n (pc' := 5) jd_Branchwork_requireCommit_4 rfl rfl rfl ?_
  refine jw_callV0 (pc' := 8) hR (hh) jm_History_holds jq_550 jc_History jd_Branchwork_requireCommit_5 (by assumption) rfl rfl (Nat.le_of_ble_eq_true rfl) (by omega) (by decide) (by omega) (by omega) rfl rfl ?_
  refine jw_if_ne (tgt := 22) (pc' := 11) jd_Branchwork_requireCommit_8 (by decide) rfl (fun c => ?_) (fun c => ?_)
  · exact absurd rfl c
  refine jw_throwSW hR hX jt_IndexOutOfBoundsException js_Branchwork_358 jd_Branchwork_requireCommit_11 jd_Branchwork_requireCommit_14 jd_Branchwork_requireCommit_15 jd_Branchwork_requireCommit_18 jd_Branchwork_requireCommit_21 (Nat.le_of_ble_eq_true rfl) (by omega) (by omega) (by omega) (fun s9 hle9 => ?_)
  exact ⟨rfl, rfl⟩
theorem by_reset (h : bw_New o μ b) (x : Int32) : jy_F mi_Branchwork_reset o [.ref b, .int x] μ hs b [jx_IO] 1 (.int 0) := by
  refine jw_specX (by decide +kernel) (Nat.le_of_ble_eq_true rfl) rfl (fun k hR hX => ?_)
  have h0 := h.1
  refine jw_aload_n (pc' := 1) jd_Branchwork_reset_0 rfl rfl rfl ?_
  refine jw_iload_n (pc' := 2) jd_Branchwork_reset_1 rfl rfl rfl ?_
  refine jw_callVX (pc' := 5) hR (by_requireCommit h x) jm_Branchwork_requireCommit jq_562 jc_Branchwork jd_Branchwork_reset_2 (by assumption) rfl rfl (Nat.le_of_ble_eq_true rfl) (by omega) (by decide) (by omega) (by omega) rfl (fun E9 q9 μ s9 hΨ hle9 => jw_out hX (by omega) (by omega) ?_) (fun v μ9 s9 q9 hle => ?_)
  · obtain ⟨rfl, rfl⟩ := hΨ
    exact ⟨⟨0, rfl, rfl⟩, jw_Fr.rf⟩
  · exact q9.elim
def kx_merge (x : Int32) : Nat := if x = 0 then 2 else 1
theorem by_merge (h : bw_New o μ b) (x : Int32) : jy_F mi_Branchwork_merge o [.ref b, .int x] μ hs b [jx_IO, jx_IS] (kx_merge x) (.int 0) := by
  refine jw_specX (by decide +kernel) (Nat.le_of_ble_eq_true rfl) rfl (fun k hR hX => ?_)
  have h0 := h.1
  refine jw_aload_n (pc' := 1) jd_Branchwork_merge_0 rfl rfl rfl ?_
  refine jw_iload_n (pc' := 2) jd_Branchwork_merge_1 rfl rfl rfl ?_
  refine jw_callVX (pc' := 5) hR (by_requireBranch h x) jm_Branchwork_requireBranch jq_503 jc_Branchwork jd_Branchwork_merge_2 (by assumption) rfl rfl (Nat.le_of_ble_eq_true rfl) (by omega) (by decide) (by omega) (by omega) rfl (fun E9 q9 μ s9 hΨ hle9 => jw_out hX (by omega) (by omega) ?_) (fun v μ9 s9 q9 hle => ?_)
  · obtain ⟨rfl, rfl, hin⟩ := hΨ
    refine ⟨⟨0, rfl, ?_⟩, jw_Fr.rf⟩
    unfold kx_z at hin
    unfold kx_merge
    by_cases e : x = 0
    · rw [if_pos e] at hin; exact absurd hin (by decide)
    · rw [if_neg e]
  obtain ⟨rfl, rfl, rfl, rfl⟩ := q9
  refine jw_aload_n (pc' := 6) jd_Branchwork_merge_5 rfl rfl rfl ?_
  refine jw_callV0 (pc' := 9) hR (by_head h) jm_Branchwork_head jq_494 jc_Branchwork jd_Branchwork_merge_6 (by assumption) rfl rfl (Nat.le_of_ble_eq_true rfl) (by omega) (by decide) (by omega) (by omega) rfl rfl ?_
  refine jw_iconst (pc' := 10) (v := -1) jd_Branchwork_merge_9 (by decide +kernel) rfl ?_
  refine jw_icmp_ne (tgt := 23) (pc' := 13) jd_Branchwork_merge_10 (by decide) rfl (fun c => ?_) (fun c => ?_)
  · exact absurd (by decide) c
  refine jw_throwS hR hX jt_IllegalStateException js_Branchwork_167 jd_Branchwork_merge_13 jd_Branchwork_merge_16 jd_Branchwork_merge_17 jd_Branchwork_merge_19 jd_Branchwork_merge_22 (Nat.le_of_ble_eq_true rfl) (by omega) (by omega) (by omega) (fun s9 hle9 => ?_)
  exact ⟨⟨1, rfl, rfl⟩, jw_Fr.rf⟩
theorem by_requireConflict (h : bw_New o μ b) (x : Int32) : jw_SpX mi_Branchwork_requireConflict 6 1 6 o [.ref b, .int x] μ hs (fun v μ' s' => False) (fun E μ' s' => E = jx_IO ∧ μ' = μ) := by
  refine jw_specX (by decide +kernel) (Nat.le_of_ble_eq_true rfl) rfl (fun k hR hX => ?_)
  obtain ⟨h0, -, -, -, hK, -⟩ := h
  have hK0 := hK.1
  have hh : jw_Ro mi_Conflicts_holds 2 o [.ref (b + 969), .int x] μ hs (some (.int 0)) := by
    refine jw_ro (by decide +kernel) (Nat.le_of_ble_eq_true rfl) rfl (fun k hR hE => ?_)
    refine jw_iload_n (pc' := 1) jd_Conflicts_holds_0 rfl rfl rfl ?_
    refine jw_if_lt (tgt := 22) (pc' := 4) jd_Conflicts_holds_1 (by decide) rfl (fun c => ?_) (fun c => ?_)
    · refine jw_iconst (pc' := 23) (v := nI 0) jd_Conflicts_holds_22 (by decide +kernel) rfl ?_
      refine jw_zret hE jd_Conflicts_holds_23 rfl (by first | exact vp_nar_int _ | decide +kernel) (by omega) (by omega) ?_
      exact ⟨rfl, rfl, rfl⟩
    refine jw_iload_n (pc' := 5) jd_Conflicts_holds_4 rfl rfl rfl ?_
    refine jw_aload_n (pc' := 6) jd_Conflicts_holds_5 rfl rfl rfl ?_
    refine jw_get (pc' := 9) (kf := 2) jc_Conflicts (by decide) jq_180 jd_Conflicts_holds_6 (by assumption) rfl rfl ?_
    refine jw_icmp_ge (tgt := 22) (pc' := 12) jd_Conflicts_holds_9 (by decide) rfl (fun c2 => ?_) (fun c2 => ?_)
    · refine jw_iconst (pc' := 23) (v := nI 0) jd_Conflicts_holds_22 (by decide +kernel) rfl ?_
      refine jw_zret hE jd_Conflicts_holds_23 rfl (by first | exact vp_nar_int _ | decide +kernel) (by omega) (by omega) ?_
      exact ⟨rfl, rfl, rfl⟩
    · exact absurd (Int32.not_lt.mp c) c2
  refine jw_aload_n (pc' := 1) jd_Branchwork_requireConflict_0 rfl rfl rfl ?_
  refine jw_get (pc' := 4) (kf := 3) jc_Branchwork (by decide) jq_286 jd_Branchwork_requireConflict_1 (by assumption) rfl rfl ?_
  refine jw_iload_n (pc' := 5) jd_Branchwork_requireConflict_4 rfl rfl rfl ?_
  refine jw_callV0 (pc' := 8) hR (hh) jm_Conflicts_holds jq_911 jc_Conflicts jd_Branchwork_requireConflict_5 (by assumption) rfl rfl (Nat.le_of_ble_eq_true rfl) (by omega) (by decide) (by omega) (by omega) rfl rfl ?_
  refine jw_if_ne (tgt := 22) (pc' := 11) jd_Branchwork_requireConflict_8 (by decide) rfl (fun c => ?_) (fun c => ?_)
  · exact absurd rfl c
  refine jw_throwSW hR hX jt_IndexOutOfBoundsException js_Branchwork_363 jd_Branchwork_requireConflict_11 jd_Branchwork_requireConflict_14 jd_Branchwork_requireConflict_15 jd_Branchwork_requireConflict_18 jd_Branchwork_requireConflict_21 (Nat.le_of_ble_eq_true rfl) (by omega) (by omega) (by omega) (fun s9 hle9 => ?_)
  exact ⟨rfl, rfl⟩
theorem by_settle (h : bw_New o μ b) (x0 : Int32) : jy_F mi_Branchwork_settle o [.ref b, .int x0] μ hs b [jx_IO] 1 (.int 0) := by
  refine jw_specX (by decide +kernel) (Nat.le_of_ble_eq_true rfl) rfl (fun k hR hX => ?_)
  have h0 := h.1
  refine jw_aload_n (pc' := 1) jd_Branchwork_settle_0 rfl rfl rfl ?_
  refine jw_iload_n (pc' := 2) jd_Branchwork_settle_1 rfl rfl rfl ?_
  refine jw_callVX (pc' := 5) hR (by_requireConflict h x0) jm_Branchwork_requireConflict jq_907 jc_Branchwork jd_Branchwork_settle_2 (by assumption) rfl rfl (Nat.le_of_ble_eq_true rfl) (by omega) (by decide) (by omega) (by omega) rfl (fun E9 q9 μ s9 hΨ hle9 => jw_out hX (by omega) (by omega) ?_) (fun v μ9 s9 q9 hle => ?_)
  · obtain ⟨rfl, rfl⟩ := hΨ
    exact ⟨⟨0, rfl, rfl⟩, jw_Fr.rf⟩
  · exact q9.elim
theorem by_ofCommit (h : bw_New o μ b) (x0 x1 : Int32) : jy_F mi_Branchwork_ofCommit o [.ref b, .int x0, .int x1] μ hs b [jx_IO, jx_IA] 1 (.int 0) := by
  refine jw_specX (by decide +kernel) (Nat.le_of_ble_eq_true rfl) rfl (fun k hR hX => ?_)
  have h0 := h.1
  refine jw_aload_n (pc' := 1) jd_Branchwork_ofCommit_0 rfl rfl rfl ?_
  refine jw_iload_n (pc' := 2) jd_Branchwork_ofCommit_1 rfl rfl rfl ?_
  refine jw_callVX (pc' := 5) hR (by_requireCommit h x0) jm_Branchwork_requireCommit jq_562 jc_Branchwork jd_Branchwork_ofCommit_2 (by assumption) rfl rfl (Nat.le_of_ble_eq_true rfl) (by omega) (by decide) (by omega) (by omega) rfl (fun E9 q9 μ s9 hΨ hle9 => jw_out hX (by omega) (by omega) ?_) (fun v μ9 s9 q9 hle => ?_)
  · obtain ⟨rfl, rfl⟩ := hΨ
    exact ⟨⟨0, rfl, rfl⟩, jw_Fr.rf⟩
  · exact q9.elim
theorem by_conflict (h : bw_New o μ b) (x0 x1 : Int32) : jy_F mi_Branchwork_conflict o [.ref b, .int x0, .int x1] μ hs b [jx_IO, jx_IA] 1 (.int 0) := by
  refine jw_specX (by decide +kernel) (Nat.le_of_ble_eq_true rfl) rfl (fun k hR hX => ?_)
  have h0 := h.1
  refine jw_aload_n (pc' := 1) jd_Branchwork_conflict_0 rfl rfl rfl ?_
  refine jw_iload_n (pc' := 2) jd_Branchwork_conflict_1 rfl rfl rfl ?_
  refine jw_callVX (pc' := 5) hR (by_requireConflict h x0) jm_Branchwork_requireConflict jq_907 jc_Branchwork jd_Branchwork_conflict_2 (by assumption) rfl rfl (Nat.le_of_ble_eq_true rfl) (by omega) (by decide) (by omega) (by omega) rfl (fun E9 q9 μ s9 hΨ hle9 => jw_out hX (by omega) (by omega) ?_) (fun v μ9 s9 q9 hle => ?_)
  · obtain ⟨rfl, rfl⟩ := hΨ
    exact ⟨⟨0, rfl, rfl⟩, jw_Fr.rf⟩
  · exact q9.elim
theorem by_base (h : bw_New o μ b) (x0 x1 : Int32) : jy_F mi_Branchwork_base o [.ref b, .int x0, .int x1] μ hs b [jx_IO] 1 (.int 0) := by
  refine jw_specX (by decide +kernel) (Nat.le_of_ble_eq_true rfl) rfl (fun k hR hX => ?_)
  have h0 := h.1
  refine jw_aload_n (pc' := 1) jd_Branchwork_base_0 rfl rfl rfl ?_
  refine jw_iload_n (pc' := 2) jd_Branchwork_base_1 rfl rfl rfl ?_
  refine jw_callVX (pc' := 5) hR (by_requireCommit h x0) jm_Branchwork_requireCommit jq_562 jc_Branchwork jd_Branchwork_base_2 (by assumption) rfl rfl (Nat.le_of_ble_eq_true rfl) (by omega) (by decide) (by omega) (by omega) rfl (fun E9 q9 μ s9 hΨ hle9 => jw_out hX (by omega) (by omega) ?_) (fun v μ9 s9 q9 hle => ?_)
  · obtain ⟨rfl, rfl⟩ := hΨ
    exact ⟨⟨0, rfl, rfl⟩, jw_Fr.rf⟩
  · exact q9.elim
theorem by_went (h : bw_New o μ b) (x0 x1 x2 : Int32) : jy_F mi_Branchwork_went o [.ref b, .int x0, .int x1, .int x2] μ hs b [jx_IO] 1 (.int 0) := by
  refine jw_specX (by decide +kernel) (Nat.le_of_ble_eq_true rfl) rfl (fun k hR hX => ?_)
  have h0 := h.1
  refine jw_aload_n (pc' := 1) jd_Branchwork_went_0 rfl rfl rfl ?_
  refine jw_iload_n (pc' := 2) jd_Branchwork_went_1 rfl rfl rfl ?_
  refine jw_callVX (pc' := 5) hR (by_requireCommit h x0) jm_Branchwork_requireCommit jq_562 jc_Branchwork jd_Branchwork_went_2 (by assumption) rfl rfl (Nat.le_of_ble_eq_true rfl) (by omega) (by decide) (by omega) (by omega) rfl (fun E9 q9 μ s9 hΨ hle9 => jw_out hX (by omega) (by omega) ?_) (fun v μ9 s9 q9 hle => ?_)
  · obtain ⟨rfl, rfl⟩ := hΨ
    exact ⟨⟨0, rfl, rfl⟩, jw_Fr.rf⟩
  · exact q9.elim
theorem by_changes (h : bw_New o μ b) (x0 x1 x2 : Int32) : jy_F mi_Branchwork_changes o [.ref b, .int x0, .int x1, .int x2] μ hs b [jx_IO, jx_IA] 1 (.int 0) := by
  refine jw_specX (by decide +kernel) (Nat.le_of_ble_eq_true rfl) rfl (fun k hR hX => ?_)
  have h0 := h.1
  refine jw_aload_n (pc' := 1) jd_Branchwork_changes_0 rfl rfl rfl ?_
  refine jw_iload_n (pc' := 2) jd_Branchwork_changes_1 rfl rfl rfl ?_
  refine jw_callVX (pc' := 5) hR (by_requireCommit h x0) jm_Branchwork_requireCommit jq_562 jc_Branchwork jd_Branchwork_changes_2 (by assumption) rfl rfl (Nat.le_of_ble_eq_true rfl) (by omega) (by decide) (by omega) (by omega) rfl (fun E9 q9 μ s9 hΨ hle9 => jw_out hX (by omega) (by omega) ?_) (fun v μ9 s9 q9 hle => ?_)
  · obtain ⟨rfl, rfl⟩ := hΨ
    exact ⟨⟨0, rfl, rfl⟩, jw_Fr.rf⟩
  · exact q9.elim
theorem by_nearness (h : bw_New o μ b) (x0 x1 x2 x3 : Int32) : jy_F mi_Branchwork_nearness o [.ref b, .int x0, .int x1, .int x2, .int x3] μ hs b [jx_IO] 1 (.int 0) := by
  refine jw_specX (by decide +kernel) (Nat.le_of_ble_eq_true rfl) rfl (fun k hR hX => ?_)
  have h0 := h.1
  refine jw_aload_n (pc' := 1) jd_Branchwork_nearness_0 rfl rfl rfl ?_
  refine jw_iload_n (pc' := 2) jd_Branchwork_nearness_1 rfl rfl rfl ?_
  refine jw_callVX (pc' := 5) hR (by_requireCommit h x0) jm_Branchwork_requireCommit jq_562 jc_Branchwork jd_Branchwork_nearness_2 (by assumption) rfl rfl (Nat.le_of_ble_eq_true rfl) (by omega) (by decide) (by omega) (by omega) rfl (fun E9 q9 μ s9 hΨ hle9 => jw_out hX (by omega) (by omega) ?_) (fun v μ9 s9 q9 hle => ?_)
  · obtain ⟨rfl, rfl⟩ := hΨ
    exact ⟨⟨0, rfl, rfl⟩, jw_Fr.rf⟩
  · exact q9.elim
theorem by_origin (h : bw_New o μ b) (x0 x1 x2 : Int32) : jy_F mi_Branchwork_origin o [.ref b, .int x0, .int x1, .int x2] μ hs b [jx_IO] 1 (.int 0) := by
  refine jw_specX (by decide +kernel) (Nat.le_of_ble_eq_true rfl) rfl (fun k hR hX => ?_)
  have h0 := h.1
  refine jw_aload_n (pc' := 1) jd_Branchwork_origin_0 rfl rfl rfl ?_
  refine jw_iload_n (pc' := 2) jd_Branchwork_origin_1 rfl rfl rfl ?_
  refine jw_callVX (pc' := 5) hR (by_requireCommit h x0) jm_Branchwork_requireCommit jq_562 jc_Branchwork jd_Branchwork_origin_2 (by assumption) rfl rfl (Nat.le_of_ble_eq_true rfl) (by omega) (by decide) (by omega) (by omega) rfl (fun E9 q9 μ s9 hΨ hle9 => jw_out hX (by omega) (by omega) ?_) (fun v μ9 s9 q9 hle => ?_)
  · obtain ⟨rfl, rfl⟩ := hΨ
    exact ⟨⟨0, rfl, rfl⟩, jw_Fr.rf⟩
  · exact q9.elim
theorem by_conflictsOf (h : bw_New o μ b) (x0 x1 : Int32) : jy_F mi_Branchwork_conflictsOf o [.ref b, .int x0, .int x1] μ hs b [jx_IO] 1 (.int 0) := by
  refine jw_specX (by decide +kernel) (Nat.le_of_ble_eq_true rfl) rfl (fun k hR hX => ?_)
  have h0 := h.1
  refine jw_aload_n (pc' := 1) jd_Branchwork_conflictsOf_0 rfl rfl rfl ?_
  refine jw_iload_n (pc' := 2) jd_Branchwork_conflictsOf_1 rfl rfl rfl ?_
  refine jw_callVX (pc' := 5) hR (by_requireCommit h x0) jm_Branchwork_requireCommit jq_562 jc_Branchwork jd_Branchwork_conflictsOf_2 (by assumption) rfl rfl (Nat.le_of_ble_eq_true rfl) (by omega) (by decide) (by omega) (by omega) rfl (fun E9 q9 μ s9 hΨ hle9 => jw_out hX (by omega) (by omega) ?_) (fun v μ9 s9 q9 hle => ?_)
  · obtain ⟨rfl, rfl⟩ := hΨ
    exact ⟨⟨0, rfl, rfl⟩, jw_Fr.rf⟩
  · exact q9.elim
end
end
