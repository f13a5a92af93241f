-- 01 exc
section
/-! ===== BEGIN words of one list among another's, by their places ===== -/
/-! ===== END ===== -/

/-! ===== BEGIN exceptions that leave a method, and their catching by the caller (launches without stack traces) ===== -/
section VXA
/-! The laws vx_back, vx_callV, vx_callS, vx_callSW, vx_throw0, vx_throwS follow proofs of the library, with one case more: JvmDerived/Free/Laws.lean (Back.of_free), Shelf42/LK1.lean (callV, callS), Shelf/KitTraced.lean (throwNew0V, throwNewS). -/
/-- where a method has thrown q: the class by its name, the cell, what was written, the world -/
def vx_T (XC : String → State → State → Prop) (st : State) (q : Addr) (t : State) (mc ms : Nat) (free : Addr → Prop) : Prop :=
  ∃ (E : String) (ce : Cell) (L : List Loc), XC E st t ∧ t.heap[q]? = some ce ∧ ce.vm = .none ∧ st.vm.findClass E = some ce.cls ∧ st.WarmedH t.vm ∧ st.sameButNew ({ t with vm := st.vm } : State) L mc ms ∧ ∀ z ∈ L, free z.base
def vx_Q (Qc : Array Value → State → Outcome → State → Prop) (XC : String → State → State → Prop) (mc ms : Nat) (free : Addr → Prop) : Array Value → State → Outcome → State → Prop := fun a st o t =>
  (Qc a st o t ∧ ∃ L, FrameEnd st o t L mc ms ∧ ∀ q ∈ L, free q.base) ∨ ∃ q, o = .threw q ∧ vx_T XC st q t mc ms free
/-- a callee that returns or throws -/
def vx_Met (l : Launch) (y : MethodName) (ws : List Cond) (rm : Room) (Pc : Array Value → State → Prop) (Qc : Array Value → State → Outcome → State → Prop) (XC : String → State → State → Prop) (mc ms : Nat) (free : Addr → Prop) : Prop :=
  MetFree l y (headSpec ws rm) Pc (fun _ _ _ _ _ => True) (vx_Q Qc XC mc ms free)
def vx_Post (XC : String → State → State → Prop) (mc ms : Nat) (free : Addr → Prop) : Pt → Array Value → Addr → Pt → Prop := fun A a q B =>
  ∃ (g : JFrame) (mk : MethodId) (t : State) (L : List Loc) (E : String) (ce : Cell), B.U.heap = t.heap ∧ B.U.vm = t.vm ∧ XC E (A.U.calling g mk a) t ∧ t.heap[q]? = some ce ∧ ce.vm = .none ∧ A.U.vm.findClass E = some ce.cls ∧ B.locs = A.locs ++ L ∧ (∀ z ∈ L, free z.base) ∧ B.cells = A.cells + mc ∧ B.slots = A.slots + ms
def vx_Back (l : Launch) (R : Room) (p : Program) (e : Env) (below : List Frame) (s : State) (sargs : Array Value) (y : MethodName) (len W9 : Nat)
    (Pre : Pt → Array Value → Prop) (Post : Pt → Array Value → Option Value → Pt → Prop) (PostX : Pt → Array Value → Addr → Pt → Prop) : Prop :=
  ∀ (m : MethodId) (meth : Method) (c : Code) (A : Pt) (g : JFrame) (ig : Instr) (mk : MethodId) (a : Array Value),
    Stand p l e R s m sargs below meth c A.U A.locs A.cells A.slots → g.method = m → g.locals.size = c.maxLocals → decode c.code g.pc = .ok (ig, len) →
    2 * g.monitorRoom + (g.stack.map fun v => v.category).sum ≤ W9 → A.U.methodNamed? y = some mk → Pre A a →
    (∃ (v : Option Value) (B : Pt), Stand p l e R s m sargs below meth c B.U B.locs B.cells B.slots ∧ Post A a v B ∧
      Steps p.tables e below (doInvoke e (A.U.setTop g) [] mk a).1 (B.U.setTop { g with pc := g.pc + len, stack := v.toList ++ g.stack })) ∨
    (∃ (q : Addr) (B : Pt), Stand p l e R s m sargs below meth c B.U B.locs B.cells B.slots ∧ PostX A a q B ∧
      Steps p.tables e below (doInvoke e (A.U.setTop g) [] mk a).1 ((B.U.setTop g).pushFrame (.throwing q)))
section Payer
variable {l : Launch} {R : Room} {p : Program} {e : Env} {below : List Frame} {s : State} {sargs : Array Value} {y : MethodName} {len W9 : Nat}
theorem vx_back {ws : List Cond} {rm : Room} {Pc : Array Value → State → Prop} {Qc : Array Value → State → Outcome → State → Prop} {XC : String → State → State → Prop} {mc ms : Nat} {free : Addr → Prop} {bytes : ByteArray} {maxL : Nat} {ret : Option FieldType}
    (hM : vx_Met l y ws rm Pc Qc XC mc ms free) (hblind : FrameBlind Pc) (hrc : rm.cells = mc) (hrs : rm.slots = ms)
    (hframes : rm.frames + 1 ≤ R.frames) (hlocals : W9 + (maxL + 11) + rm.locals ≤ R.locals)
    (hws : ∀ w ∈ ws, ∀ a' U, s.WarmedH U.vm → w.before a' U = true) (hcode : Cond.code y bytes maxL ret ∈ ws) (hinit : ∀ a' U, s.WarmedH U.vm → (Cond.initialized y.cls).before a' U = true) :
    vx_Back l R p e below s sargs y len W9 (PreOf R mc ms Pc) (PostOf Qc mc ms free) (vx_Post XC mc ms free) := by
  intro m meth c A g ig mk a X hg hsize hdg hW hn hp
  have h1 : (headSpec ws rm).pre.before a A.U = true := atoms_intro fun w hw => hws w hw _ _ X.warmed
  have h2 : (Cond.code y bytes maxL ret).before a A.U = true := hws _ hcode _ _ X.warmed
  have h3 : (Cond.initialized y.cls).before a A.U = true := hinit _ _ X.warmed
  have h4 : A.cells + (headSpec ws rm).room.cells ≤ R.cells := by rw [show (headSpec ws rm).room.cells = mc from hrc]; exact hp.1
  have h5 : A.slots + (headSpec ws rm).room.slots ≤ R.slots := by rw [show (headSpec ws rm).room.slots = ms from hrs]; exact hp.2.1
  have hPc : Pc a (A.U.calling g mk a) := hblind _ _ _ _ hp.2.2
  obtain ⟨U, Ls, c0, s0⟩ := A
  dsimp only [Pt.U, Pt.locs, Pt.cells, Pt.slots] at h1 h2 h3 h4 h5 X hn hPc ⊢
  obtain ⟨methY, cY, hmY, hcY, -, hlY, -, -, -, -⟩ := Cond.code_spec hn h2
  obtain ⟨kY, hkY, -⟩ := className_of_methodNamed hn
  have hinitY : kY.init = .initialized := Cond.initialized_spec (findClass_of_methodNamed hn) hkY h3
  have h : At U g.method c below := by rw [hg]; exact X.here
  have hlocals9 : W9 + (maxL + 11) + (headSpec ws rm).room.locals ≤ R.locals := hlocals
  have happ : (headSpec ws rm).appliesLoose y e.platform (U.calling g mk a) = true :=
    Spec.appliesLoose_calling (g := g) h hdg hn hkY hinitY
      (X.room_calling (g := g) (R' := (headSpec ws rm).room) hsize hmY hcY hframes (by rw [hlY]; omega) h4 h5) h1
  obtain ⟨mid, hmid⟩ := h.above
  have hfr : (U.setTop g).frames = (.java g :: mid) ++ below := by rw [State.frames_setTop' g h.top, hmid]; rfl
  obtain ⟨o, s₂, hsteps, -, hend, hq⟩ := Steps.callFree hM p X.admits X.cas X.clock (acts := []) hfr happ hPc trivial
  have hq' : vx_Q Qc XC mc ms free a (U.calling g mk a) o s₂ := hq
  rw [State.frames_setTop' g h.top] at hend
  obtain ⟨g₀, hg0⟩ := Option.isSome_iff_exists.mp h.top
  obtain ⟨r, hr⟩ := State.topJava?_eq_some.mp hg0
  have hr' : (({ U with heap := s₂.heap, slotsUsed := s₂.slotsUsed } : State).setVm s₂.vm).frames = .java g₀ :: r := hr
  rcases hq' with ⟨hqc, L, hfe, hL⟩ | ⟨q, rfl, E, ce, L, hx, hce, hcv, hcl, hW₂, hsm, hL⟩
  · obtain ⟨⟨v, rfl⟩, hW₂, e2, q2, q3, q4, q5, q6⟩ := id hfe
    have e3 : s₂ = ({ (U.calling g mk a).setFrames s₂.frames with heap := s₂.heap, slotsUsed := s₂.slotsUsed } : State).setVm s₂.vm := by
      have : s₂ = ({ s₂ with vm := (U.calling g mk a).vm } : State).setVm s₂.vm := rfl
      rw [e2] at this
      exact this
    obtain ⟨c₂, i₂, len₂, hc₂, hd₂, hf₂⟩ := hend
    have hW' : U.WarmedH s₂.vm := hW₂
    have hcc : c₂ = c := by
      have h1 : s₂.code? g.method = U.code? g.method := by
        rw [State.code?_eq, State.code?_eq, hW'.alike.method?]
      exact Option.some.inj (hc₂.symm.trans (h1.trans h.code))
    subst hcc
    have hlen : len₂ = len := by rw [hdg] at hd₂; cases hd₂; rfl
    subst hlen
    have hs₂ : s₂ = (({ U with heap := s₂.heap, slotsUsed := s₂.slotsUsed } : State).setVm s₂.vm).setTop { g with pc := g.pc + len₂, stack := v.toList ++ g.stack } := by
      refine e3.trans ?_
      rw [hf₂, State.calling_eq h.top, State.setFrames_setFrames, State.setTop_of_frames _ hr', hr]
      rfl
    have hsame : U.sameButNew ({ U with heap := s₂.heap, slotsUsed := s₂.slotsUsed } : State) L mc ms := by
      refine ⟨?_, q2, q3, q4, q5, q6⟩
      obtain ⟨t, ht, -⟩ := State.frames_cons hr
      show ({ U with heap := s₂.heap, slotsUsed := s₂.slotsUsed } : State) = { U.setFrames U.frames with heap := s₂.heap, slotsUsed := s₂.slotsUsed }
      rw [State.setFrames_self ht]
    subst hg
    refine Or.inl ⟨v, ⟨(({ U with heap := s₂.heap, slotsUsed := s₂.slotsUsed } : State).setVm s₂.vm), Ls ++ L, c0 + mc, s0 + ms⟩,
      ⟨X.admits, X.cas, X.clock, X.frames, X.room, X.hears, X.method, X.code, (X.here.setHeapUsed s₂.heap s₂.slotsUsed).setVm hW'.alike, X.tail, State.WarmedH.trans X.warmed hW', X.limits, X.bytes, X.same.trans (hsame.setVm s.vm)⟩,
      ⟨g, mk, s₂, L, rfl, rfl, hqc, rfl, hL, rfl, rfl⟩, ?_⟩
    show Steps p.tables e below _ ((({ U with heap := s₂.heap, slotsUsed := s₂.slotsUsed } : State).setVm s₂.vm).setTop { g with pc := g.pc + len₂, stack := v.toList ++ g.stack })
    rw [← hs₂]
    exact hsteps
  · obtain ⟨e2, q2, q3, q4, q5, q6⟩ := id hsm
    have e3 : s₂ = ({ (U.calling g mk a).setFrames s₂.frames with heap := s₂.heap, slotsUsed := s₂.slotsUsed } : State).setVm s₂.vm := by
      have : s₂ = ({ s₂ with vm := (U.calling g mk a).vm } : State).setVm s₂.vm := rfl
      rw [e2] at this
      exact this
    have hf₂ : s₂.frames = .throwing q :: .java g :: U.frames.tail := hend
    have hW' : U.WarmedH s₂.vm := hW₂
    have hs₂ : s₂ = ((({ U with heap := s₂.heap, slotsUsed := s₂.slotsUsed } : State).setVm s₂.vm).setTop g).pushFrame (.throwing q) := by
      refine e3.trans ?_
      rw [hf₂, State.calling_eq h.top, State.setFrames_setFrames, State.pushFrame, State.frames_setTop _ hr', State.setTop_of_frames _ hr', State.setFrames_setFrames, hr]
      rfl
    have hsame : U.sameButNew ({ U with heap := s₂.heap, slotsUsed := s₂.slotsUsed } : State) L mc ms := by
      refine ⟨?_, q2, q3, q4, q5, q6⟩
      obtain ⟨t, ht, -⟩ := State.frames_cons hr
      show ({ U with heap := s₂.heap, slotsUsed := s₂.slotsUsed } : State) = { U.setFrames U.frames with heap := s₂.heap, slotsUsed := s₂.slotsUsed }
      rw [State.setFrames_self ht]
    subst hg
    refine Or.inr ⟨q, ⟨(({ U with heap := s₂.heap, slotsUsed := s₂.slotsUsed } : State).setVm s₂.vm), Ls ++ L, c0 + mc, s0 + ms⟩,
      ⟨X.admits, X.cas, X.clock, X.frames, X.room, X.hears, X.method, X.code, (X.here.setHeapUsed s₂.heap s₂.slotsUsed).setVm hW'.alike, X.tail, State.WarmedH.trans X.warmed hW', X.limits, X.bytes, X.same.trans (hsame.setVm s.vm)⟩,
      ⟨g, mk, s₂, L, E, ce, rfl, rfl, hx, hce, hcv, hcl, rfl, hL, rfl, rfl⟩, ?_⟩
    show Steps p.tables e below _ (((({ U with heap := s₂.heap, slotsUsed := s₂.slotsUsed } : State).setVm s₂.vm).setTop g).pushFrame (.throwing q))
    rw [← hs₂]
    exact hsteps
end Payer
section Calls
variable {p : Program} {l : Launch} {e : Env} {R : Room} {s : State} {m : MethodId} {args : Array Value} {below : List Frame} {meth : Method} {c : Code} {T : State} {locs : List Loc} {cells slots : Nat}
theorem vx_callV (X : Stand p l e R s m args below meth c T locs cells slots) (hexec : p.tables.exec = Jvm.exec) {own C : String} {index : Nat} {y : MethodName} {bytes : ByteArray} {maxL : Nat} {ret : Option FieldType}
    (hown : s.vm.findClass own = some m.cls) (hlink : (Cond.methodLink own index y).before args s = true) (hinst : (Cond.instanceMethod y).before args s = true) (hsel : (Cond.selects C y y).before args s = true)
    (hcode : (Cond.code y bytes maxL ret).before args s = true) (hy : y.cls ≠ "java/lang/invoke/MethodHandle" ∧ y.cls ≠ "java/lang/invoke/VarHandle")
    {W9 : Nat} {Pre : Pt → Array Value → Prop} {Post : Pt → Array Value → Option Value → Pt → Prop} {PostX : Pt → Array Value → Addr → Pt → Prop} (hK : vx_Back l R p e below s args y 3 W9 Pre Post PostX)
    {b : Addr} {cellB : Cell} (hcell : T.heap[b]? = some cellB) (hobj : cellB.vm.isStatics = false) (hcls : s.vm.findClass C = some cellB.cls)
    {g : JFrame} (hg : g.method = m) (hsize : g.locals.size = c.maxLocals) {argsL rest : List Value} (hlen : ∀ sig, parseMethodDescriptor y.desc = some sig → argsL.length = sig.parameters.length)
    (hstack : g.stack = argsL.reverse ++ .ref b :: rest) (hW : 2 * g.monitorRoom + (rest.map fun v => v.category).sum ≤ W9) (hdg : decode c.code g.pc = .ok (.invokevirtual index, 3))
    (hpre : ∀ vm₁, s.WarmedH vm₁ → Pre ⟨T.setVm vm₁, locs, cells, slots⟩ (Value.ref b :: argsL).toArray) :
    (∃ (v : Option Value) (vm₁ : Vm) (B : Pt), s.WarmedH vm₁ ∧ Stand p l e R s m args below meth c B.U B.locs B.cells B.slots ∧ Post ⟨T.setVm vm₁, locs, cells, slots⟩ (Value.ref b :: argsL).toArray v B ∧
      ∀ target, Steps p.tables e below (B.U.setTop { g with pc := g.pc + 3, stack := v.toList ++ rest }) target → Steps p.tables e below (T.setTop g) target) ∨
    (∃ (q : Addr) (vm₁ : Vm) (B : Pt), s.WarmedH vm₁ ∧ Stand p l e R s m args below meth c B.U B.locs B.cells B.slots ∧ PostX ⟨T.setVm vm₁, locs, cells, slots⟩ (Value.ref b :: argsL).toArray q B ∧
      Steps p.tables e below (T.setTop g) ((B.U.setTop { g with stack := rest }).pushFrame (.throwing q))) := by
  obtain ⟨mk, methM, hnamed, hmethM, hstM, habM⟩ := Cond.instanceMethod_spec hinst
  obtain ⟨methM', cM, hmethM', -, -, -, -, -, -, hsigM⟩ := Cond.code_spec hnamed hcode
  cases hmethM.symm.trans hmethM'
  obtain ⟨c2, r2, m2, q1, q2, q3, q4, kP, hkP, hkPi⟩ := Cond.selects_spec hsel
  cases hcls.symm.trans q1
  cases (State.methodFound?_of_named hnamed hy).symm.trans q2
  cases hnamed.symm.trans q3
  have hselP : selectMethod e.platform s.vm cellB.cls mk = .method mk := by rw [Launch.admits_selectMethod X.admits]; exact q4
  obtain ⟨vm₁, X₁, hstep₁⟩ := X.invokevirtual hexec hown hlink hnamed hmethM hstM hkP hkPi hy (a := b) (cell := cellB) hcell
    (fun z h => by rw [h] at hobj; cases hobj) hselP hmethM habM hkP hkPi (g := g) hg (argsL := argsL) (rest := rest) (hlen _ hsigM) hstack hdg
  rcases hK m meth c ⟨T.setVm vm₁, locs, cells, slots⟩ { g with stack := rest } (.invokevirtual index) mk (Value.ref b :: argsL).toArray X₁ hg hsize hdg hW (X₁.named hnamed) (hpre vm₁ X₁.warmed) with ⟨v, B, X', hpost, hsteps⟩ | ⟨q, B, X', hpost, hsteps⟩
  · exact Or.inl ⟨v, vm₁, B, X₁.warmed, X', hpost, fun target h => hstep₁ _ fun acts => by rw [doInvoke_state]; exact hsteps.trans h⟩
  · exact Or.inr ⟨q, vm₁, B, X₁.warmed, X', hpost, hstep₁ _ fun acts => by rw [doInvoke_state]; exact hsteps⟩
theorem vx_callS (X : Stand p l e R s m args below meth c T locs cells slots) (hexec : p.tables.exec = Jvm.exec) {own : String} {index : Nat} {y : MethodName} {bytes : ByteArray} {maxL : Nat} {ret : Option FieldType}
    (hown : s.vm.findClass own = some m.cls) (hlink : (Cond.methodLink own index y).before args s = true) (hstat : (Cond.static y).before args s = true) (hinit : (Cond.initialized y.cls).before args s = true)
    (hcode : (Cond.code y bytes maxL ret).before args s = true) (hy : y.cls ≠ "java/lang/invoke/MethodHandle" ∧ y.cls ≠ "java/lang/invoke/VarHandle")
    {W9 : Nat} {Pre : Pt → Array Value → Prop} {Post : Pt → Array Value → Option Value → Pt → Prop} {PostX : Pt → Array Value → Addr → Pt → Prop} (hK : vx_Back l R p e below s args y 3 W9 Pre Post PostX)
    {g : JFrame} (hg : g.method = m) (hsize : g.locals.size = c.maxLocals) {argsL rest : List Value} (hlen : ∀ sig, parseMethodDescriptor y.desc = some sig → argsL.length = sig.parameters.length)
    (hstack : g.stack = argsL.reverse ++ rest) (hW : 2 * g.monitorRoom + (rest.map fun v => v.category).sum ≤ W9) (hdg : decode c.code g.pc = .ok (.invokestatic index, 3))
    (hpre : ∀ vm₁, s.WarmedH vm₁ → Pre ⟨T.setVm vm₁, locs, cells, slots⟩ argsL.toArray) :
    (∃ (v : Option Value) (vm₁ : Vm) (B : Pt), s.WarmedH vm₁ ∧ Stand p l e R s m args below meth c B.U B.locs B.cells B.slots ∧ Post ⟨T.setVm vm₁, locs, cells, slots⟩ argsL.toArray v B ∧
      ∀ target, Steps p.tables e below (B.U.setTop { g with pc := g.pc + 3, stack := v.toList ++ rest }) target → Steps p.tables e below (T.setTop g) target) ∨
    (∃ (q : Addr) (vm₁ : Vm) (B : Pt), s.WarmedH vm₁ ∧ Stand p l e R s m args below meth c B.U B.locs B.cells B.slots ∧ PostX ⟨T.setVm vm₁, locs, cells, slots⟩ argsL.toArray q B ∧
      Steps p.tables e below (T.setTop g) ((B.U.setTop { g with stack := rest }).pushFrame (.throwing q))) := by
  obtain ⟨mk, hnamed⟩ := Cond.code_named hcode
  obtain ⟨methM, cM, hmethM, -, -, -, -, -, -, hsigM⟩ := Cond.code_spec hnamed hcode
  have hstatic : methM.isStatic = true := Cond.static_spec hnamed hmethM hstat
  obtain ⟨kP, hkP, -⟩ := className_of_methodNamed hnamed
  have hinitP : kP.init = .initialized := Cond.initialized_spec (findClass_of_methodNamed hnamed) hkP hinit
  obtain ⟨vm₁, X₁, hstep₁⟩ := X.invokestatic hexec hown hlink hnamed hmethM hstatic hkP hinitP hy (g := g) hg (argsL := argsL) (rest := rest) (hlen _ hsigM) hstack hdg
  rcases hK m meth c ⟨T.setVm vm₁, locs, cells, slots⟩ { g with stack := rest } (.invokestatic index) mk argsL.toArray X₁ hg hsize hdg hW (X₁.named hnamed) (hpre vm₁ X₁.warmed) with ⟨v, B, X', hpost, hsteps⟩ | ⟨q, B, X', hpost, hsteps⟩
  · exact Or.inl ⟨v, vm₁, B, X₁.warmed, X', hpost, fun target h => hstep₁ _ fun acts => by rw [doInvoke_state]; exact hsteps.trans h⟩
  · exact Or.inr ⟨q, vm₁, B, X₁.warmed, X', hpost, hstep₁ _ fun acts => by rw [doInvoke_state]; exact hsteps⟩
end Calls
theorem vx_cls {s : State} {T : State} {vm₁ : Vm} {E : String} {k : ClassId} (hW : s.WarmedH vm₁) (h : (T.setVm vm₁).vm.findClass E = some k) : s.vm.findClass E = some k := by
  have h1 : vm₁.findClass E = some k := h
  rw [hW.alike.findClass] at h1
  exact h1
/-- the method's frame g, with q thrown over it -/
def vx_W (p : Program) (l : Launch) (e : Env) (R : Room) (s : State) (m : MethodId) (args : Array Value) (below : List Frame) (meth : Method) (c : Code) (H : Heap) (locs : List Loc) (cells slots : Nat) (Q : State → Prop) (g : JFrame) (q : Addr) : Prop :=
  ∀ T : State, T.heap = H → Stand p l e R s m args below meth c T locs cells slots → ∃ t, Steps p.tables e below ((T.setTop g).pushFrame (.throwing q)) t ∧ Q t
def vx_Run (p : Program) (l : Launch) (e : Env) (R : Room) (s : State) (m : MethodId) (args : Array Value) (below : List Frame) (meth : Method) (c : Code) (H : Heap) (locs : List Loc) (cells slots mc ms : Nat) (g : JFrame) (rest : List Value) (Qa : State → Outcome → State → Prop) (XC : String → State → State → Prop) (free : Addr → Prop) : Prop :=
  ∀ T : State, T.heap = H → Stand p l e R s m args below meth c T locs cells slots →
    (∃ (v : Option Value) (st₀ t T' : State) (L : List Loc), st₀.heap = H ∧ Stand p l e R s m args below meth c T' (locs ++ L) (cells + mc) (slots + ms) ∧ (∀ q ∈ L, free q.base) ∧ T'.heap = t.heap ∧ T'.vm = t.vm ∧ Qa st₀ (.returned v) t ∧
      Goes p e below T g T' { g with pc := g.pc + 3, stack := v.toList ++ rest }) ∨
    (∃ (q : Addr) (st₀ t T' : State) (L : List Loc) (E : String) (ce : Cell), st₀.heap = H ∧ Stand p l e R s m args below meth c T' (locs ++ L) (cells + mc) (slots + ms) ∧ (∀ z ∈ L, free z.base) ∧ T'.heap = t.heap ∧ T'.vm = t.vm ∧ XC E st₀ t ∧ t.heap[q]? = some ce ∧ ce.vm = .none ∧ s.vm.findClass E = some ce.cls ∧
      Steps p.tables e below (T.setTop g) ((T'.setTop { g with stack := rest }).pushFrame (.throwing q)))
section Runs
variable {p : Program} {l : Launch} {e : Env} {R : Room} {s : State} {m : MethodId} {args : Array Value} {below : List Frame} {meth : Method} {c : Code} {H : Heap} {locs : List Loc} {cells slots : Nat}
variable {y : MethodName} {bytes cc : ByteArray} {maxL nL mc ms n index : Nat} {ret : Option FieldType} {ws : List Cond} {rm : Room} {Pc : Array Value → State → Prop} {Qc : Array Value → State → Outcome → State → Prop} {XC : String → State → State → Prop} {free : Addr → Prop} {Ts : List Cond} {own C : String} {b : Addr} {As rest : List Value} {g : JFrame}
theorem vx_callBack (cb : CallB R s args own index y bytes maxL ret ws rm mc ms n) (hM : vx_Met l y ws rm Pc Qc XC mc ms free) (hbl : FrameBlind Pc) : vx_Back l R p e below s args y 3 8 (PreOf R mc ms Pc) (PostOf Qc mc ms free) (vx_Post XC mc ms free) := by
  obtain ⟨hrc, hrs, hfr, hlo, hws, hcw, -, hini, -⟩ := cb
  exact vx_back (bytes := bytes) (maxL := maxL) (ret := ret) hM hbl hrc hrs hfr hlo hws hcw (fun a' U hW => word_at hW (Or.inl (by first | rfl | simp [Cond.onTables, Cond.keeps, Cond.steady])) hini)
theorem vx_runV (S : CallFix p m c cc nL s args Ts own) (hM : vx_Met l y ws rm Pc Qc XC mc ms free) (cw : CallW R s args own C index y bytes maxL ret ws rm mc ms n) (hp : PreV s H C b Pc As)
    (hg : g.method = m) (hn : As.length = n) (hsize : g.locals.size = nL) (hstack : g.stack = As.reverse ++ .ref b :: rest) (hW : 2 * g.monitorRoom + (rest.map fun v => v.category).sum ≤ 8) (hdg : decode cc g.pc = .ok (.invokevirtual index, 3)) (hf : cells + mc ≤ R.cells ∧ slots + ms ≤ R.slots) :
    vx_Run p l e R s m args below meth c H locs cells slots mc ms g rest (Qc (Value.ref b :: As).toArray) XC free := by
  have hK : vx_Back l R p e below s args y 3 8 (PreOf R mc ms Pc) (PostOf Qc mc ms free) (vx_Post XC mc ms free) := vx_callBack cw.1 hM hp.1
  obtain ⟨⟨-, -, -, -, -, -, hcode, -, hy, hlen, hl⟩, hin, hse⟩ := cw
  obtain ⟨hx, hb, hml, ho, -⟩ := S
  obtain ⟨-, ⟨cellB, hcB, hoB, hclB⟩, hPc⟩ := hp
  intro T hT X
  rcases vx_callV X hx (C := C) (bytes := bytes) (maxL := maxL) (ret := ret) ho hl hin hse hcode hy hK (by rw [hT]; exact hcB) hoB hclB hg (hsize.trans hml.symm) (argsL := As) (rest := rest) (fun sig h => hn.trans (hlen sig h)) hstack hW (by rw [hb]; exact hdg)
    (fun vm₁ hW₁ => ⟨hf.1, hf.2, hPc (T.setVm vm₁) hT hW₁⟩) with ⟨v, vm₁, ⟨U', l2, c2, s2⟩, hW₁, X', ⟨g', mk, t, L, e1, e2, hq, h1, hL, h2, h3⟩, st⟩ | ⟨q, vm₁, ⟨U', l2, c2, s2⟩, hW₁, X', ⟨g', mk, t, L, E, ce, e1, e2, hq, hce, hcv, hcl, h1, hL, h2, h3⟩, st⟩
  · dsimp only [Pt.U, Pt.locs, Pt.cells, Pt.slots] at X' e1 e2 h1 h2 h3 st
    subst h1; subst h2; subst h3
    exact Or.inl ⟨v, (T.setVm vm₁).calling g' mk (Value.ref b :: As).toArray, t, U', L, hT, X', hL, e1, e2, hq, st⟩
  · dsimp only [Pt.U, Pt.locs, Pt.cells, Pt.slots] at X' e1 e2 h1 h2 h3 st hcl
    subst h1; subst h2; subst h3
    exact Or.inr ⟨q, (T.setVm vm₁).calling g' mk (Value.ref b :: As).toArray, t, U', L, E, ce, hT, X', hL, e1, e2, hq, hce, hcv, vx_cls hW₁ hcl, st⟩
theorem vx_runS (S : CallFix p m c cc nL s args Ts own) (hM : vx_Met l y ws rm Pc Qc XC mc ms free) (cw : CallB R s args own index y bytes maxL ret ws rm mc ms n ∧ (Cond.static y).before args s = true) (hp : PreS s H Pc As)
    (hg : g.method = m) (hn : As.length = n) (hsize : g.locals.size = nL) (hstack : g.stack = As.reverse ++ rest) (hW : 2 * g.monitorRoom + (rest.map fun v => v.category).sum ≤ 8) (hdg : decode cc g.pc = .ok (.invokestatic index, 3)) (hf : cells + mc ≤ R.cells ∧ slots + ms ≤ R.slots) :
    vx_Run p l e R s m args below meth c H locs cells slots mc ms g rest (Qc As.toArray) XC free := by
  have hK : vx_Back l R p e below s args y 3 8 (PreOf R mc ms Pc) (PostOf Qc mc ms free) (vx_Post XC mc ms free) := vx_callBack cw.1 hM hp.1
  obtain ⟨⟨-, -, -, -, -, -, hcode, hini, hy, hlen, hl⟩, hstt⟩ := cw
  obtain ⟨hx, hb, hml, ho, -⟩ := S
  intro T hT X
  rcases vx_callS X hx (bytes := bytes) (maxL := maxL) (ret := ret) ho hl hstt hini hcode hy hK hg (hsize.trans hml.symm) (argsL := As) (rest := rest) (fun sig h => hn.trans (hlen sig h)) hstack hW (by rw [hb]; exact hdg)
    (fun vm₁ hW₁ => ⟨hf.1, hf.2, hp.2 (T.setVm vm₁) hT hW₁⟩) with ⟨v, vm₁, ⟨U', l2, c2, s2⟩, hW₁, X', ⟨g', mk, t, L, e1, e2, hq, h1, hL, h2, h3⟩, st⟩ | ⟨q, vm₁, ⟨U', l2, c2, s2⟩, hW₁, X', ⟨g', mk, t, L, E, ce, e1, e2, hq, hce, hcv, hcl, h1, hL, h2, h3⟩, st⟩
  · dsimp only [Pt.U, Pt.locs, Pt.cells, Pt.slots] at X' e1 e2 h1 h2 h3 st
    subst h1; subst h2; subst h3
    exact Or.inl ⟨v, (T.setVm vm₁).calling g' mk As.toArray, t, U', L, hT, X', hL, e1, e2, hq, st⟩
  · dsimp only [Pt.U, Pt.locs, Pt.cells, Pt.slots] at X' e1 e2 h1 h2 h3 st hcl
    subst h1; subst h2; subst h3
    exact Or.inr ⟨q, (T.setVm vm₁).calling g' mk As.toArray, t, U', L, E, ce, hT, X', hL, e1, e2, hq, hce, hcv, vx_cls hW₁ hcl, st⟩
end Runs
section Rows
variable {p : Program} {l : Launch} {e : Env} {R : Room} {s : State} {m : MethodId} {args : Array Value} {below : List Frame} {meth : Method} {c : Code} {H : Heap} {locs : List Loc} {cells slots : Nat} {Q : State → Prop}
variable {mc ms : Nat} {free : Addr → Prop} {A0 A1 : Nat → Prop} {H0 : Heap} {a : Array Value} {pc : Nat} {ls : Array Slot} {st0 rest : List Value}
theorem vx_keep {st₀ t T' : State} {L : List Loc} (h0 : st₀.heap = H) (e1 : T'.heap = t.heap) (hS : va_S A0 H0 H locs) (hA : ∀ q, q < H.size → A1 q → A0 q) (hf : ∀ q, free q → A0 q) (hL : ∀ q ∈ L, free q.base) (hF : va_F A1 st₀ t) :
    H.size ≤ T'.heap.size ∧ (∀ q : Nat, q < H.size → ¬ A1 q → T'.heap[q]? = H[q]?) ∧ va_S A0 H0 T'.heap (locs ++ L) := by
  obtain ⟨hz, hk⟩ := hF
  rw [h0] at hz hk
  exact ⟨by rw [e1]; exact hz, fun q h1 h2 => by rw [e1]; exact hk q h1 h2,
    ⟨Nat.le_trans hS.1 (by rw [e1]; exact hz), fun q h1 h2 => by rw [e1, hk q (Nat.lt_of_lt_of_le h1 hS.1) (fun z => h2 (hA q (Nat.lt_of_lt_of_le h1 hS.1) z))]; exact hS.2.1 q h1 h2, fun q hq => by
      rcases List.mem_append.mp hq with h | h
      · exact hS.2.2 q h
      · exact hf _ (hL q h)⟩⟩
/-- caught by the row x of this method's table; the rows ahead don't take it -/
theorem vx_catch {own name : String} {E : String} {ce : Cell} {q : Addr} (hown : s.vm.findClass own = some m.cls) (pre : List ExceptionTableEntry) (x : ExceptionTableEntry) (suf : List ExceptionTableEntry) (hsplit : c.exceptionTable.toList = pre ++ x :: suf)
    (hpass : ∀ z ∈ pre, covers z pc = false ∨ (z.catchType ≠ 0 ∧ ∃ nm : String, (Cond.classLink own z.catchType nm).before args s = true ∧ va_Nc E nm s)) (hx : covers x pc = true) (h0 : x.catchType ≠ 0)
    (hlink : (Cond.classLink own x.catchType name).before args s = true) (hcast : (Cond.castable E name).before args s = true) (hcell : H[q]? = some ce) (hv : ce.vm = .none) (hcl : s.vm.findClass E = some ce.cls)
    (kk : W p l e R s m args below meth c H locs cells slots Q (F0 m x.handlerPc ls [.ref q])) : vx_W p l e R s m args below meth c H locs cells slots Q (F0 m pc ls rest) q := by
  intro T hT X
  have hpl : e.platform.magicAccessors = ({} : Platform).magicAccessors := by rw [X.admits.platform]
  obtain ⟨c3, c4, hc3, hc4, hasg⟩ := Cond.castable_spec hcast
  cases Option.some.inj (hc3.symm.trans hcl)
  obtain ⟨c5, hc5, hcl5⟩ := Cond.classLink_spec hown hlink e.platform hpl
  cases Option.some.inj (hc4.symm.trans hc5)
  obtain ⟨vm', X', st⟩ := X.thenCaughtThrough q (g := F0 m pc ls rest) rfl (Steps.refl _) (by rw [hT]; exact hcell) (by rw [hv]; rfl) (by obtain ⟨k9, h9, -⟩ := Vm.findClass_spec hcl; exact ⟨k9, h9⟩) pre x suf hsplit
    (fun z hz => by
      rcases hpass z hz with h | ⟨hz0, nm, hl1, hn1⟩
      · exact Or.inl h
      · obtain ⟨c6, hc6, hcl6⟩ := Cond.classLink_spec hown hl1 e.platform hpl
        obtain ⟨a8, b8, h1, h2, h3⟩ := hn1
        cases Option.some.inj (h1.symm.trans hcl)
        cases Option.some.inj (h2.symm.trans hc6)
        exact Or.inr ⟨hz0, _, hcl6, h3⟩) hx (Or.inr ⟨h0, c4, hcl5, hasg⟩)
  obtain ⟨t, a1, b1⟩ := kk (T.setVm vm') hT X'
  exact ⟨t, st.trans a1, b1⟩
end Rows
section Ends
variable {p : Program} {l : Launch} {e : Env} {R : Room} {s : State} {m : MethodId} {args : Array Value} {below : List Frame} {meth : Method} {c : Code} {H : Heap} {locs : List Loc} {cells slots : Nat} {Q : State → Prop}
variable {mc ms : Nat} {free : Addr → Prop} {A0 A1 : Nat → Prop} {H0 : Heap} {a : Array Value} {ls : Array Slot} {st0 rest : List Value}
variable {Qc : Array Value → State → Outcome → State → Prop} {XC : String → State → State → Prop}
/-- what a body that may throw owes at its end -/
def vx_MQ (below : List Frame) (Qc : Array Value → State → Outcome → State → Prop) (XC : String → State → State → Prop) (a : Array Value) (s : State) (mc ms : Nat) (free : Addr → Prop) : State → Prop := fun t =>
  ∃ o, t.status = .running ∧ Ended t below o ∧ vx_Q Qc XC mc ms free a s o t
theorem vx_ret {g : JFrame} {mc ms : Nat} (k : W p l e R s m args below meth c H locs cells slots (MQ below Qc args s mc ms free) g) : W p l e R s m args below meth c H locs cells slots (vx_MQ below Qc XC args s mc ms free) g := by
  intro T hT X
  obtain ⟨t, a1, o, b1, b2, b3, b4⟩ := k T hT X
  exact ⟨t, a1, o, b1, b2, Or.inl ⟨b3, b4⟩⟩
theorem vx_out {pc : Nat} {E : String} {ce : Cell} {q : Addr} {mc ms : Nat} (hout : ∀ x ∈ c.exceptionTable.toList, covers x pc = false) (hlocks : meth.locks = false) (hcell : H[q]? = some ce) (hv : ce.vm = .none) (hcl : s.vm.findClass E = some ce.cls)
    (hx : ∀ t : State, t.heap = H → s.vm.Alike t.vm → XC E s t) (hf : ∀ z ∈ locs, free z.base) (hc : cells ≤ mc) (hs : slots ≤ ms) :
    vx_W p l e R s m args below meth c H locs cells slots (vx_MQ below Qc XC args s mc ms free) (F0 m pc ls rest) q := by
  intro T hT X
  obtain ⟨st1, hrun, hend, hW, hsm⟩ := X.leaveThrown q (g := F0 m pc ls rest) rfl rfl rfl hout hlocks
  have hcell9 : (T.setFrames (.throwing q :: below)).heap[q]? = some ce := by
    show T.heap[q]? = some ce
    rw [hT]; exact hcell
  exact ⟨_, st1, .threw q, hrun, hend, Or.inr ⟨q, rfl, E, ce, locs, hx _ hT hW.alike, hcell9, hv, hcl, hW, hsm.mono hc hs, hf⟩⟩
theorem vx_frame {U : State} {k n : Nat} (h : s.sameButNew ({ U with vm := s.vm } : State) locs k n) : s.heap.size ≤ U.heap.size ∧ ∀ q : Nat, q < s.heap.size → (∀ z ∈ locs, z.base ≠ q) → U.heap[q]? = s.heap[q]? := by
  obtain ⟨-, h2, -, -, -, h6⟩ := h
  refine ⟨h2, fun q hq hz => ?_⟩
  obtain ⟨c9, e1, e2, e3, e4⟩ := h6 q _ (Array.getElem?_eq_getElem hq)
  have hs : c9.slots = (s.heap[q]).slots := Array.ext_getElem? fun i => e4 i fun hm => hz _ hm rfl
  have h9 : c9 = s.heap[q] := by
    rw [hs] at e2
    exact e2
  have e5 : U.heap[q]? = some c9 := e1
  rw [e5, h9, Array.getElem?_eq_getElem hq]
/-- the words of a throw but the four that speak of the heap -/
def vx_no (w : Cond) : Bool := decide (w ≠ .isRef (.static Bundle.tN "UNASSIGNED_STACK" Bundle.steD)) && decide (w ≠ .isRef (.static Bundle.tN "SUPPRESSED_SENTINEL" Bundle.listD)) && decide (w ≠ .laysStatic Bundle.tN "UNASSIGNED_STACK" Bundle.steD) && decide (w ≠ .laysStatic Bundle.tN "SUPPRESSED_SENTINEL" Bundle.listD)
def vx_at0 (own : String) (ic : Nat) (X : String) (names : List String) : List Cond := (Bundle.ownAtoms0 own ic X names).filter vx_no
def vx_atS (own : String) (ic : Nat) (X : String) (names : List String) : List Cond := (Bundle.ownAtoms own ic X names).filter vx_no
/-- a word that the tables alone decide, or a good one -/
def vx_ot (w : Cond) : Bool := w.onTables || goodWord w
theorem vx_ot_at {args a' : Array Value} {s U : State} {w : Cond} (hW : s.WarmedH U.vm) (hvm : s.vm = U.vm) (hg : vx_ot w = true) (h : w.before args s = true) : w.before a' U = true := by
  simp only [vx_ot, Bool.or_eq_true] at hg
  rcases hg with hg | hg
  · exact va_tabs hg hvm h
  · exact word_at hW (good_of_word hg) h
theorem vx_own {args : Array Value} {s : State} {L : List Cond} (h1 : ∀ w ∈ L.filter vx_no, w.before args s = true)
    (hU : (Cond.isRef (.static Bundle.tN "UNASSIGNED_STACK" Bundle.steD)).before args s = true) (hN : (Cond.isRef (.static Bundle.tN "SUPPRESSED_SENTINEL" Bundle.listD)).before args s = true)
    (lU : (Cond.laysStatic Bundle.tN "UNASSIGNED_STACK" Bundle.steD).before args s = true) (lN : (Cond.laysStatic Bundle.tN "SUPPRESSED_SENTINEL" Bundle.listD).before args s = true) : ∀ w ∈ L, w.before args s = true := by
  intro w hw
  by_cases e1 : w = .isRef (.static Bundle.tN "UNASSIGNED_STACK" Bundle.steD)
  · rw [e1]; exact hU
  · by_cases e2 : w = .isRef (.static Bundle.tN "SUPPRESSED_SENTINEL" Bundle.listD)
    · rw [e2]; exact hN
    · by_cases e3 : w = .laysStatic Bundle.tN "UNASSIGNED_STACK" Bundle.steD
      · rw [e3]; exact lU
      · by_cases e4 : w = .laysStatic Bundle.tN "SUPPRESSED_SENTINEL" Bundle.listD
        · rw [e4]; exact lN
        · exact h1 w (List.mem_filter.mpr ⟨hw, by unfold vx_no; rw [decide_eq_true e1, decide_eq_true e2, decide_eq_true e3, decide_eq_true e4]; rfl⟩)
/-- where a static field lies, its class's statics cell in H -/
def vx_L (C n d : String) (A : Nat → Prop) (U : State) (H : Heap) : Prop := ∃ (c : ClassId) (k : Class) (i : Nat) (f : Field) (a : Nat) (cell : Cell), U.vm.findClass C = some c ∧ U.fieldFound? C n d = some (c, k, i, f) ∧ f.isStatic = true ∧ k.statics = some a ∧ H[a]? = some cell ∧ cell.vm.isStatics = true ∧ cell.cls = c ∧ f.slot < cell.slots.size ∧ k.staticTypes[f.slot]? = some f.type ∧ ¬ A a
theorem vx_L.moved {C n d : String} {A : Nat → Prop} {u U : State} {H : Heap} (hvm : u.vm.Alike U.vm) (h : vx_L C n d A u H) : vx_L C n d A U H := by
  obtain ⟨c, k, i, f, a, cell, h1, h2, h3, h4, h5, h6, h7, h8, h9, h10⟩ := h
  obtain ⟨k', hi', he⟩ := State.fieldFound?_setVm hvm h2
  exact ⟨c, k', i, f, a, cell, by rw [hvm.findClass]; exact h1, hi', h3, by rw [he]; exact h4, h5, h6, h7, h8, by rw [he]; exact h9, h10⟩
theorem vx_L.kept {C n d : String} {A : Nat → Prop} {U : State} {H H1 : Heap} (h : vx_L C n d A U H) (hq : ∀ a : Nat, a < H.size → ¬ A a → H1[a]? = H[a]?) : vx_L C n d A U H1 := by
  obtain ⟨c, k, i, f, a, cell, h1, h2, h3, h4, h5, h6, h7, h8, h9, h10⟩ := h
  exact ⟨c, k, i, f, a, cell, h1, h2, h3, h4, by rw [hq a (Array.getElem?_eq_some_iff.mp h5).1 h10]; exact h5, h6, h7, h8, h9, h10⟩
theorem vx_L.word {C n d : String} {A : Nat → Prop} {s : State} {args : Array Value} (h : vx_L C n d A s s.heap) : (Cond.laysStatic C n d).before args s = true := by
  obtain ⟨c, k, i, f, a, cell, h1, h2, h3, h4, h5, h6, h7, h8, h9, -⟩ := h
  show (Cond.laysStatic C n d).holds args s none s [] = true
  exact Cond.laysStatic_of h1 h2 h3 h4 h5 h6 h7 h8 h9
/-- .. and what it holds: null or some reference -/
def vx_Zq (C n d : String) (A : Nat → Prop) (U : State) (H : Heap) : Prop := va_Zq C n d A U H ∧ vx_L C n d A U H
theorem vx_Zq.moved {C n d : String} {A : Nat → Prop} {u U : State} {H : Heap} (hvm : u.vm.Alike U.vm) (h : vx_Zq C n d A u H) : vx_Zq C n d A U H := ⟨va_Zq.moved hvm h.1, vx_L.moved hvm h.2⟩
theorem vx_Zq.kept {C n d : String} {A : Nat → Prop} {U : State} {H H1 : Heap} (h : vx_Zq C n d A U H) (hq : ∀ a : Nat, a < H.size → ¬ A a → H1[a]? = H[a]?) : vx_Zq C n d A U H1 := ⟨va_Zq.kept h.1 hq, vx_L.kept h.2 hq⟩
theorem vx_Zqof {args : Array Value} {s : State} {C n d : String} {A : Nat → Prop} (hl : (Cond.laysStatic C n d).before args s = true) (hini : (Cond.initialized C).before args s = true) (h : (Cond.isRef (.static C n d)).before args s = true) (hA : ∀ a : Nat, a < s.heap.size → ¬ A a) : vx_Zq C n d A s s.heap := by
  refine ⟨va_Zqof hl hini h hA, ?_⟩
  obtain ⟨c, k, i, f, a, cell, h1, h2, h3, h4, h5, h6, h7, h8, h9⟩ := Cond.laysStatic_spec hl
  exact ⟨c, k, i, f, a, cell, h1, h2, h3, h4, h5, h6, h7, h8, h9, hA a (Array.getElem?_eq_some_iff.mp h5).1⟩
theorem vx_isRef {C n d : String} {v : Value} {A : Nat → Prop} {s : State} {args : Array Value} (h : va_Z C n d v A s s.heap) (hv : v.isRef = true) : (Cond.isRef (.static C n d)).before args s = true := by
  obtain ⟨cf, kf, fi, f, a, cell, h1, h2, h3, h4, h5, h6, h7, -⟩ := h
  have he : (Term.static C n d).eval args s none [] s = some v := by
    simp [Term.eval, State.fieldNamed?, h1, h2, h4, h5, h6, h7]
  simp only [Cond.before, Cond.holds, Cond.value, he]
  cases v <;> simp_all [Value.isRef]
theorem vx_isRefq {C n d : String} {A : Nat → Prop} {s : State} {args : Array Value} (h : va_Zq C n d A s s.heap) : (Cond.isRef (.static C n d)).before args s = true := by
  rcases h with h | ⟨t, h⟩
  · exact vx_isRef h rfl
  · exact vx_isRef h rfl
/-- the same frame, seen from here: as if the method were called anew in this heap -/
theorem vx_rebase {T : State} (X : Stand p l e R s m args below meth c T locs cells slots) {R' : Room} (hf : R'.frames ≤ R.frames) (hl : R'.locals ≤ R.locals) (hc : cells + R'.cells ≤ R.cells) (hs : slots + R'.slots ≤ R.slots) :
    Stand p l e R' ((T.setVm s.vm).setFrames (.invoking m args :: below)) m args below meth c T [] 0 0 := by
  have htop : (T.setVm s.vm).topJava?.isSome := X.here.top
  have hF : ((T.setVm s.vm).setFrames (.invoking m args :: below)).frames = .invoking m args :: below := State.frames_setFrames _ (State.cur_lt_of_top htop)
  obtain ⟨g₀, hg0⟩ := Option.isSome_iff_exists.mp htop
  obtain ⟨r, hr⟩ := State.topJava?_eq_some.mp hg0
  have hl9 : e.platform.stackLimits (T.setVm s.vm).me = e.platform.stackLimits s.me := X.limits
  have hb9 : (T.setVm s.vm).me.stackBytes = s.me.stackBytes := X.bytes
  refine ⟨X.admits, X.cas, X.clock, hF, ?_, X.hears, X.method, X.code, X.here, X.tail, X.warmed, ?_, ?_, ?_⟩
  · have h := X.room
    have hU : ((T.setVm s.vm).setFrames (.invoking m args :: below)).localsInUse = s.localsInUse := by
      rw [State.localsInUse_invoking hF (meth := meth) (c := c) X.method X.code, State.localsInUse_invoking X.frames X.method X.code]
    simp only [State.hasRoom, Bool.and_eq_true, decide_eq_true_eq] at h ⊢
    obtain ⟨⟨⟨⟨h1, h2, h3, h4, h5, h6⟩, h7⟩, h8⟩, h9⟩ := h
    rw [X.frames, List.length_cons] at h2 h3
    have q1 := X.heapSize
    have q2 := X.used
    simp only [hF, hU, List.length_cons, State.stackLimits_setFrames, State.stackBytes_setFrames, hl9, hb9]
    refine ⟨⟨⟨⟨by omega, by omega, by omega, by omega, by omega, h6⟩, ?_⟩, ?_⟩, X.book⟩
    · show T.heap.size + R'.cells ≤ e.platform.maxCells
      omega
    · show T.slotsUsed + R'.slots ≤ e.platform.maxSlots
      omega
  · rw [State.stackLimits_setFrames]; rfl
  · rw [State.stackBytes_setFrames]; rfl
  · refine ⟨?_, Nat.le_refl _, Nat.le_refl _, ?_, ?_, fun a c9 h9 => ⟨c9, h9, rfl, rfl, fun _ _ => rfl⟩⟩
    · obtain ⟨t, ht, -⟩ := State.frames_cons hr
      show T.setVm s.vm = { ((T.setVm s.vm).setFrames (.invoking m args :: below)).setFrames (T.setVm s.vm).frames with heap := T.heap, slotsUsed := T.slotsUsed }
      rw [State.setFrames_setFrames, State.setFrames_self ht]
      rfl
    · show T.slotsUsed = T.slotsUsed + ((T.heap.toList.drop T.heap.size).map (·.slots.size)).sum
      rw [List.drop_eq_nil_of_le (Nat.le_of_eq Array.length_toList)]
      rfl
    · show ((T.heap.toList.drop T.heap.size).map (·.slots.size)).sum ≤ 0
      rw [List.drop_eq_nil_of_le (Nat.le_of_eq Array.length_toList)]
      exact Nat.le_refl _
/-- 'throw new E()': new; dup; invokespecial; athrow -/
theorem vx_throw0 {cc : ByteArray} {pc : Nat} (hexec : p.tables.exec = Jvm.exec) (hb : c.code = cc) (hl : l.stackTraces = false) {own cls : String} {names : List String} {ik ic mc ms : Nat} {A : Nat → Prop}
    (hown : s.vm.findClass own = some m.cls) (hcls : Bundle.fit cls = true) (hnames : ∀ n ∈ names, Bundle.fit n = true)
    (hk : (Cond.classLink own ik cls).before args s = true) (hini : (Cond.initialized cls).before args s = true) (hat : ∀ w ∈ vx_at0 own ic cls names, w.before args s = true)
    (hgood : ∀ w ∈ Cond.classLink own ik cls :: Cond.initialized cls :: vx_at0 own ic cls names, vx_ot w = true)
    (hU : vx_Zq Bundle.tN "UNASSIGNED_STACK" Bundle.steD A s s.heap) (hN : vx_Zq Bundle.tN "SUPPRESSED_SENTINEL" Bundle.listD A s s.heap) (hS : va_S A s.heap H locs) (hsize : ls.size = c.maxLocals)
    (d0 : decode cc pc = .ok (.new ik, 3)) (d3 : decode cc (pc + 3) = .ok (.dup, 1)) (d4 : decode cc (pc + 4) = .ok (.invokespecial ic, 3)) (d7 : decode cc (pc + 7) = .ok (.athrow, 1))
    (hout : ∀ x ∈ c.exceptionTable.toList, covers x (pc + 7) = false)
    (hRframes : names.length + 3 < R.frames) (hRlocals : (rest.map fun v => v.category).sum + (13 * (names.length + 1) + 42) ≤ R.locals) (hRcells : cells + 1 ≤ R.cells) (hRslots : slots + 6 ≤ R.slots) (hlocks : meth.locks = false)
    (hx : ∀ t : State, s.vm.Alike t.vm → H.size ≤ t.heap.size → (∀ q : Nat, q < H.size → t.heap[q]? = H[q]?) → XC cls s t)
    (hf : ∀ z ∈ locs, free z.base) (hc : cells + 1 ≤ mc) (hs : slots + 6 ≤ ms) :
    W p l e R s m args below meth c H locs cells slots (vx_MQ below Qc XC args s mc ms free) (F0 m pc ls rest) := by
  intro T hT X
  have htr : e.platform.stackTraces = false := (show e.platform.stackTraces = l.stackTraces by rw [X.admits.platform]).trans hl
  have Y := vx_rebase X (R' := { frames := R.frames, locals := R.locals, cells := 1, slots := 6 }) (Nat.le_refl _) (Nat.le_refl _) hRcells hRslots
  obtain ⟨s', hA⟩ : ∃ z, z = (T.setVm s.vm).setFrames (.invoking m args :: below) := ⟨_, rfl⟩
  rw [← hA] at Y
  have hvm : s'.vm = s.vm := by rw [hA]; rfl
  have hhp : s'.heap = H := by rw [hA]; exact hT
  have hW0 : s.WarmedH s'.vm := by rw [hvm]; exact State.WarmedH.refl s
  have hat' : ∀ w ∈ vx_at0 own ic cls names, w.before args s' = true := fun w hw => vx_ot_at hW0 hvm.symm (hgood w (List.mem_cons_of_mem _ (List.mem_cons_of_mem _ hw))) (hat w hw)
  have hk' : (Cond.classLink own ik cls).before args s' = true := vx_ot_at hW0 hvm.symm (hgood _ List.mem_cons_self) hk
  have hini' : (Cond.initialized cls).before args s' = true := vx_ot_at hW0 hvm.symm (hgood _ (List.mem_cons_of_mem _ List.mem_cons_self)) hini
  have hU' : vx_Zq Bundle.tN "UNASSIGNED_STACK" Bundle.steD A s' s'.heap := by rw [hhp]; exact vx_Zq.moved hW0.alike (hU.kept hS.2.1)
  have hN' : vx_Zq Bundle.tN "SUPPRESSED_SENTINEL" Bundle.listD A s' s'.heap := by rw [hhp]; exact vx_Zq.moved hW0.alike (hN.kept hS.2.1)
  have h : ∀ w ∈ Bundle.ownAtoms0 own ic cls names, w.before args s' = true := vx_own hat' (vx_isRefq hU'.1) (vx_isRefq hN'.1) hU'.2.word hN'.2.word
  have hown' : s'.vm.findClass own = some m.cls := by rw [hvm]; exact hown
  have hins : (Cond.instantiable cls 6).before args s' = true := h _ (by simp [Bundle.ownAtoms0])
  obtain ⟨vm₁, cX, kX, hfX, hkX, -, -, X₁, st1⟩ := Y.newCold hexec (own := own) (C := cls) (index := ik) (n := 6) hown' hk' hins hini'
    (g := F0 m pc ls rest) rfl (by rw [hb]; exact d0) (Nat.le_refl _) (Nat.le_refl _)
  generalize hT1 : (T.setVm vm₁).pushCell { cls := cX, slots := kX.instanceTypes.map defaultValue, vm := .none } = T1 at X₁ st1
  have hcat : (Value.ref T.heap.size).category = 1 := rfl
  have hcellA : T1.heap[T.heap.size]? = some (freshCell cX kX) := by rw [← hT1]; exact State.heap_pushCell_size _ _
  have d3' : decode c.code (pc + 3) = .ok (.dup, 1) := by rw [hb]; exact d3
  obtain ⟨U, hsteps, hrun, hend, hW, hsame, ce, hce, hO⟩ := X₁.ctorThrow0 hexec htr (own := own) (cls := cls) (names := names) (ic := ic) hown' hcls hnames h (fun x hx => nomatch hx) hfX hkX hcellA (by rw [hhp, hT]; exact Nat.le_refl _)
    (g := { method := m, pc := pc + 4, locals := ls, stack := .ref T.heap.size :: .ref T.heap.size :: rest, locked := none }) rfl hsize rfl rfl (rest := rest) rfl
    (by rw [hb]; exact d4) (by rw [hb]; exact d7) hout hRframes (by simp only [List.map_cons, List.sum_cons, hcat]; omega) hlocks
  obtain ⟨f1, f2⟩ := vx_frame hsame
  rw [hhp] at f1 f2
  have hWs : s.WarmedH U.vm := State.WarmedH.trans hW0 hW
  have hcl : s.vm.findClass cls = some ce.cls := by
    have h9 := hO.cls
    rw [hvm] at h9
    exact h9
  have hall : s.sameButNew ({ U with vm := s.vm } : State) locs mc ms := by
    subst hA
    obtain ⟨e1, e2⟩ := hsame
    rw [State.setFrames_setFrames] at e1
    have h2 : (T.setVm s.vm).sameButNew ({ U with vm := s.vm } : State) [] (0 + 1) (0 + 6) := ⟨e1, e2⟩
    have h3 := X.same.trans h2
    rw [List.append_nil] at h3
    exact h3.mono hc hs
  refine ⟨U, ?_, .threw T.heap.size, hrun, hend, Or.inr ⟨T.heap.size, rfl, cls, ce, locs, hx U hWs.alike f1 (fun q hq => f2 q hq (fun z hz => nomatch hz)), hce, hO.vm, hcl, hWs, hall, hf⟩⟩
  refine st1 _ ?_
  show Steps p.tables e below (T1.setTop { method := m, pc := pc + 3, locals := ls, stack := .ref T.heap.size :: rest, locked := none }) _
  jvm_step X₁.here [X₁.here.top, hexec, d3', Value.category]
  exact hsteps
/-- 'throw new E("text")': new; dup; ldc; invokespecial; athrow -/
theorem vx_throwS {cc : ByteArray} {pc : Nat} (hexec : p.tables.exec = Jvm.exec) (hb : c.code = cc) (hl : l.stackTraces = false) {own cls text : String} {names : List String} {ik is ic mc ms sa : Nat} {A : Nat → Prop}
    (hown : s.vm.findClass own = some m.cls) (hcls : Bundle.fit cls = true) (hnames : ∀ n ∈ names, Bundle.fit n = true)
    (hk : (Cond.classLink own ik cls).before args s = true) (hini : (Cond.initialized cls).before args s = true) (hstr : vk_R own is text sa s) (hat : ∀ w ∈ vx_atS own ic cls names, w.before args s = true)
    (hgood : ∀ w ∈ Cond.classLink own ik cls :: Cond.initialized cls :: vx_atS own ic cls names, vx_ot w = true)
    (hU : vx_Zq Bundle.tN "UNASSIGNED_STACK" Bundle.steD A s s.heap) (hN : vx_Zq Bundle.tN "SUPPRESSED_SENTINEL" Bundle.listD A s s.heap) (hS : va_S A s.heap H locs) (hsize : ls.size = c.maxLocals)
    (d0 : decode cc pc = .ok (.new ik, 3)) (d3 : decode cc (pc + 3) = .ok (.dup, 1)) (d4 : decode cc (pc + 4) = .ok (.ldc is, 2)) (d6 : decode cc (pc + 6) = .ok (.invokespecial ic, 3)) (d9 : decode cc (pc + 9) = .ok (.athrow, 1))
    (hout : ∀ x ∈ c.exceptionTable.toList, covers x (pc + 9) = false)
    (hRframes : names.length + 3 < R.frames) (hRlocals : (rest.map fun v => v.category).sum + (13 * (names.length + 1) + 43) ≤ R.locals) (hRcells : cells + 1 ≤ R.cells) (hRslots : slots + 6 ≤ R.slots) (hlocks : meth.locks = false)
    (hx : ∀ t : State, s.vm.Alike t.vm → H.size ≤ t.heap.size → (∀ q : Nat, q < H.size → t.heap[q]? = H[q]?) → XC cls s t)
    (hf : ∀ z ∈ locs, free z.base) (hc : cells + 1 ≤ mc) (hs : slots + 6 ≤ ms) :
    W p l e R s m args below meth c H locs cells slots (vx_MQ below Qc XC args s mc ms free) (F0 m pc ls rest) := by
  intro T hT X
  have htr : e.platform.stackTraces = false := (show e.platform.stackTraces = l.stackTraces by rw [X.admits.platform]).trans hl
  have Y := vx_rebase X (R' := { frames := R.frames, locals := R.locals, cells := 1, slots := 6 }) (Nat.le_refl _) (Nat.le_refl _) hRcells hRslots
  obtain ⟨s', hA⟩ : ∃ z, z = (T.setVm s.vm).setFrames (.invoking m args :: below) := ⟨_, rfl⟩
  rw [← hA] at Y
  have hvm : s'.vm = s.vm := by rw [hA]; rfl
  have hhp : s'.heap = H := by rw [hA]; exact hT
  have hW0 : s.WarmedH s'.vm := by rw [hvm]; exact State.WarmedH.refl s
  have hat' : ∀ w ∈ vx_atS own ic cls names, w.before args s' = true := fun w hw => vx_ot_at hW0 hvm.symm (hgood w (List.mem_cons_of_mem _ (List.mem_cons_of_mem _ hw))) (hat w hw)
  have hk' : (Cond.classLink own ik cls).before args s' = true := vx_ot_at hW0 hvm.symm (hgood _ List.mem_cons_self) hk
  have hini' : (Cond.initialized cls).before args s' = true := vx_ot_at hW0 hvm.symm (hgood _ (List.mem_cons_of_mem _ List.mem_cons_self)) hini
  have hU' : vx_Zq Bundle.tN "UNASSIGNED_STACK" Bundle.steD A s' s'.heap := by rw [hhp]; exact vx_Zq.moved hW0.alike (hU.kept hS.2.1)
  have hN' : vx_Zq Bundle.tN "SUPPRESSED_SENTINEL" Bundle.listD A s' s'.heap := by rw [hhp]; exact vx_Zq.moved hW0.alike (hN.kept hS.2.1)
  have h : ∀ w ∈ Bundle.ownAtoms own ic cls names, w.before args s' = true := vx_own hat' (vx_isRefq hU'.1) (vx_isRefq hN'.1) hU'.2.word hN'.2.word
  have hown' : s'.vm.findClass own = some m.cls := by rw [hvm]; exact hown
  have hins : (Cond.instantiable cls 6).before args s' = true := h _ (by simp [Bundle.ownAtoms])
  obtain ⟨vm₁, cX, kX, hfX, hkX, -, -, X₁, st1⟩ := Y.newCold hexec (own := own) (C := cls) (index := ik) (n := 6) hown' hk' hins hini'
    (g := F0 m pc ls rest) rfl (by rw [hb]; exact d0) (Nat.le_refl _) (Nat.le_refl _)
  generalize hT1 : (T.setVm vm₁).pushCell { cls := cX, slots := kX.instanceTypes.map defaultValue, vm := .none } = T1 at X₁ st1
  have hcat : (Value.ref T.heap.size).category = 1 := rfl
  have hcellA : T1.heap[T.heap.size]? = some (freshCell cX kX) := by rw [← hT1]; exact State.heap_pushCell_size _ _
  have d3' : decode c.code (pc + 3) = .ok (.dup, 1) := by rw [hb]; exact d3
  have d4' : decode c.code (pc + 4) = .ok (.ldc is, 2) := by rw [hb]; exact d4
  have hstr' : vk_R own is text sa s' := vk_R.warm hW0 hstr
  obtain ⟨U, hsteps, hrun, hend, hW, hsame, ce, hce, hO⟩ := X₁.ctorThrowS hexec htr (own := own) (cls := cls) (names := names) (ic := ic) hown' hcls hnames h (fun x hx => nomatch hx) hfX hkX hcellA (by rw [hhp, hT]; exact Nat.le_refl _) (msg := .ref sa) rfl
    (g := { method := m, pc := pc + 6, locals := ls, stack := .ref sa :: .ref T.heap.size :: .ref T.heap.size :: rest, locked := none }) rfl hsize rfl rfl (rest := rest) rfl
    (by rw [hb]; exact d6) (by rw [hb]; exact d9) hout hRframes (by simp only [List.map_cons, List.sum_cons, hcat]; omega) hlocks
  obtain ⟨f1, f2⟩ := vx_frame hsame
  rw [hhp] at f1 f2
  have hWs : s.WarmedH U.vm := State.WarmedH.trans hW0 hW
  have hcl : s.vm.findClass cls = some ce.cls := by
    have h9 := hO.cls
    rw [hvm] at h9
    exact h9
  have hall : s.sameButNew ({ U with vm := s.vm } : State) locs mc ms := by
    subst hA
    obtain ⟨e1, e2⟩ := hsame
    rw [State.setFrames_setFrames] at e1
    have h2 : (T.setVm s.vm).sameButNew ({ U with vm := s.vm } : State) [] (0 + 1) (0 + 6) := ⟨e1, e2⟩
    have h3 := X.same.trans h2
    rw [List.append_nil] at h3
    exact h3.mono hc hs
  refine ⟨U, ?_, .threw T.heap.size, hrun, hend, Or.inr ⟨T.heap.size, rfl, cls, ce, locs, hx U hWs.alike f1 (fun q hq => f2 q hq (fun z hz => nomatch hz)), hce, hO.vm, hcl, hWs, hall, hf⟩⟩
  refine st1 _ ?_
  show Steps p.tables e below (T1.setTop { method := m, pc := pc + 3, locals := ls, stack := .ref T.heap.size :: rest, locked := none }) _
  jvm_step X₁.here [X₁.here.top, hexec, d3', Value.category]
  exact X₁.ldcString hexec (own := own) (text := text) (index := is) (a := sa) hown' hstr'.1 hstr'.2
    (g := { method := m, pc := pc + 4, locals := ls, stack := .ref T.heap.size :: .ref T.heap.size :: rest, locked := none }) rfl d4' _ hsteps
/-- 'throw new E("text")', the text by a wide index -/
theorem vx_throwSW {cc : ByteArray} {pc : Nat} (hexec : p.tables.exec = Jvm.exec) (hb : c.code = cc) (hl : l.stackTraces = false) {own cls text : String} {names : List String} {ik is ic mc ms sa : Nat} {A : Nat → Prop}
    (hown : s.vm.findClass own = some m.cls) (hcls : Bundle.fit cls = true) (hnames : ∀ n ∈ names, Bundle.fit n = true)
    (hk : (Cond.classLink own ik cls).before args s = true) (hini : (Cond.initialized cls).before args s = true) (hstr : vk_R own is text sa s) (hat : ∀ w ∈ vx_atS own ic cls names, w.before args s = true)
    (hgood : ∀ w ∈ Cond.classLink own ik cls :: Cond.initialized cls :: vx_atS own ic cls names, vx_ot w = true)
    (hU : vx_Zq Bundle.tN "UNASSIGNED_STACK" Bundle.steD A s s.heap) (hN : vx_Zq Bundle.tN "SUPPRESSED_SENTINEL" Bundle.listD A s s.heap) (hS : va_S A s.heap H locs) (hsize : ls.size = c.maxLocals)
    (d0 : decode cc pc = .ok (.new ik, 3)) (d3 : decode cc (pc + 3) = .ok (.dup, 1)) (d4 : decode cc (pc + 4) = .ok (.ldc_w is, 3)) (d7 : decode cc (pc + 7) = .ok (.invokespecial ic, 3)) (d10 : decode cc (pc + 10) = .ok (.athrow, 1))
    (hout : ∀ x ∈ c.exceptionTable.toList, covers x (pc + 10) = false)
    (hRframes : names.length + 3 < R.frames) (hRlocals : (rest.map fun v => v.category).sum + (13 * (names.length + 1) + 43) ≤ R.locals) (hRcells : cells + 1 ≤ R.cells) (hRslots : slots + 6 ≤ R.slots) (hlocks : meth.locks = false)
    (hx : ∀ t : State, s.vm.Alike t.vm → H.size ≤ t.heap.size → (∀ q : Nat, q < H.size → t.heap[q]? = H[q]?) → XC cls s t)
    (hf : ∀ z ∈ locs, free z.base) (hc : cells + 1 ≤ mc) (hs : slots + 6 ≤ ms) :
    W p l e R s m args below meth c H locs cells slots (vx_MQ below Qc XC args s mc ms free) (F0 m pc ls rest) := by
  intro T hT X
  have htr : e.platform.stackTraces = false := (show e.platform.stackTraces = l.stackTraces by rw [X.admits.platform]).trans hl
  have Y := vx_rebase X (R' := { frames := R.frames, locals := R.locals, cells := 1, slots := 6 }) (Nat.le_refl _) (Nat.le_refl _) hRcells hRslots
  obtain ⟨s', hA⟩ : ∃ z, z = (T.setVm s.vm).setFrames (.invoking m args :: below) := ⟨_, rfl⟩
  rw [← hA] at Y
  have hvm : s'.vm = s.vm := by rw [hA]; rfl
  have hhp : s'.heap = H := by rw [hA]; exact hT
  have hW0 : s.WarmedH s'.vm := by rw [hvm]; exact State.WarmedH.refl s
  have hat' : ∀ w ∈ vx_atS own ic cls names, w.before args s' = true := fun w hw => vx_ot_at hW0 hvm.symm (hgood w (List.mem_cons_of_mem _ (List.mem_cons_of_mem _ hw))) (hat w hw)
  have hk' : (Cond.classLink own ik cls).before args s' = true := vx_ot_at hW0 hvm.symm (hgood _ List.mem_cons_self) hk
  have hini' : (Cond.initialized cls).before args s' = true := vx_ot_at hW0 hvm.symm (hgood _ (List.mem_cons_of_mem _ List.mem_cons_self)) hini
  have hU' : vx_Zq Bundle.tN "UNASSIGNED_STACK" Bundle.steD A s' s'.heap := by rw [hhp]; exact vx_Zq.moved hW0.alike (hU.kept hS.2.1)
  have hN' : vx_Zq Bundle.tN "SUPPRESSED_SENTINEL" Bundle.listD A s' s'.heap := by rw [hhp]; exact vx_Zq.moved hW0.alike (hN.kept hS.2.1)
  have h : ∀ w ∈ Bundle.ownAtoms own ic cls names, w.before args s' = true := vx_own hat' (vx_isRefq hU'.1) (vx_isRefq hN'.1) hU'.2.word hN'.2.word
  have hown' : s'.vm.findClass own = some m.cls := by rw [hvm]; exact hown
  have hins : (Cond.instantiable cls 6).before args s' = true := h _ (by simp [Bundle.ownAtoms])
  obtain ⟨vm₁, cX, kX, hfX, hkX, -, -, X₁, st1⟩ := Y.newCold hexec (own := own) (C := cls) (index := ik) (n := 6) hown' hk' hins hini'
    (g := F0 m pc ls rest) rfl (by rw [hb]; exact d0) (Nat.le_refl _) (Nat.le_refl _)
  generalize hT1 : (T.setVm vm₁).pushCell { cls := cX, slots := kX.instanceTypes.map defaultValue, vm := .none } = T1 at X₁ st1
  have hcat : (Value.ref T.heap.size).category = 1 := rfl
  have hcellA : T1.heap[T.heap.size]? = some (freshCell cX kX) := by rw [← hT1]; exact State.heap_pushCell_size _ _
  have d3' : decode c.code (pc + 3) = .ok (.dup, 1) := by rw [hb]; exact d3
  have d4' : decode c.code (pc + 4) = .ok (.ldc_w is, 3) := by rw [hb]; exact d4
  have hstr' : vk_R own is text sa s' := vk_R.warm hW0 hstr
  obtain ⟨U, hsteps, hrun, hend, hW, hsame, ce, hce, hO⟩ := X₁.ctorThrowS hexec htr (own := own) (cls := cls) (names := names) (ic := ic) hown' hcls hnames h (fun x hx => nomatch hx) hfX hkX hcellA (by rw [hhp, hT]; exact Nat.le_refl _) (msg := .ref sa) rfl
    (g := { method := m, pc := pc + 7, locals := ls, stack := .ref sa :: .ref T.heap.size :: .ref T.heap.size :: rest, locked := none }) rfl hsize rfl rfl (rest := rest) rfl
    (by rw [hb]; exact d7) (by rw [hb]; exact d10) hout hRframes (by simp only [List.map_cons, List.sum_cons, hcat]; omega) hlocks
  obtain ⟨f1, f2⟩ := vx_frame hsame
  rw [hhp] at f1 f2
  have hWs : s.WarmedH U.vm := State.WarmedH.trans hW0 hW
  have hcl : s.vm.findClass cls = some ce.cls := by
    have h9 := hO.cls
    rw [hvm] at h9
    exact h9
  have hall : s.sameButNew ({ U with vm := s.vm } : State) locs mc ms := by
    subst hA
    obtain ⟨e1, e2⟩ := hsame
    rw [State.setFrames_setFrames] at e1
    have h2 : (T.setVm s.vm).sameButNew ({ U with vm := s.vm } : State) [] (0 + 1) (0 + 6) := ⟨e1, e2⟩
    have h3 := X.same.trans h2
    rw [List.append_nil] at h3
    exact h3.mono hc hs
  refine ⟨U, ?_, .threw T.heap.size, hrun, hend, Or.inr ⟨T.heap.size, rfl, cls, ce, locs, hx U hWs.alike f1 (fun q hq => f2 q hq (fun z hz => nomatch hz)), hce, hO.vm, hcl, hWs, hall, hf⟩⟩
  refine st1 _ ?_
  show Steps p.tables e below (T1.setTop { method := m, pc := pc + 3, locals := ls, stack := .ref T.heap.size :: rest, locked := none }) _
  jvm_step X₁.here [X₁.here.top, hexec, d3', Value.category]
  exact X₁.ldcStringW hexec (own := own) (text := text) (index := is) (a := sa) hown' hstr'.1 hstr'.2
    (g := { method := m, pc := pc + 4, locals := ls, stack := .ref T.heap.size :: .ref T.heap.size :: rest, locked := none }) rfl d4' _ hsteps
end Ends
section Bodies
variable {l : Launch}
/-- the table of a body with handlers -/
theorem vx_table {p : Program} {x y : MethodName} {S : Spec} {cc bytes : ByteArray} {maxL maxL' : Nat} {ret ret' : Option FieldType} {e : Env} {s s₁ : State} {m : MethodId} {args : Array Value} {below : List Frame} {meth : Method} {c : Code} {hh : List (Nat × Nat × Nat × Nat)}
    (B : BodyLoose p l y S cc maxL ret e s m args below meth c s₁) (h : (Cond.codeWith y bytes maxL' ret' hh).before args s = true) : c.exceptionTable.toList = tableOf hh := by
  obtain ⟨m9, meth9, c9, hn9, h1, h2, -, -, h6, -⟩ := Cond.codeWith_spec h
  cases Option.some.inj (hn9.symm.trans B.named)
  cases Option.some.inj (h1.symm.trans B.method)
  cases Option.some.inj (h2.symm.trans (Stand.of_body B).code)
  rw [← h6, table_eq]
end Bodies
end VXA
/-! ===== END ===== -/
/-! ===== BEGIN a static call of a method with an exception table ===== -/
section VXS
variable {p : Program} {l : Launch} {e : Env} {R : Room} {s : State} {m : MethodId} {args : Array Value} {below : List Frame} {meth : Method} {c : Code} {T : State} {H : Heap} {locs : List Loc} {cells slots : Nat}
abbrev vx_CSW (R : Room) (s : State) (args : Array Value) (own : String) (index : Nat) (y : MethodName) (bytes : ByteArray) (maxL : Nat) (ret : Option FieldType) (hh : List (Nat × Nat × Nat × Nat)) (ws : List Cond) (rm : Room) (mc ms n : Nat) : Prop :=
  (rm.cells = mc ∧ rm.slots = ms ∧ rm.frames + 1 ≤ R.frames ∧ 8 + (maxL + 11) + rm.locals ≤ R.locals ∧ (∀ w ∈ ws, ∀ (a' : Array Value) (U : State), s.WarmedH U.vm → w.before a' U = true) ∧ Cond.codeWith y bytes maxL ret hh ∈ ws) ∧
  (Cond.codeWith y bytes maxL ret hh).before args s = true ∧ (Cond.initialized y.cls).before args s = true ∧ (y.cls ≠ "java/lang/invoke/MethodHandle" ∧ y.cls ≠ "java/lang/invoke/VarHandle") ∧
  (∀ sig, parseMethodDescriptor y.desc = some sig → n = sig.parameters.length) ∧ (Cond.methodLink own index y).before args s = true ∧ (Cond.static y).before args s = true
theorem vx_callSW (X : Stand p l e R s m args below meth c T locs cells slots) (hexec : p.tables.exec = Jvm.exec) {own : String} {index : Nat} {y : MethodName} {bytes : ByteArray} {maxL : Nat} {ret : Option FieldType} {hh : List (Nat × Nat × Nat × Nat)}
    (hown : s.vm.findClass own = some m.cls) (hlink : (Cond.methodLink own index y).before args s = true) (hstat : (Cond.static y).before args s = true) (hinit : (Cond.initialized y.cls).before args s = true)
    (hcode : (Cond.codeWith y bytes maxL ret hh).before args s = true) (hy : y.cls ≠ "java/lang/invoke/MethodHandle" ∧ y.cls ≠ "java/lang/invoke/VarHandle")
    {W9 : Nat} {Pre : Pt → Array Value → Prop} {Post : Pt → Array Value → Option Value → Pt → Prop} (hK : Back l R p e below s args y 3 W9 Pre Post)
    {g : JFrame} (hg : g.method = m) (hsize : g.locals.size = c.maxLocals) {argsL rest : List Value} (hlen : ∀ sig, parseMethodDescriptor y.desc = some sig → argsL.length = sig.parameters.length)
    (hstack : g.stack = argsL.reverse ++ rest) (hW : 2 * g.monitorRoom + (rest.map fun v => v.category).sum ≤ W9) (hdg : decode c.code g.pc = .ok (.invokestatic index, 3))
    (hpre : ∀ vm₁, s.WarmedH vm₁ → Pre ⟨T.setVm vm₁, locs, cells, slots⟩ argsL.toArray) :
    ∃ (v : Option Value) (vm₁ : Vm) (B : Pt), s.WarmedH vm₁ ∧ Stand p l e R s m args below meth c B.U B.locs B.cells B.slots ∧ Post ⟨T.setVm vm₁, locs, cells, slots⟩ argsL.toArray v B ∧
      ∀ target, Steps p.tables e below (B.U.setTop { g with pc := g.pc + 3, stack := v.toList ++ rest }) target → Steps p.tables e below (T.setTop g) target := by
  obtain ⟨mk, methM, cM, hnamed, hmethM, -, -, -, -, -, -, hsigM⟩ := Cond.codeWith_spec hcode
  have hstatic : methM.isStatic = true := Cond.static_spec hnamed hmethM hstat
  obtain ⟨kP, hkP, -⟩ := className_of_methodNamed hnamed
  have hinitP : kP.init = .initialized := Cond.initialized_spec (findClass_of_methodNamed hnamed) hkP hinit
  obtain ⟨vm₁, X₁, hstep₁⟩ := X.invokestatic hexec hown hlink hnamed hmethM hstatic hkP hinitP hy (g := g) hg (argsL := argsL) (rest := rest) (hlen _ hsigM) hstack hdg
  obtain ⟨v, B, X', hpost, hsteps⟩ := hK m meth c ⟨T.setVm vm₁, locs, cells, slots⟩ { g with stack := rest } (.invokestatic index) mk argsL.toArray X₁ hg hsize hdg hW (X₁.named hnamed) (hpre vm₁ X₁.warmed)
  exact ⟨v, vm₁, B, X₁.warmed, X', hpost, fun target h => hstep₁ _ fun acts => by rw [doInvoke_state]; exact hsteps.trans h⟩
theorem vx_runSW {y : MethodName} {bytes cc : ByteArray} {maxL nL mc ms n index : Nat} {ret : Option FieldType} {hh : List (Nat × Nat × Nat × Nat)} {ws : List Cond} {rm : Room} {Pc : Array Value → State → Prop} {Qc : Array Value → State → Outcome → State → Prop} {free : Addr → Prop} {Ts : List Cond} {own : String} {As rest : List Value} {g : JFrame}
    (S : CallFix p m c cc nL s args Ts own) (hM : Met l y ws rm Pc Qc mc ms free) (cw : vx_CSW R s args own index y bytes maxL ret hh ws rm mc ms n) (hp : PreS s H Pc As)
    (hg : g.method = m) (hn : As.length = n) (hsize : g.locals.size = nL) (hstack : g.stack = As.reverse ++ rest) (hW : 2 * g.monitorRoom + (rest.map fun v => v.category).sum ≤ 8) (hdg : decode cc g.pc = .ok (.invokestatic index, 3)) (hf : cells + mc ≤ R.cells ∧ slots + ms ≤ R.slots) :
    va_Run p l e R s m args below meth c H locs cells slots mc ms g rest (Qc As.toArray) (free) := by
  obtain ⟨⟨hrc, hrs, hfr, hlo, hws, hcw⟩, hcode, hini, hy, hlen, hl, hstt⟩ := cw
  have hK : Back l R p e below s args y 3 8 (PreOf R mc ms Pc) (PostOf Qc mc ms free) := va_backW (hh := hh) (bytes := bytes) (maxL := maxL) (ret := ret) hM hp.1 hrc hrs hfr hlo hws hcw (fun a' U hW => word_at hW (Or.inl (by first | rfl | simp [Cond.onTables, Cond.keeps, Cond.steady])) hini)
  obtain ⟨hx, hb, hml, ho, -⟩ := S
  intro T hT X
  obtain ⟨v, vm₁, ⟨U', l2, c2, s2⟩, hW₁, X', ⟨g', mk, t, L, e1, e2, hq, h1, hL, h2, h3⟩, st⟩ := vx_callSW X hx (hh := hh) (bytes := bytes) (maxL := maxL) (ret := ret) ho hl hstt hini hcode hy hK hg (hsize.trans hml.symm) (argsL := As) (rest := rest) (fun sig h => hn.trans (hlen sig h)) hstack hW (by rw [hb]; exact hdg)
    (fun vm₁ hW₁ => ⟨hf.1, hf.2, hp.2 (T.setVm vm₁) hT hW₁⟩)
  dsimp only [Pt.U, Pt.locs, Pt.cells, Pt.slots] at X' e1 e2 h1 h2 h3 st
  subst h1; subst h2; subst h3
  exact ⟨v, (T.setVm vm₁).calling g' mk As.toArray, t, U', L, hT, X', hL, e1, e2, hq, st⟩
/-- not caught here, past rows that name other classes: it goes on to the caller -/
theorem vx_outP {p : Program} {l : Launch} {e : Env} {R : Room} {s : State} {m : MethodId} {args : Array Value} {below : List Frame} {meth : Method} {c : Code} {H : Heap} {locs : List Loc} {cells slots : Nat} {free : Addr → Prop} {ls : Array Slot} {rest : List Value} {Qc : Array Value → State → Outcome → State → Prop} {XC : String → State → State → Prop}
    {pc : Nat} {own E : String} {ce : Cell} {q : Addr} {mc ms : Nat} (hown : s.vm.findClass own = some m.cls) (hlocks : meth.locks = false)
    (hpass : ∀ z ∈ c.exceptionTable.toList, covers z pc = false ∨ (z.catchType ≠ 0 ∧ ∃ nm : String, (Cond.classLink own z.catchType nm).before args s = true ∧ va_Nc E nm s)) (hcell : H[q]? = some ce) (hv : ce.vm = .none) (hcl : s.vm.findClass E = some ce.cls)
    (hx : ∀ t : State, t.heap = H → s.vm.Alike t.vm → XC E s t) (hf : ∀ z ∈ locs, free z.base) (hc : cells ≤ mc) (hs : slots ≤ ms) :
    vx_W p l e R s m args below meth c H locs cells slots (vx_MQ below Qc XC args s mc ms free) (F0 m pc ls rest) q := by
  intro T hT X
  have hpl : e.platform.magicAccessors = ({} : Platform).magicAccessors := by rw [X.admits.platform]
  obtain ⟨vm', hW', X', st⟩ := X.outThrough hlocks q (g := F0 m pc ls rest) rfl rfl rfl (cell := ce) (by rw [hT]; exact hcell) (by rw [hv]; rfl)
    (by obtain ⟨k9, h9, -⟩ := Vm.findClass_spec hcl; exact ⟨k9, h9⟩) (fun z hz => by
      rcases hpass z hz with h | ⟨hz0, nm, hl1, hn1⟩
      · exact Or.inl h
      · obtain ⟨c6, hc6, hcl6⟩ := Cond.classLink_spec hown hl1 e.platform hpl
        obtain ⟨a8, b8, h1, h2, h3⟩ := hn1
        cases Option.some.inj (h1.symm.trans hcl)
        cases Option.some.inj (h2.symm.trans hc6)
        exact Or.inr ⟨hz0, _, hcl6, h3⟩)
  obtain ⟨g₀, hfr⟩ := X'.frames_eq
  have hcell9 : ((T.setVm vm').setFrames (.throwing q :: below)).heap[q]? = some ce := by
    show T.heap[q]? = some ce
    rw [hT]; exact hcell
  have hend : Ended ((T.setVm vm').setFrames (.throwing q :: below)) below (.threw q) := State.frames_setFrames _ (State.cur_lt_of_frames hfr)
  refine ⟨(T.setVm vm').setFrames (.throwing q :: below), ?_, .threw q, X'.here.running, hend, Or.inr ⟨q, rfl, E, ce, locs, hx _ hT (X'.ends _).1.alike, hcell9, hv, hcl, (X'.ends _).1, (X'.ends _).2.mono hc hs, hf⟩⟩
  rw [X.pushThrowing_eq]
  exact st
end VXS
/-! ===== END ===== -/
/-! ===== BEGIN methods with a table of their own: called by a name, returning or throwing ===== -/
section VXH
/-! vx_backW, vx_callVX, vx_callSX, vx_callVW, vx_runVW, vx_runVX, vx_runSX, vx_ofWH follow the same proofs as their sisters above (Free/Laws.lean, Shelf42/LK1.lean); vx_outP calls Shelf42/NT130.lean (outThrough). -/
section
variable {l : Launch} {R : Room} {p : Program} {e : Env} {below : List Frame} {s : State} {sargs : Array Value} {y : MethodName} {len W9 : Nat}
theorem vx_backW {ws : List Cond} {rm : Room} {Pc : Array Value → State → Prop} {Qc : Array Value → State → Outcome → State → Prop} {XC : String → State → State → Prop} {mc ms : Nat} {free : Addr → Prop} {bytes : ByteArray} {maxL : Nat} {ret : Option FieldType} {hh : List (Nat × Nat × Nat × Nat)}
    (hM : vx_Met l y ws rm Pc Qc XC mc ms free) (hblind : FrameBlind Pc) (hrc : rm.cells = mc) (hrs : rm.slots = ms)
    (hframes : rm.frames + 1 ≤ R.frames) (hlocals : W9 + (maxL + 11) + rm.locals ≤ R.locals)
    (hws : ∀ w ∈ ws, ∀ a' U, s.WarmedH U.vm → w.before a' U = true) (hcode : Cond.codeWith y bytes maxL ret hh ∈ ws) (hinit : ∀ a' U, s.WarmedH U.vm → (Cond.initialized y.cls).before a' U = true) :
    vx_Back l R p e below s sargs y len W9 (PreOf R mc ms Pc) (PostOf Qc mc ms free) (vx_Post XC mc ms free) := by
  intro m meth c A g ig mk a X hg hsize hdg hW hn hp
  have h1 : (headSpec ws rm).pre.before a A.U = true := atoms_intro fun w hw => hws w hw _ _ X.warmed
  have h2 : (Cond.codeWith y bytes maxL ret hh).before a A.U = true := hws _ hcode _ _ X.warmed
  have h3 : (Cond.initialized y.cls).before a A.U = true := hinit _ _ X.warmed
  have h4 : A.cells + (headSpec ws rm).room.cells ≤ R.cells := by rw [show (headSpec ws rm).room.cells = mc from hrc]; exact hp.1
  have h5 : A.slots + (headSpec ws rm).room.slots ≤ R.slots := by rw [show (headSpec ws rm).room.slots = ms from hrs]; exact hp.2.1
  have hPc : Pc a (A.U.calling g mk a) := hblind _ _ _ _ hp.2.2
  obtain ⟨U, Ls, c0, s0⟩ := A
  dsimp only [Pt.U, Pt.locs, Pt.cells, Pt.slots] at h1 h2 h3 h4 h5 X hn hPc ⊢
  obtain ⟨m9, methY, cY, hn9, hmY, hcY, -, hlY, -⟩ := Cond.codeWith_spec h2
  cases Option.some.inj (hn9.symm.trans hn)
  obtain ⟨kY, hkY, -⟩ := className_of_methodNamed hn
  have hinitY : kY.init = .initialized := Cond.initialized_spec (findClass_of_methodNamed hn) hkY h3
  have h : At U g.method c below := by rw [hg]; exact X.here
  have hlocals9 : W9 + (maxL + 11) + (headSpec ws rm).room.locals ≤ R.locals := hlocals
  have happ : (headSpec ws rm).appliesLoose y e.platform (U.calling g mk a) = true :=
    Spec.appliesLoose_calling (g := g) h hdg hn hkY hinitY
      (X.room_calling (g := g) (R' := (headSpec ws rm).room) hsize hmY hcY hframes (by rw [hlY]; omega) h4 h5) h1
  obtain ⟨mid, hmid⟩ := h.above
  have hfr : (U.setTop g).frames = (.java g :: mid) ++ below := by rw [State.frames_setTop' g h.top, hmid]; rfl
  obtain ⟨o, s₂, hsteps, -, hend, hq⟩ := Steps.callFree hM p X.admits X.cas X.clock (acts := []) hfr happ hPc trivial
  have hq' : vx_Q Qc XC mc ms free a (U.calling g mk a) o s₂ := hq
  rw [State.frames_setTop' g h.top] at hend
  obtain ⟨g₀, hg0⟩ := Option.isSome_iff_exists.mp h.top
  obtain ⟨r, hr⟩ := State.topJava?_eq_some.mp hg0
  have hr' : (({ U with heap := s₂.heap, slotsUsed := s₂.slotsUsed } : State).setVm s₂.vm).frames = .java g₀ :: r := hr
  rcases hq' with ⟨hqc, L, hfe, hL⟩ | ⟨q, rfl, E, ce, L, hx, hce, hcv, hcl, hW₂, hsm, hL⟩
  · obtain ⟨⟨v, rfl⟩, hW₂, e2, q2, q3, q4, q5, q6⟩ := id hfe
    have e3 : s₂ = ({ (U.calling g mk a).setFrames s₂.frames with heap := s₂.heap, slotsUsed := s₂.slotsUsed } : State).setVm s₂.vm := by
      have : s₂ = ({ s₂ with vm := (U.calling g mk a).vm } : State).setVm s₂.vm := rfl
      rw [e2] at this
      exact this
    obtain ⟨c₂, i₂, len₂, hc₂, hd₂, hf₂⟩ := hend
    have hW' : U.WarmedH s₂.vm := hW₂
    have hcc : c₂ = c := by
      have h1 : s₂.code? g.method = U.code? g.method := by
        rw [State.code?_eq, State.code?_eq, hW'.alike.method?]
      exact Option.some.inj (hc₂.symm.trans (h1.trans h.code))
    subst hcc
    have hlen : len₂ = len := by rw [hdg] at hd₂; cases hd₂; rfl
    subst hlen
    have hs₂ : s₂ = (({ U with heap := s₂.heap, slotsUsed := s₂.slotsUsed } : State).setVm s₂.vm).setTop { g with pc := g.pc + len₂, stack := v.toList ++ g.stack } := by
      refine e3.trans ?_
      rw [hf₂, State.calling_eq h.top, State.setFrames_setFrames, State.setTop_of_frames _ hr', hr]
      rfl
    have hsame : U.sameButNew ({ U with heap := s₂.heap, slotsUsed := s₂.slotsUsed } : State) L mc ms := by
      refine ⟨?_, q2, q3, q4, q5, q6⟩
      obtain ⟨t, ht, -⟩ := State.frames_cons hr
      show ({ U with heap := s₂.heap, slotsUsed := s₂.slotsUsed } : State) = { U.setFrames U.frames with heap := s₂.heap, slotsUsed := s₂.slotsUsed }
      rw [State.setFrames_self ht]
    subst hg
    refine Or.inl ⟨v, ⟨(({ U with heap := s₂.heap, slotsUsed := s₂.slotsUsed } : State).setVm s₂.vm), Ls ++ L, c0 + mc, s0 + ms⟩,
      ⟨X.admits, X.cas, X.clock, X.frames, X.room, X.hears, X.method, X.code, (X.here.setHeapUsed s₂.heap s₂.slotsUsed).setVm hW'.alike, X.tail, State.WarmedH.trans X.warmed hW', X.limits, X.bytes, X.same.trans (hsame.setVm s.vm)⟩,
      ⟨g, mk, s₂, L, rfl, rfl, hqc, rfl, hL, rfl, rfl⟩, ?_⟩
    show Steps p.tables e below _ ((({ U with heap := s₂.heap, slotsUsed := s₂.slotsUsed } : State).setVm s₂.vm).setTop { g with pc := g.pc + len₂, stack := v.toList ++ g.stack })
    rw [← hs₂]
    exact hsteps
  · obtain ⟨e2, q2, q3, q4, q5, q6⟩ := id hsm
    have e3 : s₂ = ({ (U.calling g mk a).setFrames s₂.frames with heap := s₂.heap, slotsUsed := s₂.slotsUsed } : State).setVm s₂.vm := by
      have : s₂ = ({ s₂ with vm := (U.calling g mk a).vm } : State).setVm s₂.vm := rfl
      rw [e2] at this
      exact this
    have hf₂ : s₂.frames = .throwing q :: .java g :: U.frames.tail := hend
    have hW' : U.WarmedH s₂.vm := hW₂
    have hs₂ : s₂ = ((({ U with heap := s₂.heap, slotsUsed := s₂.slotsUsed } : State).setVm s₂.vm).setTop g).pushFrame (.throwing q) := by
      refine e3.trans ?_
      rw [hf₂, State.calling_eq h.top, State.setFrames_setFrames, State.pushFrame, State.frames_setTop _ hr', State.setTop_of_frames _ hr', State.setFrames_setFrames, hr]
      rfl
    have hsame : U.sameButNew ({ U with heap := s₂.heap, slotsUsed := s₂.slotsUsed } : State) L mc ms := by
      refine ⟨?_, q2, q3, q4, q5, q6⟩
      obtain ⟨t, ht, -⟩ := State.frames_cons hr
      show ({ U with heap := s₂.heap, slotsUsed := s₂.slotsUsed } : State) = { U.setFrames U.frames with heap := s₂.heap, slotsUsed := s₂.slotsUsed }
      rw [State.setFrames_self ht]
    subst hg
    refine Or.inr ⟨q, ⟨(({ U with heap := s₂.heap, slotsUsed := s₂.slotsUsed } : State).setVm s₂.vm), Ls ++ L, c0 + mc, s0 + ms⟩,
      ⟨X.admits, X.cas, X.clock, X.frames, X.room, X.hears, X.method, X.code, (X.here.setHeapUsed s₂.heap s₂.slotsUsed).setVm hW'.alike, X.tail, State.WarmedH.trans X.warmed hW', X.limits, X.bytes, X.same.trans (hsame.setVm s.vm)⟩,
      ⟨g, mk, s₂, L, E, ce, rfl, rfl, hx, hce, hcv, hcl, rfl, hL, rfl, rfl⟩, ?_⟩
    show Steps p.tables e below _ (((({ U with heap := s₂.heap, slotsUsed := s₂.slotsUsed } : State).setVm s₂.vm).setTop g).pushFrame (.throwing q))
    rw [← hs₂]
    exact hsteps
end
variable {p : Program} {l : Launch} {e : Env} {R : Room} {s : State} {m : MethodId} {args : Array Value} {below : List Frame} {meth : Method} {c : Code} {T : State} {H : Heap} {locs : List Loc} {cells slots : Nat}
theorem vx_callVX (X : Stand p l e R s m args below meth c T locs cells slots) (hexec : p.tables.exec = Jvm.exec) {own C : String} {index : Nat} {y : MethodName} {bytes : ByteArray} {maxL : Nat} {ret : Option FieldType} {hh : List (Nat × Nat × Nat × Nat)}
    (hown : s.vm.findClass own = some m.cls) (hlink : (Cond.methodLink own index y).before args s = true) (hinst : (Cond.instanceMethod y).before args s = true) (hsel : (Cond.selects C y y).before args s = true)
    (hcode : (Cond.codeWith y bytes maxL ret hh).before args s = true) (hy : y.cls ≠ "java/lang/invoke/MethodHandle" ∧ y.cls ≠ "java/lang/invoke/VarHandle")
    {W9 : Nat} {Pre : Pt → Array Value → Prop} {Post : Pt → Array Value → Option Value → Pt → Prop} {PostX : Pt → Array Value → Addr → Pt → Prop} (hK : vx_Back l R p e below s args y 3 W9 Pre Post PostX)
    {b : Addr} {cellB : Cell} (hcell : T.heap[b]? = some cellB) (hobj : cellB.vm.isStatics = false) (hcls : s.vm.findClass C = some cellB.cls)
    {g : JFrame} (hg : g.method = m) (hsize : g.locals.size = c.maxLocals) {argsL rest : List Value} (hlen : ∀ sig, parseMethodDescriptor y.desc = some sig → argsL.length = sig.parameters.length)
    (hstack : g.stack = argsL.reverse ++ .ref b :: rest) (hW : 2 * g.monitorRoom + (rest.map fun v => v.category).sum ≤ W9) (hdg : decode c.code g.pc = .ok (.invokevirtual index, 3))
    (hpre : ∀ vm₁, s.WarmedH vm₁ → Pre ⟨T.setVm vm₁, locs, cells, slots⟩ (Value.ref b :: argsL).toArray) :
    (∃ (v : Option Value) (vm₁ : Vm) (B : Pt), s.WarmedH vm₁ ∧ Stand p l e R s m args below meth c B.U B.locs B.cells B.slots ∧ Post ⟨T.setVm vm₁, locs, cells, slots⟩ (Value.ref b :: argsL).toArray v B ∧
      ∀ target, Steps p.tables e below (B.U.setTop { g with pc := g.pc + 3, stack := v.toList ++ rest }) target → Steps p.tables e below (T.setTop g) target) ∨
    (∃ (q : Addr) (vm₁ : Vm) (B : Pt), s.WarmedH vm₁ ∧ Stand p l e R s m args below meth c B.U B.locs B.cells B.slots ∧ PostX ⟨T.setVm vm₁, locs, cells, slots⟩ (Value.ref b :: argsL).toArray q B ∧
      Steps p.tables e below (T.setTop g) ((B.U.setTop { g with stack := rest }).pushFrame (.throwing q))) := by
  obtain ⟨mk, methM, hnamed, hmethM, hstM, habM⟩ := Cond.instanceMethod_spec hinst
  obtain ⟨m8, methM', cM, hn8, hmethM', -, -, -, -, -, -, hsigM⟩ := Cond.codeWith_spec hcode
  cases Option.some.inj (hn8.symm.trans hnamed)
  cases hmethM.symm.trans hmethM'
  obtain ⟨c2, r2, m2, q1, q2, q3, q4, kP, hkP, hkPi⟩ := Cond.selects_spec hsel
  cases hcls.symm.trans q1
  cases (State.methodFound?_of_named hnamed hy).symm.trans q2
  cases hnamed.symm.trans q3
  have hselP : selectMethod e.platform s.vm cellB.cls mk = .method mk := by rw [Launch.admits_selectMethod X.admits]; exact q4
  obtain ⟨vm₁, X₁, hstep₁⟩ := X.invokevirtual hexec hown hlink hnamed hmethM hstM hkP hkPi hy (a := b) (cell := cellB) hcell
    (fun z h => by rw [h] at hobj; cases hobj) hselP hmethM habM hkP hkPi (g := g) hg (argsL := argsL) (rest := rest) (hlen _ hsigM) hstack hdg
  rcases hK m meth c ⟨T.setVm vm₁, locs, cells, slots⟩ { g with stack := rest } (.invokevirtual index) mk (Value.ref b :: argsL).toArray X₁ hg hsize hdg hW (X₁.named hnamed) (hpre vm₁ X₁.warmed) with ⟨v, B, X', hpost, hsteps⟩ | ⟨q, B, X', hpost, hsteps⟩
  · exact Or.inl ⟨v, vm₁, B, X₁.warmed, X', hpost, fun target h => hstep₁ _ fun acts => by rw [doInvoke_state]; exact hsteps.trans h⟩
  · exact Or.inr ⟨q, vm₁, B, X₁.warmed, X', hpost, hstep₁ _ fun acts => by rw [doInvoke_state]; exact hsteps⟩
theorem vx_callSX (X : Stand p l e R s m args below meth c T locs cells slots) (hexec : p.tables.exec = Jvm.exec) {own : String} {index : Nat} {y : MethodName} {bytes : ByteArray} {maxL : Nat} {ret : Option FieldType} {hh : List (Nat × Nat × Nat × Nat)}
    (hown : s.vm.findClass own = some m.cls) (hlink : (Cond.methodLink own index y).before args s = true) (hstat : (Cond.static y).before args s = true) (hinit : (Cond.initialized y.cls).before args s = true)
    (hcode : (Cond.codeWith y bytes maxL ret hh).before args s = true) (hy : y.cls ≠ "java/lang/invoke/MethodHandle" ∧ y.cls ≠ "java/lang/invoke/VarHandle")
    {W9 : Nat} {Pre : Pt → Array Value → Prop} {Post : Pt → Array Value → Option Value → Pt → Prop} {PostX : Pt → Array Value → Addr → Pt → Prop} (hK : vx_Back l R p e below s args y 3 W9 Pre Post PostX)
    {g : JFrame} (hg : g.method = m) (hsize : g.locals.size = c.maxLocals) {argsL rest : List Value} (hlen : ∀ sig, parseMethodDescriptor y.desc = some sig → argsL.length = sig.parameters.length)
    (hstack : g.stack = argsL.reverse ++ rest) (hW : 2 * g.monitorRoom + (rest.map fun v => v.category).sum ≤ W9) (hdg : decode c.code g.pc = .ok (.invokestatic index, 3))
    (hpre : ∀ vm₁, s.WarmedH vm₁ → Pre ⟨T.setVm vm₁, locs, cells, slots⟩ argsL.toArray) :
    (∃ (v : Option Value) (vm₁ : Vm) (B : Pt), s.WarmedH vm₁ ∧ Stand p l e R s m args below meth c B.U B.locs B.cells B.slots ∧ Post ⟨T.setVm vm₁, locs, cells, slots⟩ argsL.toArray v B ∧
      ∀ target, Steps p.tables e below (B.U.setTop { g with pc := g.pc + 3, stack := v.toList ++ rest }) target → Steps p.tables e below (T.setTop g) target) ∨
    (∃ (q : Addr) (vm₁ : Vm) (B : Pt), s.WarmedH vm₁ ∧ Stand p l e R s m args below meth c B.U B.locs B.cells B.slots ∧ PostX ⟨T.setVm vm₁, locs, cells, slots⟩ argsL.toArray q B ∧
      Steps p.tables e below (T.setTop g) ((B.U.setTop { g with stack := rest }).pushFrame (.throwing q))) := by
  obtain ⟨mk, methM, cM, hnamed, hmethM, -, -, -, -, -, -, hsigM⟩ := Cond.codeWith_spec hcode
  have hstatic : methM.isStatic = true := Cond.static_spec hnamed hmethM hstat
  obtain ⟨kP, hkP, -⟩ := className_of_methodNamed hnamed
  have hinitP : kP.init = .initialized := Cond.initialized_spec (findClass_of_methodNamed hnamed) hkP hinit
  obtain ⟨vm₁, X₁, hstep₁⟩ := X.invokestatic hexec hown hlink hnamed hmethM hstatic hkP hinitP hy (g := g) hg (argsL := argsL) (rest := rest) (hlen _ hsigM) hstack hdg
  rcases hK m meth c ⟨T.setVm vm₁, locs, cells, slots⟩ { g with stack := rest } (.invokestatic index) mk argsL.toArray X₁ hg hsize hdg hW (X₁.named hnamed) (hpre vm₁ X₁.warmed) with ⟨v, B, X', hpost, hsteps⟩ | ⟨q, B, X', hpost, hsteps⟩
  · exact Or.inl ⟨v, vm₁, B, X₁.warmed, X', hpost, fun target h => hstep₁ _ fun acts => by rw [doInvoke_state]; exact hsteps.trans h⟩
  · exact Or.inr ⟨q, vm₁, B, X₁.warmed, X', hpost, hstep₁ _ fun acts => by rw [doInvoke_state]; exact hsteps⟩
theorem vx_callVW (X : Stand p l e R s m args below meth c T locs cells slots) (hexec : p.tables.exec = Jvm.exec) {own C : String} {index : Nat} {y : MethodName} {bytes : ByteArray} {maxL : Nat} {ret : Option FieldType} {hh : List (Nat × Nat × Nat × Nat)}
    (hown : s.vm.findClass own = some m.cls) (hlink : (Cond.methodLink own index y).before args s = true) (hinst : (Cond.instanceMethod y).before args s = true) (hsel : (Cond.selects C y y).before args s = true)
    (hcode : (Cond.codeWith y bytes maxL ret hh).before args s = true) (hy : y.cls ≠ "java/lang/invoke/MethodHandle" ∧ y.cls ≠ "java/lang/invoke/VarHandle")
    {W9 : Nat} {Pre : Pt → Array Value → Prop} {Post : Pt → Array Value → Option Value → Pt → Prop} (hK : Back l R p e below s args y 3 W9 Pre Post)
    {b : Addr} {cellB : Cell} (hcell : T.heap[b]? = some cellB) (hobj : cellB.vm.isStatics = false) (hcls : s.vm.findClass C = some cellB.cls)
    {g : JFrame} (hg : g.method = m) (hsize : g.locals.size = c.maxLocals) {argsL rest : List Value} (hlen : ∀ sig, parseMethodDescriptor y.desc = some sig → argsL.length = sig.parameters.length)
    (hstack : g.stack = argsL.reverse ++ .ref b :: rest) (hW : 2 * g.monitorRoom + (rest.map fun v => v.category).sum ≤ W9) (hdg : decode c.code g.pc = .ok (.invokevirtual index, 3))
    (hpre : ∀ vm₁, s.WarmedH vm₁ → Pre ⟨T.setVm vm₁, locs, cells, slots⟩ (Value.ref b :: argsL).toArray) :
    ∃ (v : Option Value) (vm₁ : Vm) (B : Pt), s.WarmedH vm₁ ∧ Stand p l e R s m args below meth c B.U B.locs B.cells B.slots ∧ Post ⟨T.setVm vm₁, locs, cells, slots⟩ (Value.ref b :: argsL).toArray v B ∧
      ∀ target, Steps p.tables e below (B.U.setTop { g with pc := g.pc + 3, stack := v.toList ++ rest }) target → Steps p.tables e below (T.setTop g) target := by
  obtain ⟨mk, methM, hnamed, hmethM, hstM, habM⟩ := Cond.instanceMethod_spec hinst
  obtain ⟨m8, methM', cM, hn8, hmethM', -, -, -, -, -, -, hsigM⟩ := Cond.codeWith_spec hcode
  cases Option.some.inj (hn8.symm.trans hnamed)
  cases hmethM.symm.trans hmethM'
  obtain ⟨c2, r2, m2, q1, q2, q3, q4, kP, hkP, hkPi⟩ := Cond.selects_spec hsel
  cases hcls.symm.trans q1
  cases (State.methodFound?_of_named hnamed hy).symm.trans q2
  cases hnamed.symm.trans q3
  have hselP : selectMethod e.platform s.vm cellB.cls mk = .method mk := by rw [Launch.admits_selectMethod X.admits]; exact q4
  obtain ⟨vm₁, X₁, hstep₁⟩ := X.invokevirtual hexec hown hlink hnamed hmethM hstM hkP hkPi hy (a := b) (cell := cellB) hcell
    (fun z h => by rw [h] at hobj; cases hobj) hselP hmethM habM hkP hkPi (g := g) hg (argsL := argsL) (rest := rest) (hlen _ hsigM) hstack hdg
  obtain ⟨v, B, X', hpost, hsteps⟩ := hK m meth c ⟨T.setVm vm₁, locs, cells, slots⟩ { g with stack := rest } (.invokevirtual index) mk (Value.ref b :: argsL).toArray X₁ hg hsize hdg hW (X₁.named hnamed) (hpre vm₁ X₁.warmed)
  exact ⟨v, vm₁, B, X₁.warmed, X', hpost, fun target h => hstep₁ _ fun acts => by rw [doInvoke_state]; exact hsteps.trans h⟩
abbrev vx_CVW (R : Room) (s : State) (args : Array Value) (own C : String) (index : Nat) (y : MethodName) (bytes : ByteArray) (maxL : Nat) (ret : Option FieldType) (hh : List (Nat × Nat × Nat × Nat)) (ws : List Cond) (rm : Room) (mc ms n : Nat) : Prop :=
  (rm.cells = mc ∧ rm.slots = ms ∧ rm.frames + 1 ≤ R.frames ∧ 8 + (maxL + 11) + rm.locals ≤ R.locals ∧ (∀ w ∈ ws, ∀ (a' : Array Value) (U : State), s.WarmedH U.vm → w.before a' U = true) ∧ Cond.codeWith y bytes maxL ret hh ∈ ws) ∧
  (Cond.codeWith y bytes maxL ret hh).before args s = true ∧ (Cond.initialized y.cls).before args s = true ∧ (y.cls ≠ "java/lang/invoke/MethodHandle" ∧ y.cls ≠ "java/lang/invoke/VarHandle") ∧
  (∀ sig, parseMethodDescriptor y.desc = some sig → n = sig.parameters.length) ∧ (Cond.methodLink own index y).before args s = true ∧ (Cond.instanceMethod y).before args s = true ∧ (Cond.selects C y y).before args s = true
theorem vx_runVW {y : MethodName} {bytes cc : ByteArray} {maxL nL mc ms n index : Nat} {ret : Option FieldType} {hh : List (Nat × Nat × Nat × Nat)} {ws : List Cond} {rm : Room} {Pc : Array Value → State → Prop} {Qc : Array Value → State → Outcome → State → Prop} {free : Addr → Prop} {Ts : List Cond} {own C : String} {b : Addr} {As rest : List Value} {g : JFrame}
    (S : CallFix p m c cc nL s args Ts own) (hM : Met l y ws rm Pc Qc mc ms free) (cw : vx_CVW R s args own C index y bytes maxL ret hh ws rm mc ms n) (hp : PreV s H C b Pc As)
    (hg : g.method = m) (hn : As.length = n) (hsize : g.locals.size = nL) (hstack : g.stack = As.reverse ++ .ref b :: rest) (hW : 2 * g.monitorRoom + (rest.map fun v => v.category).sum ≤ 8) (hdg : decode cc g.pc = .ok (.invokevirtual index, 3)) (hf : cells + mc ≤ R.cells ∧ slots + ms ≤ R.slots) :
    va_Run p l e R s m args below meth c H locs cells slots mc ms g rest (Qc (Value.ref b :: As).toArray) free := by
  obtain ⟨⟨hrc, hrs, hfr, hlo, hws, hcw⟩, hcode, hini, hy, hlen, hl, hin, hse⟩ := cw
  have hK : Back l R p e below s args y 3 8 (PreOf R mc ms Pc) (PostOf Qc mc ms free) := va_backW (hh := hh) (bytes := bytes) (maxL := maxL) (ret := ret) hM hp.1 hrc hrs hfr hlo hws hcw (fun a' U hW => word_at hW (Or.inl (by first | rfl | simp [Cond.onTables, Cond.keeps, Cond.steady])) hini)
  obtain ⟨hx, hb, hml, ho, -⟩ := S
  obtain ⟨-, ⟨cellB, hcB, hoB, hclB⟩, hPc⟩ := hp
  intro T hT X
  obtain ⟨v, vm₁, ⟨U', l2, c2, s2⟩, hW₁, X', ⟨g', mk, t, L, e1, e2, hq, h1, hL, h2, h3⟩, st⟩ := vx_callVW X hx (C := C) (hh := hh) (bytes := bytes) (maxL := maxL) (ret := ret) ho hl hin hse hcode hy hK (by rw [hT]; exact hcB) hoB hclB hg (hsize.trans hml.symm) (argsL := As) (rest := rest) (fun sig h => hn.trans (hlen sig h)) hstack hW (by rw [hb]; exact hdg)
    (fun vm₁ hW₁ => ⟨hf.1, hf.2, hPc (T.setVm vm₁) hT hW₁⟩)
  dsimp only [Pt.U, Pt.locs, Pt.cells, Pt.slots] at X' e1 e2 h1 h2 h3 st
  subst h1; subst h2; subst h3
  exact ⟨v, (T.setVm vm₁).calling g' mk (Value.ref b :: As).toArray, t, U', L, hT, X', hL, e1, e2, hq, st⟩
section
variable {y : MethodName} {bytes cc : ByteArray} {maxL nL mc ms n index : Nat} {ret : Option FieldType} {ws : List Cond} {rm : Room} {Pc : Array Value → State → Prop} {Qc : Array Value → State → Outcome → State → Prop} {XC : String → State → State → Prop} {free : Addr → Prop} {Ts : List Cond} {own C : String} {b : Addr} {As rest : List Value} {g : JFrame}
theorem vx_runVX {hh : List (Nat × Nat × Nat × Nat)} (S : CallFix p m c cc nL s args Ts own) (hM : vx_Met l y ws rm Pc Qc XC mc ms free) (cw : vx_CVW R s args own C index y bytes maxL ret hh ws rm mc ms n) (hp : PreV s H C b Pc As)
    (hg : g.method = m) (hn : As.length = n) (hsize : g.locals.size = nL) (hstack : g.stack = As.reverse ++ .ref b :: rest) (hW : 2 * g.monitorRoom + (rest.map fun v => v.category).sum ≤ 8) (hdg : decode cc g.pc = .ok (.invokevirtual index, 3)) (hf : cells + mc ≤ R.cells ∧ slots + ms ≤ R.slots) :
    vx_Run p l e R s m args below meth c H locs cells slots mc ms g rest (Qc (Value.ref b :: As).toArray) XC free := by
  obtain ⟨⟨hrc, hrs, hfr, hlo, hws, hcw⟩, hcode, hini, hy, hlen, hl, hin, hse⟩ := cw
  have hK : vx_Back l R p e below s args y 3 8 (PreOf R mc ms Pc) (PostOf Qc mc ms free) (vx_Post XC mc ms free) := vx_backW (hh := hh) (bytes := bytes) (maxL := maxL) (ret := ret) hM hp.1 hrc hrs hfr hlo hws hcw (fun a' U hW => word_at hW (Or.inl (by first | rfl | simp [Cond.onTables, Cond.keeps, Cond.steady])) hini)
  obtain ⟨hx, hb, hml, ho, -⟩ := S
  obtain ⟨-, ⟨cellB, hcB, hoB, hclB⟩, hPc⟩ := hp
  intro T hT X
  rcases vx_callVX X hx (C := C) (hh := hh) (bytes := bytes) (maxL := maxL) (ret := ret) ho hl hin hse hcode hy hK (by rw [hT]; exact hcB) hoB hclB hg (hsize.trans hml.symm) (argsL := As) (rest := rest) (fun sig h => hn.trans (hlen sig h)) hstack hW (by rw [hb]; exact hdg)
    (fun vm₁ hW₁ => ⟨hf.1, hf.2, hPc (T.setVm vm₁) hT hW₁⟩) with ⟨v, vm₁, ⟨U', l2, c2, s2⟩, hW₁, X', ⟨g', mk, t, L, e1, e2, hq, h1, hL, h2, h3⟩, st⟩ | ⟨q, vm₁, ⟨U', l2, c2, s2⟩, hW₁, X', ⟨g', mk, t, L, E, ce, e1, e2, hq, hce, hcv, hcl, h1, hL, h2, h3⟩, st⟩
  · dsimp only [Pt.U, Pt.locs, Pt.cells, Pt.slots] at X' e1 e2 h1 h2 h3 st
    subst h1; subst h2; subst h3
    exact Or.inl ⟨v, (T.setVm vm₁).calling g' mk (Value.ref b :: As).toArray, t, U', L, hT, X', hL, e1, e2, hq, st⟩
  · dsimp only [Pt.U, Pt.locs, Pt.cells, Pt.slots] at X' e1 e2 h1 h2 h3 st hcl
    subst h1; subst h2; subst h3
    exact Or.inr ⟨q, (T.setVm vm₁).calling g' mk (Value.ref b :: As).toArray, t, U', L, E, ce, hT, X', hL, e1, e2, hq, hce, hcv, vx_cls hW₁ hcl, st⟩
theorem vx_runSX {hh : List (Nat × Nat × Nat × Nat)} (S : CallFix p m c cc nL s args Ts own) (hM : vx_Met l y ws rm Pc Qc XC mc ms free) (cw : vx_CSW R s args own index y bytes maxL ret hh ws rm mc ms n) (hp : PreS s H Pc As)
    (hg : g.method = m) (hn : As.length = n) (hsize : g.locals.size = nL) (hstack : g.stack = As.reverse ++ rest) (hW : 2 * g.monitorRoom + (rest.map fun v => v.category).sum ≤ 8) (hdg : decode cc g.pc = .ok (.invokestatic index, 3)) (hf : cells + mc ≤ R.cells ∧ slots + ms ≤ R.slots) :
    vx_Run p l e R s m args below meth c H locs cells slots mc ms g rest (Qc As.toArray) XC free := by
  obtain ⟨⟨hrc, hrs, hfr, hlo, hws, hcw⟩, hcode, hini, hy, hlen, hl, hstt⟩ := cw
  have hK : vx_Back l R p e below s args y 3 8 (PreOf R mc ms Pc) (PostOf Qc mc ms free) (vx_Post XC mc ms free) := vx_backW (hh := hh) (bytes := bytes) (maxL := maxL) (ret := ret) hM hp.1 hrc hrs hfr hlo hws hcw (fun a' U hW => word_at hW (Or.inl (by first | rfl | simp [Cond.onTables, Cond.keeps, Cond.steady])) hini)
  obtain ⟨hx, hb, hml, ho, -⟩ := S
  intro T hT X
  rcases vx_callSX X hx (hh := hh) (bytes := bytes) (maxL := maxL) (ret := ret) ho hl hstt hini hcode hy hK hg (hsize.trans hml.symm) (argsL := As) (rest := rest) (fun sig h => hn.trans (hlen sig h)) hstack hW (by rw [hb]; exact hdg)
    (fun vm₁ hW₁ => ⟨hf.1, hf.2, hp.2 (T.setVm vm₁) hT hW₁⟩) with ⟨v, vm₁, ⟨U', l2, c2, s2⟩, hW₁, X', ⟨g', mk, t, L, e1, e2, hq, h1, hL, h2, h3⟩, st⟩ | ⟨q, vm₁, ⟨U', l2, c2, s2⟩, hW₁, X', ⟨g', mk, t, L, E, ce, e1, e2, hq, hce, hcv, hcl, h1, hL, h2, h3⟩, st⟩
  · dsimp only [Pt.U, Pt.locs, Pt.cells, Pt.slots] at X' e1 e2 h1 h2 h3 st
    subst h1; subst h2; subst h3
    exact Or.inl ⟨v, (T.setVm vm₁).calling g' mk As.toArray, t, U', L, hT, X', hL, e1, e2, hq, st⟩
  · dsimp only [Pt.U, Pt.locs, Pt.cells, Pt.slots] at X' e1 e2 h1 h2 h3 st hcl
    subst h1; subst h2; subst h3
    exact Or.inr ⟨q, (T.setVm vm₁).calling g' mk As.toArray, t, U', L, E, ce, hT, X', hL, e1, e2, hq, hce, hcv, vx_cls hW₁ hcl, st⟩
end
end VXH
theorem vx_ofWH {l : Launch} {y : MethodName} {ws ws' : List Cond} {rm : Room} {Pc : Array Value → State → Prop} {Qc : Array Value → State → Outcome → State → Prop} {XC : String → State → State → Prop} {mc ms : Nat} {free : Addr → Prop} {cc : ByteArray} {maxL : Nat} {ret : Option FieldType} {hh : List (Nat × Nat × Nat × Nat)}
    (hy : plainName y.cls = true) (hw : ws = Cond.codeWith y cc maxL ret hh :: ws')
    (body : ∀ p e s m args below meth c s₁, BodyLoose p l y (headSpec ws rm) cc maxL ret e s m args below meth c s₁ → c.maxLocals = maxL → Pc args s →
      W p l e (headSpec ws rm).room s m args below meth c s.heap [] 0 0 (vx_MQ below Qc XC args s mc ms free) (entryFrame m args maxL)) : vx_Met l y ws rm Pc Qc XC mc ms free := by
  refine MetFree.of_bodyS (code := cc) (maxLocals := maxL) (ret := ret) hy ?_ ?_
  · intro args s m h hn
    obtain ⟨m9, meth, c, hn9, h1, h2, h3, h4, -, h5, h6, -⟩ := Cond.codeWith_spec (atoms_spec (ws := ws) h _ (by rw [hw]; exact List.mem_cons_self))
    cases hn.symm.trans hn9
    exact ⟨meth, c, h1, h2, h3, h4, h5, h6⟩
  · intro p e s m args below meth c s₁ B hml hP _
    have hh0 : s₁.heap = s.heap := by rw [B.state]; rfl
    obtain ⟨t, a1, o, b1, b2, b3⟩ := body p e s m args below meth c s₁ B hml hP s₁ hh0 (Stand.of_body B)
    exact ⟨t, o, a1, b1, b2, b3⟩
/-! ===== END ===== -/
end
-- 02 names
section
-- ===== PART A: goes FIRST, ahead of the names: the tables' words, and 'selects' of the private methods out of them =====
/-- a private method of a class that the tables say can be made, by its rows of tables_1 -/
def lw_okq (q : MethodName × Nat) : Prop := (q.1.cls ≠ "java/lang/invoke/MethodHandle" ∧ q.1.cls ≠ "java/lang/invoke/VarHandle") ∧ Cond.instantiable q.1.cls q.2 ∈ tables_1 ∧ Cond.privateMethod q.1 ∈ tables_1 ∧ Cond.instanceMethod q.1 ∈ tables_1
theorem lw_p0 : lw_okq (⟨"Momentdesk", "areMomentsSound", "()Z"⟩, 8) := ⟨⟨by decide +kernel, by decide +kernel⟩, List.mem_of_getElem? (i := 25) (by decide +kernel), List.mem_of_getElem? (i := 88) (by decide +kernel), List.mem_of_getElem? (i := 89) (by decide +kernel)⟩
theorem lw_p1 : lw_okq (⟨"Momentdesk", "areDatesToldAnewSound", "()Z"⟩, 8) := ⟨⟨by decide +kernel, by decide +kernel⟩, List.mem_of_getElem? (i := 25) (by decide +kernel), List.mem_of_getElem? (i := 116) (by decide +kernel), List.mem_of_getElem? (i := 117) (by decide +kernel)⟩
theorem lw_p2 : lw_okq (⟨"java/lang/Throwable", "fillInStackTrace", "(I)Ljava/lang/Throwable;"⟩, 6) := ⟨⟨by decide +kernel, by decide +kernel⟩, List.mem_of_getElem? (i := 160) (by decide +kernel), List.mem_of_getElem? (i := 158) (by decide +kernel), List.mem_of_getElem? (i := 159) (by decide +kernel)⟩
theorem lw_p3 : lw_okq (⟨"Momentdesk", "isToldAnewSound", "(LMomentdesk$Local;I)Z"⟩, 8) := ⟨⟨by decide +kernel, by decide +kernel⟩, List.mem_of_getElem? (i := 25) (by decide +kernel), List.mem_of_getElem? (i := 190) (by decide +kernel), List.mem_of_getElem? (i := 191) (by decide +kernel)⟩
theorem lw_p4 : lw_okq (⟨"Momentdesk", "arePairsSound", "()Z"⟩, 8) := ⟨⟨by decide +kernel, by decide +kernel⟩, List.mem_of_getElem? (i := 25) (by decide +kernel), List.mem_of_getElem? (i := 208) (by decide +kernel), List.mem_of_getElem? (i := 209) (by decide +kernel)⟩
theorem lw_p5 : lw_okq (⟨"Momentdesk", "areStrikesSound", "()Z"⟩, 8) := ⟨⟨by decide +kernel, by decide +kernel⟩, List.mem_of_getElem? (i := 25) (by decide +kernel), List.mem_of_getElem? (i := 230) (by decide +kernel), List.mem_of_getElem? (i := 231) (by decide +kernel)⟩
theorem lw_p6 : lw_okq (⟨"Momentdesk", "withOffsets", "(J)J"⟩, 8) := ⟨⟨by decide +kernel, by decide +kernel⟩, List.mem_of_getElem? (i := 25) (by decide +kernel), List.mem_of_getElem? (i := 254) (by decide +kernel), List.mem_of_getElem? (i := 255) (by decide +kernel)⟩
theorem lw_p7 : lw_okq (⟨"Momentdesk", "withMoments", "(J)J"⟩, 8) := ⟨⟨by decide +kernel, by decide +kernel⟩, List.mem_of_getElem? (i := 25) (by decide +kernel), List.mem_of_getElem? (i := 269) (by decide +kernel), List.mem_of_getElem? (i := 270) (by decide +kernel)⟩
theorem lw_p8 : lw_okq (⟨"Momentdesk", "withDates", "(J)J"⟩, 8) := ⟨⟨by decide +kernel, by decide +kernel⟩, List.mem_of_getElem? (i := 25) (by decide +kernel), List.mem_of_getElem? (i := 277) (by decide +kernel), List.mem_of_getElem? (i := 278) (by decide +kernel)⟩
theorem lw_p9 : lw_okq (⟨"Momentdesk", "withClocks", "(J)J"⟩, 8) := ⟨⟨by decide +kernel, by decide +kernel⟩, List.mem_of_getElem? (i := 25) (by decide +kernel), List.mem_of_getElem? (i := 329) (by decide +kernel), List.mem_of_getElem? (i := 330) (by decide +kernel)⟩
theorem lw_p10 : lw_okq (⟨"Momentdesk", "withDatePairs", "(J)J"⟩, 8) := ⟨⟨by decide +kernel, by decide +kernel⟩, List.mem_of_getElem? (i := 25) (by decide +kernel), List.mem_of_getElem? (i := 336) (by decide +kernel), List.mem_of_getElem? (i := 337) (by decide +kernel)⟩
theorem lw_p11 : lw_okq (⟨"Momentdesk", "withClockPairs", "(J)J"⟩, 8) := ⟨⟨by decide +kernel, by decide +kernel⟩, List.mem_of_getElem? (i := 25) (by decide +kernel), List.mem_of_getElem? (i := 340) (by decide +kernel), List.mem_of_getElem? (i := 341) (by decide +kernel)⟩
theorem lw_p12 : lw_okq (⟨"Momentdesk", "withHouse", "(J)J"⟩, 8) := ⟨⟨by decide +kernel, by decide +kernel⟩, List.mem_of_getElem? (i := 25) (by decide +kernel), List.mem_of_getElem? (i := 344) (by decide +kernel), List.mem_of_getElem? (i := 345) (by decide +kernel)⟩
theorem lw_p13 : lw_okq (⟨"Momentdesk", "firstDated", "()I"⟩, 8) := ⟨⟨by decide +kernel, by decide +kernel⟩, List.mem_of_getElem? (i := 25) (by decide +kernel), List.mem_of_getElem? (i := 371) (by decide +kernel), List.mem_of_getElem? (i := 372) (by decide +kernel)⟩
theorem lw_p14 : lw_okq (⟨"Momentdesk", "firstMoment", "()I"⟩, 8) := ⟨⟨by decide +kernel, by decide +kernel⟩, List.mem_of_getElem? (i := 25) (by decide +kernel), List.mem_of_getElem? (i := 375) (by decide +kernel), List.mem_of_getElem? (i := 376) (by decide +kernel)⟩
theorem lw_p15 : lw_okq (⟨"Momentdesk", "refused", "()I"⟩, 8) := ⟨⟨by decide +kernel, by decide +kernel⟩, List.mem_of_getElem? (i := 25) (by decide +kernel), List.mem_of_getElem? (i := 415) (by decide +kernel), List.mem_of_getElem? (i := 416) (by decide +kernel)⟩
def lw_privs_1 : List (MethodName × Nat) := [(⟨"Momentdesk", "areMomentsSound", "()Z"⟩, 8), (⟨"Momentdesk", "areDatesToldAnewSound", "()Z"⟩, 8), (⟨"java/lang/Throwable", "fillInStackTrace", "(I)Ljava/lang/Throwable;"⟩, 6), (⟨"Momentdesk", "isToldAnewSound", "(LMomentdesk$Local;I)Z"⟩, 8), (⟨"Momentdesk", "arePairsSound", "()Z"⟩, 8), (⟨"Momentdesk", "areStrikesSound", "()Z"⟩, 8), (⟨"Momentdesk", "withOffsets", "(J)J"⟩, 8), (⟨"Momentdesk", "withMoments", "(J)J"⟩, 8), (⟨"Momentdesk", "withDates", "(J)J"⟩, 8), (⟨"Momentdesk", "withClocks", "(J)J"⟩, 8), (⟨"Momentdesk", "withDatePairs", "(J)J"⟩, 8), (⟨"Momentdesk", "withClockPairs", "(J)J"⟩, 8), (⟨"Momentdesk", "withHouse", "(J)J"⟩, 8), (⟨"Momentdesk", "firstDated", "()I"⟩, 8), (⟨"Momentdesk", "firstMoment", "()I"⟩, 8), (⟨"Momentdesk", "refused", "()I"⟩, 8)]
theorem lw_r1 : ∀ q ∈ lw_privs_1, lw_okq q := List.forall_mem_cons.mpr ⟨lw_p0, List.forall_mem_cons.mpr ⟨lw_p1, List.forall_mem_cons.mpr ⟨lw_p2, List.forall_mem_cons.mpr ⟨lw_p3, List.forall_mem_cons.mpr ⟨lw_p4, List.forall_mem_cons.mpr ⟨lw_p5, List.forall_mem_cons.mpr ⟨lw_p6, List.forall_mem_cons.mpr ⟨lw_p7, List.forall_mem_cons.mpr ⟨lw_p8, List.forall_mem_cons.mpr ⟨lw_p9, List.forall_mem_cons.mpr ⟨lw_p10, List.forall_mem_cons.mpr ⟨lw_p11, List.forall_mem_cons.mpr ⟨lw_p12, List.forall_mem_cons.mpr ⟨lw_p13, List.forall_mem_cons.mpr ⟨lw_p14, List.forall_mem_cons.mpr ⟨lw_p15, fun _ h => absurd h List.not_mem_nil⟩⟩⟩⟩⟩⟩⟩⟩⟩⟩⟩⟩⟩⟩⟩⟩
theorem lw_p16 : lw_okq (⟨"Momentdesk", "putNumber", "(IJ)I"⟩, 8) := ⟨⟨by decide +kernel, by decide +kernel⟩, List.mem_of_getElem? (i := 25) (by decide +kernel), List.mem_of_getElem? (i := 440) (by decide +kernel), List.mem_of_getElem? (i := 441) (by decide +kernel)⟩
theorem lw_p17 : lw_okq (⟨"Momentdesk", "putLocal", "(LMomentdesk$Local;JII)I"⟩, 8) := ⟨⟨by decide +kernel, by decide +kernel⟩, List.mem_of_getElem? (i := 25) (by decide +kernel), List.mem_of_getElem? (i := 830) (by decide +kernel), List.mem_of_getElem? (i := 831) (by decide +kernel)⟩
theorem lw_p18 : lw_okq (⟨"Momentdesk", "putMonths", "(LMomentdesk$Local;J)I"⟩, 8) := ⟨⟨by decide +kernel, by decide +kernel⟩, List.mem_of_getElem? (i := 25) (by decide +kernel), List.mem_of_getElem? (i := 856) (by decide +kernel), List.mem_of_getElem? (i := 857) (by decide +kernel)⟩
theorem lw_p19 : lw_okq (⟨"Momentdesk", "putDay", "(LMomentdesk$Local;I)I"⟩, 8) := ⟨⟨by decide +kernel, by decide +kernel⟩, List.mem_of_getElem? (i := 25) (by decide +kernel), List.mem_of_getElem? (i := 862) (by decide +kernel), List.mem_of_getElem? (i := 863) (by decide +kernel)⟩
theorem lw_p20 : lw_okq (⟨"Momentdesk", "setOfDay", "(LMomentdesk$Local;II)I"⟩, 8) := ⟨⟨by decide +kernel, by decide +kernel⟩, List.mem_of_getElem? (i := 25) (by decide +kernel), List.mem_of_getElem? (i := 882) (by decide +kernel), List.mem_of_getElem? (i := 883) (by decide +kernel)⟩
theorem lw_p21 : lw_okq (⟨"Momentdesk", "setOfTime", "(LMomentdesk$Local;II)I"⟩, 8) := ⟨⟨by decide +kernel, by decide +kernel⟩, List.mem_of_getElem? (i := 25) (by decide +kernel), List.mem_of_getElem? (i := 890) (by decide +kernel), List.mem_of_getElem? (i := 891) (by decide +kernel)⟩
theorem lw_p22 : lw_okq (⟨"Momentdesk", "setPart", "(LMomentdesk$Local;IIIJ)I"⟩, 8) := ⟨⟨by decide +kernel, by decide +kernel⟩, List.mem_of_getElem? (i := 25) (by decide +kernel), List.mem_of_getElem? (i := 894) (by decide +kernel), List.mem_of_getElem? (i := 895) (by decide +kernel)⟩
theorem lw_p23 : lw_okq (⟨"Momentdesk", "putClock", "(LMomentdesk$Local;JII)I"⟩, 8) := ⟨⟨by decide +kernel, by decide +kernel⟩, List.mem_of_getElem? (i := 25) (by decide +kernel), List.mem_of_getElem? (i := 944) (by decide +kernel), List.mem_of_getElem? (i := 945) (by decide +kernel)⟩
theorem lw_p24 : lw_okq (⟨"MomentdeskModel", "isStopped", "(ZZ)Z"⟩, 9) := ⟨⟨by decide +kernel, by decide +kernel⟩, List.mem_of_getElem? (i := 1008) (by decide +kernel), List.mem_of_getElem? (i := 1059) (by decide +kernel), List.mem_of_getElem? (i := 1060) (by decide +kernel)⟩
theorem lw_p25 : lw_okq (⟨"MomentdeskModel", "no", "()I"⟩, 9) := ⟨⟨by decide +kernel, by decide +kernel⟩, List.mem_of_getElem? (i := 1008) (by decide +kernel), List.mem_of_getElem? (i := 1071) (by decide +kernel), List.mem_of_getElem? (i := 1072) (by decide +kernel)⟩
theorem lw_p26 : lw_okq (⟨"MomentdeskModel", "become", "(IJ)I"⟩, 9) := ⟨⟨by decide +kernel, by decide +kernel⟩, List.mem_of_getElem? (i := 1008) (by decide +kernel), List.mem_of_getElem? (i := 1094) (by decide +kernel), List.mem_of_getElem? (i := 1095) (by decide +kernel)⟩
theorem lw_p27 : lw_okq (⟨"MomentdeskModel", "number", "(I)J"⟩, 9) := ⟨⟨by decide +kernel, by decide +kernel⟩, List.mem_of_getElem? (i := 1008) (by decide +kernel), List.mem_of_getElem? (i := 1121) (by decide +kernel), List.mem_of_getElem? (i := 1122) (by decide +kernel)⟩
theorem lw_p28 : lw_okq (⟨"MomentdeskModel", "put", "(IIIII)I"⟩, 9) := ⟨⟨by decide +kernel, by decide +kernel⟩, List.mem_of_getElem? (i := 1008) (by decide +kernel), List.mem_of_getElem? (i := 1209) (by decide +kernel), List.mem_of_getElem? (i := 1210) (by decide +kernel)⟩
theorem lw_p29 : lw_okq (⟨"MomentdeskModel", "put", "(IJJII)I"⟩, 9) := ⟨⟨by decide +kernel, by decide +kernel⟩, List.mem_of_getElem? (i := 1008) (by decide +kernel), List.mem_of_getElem? (i := 1217) (by decide +kernel), List.mem_of_getElem? (i := 1218) (by decide +kernel)⟩
theorem lw_p30 : lw_okq (⟨"MomentdeskModel", "moveMonths", "(IJ)I"⟩, 9) := ⟨⟨by decide +kernel, by decide +kernel⟩, List.mem_of_getElem? (i := 1008) (by decide +kernel), List.mem_of_getElem? (i := 1229) (by decide +kernel), List.mem_of_getElem? (i := 1230) (by decide +kernel)⟩
theorem lw_p31 : lw_okq (⟨"MomentdeskModel", "putDay", "(IIII)I"⟩, 9) := ⟨⟨by decide +kernel, by decide +kernel⟩, List.mem_of_getElem? (i := 1008) (by decide +kernel), List.mem_of_getElem? (i := 1239) (by decide +kernel), List.mem_of_getElem? (i := 1240) (by decide +kernel)⟩
def lw_privs_2 : List (MethodName × Nat) := [(⟨"Momentdesk", "putNumber", "(IJ)I"⟩, 8), (⟨"Momentdesk", "putLocal", "(LMomentdesk$Local;JII)I"⟩, 8), (⟨"Momentdesk", "putMonths", "(LMomentdesk$Local;J)I"⟩, 8), (⟨"Momentdesk", "putDay", "(LMomentdesk$Local;I)I"⟩, 8), (⟨"Momentdesk", "setOfDay", "(LMomentdesk$Local;II)I"⟩, 8), (⟨"Momentdesk", "setOfTime", "(LMomentdesk$Local;II)I"⟩, 8), (⟨"Momentdesk", "setPart", "(LMomentdesk$Local;IIIJ)I"⟩, 8), (⟨"Momentdesk", "putClock", "(LMomentdesk$Local;JII)I"⟩, 8), (⟨"MomentdeskModel", "isStopped", "(ZZ)Z"⟩, 9), (⟨"MomentdeskModel", "no", "()I"⟩, 9), (⟨"MomentdeskModel", "become", "(IJ)I"⟩, 9), (⟨"MomentdeskModel", "number", "(I)J"⟩, 9), (⟨"MomentdeskModel", "put", "(IIIII)I"⟩, 9), (⟨"MomentdeskModel", "put", "(IJJII)I"⟩, 9), (⟨"MomentdeskModel", "moveMonths", "(IJ)I"⟩, 9), (⟨"MomentdeskModel", "putDay", "(IIII)I"⟩, 9)]
theorem lw_r2 : ∀ q ∈ lw_privs_2, lw_okq q := List.forall_mem_cons.mpr ⟨lw_p16, List.forall_mem_cons.mpr ⟨lw_p17, List.forall_mem_cons.mpr ⟨lw_p18, List.forall_mem_cons.mpr ⟨lw_p19, List.forall_mem_cons.mpr ⟨lw_p20, List.forall_mem_cons.mpr ⟨lw_p21, List.forall_mem_cons.mpr ⟨lw_p22, List.forall_mem_cons.mpr ⟨lw_p23, List.forall_mem_cons.mpr ⟨lw_p24, List.forall_mem_cons.mpr ⟨lw_p25, List.forall_mem_cons.mpr ⟨lw_p26, List.forall_mem_cons.mpr ⟨lw_p27, List.forall_mem_cons.mpr ⟨lw_p28, List.forall_mem_cons.mpr ⟨lw_p29, List.forall_mem_cons.mpr ⟨lw_p30, List.forall_mem_cons.mpr ⟨lw_p31, fun _ h => absurd h List.not_mem_nil⟩⟩⟩⟩⟩⟩⟩⟩⟩⟩⟩⟩⟩⟩⟩⟩
theorem lw_p32 : lw_okq (⟨"MomentdeskModel", "told", "(II)I"⟩, 9) := ⟨⟨by decide +kernel, by decide +kernel⟩, List.mem_of_getElem? (i := 1008) (by decide +kernel), List.mem_of_getElem? (i := 1264) (by decide +kernel), List.mem_of_getElem? (i := 1265) (by decide +kernel)⟩
theorem lw_p33 : lw_okq (⟨"MomentdeskModel", "ordered", "(II)I"⟩, 9) := ⟨⟨by decide +kernel, by decide +kernel⟩, List.mem_of_getElem? (i := 1008) (by decide +kernel), List.mem_of_getElem? (i := 1272) (by decide +kernel), List.mem_of_getElem? (i := 1273) (by decide +kernel)⟩
theorem lw_p34 : lw_okq (⟨"MomentdeskModel", "is", "(III)Z"⟩, 9) := ⟨⟨by decide +kernel, by decide +kernel⟩, List.mem_of_getElem? (i := 1008) (by decide +kernel), List.mem_of_getElem? (i := 1280) (by decide +kernel), List.mem_of_getElem? (i := 1281) (by decide +kernel)⟩
theorem lw_p35 : lw_okq (⟨"MomentdeskModel", "turn", "(IJII)I"⟩, 9) := ⟨⟨by decide +kernel, by decide +kernel⟩, List.mem_of_getElem? (i := 1008) (by decide +kernel), List.mem_of_getElem? (i := 1291) (by decide +kernel), List.mem_of_getElem? (i := 1292) (by decide +kernel)⟩
theorem lw_p36 : lw_okq (⟨"MomentdeskModel", "ofSecond", "(I)I"⟩, 9) := ⟨⟨by decide +kernel, by decide +kernel⟩, List.mem_of_getElem? (i := 1008) (by decide +kernel), List.mem_of_getElem? (i := 1295) (by decide +kernel), List.mem_of_getElem? (i := 1296) (by decide +kernel)⟩
theorem lw_p37 : lw_okq (⟨"MomentdeskModel", "clockTold", "(II)I"⟩, 9) := ⟨⟨by decide +kernel, by decide +kernel⟩, List.mem_of_getElem? (i := 1008) (by decide +kernel), List.mem_of_getElem? (i := 1325) (by decide +kernel), List.mem_of_getElem? (i := 1326) (by decide +kernel)⟩
theorem lw_p38 : lw_okq (⟨"MomentdeskModel", "houseTold", "(I)I"⟩, 9) := ⟨⟨by decide +kernel, by decide +kernel⟩, List.mem_of_getElem? (i := 1008) (by decide +kernel), List.mem_of_getElem? (i := 1345) (by decide +kernel), List.mem_of_getElem? (i := 1346) (by decide +kernel)⟩
def lw_privs_3 : List (MethodName × Nat) := [(⟨"MomentdeskModel", "told", "(II)I"⟩, 9), (⟨"MomentdeskModel", "ordered", "(II)I"⟩, 9), (⟨"MomentdeskModel", "is", "(III)Z"⟩, 9), (⟨"MomentdeskModel", "turn", "(IJII)I"⟩, 9), (⟨"MomentdeskModel", "ofSecond", "(I)I"⟩, 9), (⟨"MomentdeskModel", "clockTold", "(II)I"⟩, 9), (⟨"MomentdeskModel", "houseTold", "(I)I"⟩, 9)]
theorem lw_r3 : ∀ q ∈ lw_privs_3, lw_okq q := List.forall_mem_cons.mpr ⟨lw_p32, List.forall_mem_cons.mpr ⟨lw_p33, List.forall_mem_cons.mpr ⟨lw_p34, List.forall_mem_cons.mpr ⟨lw_p35, List.forall_mem_cons.mpr ⟨lw_p36, List.forall_mem_cons.mpr ⟨lw_p37, List.forall_mem_cons.mpr ⟨lw_p38, fun _ h => absurd h List.not_mem_nil⟩⟩⟩⟩⟩⟩⟩
def lw_privs : List (MethodName × Nat) := lw_privs_1 ++ (lw_privs_2 ++ (lw_privs_3))
def lw_tbl : List Cond := k2_sels lw_privs ++ tables_1
theorem lw_privs_ok : ∀ q ∈ lw_privs, lw_okq q := by
  show ∀ q ∈ lw_privs_1 ++ (lw_privs_2 ++ (lw_privs_3)), lw_okq q
  exact List.forall_mem_append.mpr ⟨lw_r1, List.forall_mem_append.mpr ⟨lw_r2, lw_r3⟩⟩
def RX0 : String := "Momentdesk$Calendar"
abbrev cX0_isLeap : ByteArray := prog_2_method_2_code
def yX0_isLeap : MethodName := ⟨RX0, "isLeap", "(I)Z"⟩
abbrev cX0_lengthOfYear : ByteArray := prog_2_method_3_code
def yX0_lengthOfYear : MethodName := ⟨RX0, "lengthOfYear", "(I)I"⟩
abbrev cX0_lengthOfMonth : ByteArray := prog_2_method_4_code
def yX0_lengthOfMonth : MethodName := ⟨RX0, "lengthOfMonth", "(II)I"⟩
abbrev cX0_isDay : ByteArray := prog_2_method_5_code
def yX0_isDay : MethodName := ⟨RX0, "isDay", "(III)Z"⟩
abbrev cX0_firstDayOf : ByteArray := prog_2_method_6_code
def yX0_firstDayOf : MethodName := ⟨RX0, "firstDayOf", "(I)I"⟩
abbrev cX0_daysBeforeMonth : ByteArray := prog_2_method_7_code
def yX0_daysBeforeMonth : MethodName := ⟨RX0, "daysBeforeMonth", "(II)I"⟩
abbrev cX0_dayOf : ByteArray := prog_2_method_8_code
def yX0_dayOf : MethodName := ⟨RX0, "dayOf", "(III)I"⟩
abbrev cX0_yearOf : ByteArray := prog_2_method_9_code
def yX0_yearOf : MethodName := ⟨RX0, "yearOf", "(I)I"⟩
abbrev cX0_dayOfYear : ByteArray := prog_2_method_10_code
def yX0_dayOfYear : MethodName := ⟨RX0, "dayOfYear", "(I)I"⟩
abbrev cX0_monthOf : ByteArray := prog_2_method_11_code
def yX0_monthOf : MethodName := ⟨RX0, "monthOf", "(I)I"⟩
abbrev cX0_dayOfMonth : ByteArray := prog_2_method_12_code
def yX0_dayOfMonth : MethodName := ⟨RX0, "dayOfMonth", "(I)I"⟩
abbrev cX0_dayOfWeek : ByteArray := prog_2_method_13_code
def yX0_dayOfWeek : MethodName := ⟨RX0, "dayOfWeek", "(I)I"⟩
def RX1 : String := "Momentdesk$Local"
def TX1 : u_T := fun k => match k with
  | 0 => ("Momentdesk$Local", "second", "J", false)
  | 1 => ("Momentdesk$Local", "nano", "I", false)
  | _ => ("Momentdesk$Local", "offset", "I", false)
def tyX1 : Nat → FieldType := fun k => match k with
  | 0 => .long
  | 1 => .int
  | _ => .int
theorem nmX1 : ∀ a, a < 3 → ∀ b, b < 3 → a ≠ b → (TX1 a).2.1 ≠ (TX1 b).2.1 := by decide +kernel
theorem tyX1_ok : ∀ k, k < 3 → parseFieldDescriptor (TX1 k).2.2.1 = some (tyX1 k) := by decide +kernel
abbrev cX1_init : ByteArray := prog_3_method_1_code
def yX1_init : MethodName := ⟨RX1, "<init>", "()V"⟩
abbrev cX1_tell : ByteArray := prog_3_method_2_code
def yX1_tell : MethodName := ⟨RX1, "tell", "(JII)V"⟩
abbrev cX1_day : ByteArray := prog_3_method_3_code
def yX1_day : MethodName := ⟨RX1, "day", "()I"⟩
abbrev cX1_beginOfDay : ByteArray := prog_3_method_4_code
def yX1_beginOfDay : MethodName := ⟨RX1, "beginOfDay", "()J"⟩
abbrev cX1_months : ByteArray := prog_3_method_5_code
def yX1_months : MethodName := ⟨RX1, "months", "()J"⟩
abbrev cX1_secondOfDay : ByteArray := prog_3_method_6_code
def yX1_secondOfDay : MethodName := ⟨RX1, "secondOfDay", "()I"⟩
abbrev cX1_hour : ByteArray := prog_3_method_7_code
def yX1_hour : MethodName := ⟨RX1, "hour", "()I"⟩
abbrev cX1_minute : ByteArray := prog_3_method_8_code
def yX1_minute : MethodName := ⟨RX1, "minute", "()I"⟩
abbrev cX1_secondOfMinute : ByteArray := prog_3_method_9_code
def yX1_secondOfMinute : MethodName := ⟨RX1, "secondOfMinute", "()I"⟩
abbrev cX1_momentSecond : ByteArray := prog_3_method_10_code
def yX1_momentSecond : MethodName := ⟨RX1, "momentSecond", "()J"⟩
abbrev cX1_isAhead : ByteArray := prog_3_method_11_code
def yX1_isAhead : MethodName := ⟨RX1, "isAhead", "(LMomentdesk$Local;)Z"⟩
abbrev cX1_isAlike : ByteArray := prog_3_method_12_code
def yX1_isAlike : MethodName := ⟨RX1, "isAlike", "(LMomentdesk$Local;)Z"⟩
abbrev cX1_isSame : ByteArray := prog_3_method_13_code
def yX1_isSame : MethodName := ⟨RX1, "isSame", "(LMomentdesk$Local;)Z"⟩
abbrev cX1_momentOrder : ByteArray := prog_3_method_14_code
def yX1_momentOrder : MethodName := ⟨RX1, "momentOrder", "(LMomentdesk$Local;)I"⟩
abbrev cX1_orderTo : ByteArray := prog_3_method_15_code
def yX1_orderTo : MethodName := ⟨RX1, "orderTo", "(LMomentdesk$Local;)I"⟩
def RX2 : String := "Momentdesk"
def TX2 : u_T := fun k => match k with
  | 0 => ("Momentdesk", "offsets", "[I", true)
  | 1 => ("Momentdesk", "numbers", "[J", true)
  | 2 => ("Momentdesk", "dates", "[LMomentdesk$Local;", true)
  | 3 => ("Momentdesk", "clocks", "[LMomentdesk$Local;", true)
  | 4 => ("Momentdesk", "triedDated", "LMomentdesk$Local;", true)
  | 5 => ("Momentdesk", "triedClock", "LMomentdesk$Local;", true)
  | 6 => ("Momentdesk", "knocks", "I", false)
  | _ => ("Momentdesk", "refusals", "I", false)
def tyX2 : Nat → FieldType := fun k => match k with
  | 0 => .array .int
  | 1 => .array .long
  | 2 => .array (.object "Momentdesk$Local")
  | 3 => .array (.object "Momentdesk$Local")
  | 4 => .object "Momentdesk$Local"
  | 5 => .object "Momentdesk$Local"
  | 6 => .int
  | _ => .int
theorem nmX2 : ∀ a, a < 8 → ∀ b, b < 8 → a ≠ b → (TX2 a).2.1 ≠ (TX2 b).2.1 := by decide +kernel
theorem tyX2_ok : ∀ k, k < 8 → parseFieldDescriptor (TX2 k).2.2.1 = some (tyX2 k) := by decide +kernel
abbrev cX2_init : ByteArray := prog_1_method_1_code
def yX2_init : MethodName := ⟨RX2, "<init>", "()V"⟩
abbrev cX2_offset : ByteArray := prog_1_method_2_code
def yX2_offset : MethodName := ⟨RX2, "offset", "(II)I"⟩
abbrev cX2_offsetOf : ByteArray := prog_1_method_3_code
def yX2_offsetOf : MethodName := ⟨RX2, "offsetOf", "(IIII)I"⟩
abbrev cX2_seconds : ByteArray := prog_1_method_4_code
def yX2_seconds : MethodName := ⟨RX2, "seconds", "(I)I"⟩
abbrev cX2_orderOffset : ByteArray := prog_1_method_5_code
def yX2_orderOffset : MethodName := ⟨RX2, "orderOffset", "(II)I"⟩
abbrev cX2_moment : ByteArray := prog_1_method_6_code
def yX2_moment : MethodName := ⟨RX2, "moment", "(III)I"⟩
abbrev cX2_milli : ByteArray := prog_1_method_7_code
def yX2_milli : MethodName := ⟨RX2, "milli", "(III)I"⟩
abbrev cX2_move : ByteArray := prog_1_method_8_code
def yX2_move : MethodName := ⟨RX2, "move", "(IIIZ)I"⟩
abbrev cX2_momentOf : ByteArray := prog_1_method_9_code
def yX2_momentOf : MethodName := ⟨RX2, "momentOf", "(II)I"⟩
abbrev cX2_ofMoment : ByteArray := prog_1_method_10_code
def yX2_ofMoment : MethodName := ⟨RX2, "ofMoment", "(IZ)I"⟩
abbrev cX2_millis : ByteArray := prog_1_method_11_code
def yX2_millis : MethodName := ⟨RX2, "millis", "(I)Ljava/lang/String;"⟩
abbrev cX2_orderMoment : ByteArray := prog_1_method_12_code
def yX2_orderMoment : MethodName := ⟨RX2, "orderMoment", "(II)I"⟩
abbrev cX2_isMoment : ByteArray := prog_1_method_13_code
def yX2_isMoment : MethodName := ⟨RX2, "isMoment", "(III)Z"⟩
abbrev cX2_copyMoment : ByteArray := prog_1_method_14_code
def yX2_copyMoment : MethodName := ⟨RX2, "copyMoment", "(II)I"⟩
abbrev cX2_date : ByteArray := prog_1_method_15_code
def yX2_date : MethodName := ⟨RX2, "date", "(IIIIII)I"⟩
abbrev cX2_dateOf : ByteArray := prog_1_method_16_code
def yX2_dateOf : MethodName := ⟨RX2, "dateOf", "(III)I"⟩
abbrev cX2_moveDate : ByteArray := prog_1_method_17_code
def yX2_moveDate : MethodName := ⟨RX2, "moveDate", "(IIIZ)I"⟩
abbrev cX2_set : ByteArray := prog_1_method_18_code
def yX2_set : MethodName := ⟨RX2, "set", "(III)I"⟩
abbrev cX2_anew : ByteArray := prog_1_method_19_code
def yX2_anew : MethodName := ⟨RX2, "anew", "(IIZ)I"⟩
abbrev cX2_copy : ByteArray := prog_1_method_20_code
def yX2_copy : MethodName := ⟨RX2, "copy", "(II)I"⟩
abbrev cX2_ofDate : ByteArray := prog_1_method_21_code
def yX2_ofDate : MethodName := ⟨RX2, "ofDate", "(II)I"⟩
abbrev cX2_orderDate : ByteArray := prog_1_method_22_code
def yX2_orderDate : MethodName := ⟨RX2, "orderDate", "(II)I"⟩
abbrev cX2_isDate : ByteArray := prog_1_method_23_code
def yX2_isDate : MethodName := ⟨RX2, "isDate", "(III)Z"⟩
abbrev cX2_clock : ByteArray := prog_1_method_24_code
def yX2_clock : MethodName := ⟨RX2, "clock", "(IIII)I"⟩
abbrev cX2_clockOf : ByteArray := prog_1_method_25_code
def yX2_clockOf : MethodName := ⟨RX2, "clockOf", "(II)I"⟩
abbrev cX2_strike : ByteArray := prog_1_method_26_code
def yX2_strike : MethodName := ⟨RX2, "strike", "(II)I"⟩
abbrev cX2_moveClock : ByteArray := prog_1_method_27_code
def yX2_moveClock : MethodName := ⟨RX2, "moveClock", "(IIIZ)I"⟩
abbrev cX2_anewClock : ByteArray := prog_1_method_28_code
def yX2_anewClock : MethodName := ⟨RX2, "anewClock", "(IIZ)I"⟩
abbrev cX2_copyClock : ByteArray := prog_1_method_29_code
def yX2_copyClock : MethodName := ⟨RX2, "copyClock", "(II)I"⟩
abbrev cX2_ofClock : ByteArray := prog_1_method_30_code
def yX2_ofClock : MethodName := ⟨RX2, "ofClock", "(II)I"⟩
abbrev cX2_orderClock : ByteArray := prog_1_method_31_code
def yX2_orderClock : MethodName := ⟨RX2, "orderClock", "(II)I"⟩
abbrev cX2_isClock : ByteArray := prog_1_method_32_code
def yX2_isClock : MethodName := ⟨RX2, "isClock", "(III)Z"⟩
abbrev cX2_knock : ByteArray := prog_1_method_33_code
def yX2_knock : MethodName := ⟨RX2, "knock", "()I"⟩
abbrev cX2_house : ByteArray := prog_1_method_34_code
def yX2_house : MethodName := ⟨RX2, "house", "(I)I"⟩
abbrev cX2_isSound : ByteArray := prog_1_method_35_code
def yX2_isSound : MethodName := ⟨RX2, "isSound", "()Z"⟩
abbrev cX2_digest : ByteArray := prog_1_method_36_code
def yX2_digest : MethodName := ⟨RX2, "digest", "()J"⟩
abbrev cX2_requireOne : ByteArray := prog_1_method_37_code
def yX2_requireOne : MethodName := ⟨RX2, "requireOne", "(II)V"⟩
abbrev cX2_requireWithin : ByteArray := prog_1_method_38_code
def yX2_requireWithin : MethodName := ⟨RX2, "requireWithin", "(III)V"⟩
abbrev cX2_isWithin : ByteArray := prog_1_method_39_code
def yX2_isWithin : MethodName := ⟨RX2, "isWithin", "(JJJ)Z"⟩
abbrev cX2_at : ByteArray := prog_1_method_40_code
def yX2_at : MethodName := ⟨RX2, "at", "([LMomentdesk$Local;I)LMomentdesk$Local;"⟩
abbrev cX2_signed : ByteArray := prog_1_method_41_code
def yX2_signed : MethodName := ⟨RX2, "signed", "(IZ)J"⟩
abbrev cX2_compared : ByteArray := prog_1_method_42_code
def yX2_compared : MethodName := ⟨RX2, "compared", "(JJ)I"⟩
abbrev cX2_refused : ByteArray := prog_1_method_43_code
def yX2_refused : MethodName := ⟨RX2, "refused", "()I"⟩
abbrev cX2_putNumber : ByteArray := prog_1_method_44_code
def yX2_putNumber : MethodName := ⟨RX2, "putNumber", "(IJ)I"⟩
abbrev cX2_putLocal : ByteArray := prog_1_method_45_code
def yX2_putLocal : MethodName := ⟨RX2, "putLocal", "(LMomentdesk$Local;JII)I"⟩
abbrev cX2_putClock : ByteArray := prog_1_method_46_code
def yX2_putClock : MethodName := ⟨RX2, "putClock", "(LMomentdesk$Local;JII)I"⟩
abbrev cX2_secondOf : ByteArray := prog_1_method_47_code
def yX2_secondOf : MethodName := ⟨RX2, "secondOf", "(J)J"⟩
abbrev cX2_nanoOf : ByteArray := prog_1_method_48_code
def yX2_nanoOf : MethodName := ⟨RX2, "nanoOf", "(J)I"⟩
abbrev cX2_numberOf : ByteArray := prog_1_method_49_code
def yX2_numberOf : MethodName := ⟨RX2, "numberOf", "(LMomentdesk$Local;)J"⟩
abbrev cX2_textOf : ByteArray := prog_1_method_50_code
def yX2_textOf : MethodName := ⟨RX2, "textOf", "(J)Ljava/lang/String;"⟩
abbrev cX2_firstMoment : ByteArray := prog_1_method_51_code
def yX2_firstMoment : MethodName := ⟨RX2, "firstMoment", "()I"⟩
abbrev cX2_secondsOn : ByteArray := prog_1_method_52_code
def yX2_secondsOn : MethodName := ⟨RX2, "secondsOn", "(LMomentdesk$Local;IJ)J"⟩
abbrev cX2_nanoOn : ByteArray := prog_1_method_53_code
def yX2_nanoOn : MethodName := ⟨RX2, "nanoOn", "(LMomentdesk$Local;IJ)I"⟩
abbrev cX2_putMonths : ByteArray := prog_1_method_54_code
def yX2_putMonths : MethodName := ⟨RX2, "putMonths", "(LMomentdesk$Local;J)I"⟩
abbrev cX2_putDay : ByteArray := prog_1_method_55_code
def yX2_putDay : MethodName := ⟨RX2, "putDay", "(LMomentdesk$Local;I)I"⟩
abbrev cX2_setOfDay : ByteArray := prog_1_method_56_code
def yX2_setOfDay : MethodName := ⟨RX2, "setOfDay", "(LMomentdesk$Local;II)I"⟩
abbrev cX2_setOfTime : ByteArray := prog_1_method_57_code
def yX2_setOfTime : MethodName := ⟨RX2, "setOfTime", "(LMomentdesk$Local;II)I"⟩
abbrev cX2_setPart : ByteArray := prog_1_method_58_code
def yX2_setPart : MethodName := ⟨RX2, "setPart", "(LMomentdesk$Local;IIIJ)I"⟩
abbrev cX2_datePart : ByteArray := prog_1_method_59_code
def yX2_datePart : MethodName := ⟨RX2, "datePart", "(LMomentdesk$Local;I)I"⟩
abbrev cX2_clockPart : ByteArray := prog_1_method_60_code
def yX2_clockPart : MethodName := ⟨RX2, "clockPart", "(LMomentdesk$Local;I)I"⟩
abbrev cX2_isSo : ByteArray := prog_1_method_61_code
def yX2_isSo : MethodName := ⟨RX2, "isSo", "(LMomentdesk$Local;LMomentdesk$Local;I)Z"⟩
abbrev cX2_firstDated : ByteArray := prog_1_method_62_code
def yX2_firstDated : MethodName := ⟨RX2, "firstDated", "()I"⟩
abbrev cX2_areMomentsSound : ByteArray := prog_1_method_63_code
def yX2_areMomentsSound : MethodName := ⟨RX2, "areMomentsSound", "()Z"⟩
abbrev cX2_areDatesToldAnewSound : ByteArray := prog_1_method_64_code
def yX2_areDatesToldAnewSound : MethodName := ⟨RX2, "areDatesToldAnewSound", "()Z"⟩
abbrev cX2_isToldAnewSound : ByteArray := prog_1_method_65_code
def yX2_isToldAnewSound : MethodName := ⟨RX2, "isToldAnewSound", "(LMomentdesk$Local;I)Z"⟩
abbrev cX2_arePairsSound : ByteArray := prog_1_method_66_code
def yX2_arePairsSound : MethodName := ⟨RX2, "arePairsSound", "()Z"⟩
abbrev cX2_isPairSound : ByteArray := prog_1_method_67_code
def yX2_isPairSound : MethodName := ⟨RX2, "isPairSound", "(LMomentdesk$Local;LMomentdesk$Local;)Z"⟩
abbrev cX2_areStrikesSound : ByteArray := prog_1_method_68_code
def yX2_areStrikesSound : MethodName := ⟨RX2, "areStrikesSound", "()Z"⟩
abbrev cX2_added : ByteArray := prog_1_method_69_code
def yX2_added : MethodName := ⟨RX2, "added", "(JJ)J"⟩
abbrev cX2_withOffsets : ByteArray := prog_1_method_70_code
def yX2_withOffsets : MethodName := ⟨RX2, "withOffsets", "(J)J"⟩
abbrev cX2_withMoments : ByteArray := prog_1_method_71_code
def yX2_withMoments : MethodName := ⟨RX2, "withMoments", "(J)J"⟩
abbrev cX2_withDates : ByteArray := prog_1_method_72_code
def yX2_withDates : MethodName := ⟨RX2, "withDates", "(J)J"⟩
abbrev cX2_withClocks : ByteArray := prog_1_method_73_code
def yX2_withClocks : MethodName := ⟨RX2, "withClocks", "(J)J"⟩
abbrev cX2_withDatePairs : ByteArray := prog_1_method_74_code
def yX2_withDatePairs : MethodName := ⟨RX2, "withDatePairs", "(J)J"⟩
abbrev cX2_withClockPairs : ByteArray := prog_1_method_75_code
def yX2_withClockPairs : MethodName := ⟨RX2, "withClockPairs", "(J)J"⟩
abbrev cX2_withHouse : ByteArray := prog_1_method_76_code
def yX2_withHouse : MethodName := ⟨RX2, "withHouse", "(J)J"⟩
def RX3 : String := "MomentdeskLaw$Out"
def TX3 : u_T := fun k => match k with
  | 0 => ("MomentdeskLaw$Out", "n", "J", false)
  | _ => ("MomentdeskLaw$Out", "s", "Ljava/lang/String;", false)
def tyX3 : Nat → FieldType := fun k => match k with
  | 0 => .long
  | _ => .object "java/lang/String"
theorem nmX3 : ∀ a, a < 2 → ∀ b, b < 2 → a ≠ b → (TX3 a).2.1 ≠ (TX3 b).2.1 := by decide +kernel
theorem tyX3_ok : ∀ k, k < 2 → parseFieldDescriptor (TX3 k).2.2.1 = some (tyX3 k) := by decide +kernel
abbrev cX3_init : ByteArray := prog_5_method_1_code
def yX3_init : MethodName := ⟨RX3, "<init>", "()V"⟩
def RX4 : String := "MomentdeskModel"
def TX4 : u_T := fun k => match k with
  | 0 => ("MomentdeskModel", "thrown", "I", false)
  | 1 => ("MomentdeskModel", "knocks", "I", false)
  | 2 => ("MomentdeskModel", "refusals", "I", false)
  | 3 => ("MomentdeskModel", "offsets", "[I", true)
  | 4 => ("MomentdeskModel", "moments", "[J", true)
  | 5 => ("MomentdeskModel", "days", "[I", true)
  | 6 => ("MomentdeskModel", "seconds", "[I", true)
  | 7 => ("MomentdeskModel", "nanos", "[I", true)
  | _ => ("MomentdeskModel", "owns", "[I", true)
def tyX4 : Nat → FieldType := fun k => match k with
  | 0 => .int
  | 1 => .int
  | 2 => .int
  | 3 => .array .int
  | 4 => .array .long
  | 5 => .array .int
  | 6 => .array .int
  | 7 => .array .int
  | _ => .array .int
theorem nmX4 : ∀ a, a < 9 → ∀ b, b < 9 → a ≠ b → (TX4 a).2.1 ≠ (TX4 b).2.1 := by decide +kernel
theorem tyX4_ok : ∀ k, k < 9 → parseFieldDescriptor (TX4 k).2.2.1 = some (tyX4 k) := by decide +kernel
abbrev cX4_init : ByteArray := prog_6_method_1_code
def yX4_init : MethodName := ⟨RX4, "<init>", "()V"⟩
abbrev cX4_thrown : ByteArray := prog_6_method_2_code
def yX4_thrown : MethodName := ⟨RX4, "thrown", "()I"⟩
abbrev cX4_isIn : ByteArray := prog_6_method_3_code
def yX4_isIn : MethodName := ⟨RX4, "isIn", "(JJJ)Z"⟩
abbrev cX4_one : ByteArray := prog_6_method_4_code
def yX4_one : MethodName := ⟨RX4, "one", "(Z)I"⟩
abbrev cX4_isStopped : ByteArray := prog_6_method_5_code
def yX4_isStopped : MethodName := ⟨RX4, "isStopped", "(ZZ)Z"⟩
abbrev cX4_no : ByteArray := prog_6_method_6_code
def yX4_no : MethodName := ⟨RX4, "no", "()I"⟩
abbrev cX4_isNone : ByteArray := prog_6_method_7_code
def yX4_isNone : MethodName := ⟨RX4, "isNone", "(I)Z"⟩
abbrev cX4_isNoClock : ByteArray := prog_6_method_8_code
def yX4_isNoClock : MethodName := ⟨RX4, "isNoClock", "(I)Z"⟩
abbrev cX4_isLeap : ByteArray := prog_6_method_9_code
def yX4_isLeap : MethodName := ⟨RX4, "isLeap", "(I)Z"⟩
abbrev cX4_daysOf : ByteArray := prog_6_method_10_code
def yX4_daysOf : MethodName := ⟨RX4, "daysOf", "(II)I"⟩
abbrev cX4_daysOf_ : ByteArray := prog_6_method_11_code
def yX4_daysOf_ : MethodName := ⟨RX4, "daysOf", "(I)I"⟩
abbrev cX4_firstOf : ByteArray := prog_6_method_12_code
def yX4_firstOf : MethodName := ⟨RX4, "firstOf", "(I)I"⟩
abbrev cX4_dayOf : ByteArray := prog_6_method_13_code
def yX4_dayOf : MethodName := ⟨RX4, "dayOf", "(III)I"⟩
abbrev cX4_yearOf : ByteArray := prog_6_method_14_code
def yX4_yearOf : MethodName := ⟨RX4, "yearOf", "(I)I"⟩
abbrev cX4_parts : ByteArray := prog_6_method_15_code
def yX4_parts : MethodName := ⟨RX4, "parts", "(I)[I"⟩
abbrev cX4_isDay : ByteArray := prog_6_method_16_code
def yX4_isDay : MethodName := ⟨RX4, "isDay", "(J)Z"⟩
abbrev cX4_offset : ByteArray := prog_6_method_17_code
def yX4_offset : MethodName := ⟨RX4, "offset", "(II)I"⟩
abbrev cX4_offsetOf : ByteArray := prog_6_method_18_code
def yX4_offsetOf : MethodName := ⟨RX4, "offsetOf", "(IIII)I"⟩
abbrev cX4_seconds : ByteArray := prog_6_method_19_code
def yX4_seconds : MethodName := ⟨RX4, "seconds", "(I)I"⟩
abbrev cX4_order : ByteArray := prog_6_method_20_code
def yX4_order : MethodName := ⟨RX4, "order", "(JJ)I"⟩
abbrev cX4_orderOffset : ByteArray := prog_6_method_21_code
def yX4_orderOffset : MethodName := ⟨RX4, "orderOffset", "(II)I"⟩
abbrev cX4_whole : ByteArray := prog_6_method_22_code
def yX4_whole : MethodName := ⟨RX4, "whole", "(JJ)J"⟩
abbrev cX4_rest : ByteArray := prog_6_method_23_code
def yX4_rest : MethodName := ⟨RX4, "rest", "(JJ)I"⟩
abbrev cX4_become : ByteArray := prog_6_method_24_code
def yX4_become : MethodName := ⟨RX4, "become", "(IJ)I"⟩
abbrev cX4_moment : ByteArray := prog_6_method_25_code
def yX4_moment : MethodName := ⟨RX4, "moment", "(III)I"⟩
abbrev cX4_milli : ByteArray := prog_6_method_26_code
def yX4_milli : MethodName := ⟨RX4, "milli", "(III)I"⟩
abbrev cX4_move : ByteArray := prog_6_method_27_code
def yX4_move : MethodName := ⟨RX4, "move", "(IIIZ)I"⟩
abbrev cX4_number : ByteArray := prog_6_method_28_code
def yX4_number : MethodName := ⟨RX4, "number", "(I)J"⟩
abbrev cX4_momentOf : ByteArray := prog_6_method_29_code
def yX4_momentOf : MethodName := ⟨RX4, "momentOf", "(II)I"⟩
abbrev cX4_copyMoment : ByteArray := prog_6_method_30_code
def yX4_copyMoment : MethodName := ⟨RX4, "copyMoment", "(II)I"⟩
abbrev cX4_ofMoment : ByteArray := prog_6_method_31_code
def yX4_ofMoment : MethodName := ⟨RX4, "ofMoment", "(IZ)I"⟩
abbrev cX4_millis : ByteArray := prog_6_method_32_code
def yX4_millis : MethodName := ⟨RX4, "millis", "(I)Ljava/lang/String;"⟩
abbrev cX4_orderMoment : ByteArray := prog_6_method_33_code
def yX4_orderMoment : MethodName := ⟨RX4, "orderMoment", "(II)I"⟩
abbrev cX4_isMoment : ByteArray := prog_6_method_34_code
def yX4_isMoment : MethodName := ⟨RX4, "isMoment", "(III)Z"⟩
abbrev cX4_put : ByteArray := prog_6_method_35_code
def yX4_put : MethodName := ⟨RX4, "put", "(IIIII)I"⟩
abbrev cX4_put_ : ByteArray := prog_6_method_36_code
def yX4_put_ : MethodName := ⟨RX4, "put", "(IJJII)I"⟩
abbrev cX4_isTime : ByteArray := prog_6_method_37_code
def yX4_isTime : MethodName := ⟨RX4, "isTime", "(II)Z"⟩
abbrev cX4_isThere : ByteArray := prog_6_method_38_code
def yX4_isThere : MethodName := ⟨RX4, "isThere", "(III)Z"⟩
abbrev cX4_date : ByteArray := prog_6_method_39_code
def yX4_date : MethodName := ⟨RX4, "date", "(IIIIII)I"⟩
abbrev cX4_dateOf : ByteArray := prog_6_method_40_code
def yX4_dateOf : MethodName := ⟨RX4, "dateOf", "(III)I"⟩
abbrev cX4_moveMonths : ByteArray := prog_6_method_41_code
def yX4_moveMonths : MethodName := ⟨RX4, "moveMonths", "(IJ)I"⟩
abbrev cX4_putDay : ByteArray := prog_6_method_42_code
def yX4_putDay : MethodName := ⟨RX4, "putDay", "(IIII)I"⟩
abbrev cX4_secondsOf : ByteArray := prog_6_method_43_code
def yX4_secondsOf : MethodName := ⟨RX4, "secondsOf", "(I)I"⟩
abbrev cX4_moveDate : ByteArray := prog_6_method_44_code
def yX4_moveDate : MethodName := ⟨RX4, "moveDate", "(IIIZ)I"⟩
abbrev cX4_set : ByteArray := prog_6_method_45_code
def yX4_set : MethodName := ⟨RX4, "set", "(III)I"⟩
abbrev cX4_anew : ByteArray := prog_6_method_46_code
def yX4_anew : MethodName := ⟨RX4, "anew", "(IIZ)I"⟩
abbrev cX4_copy : ByteArray := prog_6_method_47_code
def yX4_copy : MethodName := ⟨RX4, "copy", "(II)I"⟩
abbrev cX4_told : ByteArray := prog_6_method_48_code
def yX4_told : MethodName := ⟨RX4, "told", "(II)I"⟩
abbrev cX4_ofDate : ByteArray := prog_6_method_49_code
def yX4_ofDate : MethodName := ⟨RX4, "ofDate", "(II)I"⟩
abbrev cX4_ordered : ByteArray := prog_6_method_50_code
def yX4_ordered : MethodName := ⟨RX4, "ordered", "(II)I"⟩
abbrev cX4_is : ByteArray := prog_6_method_51_code
def yX4_is : MethodName := ⟨RX4, "is", "(III)Z"⟩
abbrev cX4_orderDate : ByteArray := prog_6_method_52_code
def yX4_orderDate : MethodName := ⟨RX4, "orderDate", "(II)I"⟩
abbrev cX4_isDate : ByteArray := prog_6_method_53_code
def yX4_isDate : MethodName := ⟨RX4, "isDate", "(III)Z"⟩
abbrev cX4_ofSecond : ByteArray := prog_6_method_54_code
def yX4_ofSecond : MethodName := ⟨RX4, "ofSecond", "(I)I"⟩
abbrev cX4_turn : ByteArray := prog_6_method_55_code
def yX4_turn : MethodName := ⟨RX4, "turn", "(IJII)I"⟩
abbrev cX4_clock : ByteArray := prog_6_method_56_code
def yX4_clock : MethodName := ⟨RX4, "clock", "(IIII)I"⟩
abbrev cX4_clockOf : ByteArray := prog_6_method_57_code
def yX4_clockOf : MethodName := ⟨RX4, "clockOf", "(II)I"⟩
abbrev cX4_copyClock : ByteArray := prog_6_method_58_code
def yX4_copyClock : MethodName := ⟨RX4, "copyClock", "(II)I"⟩
abbrev cX4_strike : ByteArray := prog_6_method_59_code
def yX4_strike : MethodName := ⟨RX4, "strike", "(II)I"⟩
abbrev cX4_moveClock : ByteArray := prog_6_method_60_code
def yX4_moveClock : MethodName := ⟨RX4, "moveClock", "(IIIZ)I"⟩
abbrev cX4_anewClock : ByteArray := prog_6_method_61_code
def yX4_anewClock : MethodName := ⟨RX4, "anewClock", "(IIZ)I"⟩
abbrev cX4_clockTold : ByteArray := prog_6_method_62_code
def yX4_clockTold : MethodName := ⟨RX4, "clockTold", "(II)I"⟩
abbrev cX4_ofClock : ByteArray := prog_6_method_63_code
def yX4_ofClock : MethodName := ⟨RX4, "ofClock", "(II)I"⟩
abbrev cX4_orderClock : ByteArray := prog_6_method_64_code
def yX4_orderClock : MethodName := ⟨RX4, "orderClock", "(II)I"⟩
abbrev cX4_isClock : ByteArray := prog_6_method_65_code
def yX4_isClock : MethodName := ⟨RX4, "isClock", "(III)Z"⟩
abbrev cX4_knock : ByteArray := prog_6_method_66_code
def yX4_knock : MethodName := ⟨RX4, "knock", "()I"⟩
abbrev cX4_houseTold : ByteArray := prog_6_method_67_code
def yX4_houseTold : MethodName := ⟨RX4, "houseTold", "(I)I"⟩
abbrev cX4_house : ByteArray := prog_6_method_68_code
def yX4_house : MethodName := ⟨RX4, "house", "(I)I"⟩
abbrev cX4_isSound : ByteArray := prog_6_method_69_code
def yX4_isSound : MethodName := ⟨RX4, "isSound", "()Z"⟩
abbrev cX4_digest : ByteArray := prog_6_method_70_code
def yX4_digest : MethodName := ⟨RX4, "digest", "()J"⟩
def RJ5 : String := "java/lang/AbstractStringBuilder"
def RJ9 : String := "java/lang/Math"
abbrev cJ9_floorDiv_f86c9 : ByteArray := prog_15_method_49_code
def yJ9_floorDiv_f86c9 : MethodName := ⟨RJ9, "floorDiv", "(JJ)J"⟩
abbrev cJ9_floorMod_7cf53 : ByteArray := prog_15_method_50_code
def yJ9_floorMod_7cf53 : MethodName := ⟨RJ9, "floorMod", "(II)I"⟩
abbrev cJ9_floorMod_f86c9 : ByteArray := prog_15_method_52_code
def yJ9_floorMod_f86c9 : MethodName := ⟨RJ9, "floorMod", "(JJ)J"⟩
abbrev cJ9_min_7cf53 : ByteArray := prog_15_method_69_code
def yJ9_min_7cf53 : MethodName := ⟨RJ9, "min", "(II)I"⟩
def RJ0 : String := "java/lang/String"
def TJ0 : u_T := fun k => match k with
  | 0 => ("java/lang/String", "value", "[B", true)
  | 1 => ("java/lang/String", "coder", "B", true)
  | 2 => ("java/lang/String", "hash", "I", false)
  | _ => ("java/lang/String", "hashIsZero", "Z", false)
def tyJ0 : Nat → FieldType := fun k => match k with
  | 0 => .array .byte
  | 1 => .byte
  | 2 => .int
  | _ => .boolean
theorem nmJ0 : ∀ a, a < 4 → ∀ b, b < 4 → a ≠ b → (TJ0 a).2.1 ≠ (TJ0 b).2.1 := by decide +kernel
theorem tyJ0_ok : ∀ k, k < 4 → parseFieldDescriptor (TJ0 k).2.2.1 = some (tyJ0 k) := by decide +kernel
def RJ4 : String := "java/lang/StringBuilder"
def TJ4 : u_T := fun k => match k with
  | 0 => ("java/lang/AbstractStringBuilder", "value", "[B", false)
  | 1 => ("java/lang/AbstractStringBuilder", "coder", "B", false)
  | 2 => ("java/lang/AbstractStringBuilder", "maybeLatin1", "Z", false)
  | _ => ("java/lang/AbstractStringBuilder", "count", "I", false)
def tyJ4 : Nat → FieldType := fun k => match k with
  | 0 => .array .byte
  | 1 => .byte
  | 2 => .boolean
  | _ => .int
theorem nmJ4 : ∀ a, a < 4 → ∀ b, b < 4 → a ≠ b → (TJ4 a).2.1 ≠ (TJ4 b).2.1 := by decide +kernel
theorem tyJ4_ok : ∀ k, k < 4 → parseFieldDescriptor (TJ4 k).2.2.1 = some (tyJ4 k) := by decide +kernel
def RL : String := "MomentdeskLaw"
abbrev cL_offset : ByteArray := method_2_code
def yL_offset : MethodName := ⟨RL, "offset", "(LMomentdesk;IILMomentdeskLaw$Out;)I"⟩
abbrev cL_offsetOf : ByteArray := method_3_code
def yL_offsetOf : MethodName := ⟨RL, "offsetOf", "(LMomentdesk;IIIILMomentdeskLaw$Out;)I"⟩
abbrev cL_seconds : ByteArray := method_4_code
def yL_seconds : MethodName := ⟨RL, "seconds", "(LMomentdesk;ILMomentdeskLaw$Out;)I"⟩
abbrev cL_orderOffset : ByteArray := method_5_code
def yL_orderOffset : MethodName := ⟨RL, "orderOffset", "(LMomentdesk;IILMomentdeskLaw$Out;)I"⟩
abbrev cL_moment : ByteArray := method_6_code
def yL_moment : MethodName := ⟨RL, "moment", "(LMomentdesk;IIILMomentdeskLaw$Out;)I"⟩
abbrev cL_milli : ByteArray := method_7_code
def yL_milli : MethodName := ⟨RL, "milli", "(LMomentdesk;IIILMomentdeskLaw$Out;)I"⟩
abbrev cL_move : ByteArray := method_8_code
def yL_move : MethodName := ⟨RL, "move", "(LMomentdesk;IIIZLMomentdeskLaw$Out;)I"⟩
abbrev cL_momentOf : ByteArray := method_9_code
def yL_momentOf : MethodName := ⟨RL, "momentOf", "(LMomentdesk;IILMomentdeskLaw$Out;)I"⟩
abbrev cL_ofMoment : ByteArray := method_10_code
def yL_ofMoment : MethodName := ⟨RL, "ofMoment", "(LMomentdesk;IZLMomentdeskLaw$Out;)I"⟩
abbrev cL_millis : ByteArray := method_11_code
def yL_millis : MethodName := ⟨RL, "millis", "(LMomentdesk;ILMomentdeskLaw$Out;)I"⟩
abbrev cL_orderMoment : ByteArray := method_12_code
def yL_orderMoment : MethodName := ⟨RL, "orderMoment", "(LMomentdesk;IILMomentdeskLaw$Out;)I"⟩
abbrev cL_isMoment : ByteArray := method_13_code
def yL_isMoment : MethodName := ⟨RL, "isMoment", "(LMomentdesk;IIILMomentdeskLaw$Out;)I"⟩
abbrev cL_copyMoment : ByteArray := method_14_code
def yL_copyMoment : MethodName := ⟨RL, "copyMoment", "(LMomentdesk;IILMomentdeskLaw$Out;)I"⟩
abbrev cL_date : ByteArray := method_15_code
def yL_date : MethodName := ⟨RL, "date", "(LMomentdesk;IIIIIILMomentdeskLaw$Out;)I"⟩
abbrev cL_dateOf : ByteArray := method_16_code
def yL_dateOf : MethodName := ⟨RL, "dateOf", "(LMomentdesk;IIILMomentdeskLaw$Out;)I"⟩
abbrev cL_moveDate : ByteArray := method_17_code
def yL_moveDate : MethodName := ⟨RL, "moveDate", "(LMomentdesk;IIIZLMomentdeskLaw$Out;)I"⟩
abbrev cL_set : ByteArray := method_18_code
def yL_set : MethodName := ⟨RL, "set", "(LMomentdesk;IIILMomentdeskLaw$Out;)I"⟩
abbrev cL_anew : ByteArray := method_19_code
def yL_anew : MethodName := ⟨RL, "anew", "(LMomentdesk;IIZLMomentdeskLaw$Out;)I"⟩
abbrev cL_copy : ByteArray := method_20_code
def yL_copy : MethodName := ⟨RL, "copy", "(LMomentdesk;IILMomentdeskLaw$Out;)I"⟩
abbrev cL_ofDate : ByteArray := method_21_code
def yL_ofDate : MethodName := ⟨RL, "ofDate", "(LMomentdesk;IILMomentdeskLaw$Out;)I"⟩
abbrev cL_orderDate : ByteArray := method_22_code
def yL_orderDate : MethodName := ⟨RL, "orderDate", "(LMomentdesk;IILMomentdeskLaw$Out;)I"⟩
abbrev cL_isDate : ByteArray := method_23_code
def yL_isDate : MethodName := ⟨RL, "isDate", "(LMomentdesk;IIILMomentdeskLaw$Out;)I"⟩
abbrev cL_clock : ByteArray := method_24_code
def yL_clock : MethodName := ⟨RL, "clock", "(LMomentdesk;IIIILMomentdeskLaw$Out;)I"⟩
abbrev cL_clockOf : ByteArray := method_25_code
def yL_clockOf : MethodName := ⟨RL, "clockOf", "(LMomentdesk;IILMomentdeskLaw$Out;)I"⟩
abbrev cL_strike : ByteArray := method_26_code
def yL_strike : MethodName := ⟨RL, "strike", "(LMomentdesk;IILMomentdeskLaw$Out;)I"⟩
abbrev cL_moveClock : ByteArray := method_27_code
def yL_moveClock : MethodName := ⟨RL, "moveClock", "(LMomentdesk;IIIZLMomentdeskLaw$Out;)I"⟩
abbrev cL_anewClock : ByteArray := method_28_code
def yL_anewClock : MethodName := ⟨RL, "anewClock", "(LMomentdesk;IIZLMomentdeskLaw$Out;)I"⟩
abbrev cL_copyClock : ByteArray := method_29_code
def yL_copyClock : MethodName := ⟨RL, "copyClock", "(LMomentdesk;IILMomentdeskLaw$Out;)I"⟩
abbrev cL_ofClock : ByteArray := method_30_code
def yL_ofClock : MethodName := ⟨RL, "ofClock", "(LMomentdesk;IILMomentdeskLaw$Out;)I"⟩
abbrev cL_orderClock : ByteArray := method_31_code
def yL_orderClock : MethodName := ⟨RL, "orderClock", "(LMomentdesk;IILMomentdeskLaw$Out;)I"⟩
abbrev cL_isClock : ByteArray := method_32_code
def yL_isClock : MethodName := ⟨RL, "isClock", "(LMomentdesk;IIILMomentdeskLaw$Out;)I"⟩
abbrev cL_house : ByteArray := method_33_code
def yL_house : MethodName := ⟨RL, "house", "(LMomentdesk;ILMomentdeskLaw$Out;)I"⟩
abbrev vwCl : List vw_C := [(RJ0, TJ0, 4), (RJ4, TJ4, 4), (RX1, TX1, 3), (RX2, TX2, 8), (RX3, TX3, 2), (RX4, TX4, 9)]
end
-- 03 logic
section
/-! THE LOGIC: the machine's walk over a listed world, with all that is not looked at hidden; a row an instruction. (Own work; what it stands on is the kit's.) -/
/-- a word that stays true over a walk -/
def mgood (w : Cond) : Bool := match w with
  | .fieldLinkNest _ _ _ _ _ _ => true
  | .methodLinkNest _ _ _ _ => true
  | .castable _ _ => true
  | .declares _ => true
  | .arrayOver (.object _) => true
  | .privateMethod _ => true
  | w => goodWord w
def mW : List Cond := lw_tbl.filter mgood
theorem mW_of {w : Cond} (h : w ∈ lw_tbl) (g : mgood w = true) : w ∈ mW := List.mem_filter.mpr ⟨h, g⟩
theorem mW_at {w : Cond} (i : Nat) (h : lw_tbl[i]? = some w) (g : mgood w = true) : w ∈ mW := mW_of (List.mem_of_getElem? h) g
theorem mword {args a' : Array Value} {s U : State} (hW : s.WarmedH U.vm) {w : Cond} (g : mgood w = true) (h : w.before args s = true) : w.before a' U = true := by
  unfold mgood at g
  split at g
  · exact va_Nw.use rfl (va_Nw.warmF hW (va_Nw.of rfl h))
  · exact va_Nw.use rfl (va_Nw.warmM hW (va_Nw.of rfl h))
  · exact va_Nw.use rfl (va_Nw.warmC hW (va_Nw.of rfl h))
  · exact va_Nw.use rfl (va_Nw.warmD hW (va_Nw.of rfl h))
  · exact va_AO.use (va_AO.moved hW.alike (va_AO.of h))
  · exact va_Nw.use rfl (va_tabs rfl (rfl : (s.setVm U.vm).vm = U.vm) (by rw [Cond.privateMethod_setVm hW.alike]; exact va_Nw.of rfl h))
  · exact word_at hW (good_of_word g) h
theorem mwords {args : Array Value} {s : State} (h : ∀ w ∈ mW, w.before args s = true) {w : Cond} (hw : w ∈ mW) (a' : Array Value) (U : State) (hW : s.WarmedH U.vm) : w.before a' U = true :=
  mword hW (List.mem_filter.mp hw).2 (h w hw)
/-- an int table that nobody writes, by the static that holds it -/
def mTab (C n : String) (f : Nat → Int32) (A : Nat → Prop) (U : State) (H : Heap) : Prop := ∃ t : Nat, va_Z C n "[B" (.ref t) A U H ∧ va_T .byte t 100 (fun j => .int (f j)) A U H
/-- what the JDK's texts stand on: Latin-1 texts are on, the two tables of digits, the reference's own empty text -/
def mJdk (A : Nat → Prop) (U : State) (H : Heap) : Prop :=
  va_Z "java/lang/String" "COMPACT_STRINGS" "Z" (.int 1) A U H ∧ mTab "java/lang/Integer" "DigitOnes" (fun j => nI (48 + j % 10)) A U H ∧ mTab "java/lang/Integer" "DigitTens" (fun j => nI (48 + j / 10)) A U H ∧
  ∃ a v : Nat, vk_R RX4 119 "" a U ∧ va_O "java/lang/String" a A U H ∧ va_OF "java/lang/String" "coder" "B" (.int 0) a A U H ∧ va_OF "java/lang/String" "value" "[B" (.ref v) a A U H ∧ va_T .byte v 0 (fun _ => .int 0) A U H
theorem mJdk.to {A : Nat → Prop} {s U : State} (hW : s.WarmedH U.vm) (h : mJdk A s s.heap) (hq : ∀ a : Nat, a < s.heap.size → ¬ A a → U.heap[a]? = s.heap[a]?) : mJdk A U U.heap := by
  obtain ⟨h1, ⟨t, h2, h3⟩, ⟨t', h4, h5⟩, a, v, h6, h7, h8, h9, h10⟩ := h
  exact ⟨va_Z.moved hW.alike (h1.kept hq), ⟨t, va_Z.moved hW.alike (h2.kept hq), va_T.moved hW.alike (h3.kept hq)⟩, ⟨t', va_Z.moved hW.alike (h4.kept hq), va_T.moved hW.alike (h5.kept hq)⟩, a, v, vk_R.warm hW h6, va_O.moved hW.alike (h7.kept hq), va_OF.moved hW.alike (h8.kept hq), va_OF.moved hW.alike (h9.kept hq), va_T.moved hW.alike (h10.kept hq)⟩
/-- the two texts of the class's own exceptions, the two statics that a Throwable's constructor reads, and what the JDK's texts stand on -/
def mst (A : Nat → Prop) (U : State) : Prop :=
  (∃ a, vk_R RX2 252 "there is no such one" a U) ∧ (∃ a, vk_R RX2 259 "a number is not within its limits" a U) ∧ vx_Zq Bundle.tN "UNASSIGNED_STACK" Bundle.steD A U U.heap ∧ vx_Zq Bundle.tN "SUPPRESSED_SENTINEL" Bundle.listD A U U.heap ∧ mJdk A U U.heap
theorem mst.to {A : Nat → Prop} {s U : State} (hW : s.WarmedH U.vm) (h : mst A s) (hq : ∀ a : Nat, a < s.heap.size → ¬ A a → U.heap[a]? = s.heap[a]?) : mst A U := by
  obtain ⟨⟨a, h1⟩, ⟨b, h2⟩, h3, h4, h5⟩ := h
  exact ⟨⟨a, vk_R.warm hW h1⟩, ⟨b, vk_R.warm hW h2⟩, vx_Zq.moved hW.alike (h3.kept hq), vx_Zq.moved hW.alike (h4.kept hq), h5.to hW hq⟩
/-- what stands at a method's start -/
def mU (D : va_G) (tys : List (ClassId × FieldType)) (A : Nat → Prop) (ws : va_W) (U : State) : Prop :=
  va_P D vwCl ws U.heap ∧ va_D A ws ∧ va_K D vwCl tys U ∧ (∀ q : Nat, U.heap.size ≤ q → A q) ∧ mst A U
theorem mJdk.same {A : Nat → Prop} {u U : State} (hv : U.vm = u.vm) (hh : U.heap = u.heap) (h : mJdk A u u.heap) : mJdk A U U.heap := by
  obtain ⟨h1, ⟨t, h2, h3⟩, ⟨t', h4, h5⟩, a, v, h6, h7, h8, h9, h10⟩ := h
  have al : u.vm.Alike U.vm := by rw [hv]; exact Vm.Alike.refl _
  rw [hh]
  exact ⟨va_Z.moved al h1, ⟨t, va_Z.moved al h2, va_T.moved al h3⟩, ⟨t', va_Z.moved al h4, va_T.moved al h5⟩, a, v, vk_R.same hv h6, va_O.moved al h7, va_OF.moved al h8, va_OF.moved al h9, va_T.moved al h10⟩
theorem mU_blind {D : va_G} {tys : List (ClassId × FieldType)} {A : Nat → Prop} {ws : va_W} {as : List Value} : FrameBlind (va_Pc as (mU D tys A ws)) := by
  intro a U g mk h
  obtain ⟨e, hP, hD, hK, hA, ⟨a1, h1⟩, ⟨b1, h2⟩, h3, h4, h5⟩ := h
  exact ⟨e, hP, hD, va_K.moved (u := U) (U := U.calling g mk a) (Vm.Alike.refl U.vm) hK, hA, ⟨a1, vk_R.same rfl h1⟩, ⟨b1, vk_R.same rfl h2⟩, vx_Zq.moved (u := U) (U := U.calling g mk a) (Vm.Alike.refl U.vm) h3, vx_Zq.moved (u := U) (U := U.calling g mk a) (Vm.Alike.refl U.vm) h4, mJdk.same (u := U) (U := U.calling g mk a) rfl rfl h5⟩
def mQ (Φ : Option Value → va_W → Prop) (D : va_G) (A : Nat → Prop) : Array Value → State → Outcome → State → Prop := fun _ st oc t =>
  ∃ v ws', oc = .returned v ∧ Φ v ws' ∧ va_P D vwCl ws' t.heap ∧ va_D A ws' ∧ va_F A st t
def mX (Ψ : String → va_W → Prop) (D : va_G) (A : Nat → Prop) : String → State → State → Prop := fun E st t =>
  ∃ ws', Ψ E ws' ∧ va_P D vwCl ws' t.heap ∧ va_D A ws' ∧ va_F A st t
/-- A CONTRACT: at these arguments, in this world, the method returns v and the world ws' with Φ, or throws E in a world with Ψ -/
def mCt (tys : List (ClassId × FieldType)) (y : MethodName) (cc : ByteArray) (nL : Nat) (ret : Option FieldType) (rm : Room) (as : List Value) (ws : va_W) (Φ : Option Value → va_W → Prop) (Ψ : String → va_W → Prop) : Prop :=
  ∀ (l : Launch) (D : va_G) (A : Nat → Prop), l.stackTraces = false → vx_Met l y (Cond.code y cc nL ret :: mW) rm (va_Pc as (mU D tys A ws)) (mQ Φ D A) (mX Ψ D A) rm.cells rm.slots A
/-- the same for a method with handlers -/
def mCh (tys : List (ClassId × FieldType)) (y : MethodName) (cc : ByteArray) (nL : Nat) (ret : Option FieldType) (hh : List (Nat × Nat × Nat × Nat)) (rm : Room) (as : List Value) (ws : va_W) (Φ : Option Value → va_W → Prop) : Prop :=
  ∀ (l : Launch) (D : va_G) (A : Nat → Prop), l.stackTraces = false → vx_Met l y (Cond.codeWith y cc nL ret hh :: mW) rm (va_Pc as (mU D tys A ws)) (mQ Φ D A) (mX (fun _ _ => False) D A) rm.cells rm.slots A
abbrev mC : Type := Program × Launch × Env × Room × State × MethodId × Array Value × List Frame × Method × Code × (State → Prop) × va_G × List (ClassId × FieldType) × (Nat → Prop)
def lget : List (Nat × Option Value) → Nat → Option Value
  | [], _ => none
  | (j, v) :: r, i => bif Nat.beq j i then v else lget r i
/-- no long ends at this place -/
def lgp (lv : List (Nat × Option Value)) (i : Nat) : Bool := match i with
  | 0 => true
  | j + 1 => match lget lv j with
    | some w => Nat.beq w.category 1
    | none => true
def mL (ls : Array Slot) (nL : Nat) (lv : List (Nat × Option Value)) : Prop := ls.size = nL ∧ lv_wf ls ∧ ∀ i v, lget lv i = some v → ls[i]? = some (.val v)
theorem mL.st1 {ls : Array Slot} {nL : Nat} {lv : List (Nat × Option Value)} {i : Nat} {v : Value} (h : mL ls nL lv) (hi : i < nL) (hc : v.category = 1) (hp : lgp lv i = true) : ∃ ls', storeLocals ls i v = some ls' ∧ mL ls' nL ((i, some v) :: lv) := by
  obtain ⟨ls', e', h'⟩ := lv_store1 (l := []) (v := v) ⟨h.1, h.2.1, fun q hq => nomatch hq⟩ hi hc
  refine ⟨ls', e', h'.1, h'.2.1, fun j w hj => ?_⟩
  by_cases e : i = j
  · subst e
    have hw : some v = some w := by simpa [lget] using hj
    cases hw
    exact h'.2.2 (i, v) List.mem_cons_self
  · have hj' : lget lv j = some w := by
      have hb : Nat.beq i j = false := by
        cases hbe : Nat.beq i j
        · rfl
        · exact absurd (Nat.eq_of_beq_eq_true hbe) e
      simpa [lget, hb] using hj
    obtain ⟨ls'', e'', h''⟩ := lv_store1 (l := [(j, w)]) (v := v) ⟨h.1, h.2.1, fun q hq => by cases List.mem_singleton.mp hq; exact h.2.2 j w hj'⟩ hi hc
    cases e'.symm.trans e''
    refine h''.2.2 (j, w) (List.mem_cons_of_mem _ (List.mem_filter.mpr ⟨List.mem_singleton.mpr rfl, ?_⟩))
    have hcat : j + 1 = i → ¬ w.category = 2 := fun hji hw => by
      subst hji
      simp only [lgp, hj'] at hp
      have := Nat.eq_of_beq_eq_true hp
      omega
    have e2 : ¬ j = i := fun q => e q.symm
    by_cases hji : j + 1 = i
    · simp [e2, hcat hji]
    · simp [e2, hji]
theorem mL.st2 {ls : Array Slot} {nL : Nat} {lv : List (Nat × Option Value)} {i : Nat} {v : Value} (h : mL ls nL lv) (hi : i + 1 < nL) (hc : v.category = 2) (hp : lgp lv i = true) : ∃ ls', storeLocals ls i v = some ls' ∧ mL ls' nL ((i, some v) :: (i + 1, none) :: lv) := by
  obtain ⟨ls', e', h'⟩ := lv_store2 (l := []) (v := v) ⟨h.1, h.2.1, fun q hq => nomatch hq⟩ hi hc
  refine ⟨ls', e', h'.1, h'.2.1, fun j w hj => ?_⟩
  by_cases e : i = j
  · subst e
    have hw : some v = some w := by simpa [lget] using hj
    cases hw
    exact h'.2.2 (i, v) List.mem_cons_self
  · have hb : Nat.beq i j = false := by
      cases hbe : Nat.beq i j
      · rfl
      · exact absurd (Nat.eq_of_beq_eq_true hbe) e
    by_cases f : i + 1 = j
    · subst f
      simp [lget, hb] at hj
    · have hb2 : Nat.beq (i + 1) j = false := by
        cases hbe : Nat.beq (i + 1) j
        · rfl
        · exact absurd (Nat.eq_of_beq_eq_true hbe) f
      have hj' : lget lv j = some w := by simpa [lget, hb, hb2] using hj
      obtain ⟨ls'', e'', h''⟩ := lv_store2 (l := [(j, w)]) (v := v) ⟨h.1, h.2.1, fun q hq => by cases List.mem_singleton.mp hq; exact h.2.2 j w hj'⟩ hi hc
      cases e'.symm.trans e''
      refine h''.2.2 (j, w) (List.mem_cons_of_mem _ (List.mem_filter.mpr ⟨List.mem_singleton.mpr rfl, ?_⟩))
      have hcat : j + 1 = i → ¬ w.category = 2 := fun hji hw => by
        subst hji
        simp only [lgp, hj'] at hp
        have := Nat.eq_of_beq_eq_true hp
        omega
      have e2 : ¬ j = i := fun q => e q.symm
      have f2 : ¬ j = i + 1 := fun q => f q.symm
      by_cases hji : j + 1 = i
      · simp [e2, f2, hcat hji]
      · simp [e2, f2, hji]
/-- the locals that a loop's head names -/
theorem mL.sub {ls : Array Slot} {nL : Nat} {lv lv' : List (Nat × Option Value)} (h : mL ls nL lv) (hs : ∀ q ∈ lv', q.2 = none ∨ lget lv q.1 = q.2) : mL ls nL lv' := by
  refine ⟨h.1, h.2.1, fun i v hi => h.2.2 i v ?_⟩
  induction lv' with
  | nil => simp [lget] at hi
  | cons a r ih =>
    obtain ⟨j, w⟩ := a
    by_cases e : j = i
    · subst e
      have hb : Nat.beq j j = true := by simp
      have hw : w = some v := by simpa [lget, hb] using hi
      rcases hs (j, w) List.mem_cons_self with q | q
      · exact absurd (q : w = none) (by rw [hw]; exact fun z => nomatch z)
      · exact (q : lget lv j = w).trans hw
    · have hb : Nat.beq j i = false := by
        cases hbe : Nat.beq j i
        · rfl
        · exact absurd (Nat.eq_of_beq_eq_true hbe) e
      exact ih (fun q hq => hs q (List.mem_cons_of_mem _ hq)) (by simpa [lget, hb] using hi)
/-- THE WALK'S JUDGEMENT: at pc, locals lv, stack st, world ws, k cells and n slots made -/
def mV (X : mC) (pc : Nat) (lv : List (Nat × Option Value)) (st : List Value) (ws : va_W) (k n : Nat) : Prop := match X with
  | (p, l, e, R, s, m, args, below, meth, c, Q, D, _, A) => ∀ (H : Heap) (locs : List Loc) (ls : Array Slot), va_P D vwCl ws H → va_D A ws → va_S A s.heap H locs → mL ls c.maxLocals lv → W p l e R s m args below meth c H locs k n Q (F0 m pc ls st)
/-- .. with E thrown over it -/
def mT (X : mC) (pc : Nat) (lv : List (Nat × Option Value)) (st : List Value) (ws : va_W) (k n : Nat) (E : String) : Prop := match X with
  | (p, l, e, R, s, m, args, below, meth, c, Q, D, _, A) => ∀ (H : Heap) (locs : List Loc) (ls : Array Slot) (q : Addr) (ce : Cell), va_P D vwCl ws H → va_D A ws → va_S A s.heap H locs → mL ls c.maxLocals lv → H[q]? = some ce → ce.vm = .none → s.vm.findClass E = some ce.cls → vx_W p l e R s m args below meth c H locs k n Q (F0 m pc ls st) q
def mOK (X : mC) (own : String) (cc : ByteArray) (nL : Nat) (R : Room) (hh : List (Nat × Nat × Nat × Nat)) (tys : List (ClassId × FieldType)) : Prop := match X with
  | (p, l, _, R', s, m, args, _, meth, c, _, D, tys', A) => p.tables.exec = Jvm.exec ∧ c.code = cc ∧ c.maxLocals = nL ∧ R' = R ∧ s.vm.findClass own = some m.cls ∧ (∀ w ∈ mW, w.before args s = true) ∧ va_K D vwCl tys s ∧ tys' = tys ∧ meth.locks = false ∧ (∀ q : Nat, s.heap.size ≤ q → A q) ∧ mst A s ∧ l.stackTraces = false ∧ c.exceptionTable.toList = tableOf hh
/-- where the method may end -/
def mE (X : mC) (Φ : Option Value → va_W → Prop) (Ψ : String → va_W → Prop) (ret : Option FieldType) (mc ms : Nat) : Prop := match X with
  | (_, _, _, _, s, _, args, below, meth, _, Q, D, _, A) => meth.sig.returnType = ret ∧ Q = vx_MQ below (mQ Φ D A) (mX Ψ D A) args s mc ms A
def mlv (as : List Value) : List (Nat × Option Value) := (lv_args 0 as).map fun q => (q.1, some q.2)
theorem lget_mem {l : List (Nat × Value)} {i : Nat} {v : Value} (h : lget (l.map fun q => (q.1, some q.2)) i = some v) : (i, v) ∈ l := by
  induction l with
  | nil => simp [lget] at h
  | cons a r ih =>
    obtain ⟨j, w⟩ := a
    by_cases e : j = i
    · subst e
      have hw : some w = some v := by simpa [lget] using h
      cases hw
      exact List.mem_cons_self
    · have hb : Nat.beq j i = false := by
        cases hbe : Nat.beq j i
        · rfl
        · exact absurd (Nat.eq_of_beq_eq_true hbe) e
      exact List.mem_cons_of_mem _ (ih (by simpa [lget, hb] using h))
/-- a method's body, of any class whose method has no row in the table of natives -/
theorem vx_ofWF {l : Launch} {y : MethodName} {ws ws' : List Cond} {rm : Room} {Pc : Array Value → State → Prop} {Qc : Array Value → State → Outcome → State → Prop} {XC : String → State → State → Prop} {mc ms : Nat} {free : Addr → Prop} {cc : ByteArray} {maxL : Nat} {ret : Option FieldType}
    (hy : plainFor y = true) (hw : ws = Cond.code y cc maxL ret :: ws')
    (body : ∀ p e s m args below meth c s₁, BodyLoose p l y (headSpec ws rm) cc maxL ret e s m args below meth c s₁ → c.maxLocals = maxL → (∀ x ∈ c.exceptionTable.toList, False) → Pc args s →
      W p l e (headSpec ws rm).room s m args below meth c s.heap [] 0 0 (vx_MQ below Qc XC args s mc ms free) (entryFrame m args maxL)) : vx_Met l y ws rm Pc Qc XC mc ms free := by
  refine MetFree.of_bodySF (code := cc) (maxLocals := maxL) (ret := ret) hy ?_ ?_
  · intro args s m h hn
    obtain ⟨meth, c, h1, h2, h3, h4, h5, h6, -, -⟩ := Cond.code_spec hn (atoms_spec (ws := ws) h _ (by rw [hw]; exact List.mem_cons_self))
    exact ⟨meth, c, h1, h2, h3, h4, h5, h6⟩
  · intro p e s m args below meth c s₁ B hml hP _
    have hh0 : s₁.heap = s.heap := by rw [B.state]; rfl
    have ht : ∀ x ∈ c.exceptionTable.toList, False := by
      obtain ⟨meth9, c9, h1, h2, -, -, -, -, h7, -⟩ := Cond.code_spec B.named (atoms_spec (ws := ws) B.pre _ (by rw [hw]; exact List.mem_cons_self))
      cases Option.some.inj (h1.symm.trans B.method)
      cases Option.some.inj (h2.symm.trans (Stand.of_body B).code)
      intro x hx
      rw [Array.isEmpty_iff.mp h7] at hx
      cases hx
    obtain ⟨t, a1, o, b1, b2, b3⟩ := body p e s m args below meth c s₁ B hml ht hP s₁ hh0 (Stand.of_body B)
    exact ⟨t, o, a1, b1, b2, b3⟩
theorem mCt.of {tys : List (ClassId × FieldType)} {y : MethodName} {cc : ByteArray} {nL : Nat} {ret : Option FieldType} {rm : Room} {as : List Value} {ws : va_W} {Φ : Option Value → va_W → Prop} {Ψ : String → va_W → Prop} (hy : plainFor y = true) (hlen : (lg_sl as).length ≤ nL)
    (body : ∀ X, mOK X y.cls cc nL rm [] tys → mE X Φ Ψ ret rm.cells rm.slots → mV X 0 (mlv as) [] ws 0 0) : mCt tys y cc nL ret rm as ws Φ Ψ := by
  intro l D A hst
  refine vx_ofWF (cc := cc) (maxL := nL) (ret := ret) hy rfl ?_
  intro p e s m args below meth c s₁ B hml ht hv
  obtain ⟨rfl, hP, hD, hK, hA, hs⟩ := hv
  have hts := atoms_spec (ws := Cond.code y cc nL ret :: mW) B.pre
  have htab : c.exceptionTable.toList = tableOf [] := List.eq_nil_iff_forall_not_mem.mpr (fun x hx => ht x hx)
  have h0 := body (p, l, e, _, s, m, _, below, meth, c, _, D, tys, A) ⟨B.exec, B.bytes, hml, rfl, findClass_of_methodNamed B.named, fun w hw => hts w (List.mem_cons_of_mem _ hw), hK, rfl, B.notSynchronized, hA, hs, hst, htab⟩ ⟨B.returns, rfl⟩
  have hl := lv_entry as hlen
  rw [lg_entry_eq]
  exact h0 s.heap [] _ hP hD va_S.rf ⟨hl.1.trans hml.symm, hl.2.1, fun i v h => hl.2.2 (i, v) (lget_mem h)⟩
theorem mCh.of {tys : List (ClassId × FieldType)} {y : MethodName} {cc : ByteArray} {nL : Nat} {ret : Option FieldType} {hh : List (Nat × Nat × Nat × Nat)} {rm : Room} {as : List Value} {ws : va_W} {Φ : Option Value → va_W → Prop} (hy : plainName y.cls = true) (hlen : (lg_sl as).length ≤ nL)
    (body : ∀ X, mOK X y.cls cc nL rm hh tys → mE X Φ (fun _ _ => False) ret rm.cells rm.slots → mV X 0 (mlv as) [] ws 0 0) : mCh tys y cc nL ret hh rm as ws Φ := by
  intro l D A hst
  refine vx_ofWH (cc := cc) (maxL := nL) (ret := ret) (hh := hh) hy rfl ?_
  intro p e s m args below meth c s₁ B hml hv
  obtain ⟨rfl, hP, hD, hK, hA, hs⟩ := hv
  have hts := atoms_spec (ws := Cond.codeWith y cc nL ret hh :: mW) B.pre
  have htab : c.exceptionTable.toList = tableOf hh := vx_table (x := y) B (hts _ List.mem_cons_self)
  have h0 := body (p, l, e, _, s, m, _, below, meth, c, _, D, tys, A) ⟨B.exec, B.bytes, hml, rfl, findClass_of_methodNamed B.named, fun w hw => hts w (List.mem_cons_of_mem _ hw), hK, rfl, B.notSynchronized, hA, hs, hst, htab⟩ ⟨B.returns, rfl⟩
  have hl := lv_entry as hlen
  rw [lg_entry_eq]
  exact h0 s.heap [] _ hP hD va_S.rf ⟨hl.1.trans hml.symm, hl.2.1, fun i v h => hl.2.2 (i, v) (lget_mem h)⟩
/-- the method is a constructor -/
def mIni (X : mC) : Prop := match X with
  | (_, _, _, _, _, _, _, _, meth, _, _, _, _, _) => meth.name = "<init>"
section MR
variable {X : mC} {own : String} {cc : ByteArray} {nL : Nat} {R : Room} {hh : List (Nat × Nat × Nat × Nat)} {tys : List (ClassId × FieldType)} {pc : Nat} {lv : List (Nat × Option Value)} {st : List Value} {ws : va_W} {k n : Nat}
variable {Φ : Option Value → va_W → Prop} {Ψ : String → va_W → Prop} {mc ms : Nat} {ret : Option FieldType}

theorem r_iconst {z : Int} {v : Int32} (hX : mOK X own cc nL R hh tys) (hd : decode cc pc = .ok (.iconst z, 1)) (hv : Int32.ofInt z = v) (kk : mV X (pc + 1) lv (.int v :: st) ws k n) : mV X pc lv (st) ws k n := by
  obtain ⟨p, l, e, R', s, m, args, below, meth, c, Q, D, tys', A⟩ := X
  obtain ⟨hx, hb, hml, hR, hown, hts, hK, hty, hlk, hA, hst, hlt, htab⟩ := hX
  exact fun H locs ls hP hD hS hl => lv_iconst hx hb hd hv (kk H locs ls hP hD hS hl)

theorem r_bipush {z : Int} {v : Int32} (hX : mOK X own cc nL R hh tys) (hd : decode cc pc = .ok (.bipush z, 2)) (hv : (Int8.ofInt z).toInt32 = v) (kk : mV X (pc + 2) lv (.int v :: st) ws k n) : mV X pc lv (st) ws k n := by
  obtain ⟨p, l, e, R', s, m, args, below, meth, c, Q, D, tys', A⟩ := X
  obtain ⟨hx, hb, hml, hR, hown, hts, hK, hty, hlk, hA, hst, hlt, htab⟩ := hX
  exact fun H locs ls hP hD hS hl => lv_bipush hx hb hd hv (kk H locs ls hP hD hS hl)

theorem r_sipush {z : Int} {v : Int32} (hX : mOK X own cc nL R hh tys) (hd : decode cc pc = .ok (.sipush z, 3)) (hv : (Int16.ofInt z).toInt32 = v) (kk : mV X (pc + 3) lv (.int v :: st) ws k n) : mV X pc lv (st) ws k n := by
  obtain ⟨p, l, e, R', s, m, args, below, meth, c, Q, D, tys', A⟩ := X
  obtain ⟨hx, hb, hml, hR, hown, hts, hK, hty, hlk, hA, hst, hlt, htab⟩ := hX
  exact fun H locs ls hP hD hS hl => lv_sipush hx hb hd hv (kk H locs ls hP hD hS hl)

theorem r_lconst {z : Fin 2} {v : Int64} (hX : mOK X own cc nL R hh tys) (hd : decode cc pc = .ok (.lconst z, 1)) (hv : Int64.ofNat (z : Nat) = v) (kk : mV X (pc + 1) lv (.long v :: st) ws k n) : mV X pc lv (st) ws k n := by
  obtain ⟨p, l, e, R', s, m, args, below, meth, c, Q, D, tys', A⟩ := X
  obtain ⟨hx, hb, hml, hR, hown, hts, hK, hty, hlk, hA, hst, hlt, htab⟩ := hX
  exact fun H locs ls hP hD hS hl => lv_lconst hx hb hd hv (kk H locs ls hP hD hS hl)

theorem r_iload_n {j : Fin 4} {i : Nat} {x : Int32} (hX : mOK X own cc nL R hh tys) (hd : decode cc pc = .ok (.iload_n j, 1)) (hi : (j : Nat) = i) (hg : lget lv i = some (.int x)) (kk : mV X (pc + 1) lv (.int x :: st) ws k n) : mV X pc lv (st) ws k n := by
  obtain ⟨p, l, e, R', s, m, args, below, meth, c, Q, D, tys', A⟩ := X
  obtain ⟨hx, hb, hml, hR, hown, hts, hK, hty, hlk, hA, hst, hlt, htab⟩ := hX
  exact fun H locs ls hP hD hS hl => lv_iload_n hx hb hd hi (hl.2.2 i _ hg) (kk H locs ls hP hD hS hl)

theorem r_iload {i : Nat} {x : Int32} (hX : mOK X own cc nL R hh tys) (hd : decode cc pc = .ok (.iload i, 2)) (hg : lget lv i = some (.int x)) (kk : mV X (pc + 2) lv (.int x :: st) ws k n) : mV X pc lv (st) ws k n := by
  obtain ⟨p, l, e, R', s, m, args, below, meth, c, Q, D, tys', A⟩ := X
  obtain ⟨hx, hb, hml, hR, hown, hts, hK, hty, hlk, hA, hst, hlt, htab⟩ := hX
  exact fun H locs ls hP hD hS hl => lv_iload hx hb hd (hl.2.2 i _ hg) (kk H locs ls hP hD hS hl)

theorem r_lload_n {j : Fin 4} {i : Nat} {x : Int64} (hX : mOK X own cc nL R hh tys) (hd : decode cc pc = .ok (.lload_n j, 1)) (hi : (j : Nat) = i) (hg : lget lv i = some (.long x)) (kk : mV X (pc + 1) lv (.long x :: st) ws k n) : mV X pc lv (st) ws k n := by
  obtain ⟨p, l, e, R', s, m, args, below, meth, c, Q, D, tys', A⟩ := X
  obtain ⟨hx, hb, hml, hR, hown, hts, hK, hty, hlk, hA, hst, hlt, htab⟩ := hX
  exact fun H locs ls hP hD hS hl => lv_lload_n hx hb hd hi (hl.2.2 i _ hg) (kk H locs ls hP hD hS hl)

theorem r_lload {i : Nat} {x : Int64} (hX : mOK X own cc nL R hh tys) (hd : decode cc pc = .ok (.lload i, 2)) (hg : lget lv i = some (.long x)) (kk : mV X (pc + 2) lv (.long x :: st) ws k n) : mV X pc lv (st) ws k n := by
  obtain ⟨p, l, e, R', s, m, args, below, meth, c, Q, D, tys', A⟩ := X
  obtain ⟨hx, hb, hml, hR, hown, hts, hK, hty, hlk, hA, hst, hlt, htab⟩ := hX
  exact fun H locs ls hP hD hS hl => lv_lload hx hb hd (hl.2.2 i _ hg) (kk H locs ls hP hD hS hl)

theorem r_aload_n {j : Fin 4} {i : Nat} {x : Nat} (hX : mOK X own cc nL R hh tys) (hd : decode cc pc = .ok (.aload_n j, 1)) (hi : (j : Nat) = i) (hg : lget lv i = some (.ref x)) (kk : mV X (pc + 1) lv (.ref x :: st) ws k n) : mV X pc lv (st) ws k n := by
  obtain ⟨p, l, e, R', s, m, args, below, meth, c, Q, D, tys', A⟩ := X
  obtain ⟨hx, hb, hml, hR, hown, hts, hK, hty, hlk, hA, hst, hlt, htab⟩ := hX
  exact fun H locs ls hP hD hS hl => lv_aload_n hx hb hd hi (hl.2.2 i _ hg) (kk H locs ls hP hD hS hl)

theorem r_aload {i : Nat} {x : Nat} (hX : mOK X own cc nL R hh tys) (hd : decode cc pc = .ok (.aload i, 2)) (hg : lget lv i = some (.ref x)) (kk : mV X (pc + 2) lv (.ref x :: st) ws k n) : mV X pc lv (st) ws k n := by
  obtain ⟨p, l, e, R', s, m, args, below, meth, c, Q, D, tys', A⟩ := X
  obtain ⟨hx, hb, hml, hR, hown, hts, hK, hty, hlk, hA, hst, hlt, htab⟩ := hX
  exact fun H locs ls hP hD hS hl => lv_aload hx hb hd (hl.2.2 i _ hg) (kk H locs ls hP hD hS hl)

theorem r_iadd {x y : Int32} (hX : mOK X own cc nL R hh tys) (hd : decode cc pc = .ok (.iadd, 1))  (kk : mV X (pc + 1) lv (.int (x + y) :: st) ws k n) : mV X pc lv (.int y :: .int x :: st) ws k n := by
  obtain ⟨p, l, e, R', s, m, args, below, meth, c, Q, D, tys', A⟩ := X
  obtain ⟨hx, hb, hml, hR, hown, hts, hK, hty, hlk, hA, hst, hlt, htab⟩ := hX
  exact fun H locs ls hP hD hS hl => lv_iadd hx hb hd  (kk H locs ls hP hD hS hl)

theorem r_ladd {x y : Int64} (hX : mOK X own cc nL R hh tys) (hd : decode cc pc = .ok (.ladd, 1))  (kk : mV X (pc + 1) lv (.long (x + y) :: st) ws k n) : mV X pc lv (.long y :: .long x :: st) ws k n := by
  obtain ⟨p, l, e, R', s, m, args, below, meth, c, Q, D, tys', A⟩ := X
  obtain ⟨hx, hb, hml, hR, hown, hts, hK, hty, hlk, hA, hst, hlt, htab⟩ := hX
  exact fun H locs ls hP hD hS hl => lv_ladd hx hb hd  (kk H locs ls hP hD hS hl)

theorem r_isub {x y : Int32} (hX : mOK X own cc nL R hh tys) (hd : decode cc pc = .ok (.isub, 1))  (kk : mV X (pc + 1) lv (.int (x - y) :: st) ws k n) : mV X pc lv (.int y :: .int x :: st) ws k n := by
  obtain ⟨p, l, e, R', s, m, args, below, meth, c, Q, D, tys', A⟩ := X
  obtain ⟨hx, hb, hml, hR, hown, hts, hK, hty, hlk, hA, hst, hlt, htab⟩ := hX
  exact fun H locs ls hP hD hS hl => lv_isub hx hb hd  (kk H locs ls hP hD hS hl)

theorem r_lsub {x y : Int64} (hX : mOK X own cc nL R hh tys) (hd : decode cc pc = .ok (.lsub, 1))  (kk : mV X (pc + 1) lv (.long (x - y) :: st) ws k n) : mV X pc lv (.long y :: .long x :: st) ws k n := by
  obtain ⟨p, l, e, R', s, m, args, below, meth, c, Q, D, tys', A⟩ := X
  obtain ⟨hx, hb, hml, hR, hown, hts, hK, hty, hlk, hA, hst, hlt, htab⟩ := hX
  exact fun H locs ls hP hD hS hl => lv_lsub hx hb hd  (kk H locs ls hP hD hS hl)

theorem r_imul {x y : Int32} (hX : mOK X own cc nL R hh tys) (hd : decode cc pc = .ok (.imul, 1))  (kk : mV X (pc + 1) lv (.int (x * y) :: st) ws k n) : mV X pc lv (.int y :: .int x :: st) ws k n := by
  obtain ⟨p, l, e, R', s, m, args, below, meth, c, Q, D, tys', A⟩ := X
  obtain ⟨hx, hb, hml, hR, hown, hts, hK, hty, hlk, hA, hst, hlt, htab⟩ := hX
  exact fun H locs ls hP hD hS hl => lv_imul hx hb hd  (kk H locs ls hP hD hS hl)

theorem r_lmul {x y : Int64} (hX : mOK X own cc nL R hh tys) (hd : decode cc pc = .ok (.lmul, 1))  (kk : mV X (pc + 1) lv (.long (x * y) :: st) ws k n) : mV X pc lv (.long y :: .long x :: st) ws k n := by
  obtain ⟨p, l, e, R', s, m, args, below, meth, c, Q, D, tys', A⟩ := X
  obtain ⟨hx, hb, hml, hR, hown, hts, hK, hty, hlk, hA, hst, hlt, htab⟩ := hX
  exact fun H locs ls hP hD hS hl => lv_lmul hx hb hd  (kk H locs ls hP hD hS hl)

theorem r_idiv {x y : Int32} (hX : mOK X own cc nL R hh tys) (hd : decode cc pc = .ok (.idiv, 1)) (hne : ¬ y = 0) (kk : mV X (pc + 1) lv (.int (x / y) :: st) ws k n) : mV X pc lv (.int y :: .int x :: st) ws k n := by
  obtain ⟨p, l, e, R', s, m, args, below, meth, c, Q, D, tys', A⟩ := X
  obtain ⟨hx, hb, hml, hR, hown, hts, hK, hty, hlk, hA, hst, hlt, htab⟩ := hX
  exact fun H locs ls hP hD hS hl => lv_idiv hx hb hd hne (kk H locs ls hP hD hS hl)

theorem r_ldiv {x y : Int64} (hX : mOK X own cc nL R hh tys) (hd : decode cc pc = .ok (.ldiv, 1)) (hne : ¬ y = 0) (kk : mV X (pc + 1) lv (.long (x / y) :: st) ws k n) : mV X pc lv (.long y :: .long x :: st) ws k n := by
  obtain ⟨p, l, e, R', s, m, args, below, meth, c, Q, D, tys', A⟩ := X
  obtain ⟨hx, hb, hml, hR, hown, hts, hK, hty, hlk, hA, hst, hlt, htab⟩ := hX
  exact fun H locs ls hP hD hS hl => lv_ldiv hx hb hd hne (kk H locs ls hP hD hS hl)

theorem r_irem {x y : Int32} (hX : mOK X own cc nL R hh tys) (hd : decode cc pc = .ok (.irem, 1)) (hne : ¬ y = 0) (kk : mV X (pc + 1) lv (.int (x - x / y * y) :: st) ws k n) : mV X pc lv (.int y :: .int x :: st) ws k n := by
  obtain ⟨p, l, e, R', s, m, args, below, meth, c, Q, D, tys', A⟩ := X
  obtain ⟨hx, hb, hml, hR, hown, hts, hK, hty, hlk, hA, hst, hlt, htab⟩ := hX
  exact fun H locs ls hP hD hS hl => lv_irem hx hb hd hne (kk H locs ls hP hD hS hl)

theorem r_lrem {x y : Int64} (hX : mOK X own cc nL R hh tys) (hd : decode cc pc = .ok (.lrem, 1)) (hne : ¬ y = 0) (kk : mV X (pc + 1) lv (.long (x - x / y * y) :: st) ws k n) : mV X pc lv (.long y :: .long x :: st) ws k n := by
  obtain ⟨p, l, e, R', s, m, args, below, meth, c, Q, D, tys', A⟩ := X
  obtain ⟨hx, hb, hml, hR, hown, hts, hK, hty, hlk, hA, hst, hlt, htab⟩ := hX
  exact fun H locs ls hP hD hS hl => lv_lrem hx hb hd hne (kk H locs ls hP hD hS hl)

theorem r_iand {x y : Int32} (hX : mOK X own cc nL R hh tys) (hd : decode cc pc = .ok (.iand, 1))  (kk : mV X (pc + 1) lv (.int (x &&& y) :: st) ws k n) : mV X pc lv (.int y :: .int x :: st) ws k n := by
  obtain ⟨p, l, e, R', s, m, args, below, meth, c, Q, D, tys', A⟩ := X
  obtain ⟨hx, hb, hml, hR, hown, hts, hK, hty, hlk, hA, hst, hlt, htab⟩ := hX
  exact fun H locs ls hP hD hS hl => lv_iand hx hb hd  (kk H locs ls hP hD hS hl)

theorem r_ineg {x : Int32} (hX : mOK X own cc nL R hh tys) (hd : decode cc pc = .ok (.ineg, 1))  (kk : mV X (pc + 1) lv (.int (-x) :: st) ws k n) : mV X pc lv (.int x :: st) ws k n := by
  obtain ⟨p, l, e, R', s, m, args, below, meth, c, Q, D, tys', A⟩ := X
  obtain ⟨hx, hb, hml, hR, hown, hts, hK, hty, hlk, hA, hst, hlt, htab⟩ := hX
  exact fun H locs ls hP hD hS hl => lv_ineg hx hb hd  (kk H locs ls hP hD hS hl)

theorem r_lneg {x : Int64} (hX : mOK X own cc nL R hh tys) (hd : decode cc pc = .ok (.lneg, 1))  (kk : mV X (pc + 1) lv (.long (-x) :: st) ws k n) : mV X pc lv (.long x :: st) ws k n := by
  obtain ⟨p, l, e, R', s, m, args, below, meth, c, Q, D, tys', A⟩ := X
  obtain ⟨hx, hb, hml, hR, hown, hts, hK, hty, hlk, hA, hst, hlt, htab⟩ := hX
  exact fun H locs ls hP hD hS hl => lv_lneg hx hb hd  (kk H locs ls hP hD hS hl)

theorem r_i2l {x : Int32} (hX : mOK X own cc nL R hh tys) (hd : decode cc pc = .ok (.i2l, 1))  (kk : mV X (pc + 1) lv (.long x.toInt64 :: st) ws k n) : mV X pc lv (.int x :: st) ws k n := by
  obtain ⟨p, l, e, R', s, m, args, below, meth, c, Q, D, tys', A⟩ := X
  obtain ⟨hx, hb, hml, hR, hown, hts, hK, hty, hlk, hA, hst, hlt, htab⟩ := hX
  exact fun H locs ls hP hD hS hl => lv_i2l hx hb hd rfl (kk H locs ls hP hD hS hl)

theorem r_l2i {x : Int64} (hX : mOK X own cc nL R hh tys) (hd : decode cc pc = .ok (.l2i, 1))  (kk : mV X (pc + 1) lv (.int x.toInt32 :: st) ws k n) : mV X pc lv (.long x :: st) ws k n := by
  obtain ⟨p, l, e, R', s, m, args, below, meth, c, Q, D, tys', A⟩ := X
  obtain ⟨hx, hb, hml, hR, hown, hts, hK, hty, hlk, hA, hst, hlt, htab⟩ := hX
  exact fun H locs ls hP hD hS hl => lv_l2i hx hb hd rfl (kk H locs ls hP hD hS hl)

theorem r_lcmp {x y : Int64} (hX : mOK X own cc nL R hh tys) (hd : decode cc pc = .ok (.lcmp, 1))  (kk : mV X (pc + 1) lv (.int (lg_cmp x y) :: st) ws k n) : mV X pc lv (.long y :: .long x :: st) ws k n := by
  obtain ⟨p, l, e, R', s, m, args, below, meth, c, Q, D, tys', A⟩ := X
  obtain ⟨hx, hb, hml, hR, hown, hts, hK, hty, hlk, hA, hst, hlt, htab⟩ := hX
  exact fun H locs ls hP hD hS hl => W.lcmp hx hb hd  (kk H locs ls hP hD hS hl)

theorem r_dup {v : Value} (hX : mOK X own cc nL R hh tys) (hd : decode cc pc = .ok (.dup, 1)) (hc : v.category = 1) (kk : mV X (pc + 1) lv (v :: v :: st) ws k n) : mV X pc lv (v :: st) ws k n := by
  obtain ⟨p, l, e, R', s, m, args, below, meth, c, Q, D, tys', A⟩ := X
  obtain ⟨hx, hb, hml, hR, hown, hts, hK, hty, hlk, hA, hst, hlt, htab⟩ := hX
  exact fun H locs ls hP hD hS hl => lv_dup hx hb hd hc (kk H locs ls hP hD hS hl)

theorem r_pop {v : Value} (hX : mOK X own cc nL R hh tys) (hd : decode cc pc = .ok (.pop, 1)) (hc : v.category = 1) (kk : mV X (pc + 1) lv (st) ws k n) : mV X pc lv (v :: st) ws k n := by
  obtain ⟨p, l, e, R', s, m, args, below, meth, c, Q, D, tys', A⟩ := X
  obtain ⟨hx, hb, hml, hR, hown, hts, hK, hty, hlk, hA, hst, hlt, htab⟩ := hX
  exact fun H locs ls hP hD hS hl => lv_pop hx hb hd hc (kk H locs ls hP hD hS hl)

theorem r_pop2 {v : Value} (hX : mOK X own cc nL R hh tys) (hd : decode cc pc = .ok (.pop2, 1)) (hc : v.category = 2) (kk : mV X (pc + 1) lv (st) ws k n) : mV X pc lv (v :: st) ws k n := by
  obtain ⟨p, l, e, R', s, m, args, below, meth, c, Q, D, tys', A⟩ := X
  obtain ⟨hx, hb, hml, hR, hown, hts, hK, hty, hlk, hA, hst, hlt, htab⟩ := hX
  exact fun H locs ls hP hD hS hl => lv_pop2_2 hx hb hd hc (kk H locs ls hP hD hS hl)

theorem r_if_eq {x : Int32} {off : Int} {tgt : Nat} (hX : mOK X own cc nL R hh tys) (hd : decode cc pc = .ok (.ifCond .eq off, 3)) (ht : (pc : Int) + off = (tgt : Int)) (kt : x = 0 → mV X tgt lv st ws k n) (kf : ¬ (x = 0) → mV X (pc + 3) lv st ws k n) : mV X pc lv (.int x :: st) ws k n := by
  obtain ⟨p, l, e, R', s, m, args, below, meth, c, Q, D, tys', A⟩ := X
  obtain ⟨hx, hb, hml, hR, hown, hts, hK, hty, hlk, hA, hst, hlt, htab⟩ := hX
  exact fun H locs ls hP hD hS hl => lv_if_eq hx hb hd ht (fun q => kt (by simpa using q) H locs ls hP hD hS hl) (fun q => kf (by simpa using q) H locs ls hP hD hS hl)

theorem r_if_ne {x : Int32} {off : Int} {tgt : Nat} (hX : mOK X own cc nL R hh tys) (hd : decode cc pc = .ok (.ifCond .ne off, 3)) (ht : (pc : Int) + off = (tgt : Int)) (kt : ¬ x = 0 → mV X tgt lv st ws k n) (kf : ¬ (¬ x = 0) → mV X (pc + 3) lv st ws k n) : mV X pc lv (.int x :: st) ws k n := by
  obtain ⟨p, l, e, R', s, m, args, below, meth, c, Q, D, tys', A⟩ := X
  obtain ⟨hx, hb, hml, hR, hown, hts, hK, hty, hlk, hA, hst, hlt, htab⟩ := hX
  exact fun H locs ls hP hD hS hl => lv_if_ne hx hb hd ht (fun q => kt (by simpa using q) H locs ls hP hD hS hl) (fun q => kf (by simpa using q) H locs ls hP hD hS hl)

theorem r_if_lt {x : Int32} {off : Int} {tgt : Nat} (hX : mOK X own cc nL R hh tys) (hd : decode cc pc = .ok (.ifCond .lt off, 3)) (ht : (pc : Int) + off = (tgt : Int)) (kt : x < 0 → mV X tgt lv st ws k n) (kf : ¬ (x < 0) → mV X (pc + 3) lv st ws k n) : mV X pc lv (.int x :: st) ws k n := by
  obtain ⟨p, l, e, R', s, m, args, below, meth, c, Q, D, tys', A⟩ := X
  obtain ⟨hx, hb, hml, hR, hown, hts, hK, hty, hlk, hA, hst, hlt, htab⟩ := hX
  exact fun H locs ls hP hD hS hl => lv_if_lt hx hb hd ht (fun q => kt (by simpa using q) H locs ls hP hD hS hl) (fun q => kf (by simpa using q) H locs ls hP hD hS hl)

theorem r_if_ge {x : Int32} {off : Int} {tgt : Nat} (hX : mOK X own cc nL R hh tys) (hd : decode cc pc = .ok (.ifCond .ge off, 3)) (ht : (pc : Int) + off = (tgt : Int)) (kt : 0 ≤ x → mV X tgt lv st ws k n) (kf : ¬ (0 ≤ x) → mV X (pc + 3) lv st ws k n) : mV X pc lv (.int x :: st) ws k n := by
  obtain ⟨p, l, e, R', s, m, args, below, meth, c, Q, D, tys', A⟩ := X
  obtain ⟨hx, hb, hml, hR, hown, hts, hK, hty, hlk, hA, hst, hlt, htab⟩ := hX
  exact fun H locs ls hP hD hS hl => lv_if_ge hx hb hd ht (fun q => kt (by simpa using q) H locs ls hP hD hS hl) (fun q => kf (by simpa using q) H locs ls hP hD hS hl)

theorem r_if_gt {x : Int32} {off : Int} {tgt : Nat} (hX : mOK X own cc nL R hh tys) (hd : decode cc pc = .ok (.ifCond .gt off, 3)) (ht : (pc : Int) + off = (tgt : Int)) (kt : 0 < x → mV X tgt lv st ws k n) (kf : ¬ (0 < x) → mV X (pc + 3) lv st ws k n) : mV X pc lv (.int x :: st) ws k n := by
  obtain ⟨p, l, e, R', s, m, args, below, meth, c, Q, D, tys', A⟩ := X
  obtain ⟨hx, hb, hml, hR, hown, hts, hK, hty, hlk, hA, hst, hlt, htab⟩ := hX
  exact fun H locs ls hP hD hS hl => lv_if_gt hx hb hd ht (fun q => kt (by simpa using q) H locs ls hP hD hS hl) (fun q => kf (by simpa using q) H locs ls hP hD hS hl)

theorem r_if_le {x : Int32} {off : Int} {tgt : Nat} (hX : mOK X own cc nL R hh tys) (hd : decode cc pc = .ok (.ifCond .le off, 3)) (ht : (pc : Int) + off = (tgt : Int)) (kt : x ≤ 0 → mV X tgt lv st ws k n) (kf : ¬ (x ≤ 0) → mV X (pc + 3) lv st ws k n) : mV X pc lv (.int x :: st) ws k n := by
  obtain ⟨p, l, e, R', s, m, args, below, meth, c, Q, D, tys', A⟩ := X
  obtain ⟨hx, hb, hml, hR, hown, hts, hK, hty, hlk, hA, hst, hlt, htab⟩ := hX
  exact fun H locs ls hP hD hS hl => lv_if_le hx hb hd ht (fun q => kt (by simpa using q) H locs ls hP hD hS hl) (fun q => kf (by simpa using q) H locs ls hP hD hS hl)

theorem r_icmp_eq {x y : Int32} {off : Int} {tgt : Nat} (hX : mOK X own cc nL R hh tys) (hd : decode cc pc = .ok (.if_icmp .eq off, 3)) (ht : (pc : Int) + off = (tgt : Int)) (kt : x = y → mV X tgt lv st ws k n) (kf : ¬ (x = y) → mV X (pc + 3) lv st ws k n) : mV X pc lv (.int y :: .int x :: st) ws k n := by
  obtain ⟨p, l, e, R', s, m, args, below, meth, c, Q, D, tys', A⟩ := X
  obtain ⟨hx, hb, hml, hR, hown, hts, hK, hty, hlk, hA, hst, hlt, htab⟩ := hX
  exact fun H locs ls hP hD hS hl => lv_icmp_eq hx hb hd ht (fun q => kt (by simpa using q) H locs ls hP hD hS hl) (fun q => kf (by simpa using q) H locs ls hP hD hS hl)

theorem r_icmp_ne {x y : Int32} {off : Int} {tgt : Nat} (hX : mOK X own cc nL R hh tys) (hd : decode cc pc = .ok (.if_icmp .ne off, 3)) (ht : (pc : Int) + off = (tgt : Int)) (kt : ¬ x = y → mV X tgt lv st ws k n) (kf : ¬ (¬ x = y) → mV X (pc + 3) lv st ws k n) : mV X pc lv (.int y :: .int x :: st) ws k n := by
  obtain ⟨p, l, e, R', s, m, args, below, meth, c, Q, D, tys', A⟩ := X
  obtain ⟨hx, hb, hml, hR, hown, hts, hK, hty, hlk, hA, hst, hlt, htab⟩ := hX
  exact fun H locs ls hP hD hS hl => lv_icmp_ne hx hb hd ht (fun q => kt (by simpa using q) H locs ls hP hD hS hl) (fun q => kf (by simpa using q) H locs ls hP hD hS hl)

theorem r_icmp_lt {x y : Int32} {off : Int} {tgt : Nat} (hX : mOK X own cc nL R hh tys) (hd : decode cc pc = .ok (.if_icmp .lt off, 3)) (ht : (pc : Int) + off = (tgt : Int)) (kt : x < y → mV X tgt lv st ws k n) (kf : ¬ (x < y) → mV X (pc + 3) lv st ws k n) : mV X pc lv (.int y :: .int x :: st) ws k n := by
  obtain ⟨p, l, e, R', s, m, args, below, meth, c, Q, D, tys', A⟩ := X
  obtain ⟨hx, hb, hml, hR, hown, hts, hK, hty, hlk, hA, hst, hlt, htab⟩ := hX
  exact fun H locs ls hP hD hS hl => lv_icmp_lt hx hb hd ht (fun q => kt (by simpa using q) H locs ls hP hD hS hl) (fun q => kf (by simpa using q) H locs ls hP hD hS hl)

theorem r_icmp_ge {x y : Int32} {off : Int} {tgt : Nat} (hX : mOK X own cc nL R hh tys) (hd : decode cc pc = .ok (.if_icmp .ge off, 3)) (ht : (pc : Int) + off = (tgt : Int)) (kt : y ≤ x → mV X tgt lv st ws k n) (kf : ¬ (y ≤ x) → mV X (pc + 3) lv st ws k n) : mV X pc lv (.int y :: .int x :: st) ws k n := by
  obtain ⟨p, l, e, R', s, m, args, below, meth, c, Q, D, tys', A⟩ := X
  obtain ⟨hx, hb, hml, hR, hown, hts, hK, hty, hlk, hA, hst, hlt, htab⟩ := hX
  exact fun H locs ls hP hD hS hl => lv_icmp_ge hx hb hd ht (fun q => kt (by simpa using q) H locs ls hP hD hS hl) (fun q => kf (by simpa using q) H locs ls hP hD hS hl)

theorem r_icmp_gt {x y : Int32} {off : Int} {tgt : Nat} (hX : mOK X own cc nL R hh tys) (hd : decode cc pc = .ok (.if_icmp .gt off, 3)) (ht : (pc : Int) + off = (tgt : Int)) (kt : y < x → mV X tgt lv st ws k n) (kf : ¬ (y < x) → mV X (pc + 3) lv st ws k n) : mV X pc lv (.int y :: .int x :: st) ws k n := by
  obtain ⟨p, l, e, R', s, m, args, below, meth, c, Q, D, tys', A⟩ := X
  obtain ⟨hx, hb, hml, hR, hown, hts, hK, hty, hlk, hA, hst, hlt, htab⟩ := hX
  exact fun H locs ls hP hD hS hl => lv_icmp_gt hx hb hd ht (fun q => kt (by simpa using q) H locs ls hP hD hS hl) (fun q => kf (by simpa using q) H locs ls hP hD hS hl)

theorem r_goto {off : Int} {tgt : Nat} (hX : mOK X own cc nL R hh tys) (hd : decode cc pc = .ok (.goto off, 3)) (ht : (pc : Int) + off = (tgt : Int)) (kk : mV X tgt lv st ws k n) : mV X pc lv st ws k n := by
  obtain ⟨p, l, e, R', s, m, args, below, meth, c, Q, D, tys', A⟩ := X
  obtain ⟨hx, hb, hml, hR, hown, hts, hK, hty, hlk, hA, hst, hlt, htab⟩ := hX
  exact fun H locs ls hP hD hS hl => lv_goto hx hb hd ht (kk H locs ls hP hD hS hl)

theorem r_tableIn {x : Int32} {dflt lo hi off : Int} {offs : Array Int} {len tgt : Nat} (hX : mOK X own cc nL R hh tys) (hd : decode cc pc = .ok (.tableswitch dflt lo hi offs, len)) (h1 : ¬ x.toInt < lo) (h2 : ¬ hi < x.toInt) (ho : offs[(x.toInt - lo).toNat]? = some off) (ht : (pc : Int) + off = (tgt : Int)) (kk : mV X tgt lv st ws k n) : mV X pc lv (.int x :: st) ws k n := by
  obtain ⟨p, l, e, R', s, m, args, below, meth, c, Q, D, tys', A⟩ := X
  obtain ⟨hx, hb, hml, hR, hown, hts, hK, hty, hlk, hA, hst, hlt, htab⟩ := hX
  exact fun H locs ls hP hD hS hl => lv_tableIn hx hb hd h1 h2 ho ht (kk H locs ls hP hD hS hl)

theorem r_tableOut {x : Int32} {dflt lo hi : Int} {offs : Array Int} {len tgt : Nat} (hX : mOK X own cc nL R hh tys) (hd : decode cc pc = .ok (.tableswitch dflt lo hi offs, len)) (h : x.toInt < lo ∨ hi < x.toInt) (ht : (pc : Int) + dflt = (tgt : Int)) (kk : mV X tgt lv st ws k n) : mV X pc lv (.int x :: st) ws k n := by
  obtain ⟨p, l, e, R', s, m, args, below, meth, c, Q, D, tys', A⟩ := X
  obtain ⟨hx, hb, hml, hR, hown, hts, hK, hty, hlk, hA, hst, hlt, htab⟩ := hX
  exact fun H locs ls hP hD hS hl => lv_tableOut hx hb hd h ht (kk H locs ls hP hD hS hl)

theorem r_ldc {v : Int32} {idx : Nat} (hX : mOK X own cc nL R hh tys) (hc : Cond.constant own idx v ∈ mW) (hd : decode cc pc = .ok (.ldc idx, 2)) (kk : mV X (pc + 2) lv (.int v :: st) ws k n) : mV X pc lv st ws k n := by
  obtain ⟨p, l, e, R', s, m, args, below, meth, c, Q, D, tys', A⟩ := X
  obtain ⟨hx, hb, hml, hR, hown, hts, hK, hty, hlk, hA, hst, hlt, htab⟩ := hX
  exact fun H locs ls hP hD hS hl => lv_ldc hx hb hown (hts _ hc) hd (kk H locs ls hP hD hS hl)

theorem r_ldc2 {v : Int64} {idx : Nat} (hX : mOK X own cc nL R hh tys) (hc : Cond.constantLong own idx v ∈ mW) (hd : decode cc pc = .ok (.ldc2_w idx, 3)) (kk : mV X (pc + 3) lv (.long v :: st) ws k n) : mV X pc lv st ws k n := by
  obtain ⟨p, l, e, R', s, m, args, below, meth, c, Q, D, tys', A⟩ := X
  obtain ⟨hx, hb, hml, hR, hown, hts, hK, hty, hlk, hA, hst, hlt, htab⟩ := hX
  exact fun H locs ls hP hD hS hl => lv_ldc2 hx hb hown (hts _ hc) hd (kk H locs ls hP hD hS hl)

theorem r_istore_n {j : Fin 4} {i : Nat} {x : Int32} (hX : mOK X own cc nL R hh tys) (hd : decode cc pc = .ok (.istore_n j, 1)) (hi : (j : Nat) = i) (hn : i < nL) (hp : lgp lv i = true) (kk : mV X (pc + 1) ((i, some (.int x)) :: lv) st ws k n) : mV X pc lv (.int x :: st) ws k n := by
  obtain ⟨p, l, e, R', s, m, args, below, meth, c, Q, D, tys', A⟩ := X
  obtain ⟨hx, hb, hml, hR, hown, hts, hK, hty, hlk, hA, hst, hlt, htab⟩ := hX
  subst hi
  intro H locs ls hP hD hS hl
  obtain ⟨ls', e', h'⟩ := hl.st1 (v := .int x) (by rw [hml]; exact hn) rfl hp
  intro T hT Y
  obtain ⟨t, a, b⟩ := kk H locs ls' hP hD hS h' T hT Y
  refine ⟨t, ?_, b⟩
  jvm_step Y.here [Y.here.top, ↓top_set Y.here.top, hx, hb, hd, e']
  exact a

theorem r_istore {i : Nat} {x : Int32} (hX : mOK X own cc nL R hh tys) (hd : decode cc pc = .ok (.istore i, 2))  (hn : i < nL) (hp : lgp lv i = true) (kk : mV X (pc + 2) ((i, some (.int x)) :: lv) st ws k n) : mV X pc lv (.int x :: st) ws k n := by
  obtain ⟨p, l, e, R', s, m, args, below, meth, c, Q, D, tys', A⟩ := X
  obtain ⟨hx, hb, hml, hR, hown, hts, hK, hty, hlk, hA, hst, hlt, htab⟩ := hX
  intro H locs ls hP hD hS hl
  obtain ⟨ls', e', h'⟩ := hl.st1 (v := .int x) (by rw [hml]; exact hn) rfl hp
  intro T hT Y
  obtain ⟨t, a, b⟩ := kk H locs ls' hP hD hS h' T hT Y
  refine ⟨t, ?_, b⟩
  jvm_step Y.here [Y.here.top, ↓top_set Y.here.top, hx, hb, hd, e']
  exact a

theorem r_astore_n {j : Fin 4} {i : Nat} {x : Nat} (hX : mOK X own cc nL R hh tys) (hd : decode cc pc = .ok (.astore_n j, 1)) (hi : (j : Nat) = i) (hn : i < nL) (hp : lgp lv i = true) (kk : mV X (pc + 1) ((i, some (.ref x)) :: lv) st ws k n) : mV X pc lv (.ref x :: st) ws k n := by
  obtain ⟨p, l, e, R', s, m, args, below, meth, c, Q, D, tys', A⟩ := X
  obtain ⟨hx, hb, hml, hR, hown, hts, hK, hty, hlk, hA, hst, hlt, htab⟩ := hX
  subst hi
  intro H locs ls hP hD hS hl
  obtain ⟨ls', e', h'⟩ := hl.st1 (v := .ref x) (by rw [hml]; exact hn) rfl hp
  intro T hT Y
  obtain ⟨t, a, b⟩ := kk H locs ls' hP hD hS h' T hT Y
  refine ⟨t, ?_, b⟩
  jvm_step Y.here [Y.here.top, ↓top_set Y.here.top, hx, hb, hd, e', Value.isRef]
  exact a

theorem r_astore {i : Nat} {x : Nat} (hX : mOK X own cc nL R hh tys) (hd : decode cc pc = .ok (.astore i, 2))  (hn : i < nL) (hp : lgp lv i = true) (kk : mV X (pc + 2) ((i, some (.ref x)) :: lv) st ws k n) : mV X pc lv (.ref x :: st) ws k n := by
  obtain ⟨p, l, e, R', s, m, args, below, meth, c, Q, D, tys', A⟩ := X
  obtain ⟨hx, hb, hml, hR, hown, hts, hK, hty, hlk, hA, hst, hlt, htab⟩ := hX
  intro H locs ls hP hD hS hl
  obtain ⟨ls', e', h'⟩ := hl.st1 (v := .ref x) (by rw [hml]; exact hn) rfl hp
  intro T hT Y
  obtain ⟨t, a, b⟩ := kk H locs ls' hP hD hS h' T hT Y
  refine ⟨t, ?_, b⟩
  jvm_step Y.here [Y.here.top, ↓top_set Y.here.top, hx, hb, hd, e', Value.isRef]
  exact a

theorem r_lstore_n {j : Fin 4} {i : Nat} {x : Int64} (hX : mOK X own cc nL R hh tys) (hd : decode cc pc = .ok (.lstore_n j, 1)) (hi : (j : Nat) = i) (hn : i + 1 < nL) (hp : lgp lv i = true) (kk : mV X (pc + 1) ((i, some (.long x)) :: (i + 1, none) :: lv) st ws k n) : mV X pc lv (.long x :: st) ws k n := by
  obtain ⟨p, l, e, R', s, m, args, below, meth, c, Q, D, tys', A⟩ := X
  obtain ⟨hx, hb, hml, hR, hown, hts, hK, hty, hlk, hA, hst, hlt, htab⟩ := hX
  subst hi
  intro H locs ls hP hD hS hl
  obtain ⟨ls', e', h'⟩ := hl.st2 (v := .long x) (by rw [hml]; exact hn) rfl hp
  intro T hT Y
  obtain ⟨t, a, b⟩ := kk H locs ls' hP hD hS h' T hT Y
  refine ⟨t, ?_, b⟩
  jvm_step Y.here [Y.here.top, ↓top_set Y.here.top, hx, hb, hd, e']
  exact a

theorem r_lstore {i : Nat} {x : Int64} (hX : mOK X own cc nL R hh tys) (hd : decode cc pc = .ok (.lstore i, 2))  (hn : i + 1 < nL) (hp : lgp lv i = true) (kk : mV X (pc + 2) ((i, some (.long x)) :: (i + 1, none) :: lv) st ws k n) : mV X pc lv (.long x :: st) ws k n := by
  obtain ⟨p, l, e, R', s, m, args, below, meth, c, Q, D, tys', A⟩ := X
  obtain ⟨hx, hb, hml, hR, hown, hts, hK, hty, hlk, hA, hst, hlt, htab⟩ := hX
  intro H locs ls hP hD hS hl
  obtain ⟨ls', e', h'⟩ := hl.st2 (v := .long x) (by rw [hml]; exact hn) rfl hp
  intro T hT Y
  obtain ⟨t, a, b⟩ := kk H locs ls' hP hD hS h' T hT Y
  refine ⟨t, ?_, b⟩
  jvm_step Y.here [Y.here.top, ↓top_set Y.here.top, hx, hb, hd, e']
  exact a

theorem r_iinc {i : Nat} {z : Int} {x : Int32} (hX : mOK X own cc nL R hh tys) (hd : decode cc pc = .ok (.iinc i z, 3)) (hg : lget lv i = some (.int x)) (hn : i < nL) (hp : lgp lv i = true) (kk : mV X (pc + 3) ((i, some (.int (x + Int32.ofInt z))) :: lv) st ws k n) : mV X pc lv st ws k n := by
  obtain ⟨p, l, e, R', s, m, args, below, meth, c, Q, D, tys', A⟩ := X
  obtain ⟨hx, hb, hml, hR, hown, hts, hK, hty, hlk, hA, hst, hlt, htab⟩ := hX
  intro H locs ls hP hD hS hl
  obtain ⟨ls', e', h'⟩ := hl.st1 (v := .int (x + Int32.ofInt z)) (by rw [hml]; exact hn) rfl hp
  have hgg := hl.2.2 i _ hg
  intro T hT Y
  obtain ⟨t, a, b⟩ := kk H locs ls' hP hD hS h' T hT Y
  refine ⟨t, ?_, b⟩
  jvm_step Y.here [Y.here.top, ↓top_set Y.here.top, hx, hb, hd, hgg, e']
  exact a

/-- a field as an instruction of own names it -/
def mFd (own : String) (idx ci kf : Nat) (C : String) (T : u_T) (N : Nat) (ty : FieldType) : Prop :=
  (∀ w ∈ u_ws C T N, w ∈ mW) ∧ (∃ ty0 : Nat → FieldType, ∀ k, k < N → parseFieldDescriptor (T k).2.2.1 = some (ty0 k)) ∧ (∀ a, a < N → ∀ b, b < N → a ≠ b → (T a).2.1 ≠ (T b).2.1) ∧ vwCl[ci]? = some (C, T, N) ∧ kf < N ∧ Cond.fieldLink own idx (T kf).1 (T kf).2.1 (T kf).2.2.1 ∈ mW ∧ parseFieldDescriptor (T kf).2.2.1 = some ty
def mFn (own host : String) (idx ci kf : Nat) (C : String) (T : u_T) (N : Nat) (ty : FieldType) : Prop :=
  (∀ w ∈ u_ws C T N, w ∈ mW) ∧ (∃ ty0 : Nat → FieldType, ∀ k, k < N → parseFieldDescriptor (T k).2.2.1 = some (ty0 k)) ∧ (∀ a, a < N → ∀ b, b < N → a ≠ b → (T a).2.1 ≠ (T b).2.1) ∧ vwCl[ci]? = some (C, T, N) ∧ kf < N ∧ Cond.fieldLinkNest own idx (T kf).1 (T kf).2.1 (T kf).2.2.1 host ∈ mW ∧ parseFieldDescriptor (T kf).2.2.1 = some ty

theorem r_get  {idx ci kf N a : Nat} {C : String} {T : u_T} {ty : FieldType} {fs : List Value} {v : Value} (hX : mOK X own cc nL R hh tys) (hf : mFd own idx ci kf C T N ty) (q0 : Nat) (he : ws[q0]? = some (a, .inr (ci, fs))) (hv : fs[kf]? = some v) (hd : decode cc pc = .ok (.getfield idx, 3)) (kk : mV X (pc + 3) lv (v :: st) ws k n) : mV X pc lv (.ref a :: st) ws k n := by
  obtain ⟨p, l, e, R', s, m, args, below, meth, c, Q, D, tys', A⟩ := X
  obtain ⟨hx, hb, hml, hR, hown, hts, hK, hty, hlk, hA, hst, hlt, htab⟩ := hX
  obtain ⟨h1, -, -, h4, h5, h6, -⟩ := hf
  exact fun H locs ls hP hD hS hl => va_get (D := D) (ci := ci) (v := v) (C := C) (T := T) (N := N) hx hb hts h1 hown hK hP q0 he h4 kf h5 (hts _ h6) (fun _ h9 => h9) hv hd (kk H locs ls hP hD hS hl)

theorem r_put  {idx ci kf N a : Nat} {C : String} {T : u_T} {ty : FieldType} {fs : List Value} {v : Value} (hX : mOK X own cc nL R hh tys) (hf : mFd own idx ci kf C T N ty) (q0 : Nat) (he : ws[q0]? = some (a, .inr (ci, fs))) (hfin : (T kf).2.2.2 = false) (hn : narrow ty v = v) (hfit : fits ty v = true) (hl0 : kf < fs.length) (hd : decode cc pc = .ok (.putfield idx, 3)) (kk : mV X (pc + 3) lv st (ws.set q0 (a, .inr (ci, fs.set kf v))) k n) : mV X pc lv (v :: .ref a :: st) ws k n := by
  obtain ⟨p, l, e, R', s, m, args, below, meth, c, Q, D, tys', A⟩ := X
  obtain ⟨hx, hb, hml, hR, hown, hts, hK, hty, hlk, hA, hst, hlt, htab⟩ := hX
  obtain ⟨h1, ⟨ty0, h2⟩, h3, h4, h5, h6, h7⟩ := hf
  exact fun H locs ls hP hD hS hl => va_put (D := D) (ci := ci) (v := v) (ty := ty) (C := C) (T := T) (N := N) hx hb hts h1 ty0 h2 h3 hown hK hP hD hS q0 he h4 kf h5 (hts _ h6) (fun _ h9 => h9) hfin h7 hn hfit hl0 hd (fun H1 locs1 hP1 hD1 hS1 => kk H1 locs1 ls hP1 hD1 hS1 hl)

theorem r_getN {host : String} {idx ci kf N a : Nat} {C : String} {T : u_T} {ty : FieldType} {fs : List Value} {v : Value} (hX : mOK X own cc nL R hh tys) (hf : mFn own host idx ci kf C T N ty) (q0 : Nat) (he : ws[q0]? = some (a, .inr (ci, fs))) (hv : fs[kf]? = some v) (hd : decode cc pc = .ok (.getfield idx, 3)) (kk : mV X (pc + 3) lv (v :: st) ws k n) : mV X pc lv (.ref a :: st) ws k n := by
  obtain ⟨p, l, e, R', s, m, args, below, meth, c, Q, D, tys', A⟩ := X
  obtain ⟨hx, hb, hml, hR, hown, hts, hK, hty, hlk, hA, hst, hlt, htab⟩ := hX
  obtain ⟨h1, -, -, h4, h5, h6, -⟩ := hf
  exact fun H locs ls hP hD hS hl => va_getN (D := D) (ci := ci) (v := v) (C := C) (T := T) (N := N) hx hb hts h1 hown hK hP q0 he h4 kf h5 (hts _ h6) (fun _ h9 => h9) hv hd (kk H locs ls hP hD hS hl)

theorem r_putN {host : String} {idx ci kf N a : Nat} {C : String} {T : u_T} {ty : FieldType} {fs : List Value} {v : Value} (hX : mOK X own cc nL R hh tys) (hf : mFn own host idx ci kf C T N ty) (q0 : Nat) (he : ws[q0]? = some (a, .inr (ci, fs))) (hfin : (T kf).2.2.2 = false) (hn : narrow ty v = v) (hfit : fits ty v = true) (hl0 : kf < fs.length) (hd : decode cc pc = .ok (.putfield idx, 3)) (kk : mV X (pc + 3) lv st (ws.set q0 (a, .inr (ci, fs.set kf v))) k n) : mV X pc lv (v :: .ref a :: st) ws k n := by
  obtain ⟨p, l, e, R', s, m, args, below, meth, c, Q, D, tys', A⟩ := X
  obtain ⟨hx, hb, hml, hR, hown, hts, hK, hty, hlk, hA, hst, hlt, htab⟩ := hX
  obtain ⟨h1, ⟨ty0, h2⟩, h3, h4, h5, h6, h7⟩ := hf
  exact fun H locs ls hP hD hS hl => va_putN (D := D) (ci := ci) (v := v) (ty := ty) (C := C) (T := T) (N := N) hx hb hts h1 ty0 h2 h3 hown hK hP hD hS q0 he h4 kf h5 (hts _ h6) (fun _ h9 => h9) hfin h7 hn hfit hl0 hd (fun H1 locs1 hP1 hD1 hS1 => kk H1 locs1 ls hP1 hD1 hS1 hl)

theorem r_putF {idx ci kf N a : Nat} {C : String} {T : u_T} {ty : FieldType} {fs : List Value} {v : Value} {y : MethodName} (hX : mOK X own cc nL R hh tys) (hi : mIni X) (hf : mFd own idx ci kf C T N ty) (q0 : Nat) (he : ws[q0]? = some (a, .inr (ci, fs))) (hfin : (T kf).2.2.2 = true) (hdecl : (T kf).1 = own) (hn : narrow ty v = v) (hfit : fits ty v = true) (hl0 : kf < fs.length) (hd : decode cc pc = .ok (.putfield idx, 3)) (kk : mV X (pc + 3) lv st (ws.set q0 (a, .inr (ci, fs.set kf v))) k n) : mV X pc lv (v :: .ref a :: st) ws k n := by
  obtain ⟨p, l, e, R', s, m, args, below, meth, c, Q, D, tys', A⟩ := X
  obtain ⟨hx, hb, hml, hR, hown, hts, hK, hty, hlk, hA, hst, hlt, htab⟩ := hX
  obtain ⟨h1, ⟨ty0, h2⟩, h3, h4, h5, h6, h7⟩ := hf
  exact fun H locs ls hP hD hS hl => va_putF (D := D) (ci := ci) (v := v) (ty := ty) (C := C) (T := T) (N := N) hx hb hts h1 ty0 h2 h3 hown hK hP hD hS q0 he h4 kf h5 (hts _ h6) (fun _ h9 => h9) hfin hi hdecl h7 hn hfit hl0 hd (fun H1 locs1 hP1 hD1 hS1 => kk H1 locs1 ls hP1 hD1 hS1 hl)

theorem r_iald {a n0 : Nat} {cA : ClassId} {f : Nat → Int32} {i : Int32} (hX : mOK X own cc nL R hh tys) (q0 t0 : Nat) (he : ws[q0]? = some (a, .inl (cA, n0, .inl f))) (ht : tys[t0]? = some (cA, .int)) (hin : vp_in i n0) (hd : decode cc pc = .ok (.iaload, 1)) (kk : mV X (pc + 1) lv (.int (f i.toNatClampNeg) :: st) ws k n) : mV X pc lv (.int i :: .ref a :: st) ws k n := by
  obtain ⟨p, l, e, R', s, m, args, below, meth, c, Q, D, tys', A⟩ := X
  obtain ⟨hx, hb, hml, hR, hown, hts, hK, hty, hlk, hA, hst, hlt, htab⟩ := hX
  exact fun H locs ls hP hD hS hl => va_iald hx hb hK hP q0 t0 he ht hin hd (kk H locs ls hP hD hS hl)

theorem r_iast {a n0 : Nat} {cA : ClassId} {f : Nat → Int32} {i : Int32} {x : Int32} (hX : mOK X own cc nL R hh tys) (q0 t0 : Nat) (he : ws[q0]? = some (a, .inl (cA, n0, .inl f))) (ht : tys[t0]? = some (cA, .int)) (hin : vp_in i n0) (hd : decode cc pc = .ok (.iastore, 1)) (kk : mV X (pc + 1) lv st (ws.set q0 (a, .inl (cA, n0, .inl (upd f i.toNatClampNeg x)))) k n) : mV X pc lv (.int x :: .int i :: .ref a :: st) ws k n := by
  obtain ⟨p, l, e, R', s, m, args, below, meth, c, Q, D, tys', A⟩ := X
  obtain ⟨hx, hb, hml, hR, hown, hts, hK, hty, hlk, hA, hst, hlt, htab⟩ := hX
  exact fun H locs ls hP hD hS hl => va_iast hx hb hK hP hD hS q0 t0 he ht hin hd (fun H1 locs1 hP1 hD1 hS1 => kk H1 locs1 ls hP1 hD1 hS1 hl)

theorem r_lald {a n0 : Nat} {cA : ClassId} {f : Nat → Int64} {i : Int32} (hX : mOK X own cc nL R hh tys) (q0 t0 : Nat) (he : ws[q0]? = some (a, .inl (cA, n0, .inr (.inl f)))) (ht : tys[t0]? = some (cA, .long)) (hin : vp_in i n0) (hd : decode cc pc = .ok (.laload, 1)) (kk : mV X (pc + 1) lv (.long (f i.toNatClampNeg) :: st) ws k n) : mV X pc lv (.int i :: .ref a :: st) ws k n := by
  obtain ⟨p, l, e, R', s, m, args, below, meth, c, Q, D, tys', A⟩ := X
  obtain ⟨hx, hb, hml, hR, hown, hts, hK, hty, hlk, hA, hst, hlt, htab⟩ := hX
  exact fun H locs ls hP hD hS hl => va_lald hx hb hK hP q0 t0 he ht hin hd (kk H locs ls hP hD hS hl)

theorem r_last {a n0 : Nat} {cA : ClassId} {f : Nat → Int64} {i : Int32} {x : Int64} (hX : mOK X own cc nL R hh tys) (q0 t0 : Nat) (he : ws[q0]? = some (a, .inl (cA, n0, .inr (.inl f)))) (ht : tys[t0]? = some (cA, .long)) (hin : vp_in i n0) (hd : decode cc pc = .ok (.lastore, 1)) (kk : mV X (pc + 1) lv st (ws.set q0 (a, .inl (cA, n0, .inr (.inl (vp_updL f i.toNatClampNeg x))))) k n) : mV X pc lv (.long x :: .int i :: .ref a :: st) ws k n := by
  obtain ⟨p, l, e, R', s, m, args, below, meth, c, Q, D, tys', A⟩ := X
  obtain ⟨hx, hb, hml, hR, hown, hts, hK, hty, hlk, hA, hst, hlt, htab⟩ := hX
  exact fun H locs ls hP hD hS hl => va_last hx hb hK hP hD hS q0 t0 he ht hin hd (fun H1 locs1 hP1 hD1 hS1 => kk H1 locs1 ls hP1 hD1 hS1 hl)

theorem r_aald {a n0 : Nat} {cA : ClassId} {C : String} {f : Nat → Option Nat} {i : Int32} (hX : mOK X own cc nL R hh tys) (q0 t0 : Nat) (he : ws[q0]? = some (a, .inl (cA, n0, .inr (.inr (.inr (.inr f)))))) (ht : tys[t0]? = some (cA, .object C)) (hin : vp_in i n0) (hd : decode cc pc = .ok (.aaload, 1)) (kk : mV X (pc + 1) lv (va_rf (f i.toNatClampNeg) :: st) ws k n) : mV X pc lv (.int i :: .ref a :: st) ws k n := by
  obtain ⟨p, l, e, R', s, m, args, below, meth, c, Q, D, tys', A⟩ := X
  obtain ⟨hx, hb, hml, hR, hown, hts, hK, hty, hlk, hA, hst, hlt, htab⟩ := hX
  exact fun H locs ls hP hD hS hl => va_aldq hx hb hK hP q0 t0 he ht hin hd (kk H locs ls hP hD hS hl)

theorem r_alen {a : Nat} {cA : ClassId} {x : vp_A} {ty : FieldType} {v : Int32} (hX : mOK X own cc nL R hh tys) (q0 t0 : Nat) (he : ws[q0]? = some (a, .inl (cA, x))) (ht : tys[t0]? = some (cA, ty)) (hv : Int32.ofNat x.1 = v) (hd : decode cc pc = .ok (.arraylength, 1)) (kk : mV X (pc + 1) lv (.int v :: st) ws k n) : mV X pc lv (.ref a :: st) ws k n := by
  obtain ⟨p, l, e, R', s, m, args, below, meth, c, Q, D, tys', A⟩ := X
  obtain ⟨hx, hb, hml, hR, hown, hts, hK, hty, hlk, hA, hst, hlt, htab⟩ := hX
  exact fun H locs ls hP hD hS hl => va_alen hx hb hK hP q0 t0 he ht hv hd (kk H locs ls hP hD hS hl)

theorem r_ifnonnull {x : Nat} {off : Int} {tgt : Nat} (hX : mOK X own cc nL R hh tys) (hd : decode cc pc = .ok (.ifnonnull off, 3)) (ht : (pc : Int) + off = (tgt : Int)) (kk : mV X tgt lv st ws k n) : mV X pc lv (.ref x :: st) ws k n := by
  obtain ⟨p, l, e, R', s, m, args, below, meth, c, Q, D, tys', A⟩ := X
  obtain ⟨hx, hb, hml, hR, hown, hts, hK, hty, hlk, hA, hst, hlt, htab⟩ := hX
  exact fun H locs ls hP hD hS hl => lv_ifnonnull hx hb hd ht (kk H locs ls hP hD hS hl)

theorem r_take (j : Nat) (kk : mV X pc lv st (ws.take j) k n) : mV X pc lv st ws k n := by
  obtain ⟨p, l, e, R', s, m, args, below, meth, c, Q, D, tys', A⟩ := X
  refine fun H locs ls hP hD hS hl => kk H locs ls (fun i q h => hP i q ?_) ⟨fun i1 i2 q1 q2 h1 h2 h3 => hD.1 i1 i2 q1 q2 ?_ ?_ h3, fun i q h => hD.2 i q ?_⟩ hS hl
  all_goals
    rw [List.getElem?_take] at *
    split at * <;> simp_all
theorem r_lv {lv' : List (Nat × Option Value)} (hs : ∀ q ∈ lv', q.2 = none ∨ lget lv q.1 = q.2) (kk : mV X pc lv' st ws k n) : mV X pc lv st ws k n := by
  obtain ⟨p, l, e, R', s, m, args, below, meth, c, Q, D, tys', A⟩ := X
  exact fun H locs ls hP hD hS hl => kk H locs ls hP hD hS (hl.sub hs)
theorem r_wide {k' n' : Nat} (hk : k ≤ k') (hn : n ≤ n') (kk : mV X pc lv st ws k' n') : mV X pc lv st ws k n := by
  obtain ⟨p, l, e, R', s, m, args, below, meth, c, Q, D, tys', A⟩ := X
  exact fun H locs ls hP hD hS hl => W.widen hk hn (kk H locs ls hP hD hS hl)

theorem r_iret {x : Int32} (hX : mOK X own cc nL R hh tys) (hE : mE X Φ Ψ (some .int) mc ms) (hd : decode cc pc = .ok (.ireturn, 1))  (hk : k ≤ mc) (hn : n ≤ ms) (hΦ : Φ (some (.int x)) ws) : mV X pc lv [.int x] ws k n := by
  obtain ⟨p, l, e, R', s, m, args, below, meth, c, Q, D, tys', A⟩ := X
  obtain ⟨hx, hb, hml, hR, hown, hts, hK, hty, hlk, hA, hst, hlt, htab⟩ := hX
  obtain ⟨hr, rfl⟩ := hE
  exact fun H locs ls hP hD hS hl => W.widen hk hn (vx_ret (W.iret hx hb hr  (fun t ht hW => ⟨some (.int x), ws, rfl, hΦ, by rw [ht]; exact hP, hD, hS.F ht⟩) hS.2.2 hd (hlocks := hlk)))

theorem r_zret {x : Int32} {ty : FieldType} (hX : mOK X own cc nL R hh tys) (hE : mE X Φ Ψ (some ty) mc ms) (hd : decode cc pc = .ok (.ireturn, 1)) (hnw : narrow ty (.int x) = .int x) (hk : k ≤ mc) (hn : n ≤ ms) (hΦ : Φ (some (.int x)) ws) : mV X pc lv [.int x] ws k n := by
  obtain ⟨p, l, e, R', s, m, args, below, meth, c, Q, D, tys', A⟩ := X
  obtain ⟨hx, hb, hml, hR, hown, hts, hK, hty, hlk, hA, hst, hlt, htab⟩ := hX
  obtain ⟨hr, rfl⟩ := hE
  exact fun H locs ls hP hD hS hl => W.widen hk hn (vx_ret (W.zret hx hb hr hnw (fun t ht hW => ⟨some (.int x), ws, rfl, hΦ, by rw [ht]; exact hP, hD, hS.F ht⟩) hS.2.2 hd (hlocks := hlk)))

theorem r_lret {x : Int64} (hX : mOK X own cc nL R hh tys) (hE : mE X Φ Ψ (some .long) mc ms) (hd : decode cc pc = .ok (.lreturn, 1))  (hk : k ≤ mc) (hn : n ≤ ms) (hΦ : Φ (some (.long x)) ws) : mV X pc lv [.long x] ws k n := by
  obtain ⟨p, l, e, R', s, m, args, below, meth, c, Q, D, tys', A⟩ := X
  obtain ⟨hx, hb, hml, hR, hown, hts, hK, hty, hlk, hA, hst, hlt, htab⟩ := hX
  obtain ⟨hr, rfl⟩ := hE
  exact fun H locs ls hP hD hS hl => W.widen hk hn (vx_ret (W.lret hx hb hr  (fun t ht hW => ⟨some (.long x), ws, rfl, hΦ, by rw [ht]; exact hP, hD, hS.F ht⟩) hS.2.2 hd (hlocks := hlk)))

theorem r_vret  (hX : mOK X own cc nL R hh tys) (hE : mE X Φ Ψ (none) mc ms) (hd : decode cc pc = .ok (.return_, 1))  (hk : k ≤ mc) (hn : n ≤ ms) (hΦ : Φ (none) ws) : mV X pc lv [] ws k n := by
  obtain ⟨p, l, e, R', s, m, args, below, meth, c, Q, D, tys', A⟩ := X
  obtain ⟨hx, hb, hml, hR, hown, hts, hK, hty, hlk, hA, hst, hlt, htab⟩ := hX
  obtain ⟨hr, rfl⟩ := hE
  exact fun H locs ls hP hD hS hl => W.widen hk hn (vx_ret (W.vret hx hb hr  (fun t ht hW => ⟨none, ws, rfl, hΦ, by rw [ht]; exact hP, hD, hS.F ht⟩) hS.2.2 hd (hlocks := hlk)))

theorem r_aret {v : Value} {ty : FieldType} (hX : mOK X own cc nL R hh tys) (hE : mE X Φ Ψ (some ty) mc ms) (hd : decode cc pc = .ok (.areturn, 1)) (hrt : (∃ n, ty = .object n) ∨ ∃ t, ty = .array t) (hv : v = .null ∨ ∃ a, v = .ref a) (hk : k ≤ mc) (hn : n ≤ ms) (hΦ : Φ (some v) ws) : mV X pc lv [v] ws k n := by
  obtain ⟨p, l, e, R', s, m, args, below, meth, c, Q, D, tys', A⟩ := X
  obtain ⟨hx, hb, hml, hR, hown, hts, hK, hty, hlk, hA, hst, hlt, htab⟩ := hX
  obtain ⟨hr, rfl⟩ := hE
  exact fun H locs ls hP hD hS hl => W.widen hk hn (vx_ret (W.aret hx hb hr hrt hv (fun t ht hW => ⟨some v, ws, rfl, hΦ, by rw [ht]; exact hP, hD, hS.F ht⟩) hS.2.2 hd (hlocks := hlk)))

/-- not caught here: on to the caller -/
theorem r_out {E : String} (hX : mOK X own cc nL R [] tys) (hE : mE X Φ Ψ ret mc ms) (hk : k ≤ mc) (hn : n ≤ ms) (hΨ : Ψ E ws) : mT X pc lv st ws k n E := by
  obtain ⟨p, l, e, R', s, m, args, below, meth, c, Q, D, tys', A⟩ := X
  obtain ⟨hx, hb, hml, hR, hown, hts, hK, hty, hlk, hA, hst, hlt, htab⟩ := hX
  obtain ⟨hr, rfl⟩ := hE
  exact fun H locs ls q ce hP hD hS hl hq hv hcl => vx_out (by rw [htab]; exact fun x h => nomatch h) hlk hq hv hcl (fun t ht _ => ⟨ws, hΨ, by rw [ht]; exact hP, hD, hS.F ht⟩) hS.2.2 hk hn
/-- throw new E(text) -/
theorem r_throw {cls text : String} {names : List String} {ik is ic : Nat} (hX : mOK X own cc nL R [] tys) (hE : mE X Φ Ψ ret mc ms) (hcls : Bundle.fit cls = true) (hnames : ∀ n ∈ names, Bundle.fit n = true) (hk0 : Cond.classLink own ik cls ∈ mW) (hini : Cond.initialized cls ∈ mW) (hat : ∀ w ∈ vx_atS own ic cls names, w ∈ mW)
    (hgood : ∀ w ∈ Cond.classLink own ik cls :: Cond.initialized cls :: vx_atS own ic cls names, vx_ot w = true) (hstr : ∀ (A : Nat → Prop) (U : State), mst A U → ∃ a, vk_R own is text a U)
    (d0 : decode cc pc = .ok (.new ik, 3)) (d3 : decode cc (pc + 3) = .ok (.dup, 1)) (d4 : decode cc (pc + 4) = .ok (.ldc is, 2)) (d6 : decode cc (pc + 6) = .ok (.invokespecial ic, 3)) (d9 : decode cc (pc + 9) = .ok (.athrow, 1))
    (hf : names.length + 3 < R.frames) (hlo : (st.map fun v => v.category).sum + (13 * (names.length + 1) + 43) ≤ R.locals) (hRc : k + 1 ≤ R.cells) (hRs : n + 6 ≤ R.slots) (hk : k + 1 ≤ mc) (hn : n + 6 ≤ ms) (hΨ : Ψ cls ws) : mV X pc lv st ws k n := by
  obtain ⟨p, l, e, R', s, m, args, below, meth, c, Q, D, tys', A⟩ := X
  obtain ⟨hx, hb, hml, hR, hown, hts, hK, hty, hlk, hA, hst, hlt, htab⟩ := hX
  obtain ⟨hr, rfl⟩ := hE
  subst hR
  obtain ⟨sa, hsa⟩ := hstr A s hst
  refine fun H locs ls hP hD hS hl => vx_throwS hx hb hlt (A := A) hown hcls hnames (hts _ hk0) (hts _ hini) hsa (fun w hw => hts w (hat w hw)) hgood hst.2.2.1 hst.2.2.2.1 hS hl.1 d0 d3 d4 d6 d9 (by rw [htab]; exact fun x h => nomatch h) hf hlo hRc hRs hlk (fun t _ hz hq => ⟨ws, hΨ, fun i q h => ?_, hD, ?_⟩) hS.2.2 hk hn
  · exact (hP i q h).kept (hq q.1 (hP i q h).lt)
  · exact ⟨Nat.le_trans hS.1 hz, fun q h1 h2 => (hq q (Nat.lt_of_lt_of_le h1 hS.1)).trans (hS.2.1 q h1 h2)⟩

def mPush : Option Value → List Value → List Value
  | none, r => r
  | some v, r => v :: r
theorem mPush_eq (v : Option Value) (r : List Value) : v.toList ++ r = mPush v r := by cases v <;> rfl
/-- what a static call site says -/
def mWS (own : String) (idx : Nat) (y : MethodName) (b : ByteArray) (nL : Nat) (ret : Option FieldType) (cnt : Nat) : Prop :=
  Cond.methodLink own idx y ∈ mW ∧ Cond.static y ∈ mW ∧ Cond.initialized y.cls ∈ mW ∧ Cond.code y b nL ret ∈ mW ∧ (y.cls ≠ "java/lang/invoke/MethodHandle" ∧ y.cls ≠ "java/lang/invoke/VarHandle") ∧ (parseMethodDescriptor y.desc).map (fun d => d.parameters.length) = some cnt
/-- .. of a nest mate's method -/
def mWN (own host : String) (idx : Nat) (y : MethodName) (b : ByteArray) (nL : Nat) (ret : Option FieldType) (cnt : Nat) : Prop :=
  Cond.methodLinkNest own idx y host ∈ mW ∧ Cond.static y ∈ mW ∧ Cond.initialized y.cls ∈ mW ∧ Cond.code y b nL ret ∈ mW ∧ (y.cls ≠ "java/lang/invoke/MethodHandle" ∧ y.cls ≠ "java/lang/invoke/VarHandle") ∧ (parseMethodDescriptor y.desc).map (fun d => d.parameters.length) = some cnt
/-- what a virtual call site says -/
def mWV (own : String) (idx : Nat) (y : MethodName) (b : ByteArray) (nL : Nat) (ret : Option FieldType) (cnt : Nat) : Prop :=
  Cond.methodLink own idx y ∈ mW ∧ Cond.instanceMethod y ∈ mW ∧ Cond.selects y.cls y y ∈ mW ∧ Cond.initialized y.cls ∈ mW ∧ Cond.code y b nL ret ∈ mW ∧ (y.cls ≠ "java/lang/invoke/MethodHandle" ∧ y.cls ≠ "java/lang/invoke/VarHandle") ∧ (parseMethodDescriptor y.desc).map (fun d => d.parameters.length) = some cnt
theorem mWords {args : Array Value} {s : State} {y : MethodName} {b : ByteArray} {nL : Nat} {ret : Option FieldType} (hts : ∀ w ∈ mW, w.before args s = true) (hc : Cond.code y b nL ret ∈ mW) : ∀ w ∈ Cond.code y b nL ret :: mW, ∀ (a' : Array Value) (U : State), s.WarmedH U.vm → w.before a' U = true := by
  intro w hw a' U hW
  rcases List.mem_cons.mp hw with rfl | h
  · exact mwords hts hc a' U hW
  · exact mwords hts h a' U hW
theorem mCount {y : MethodName} {cnt : Nat} (h : (parseMethodDescriptor y.desc).map (fun d => d.parameters.length) = some cnt) : ∀ sig, parseMethodDescriptor y.desc = some sig → cnt = sig.parameters.length := by
  intro sig hs
  rw [hs] at h
  exact (Option.some.inj h).symm
theorem mU_at {D : va_G} {A : Nat → Prop} {s U : State} {H : Heap} {locs : List Loc} (hP : va_P D vwCl ws H) (hD : va_D A ws) (hS : va_S A s.heap H locs) (hK : va_K D vwCl tys s) (hA : ∀ q : Nat, s.heap.size ≤ q → A q) (hst : mst A s) (hU : U.heap = H) (hW : s.WarmedH U.vm) : mU D tys A ws U :=
  ⟨by rw [hU]; exact hP, hD, va_K.moved hW.alike hK, fun q hq => hA q (Nat.le_trans hS.1 (by rw [← hU]; exact hq)), mst.to hW hst (fun a h1 h2 => by rw [hU]; exact hS.2.1 a h1 h2)⟩

theorem r_callS {y : MethodName} {b : ByteArray} {nL2 idx cnt : Nat} {ret2 : Option FieldType} {rm : Room} {as rest : List Value} {Φ2 : Option Value → va_W → Prop} {Ψ2 : String → va_W → Prop} (hX : mOK X own cc nL R hh tys) (hc : mCt tys y b nL2 ret2 rm as ws Φ2 Ψ2) (hw : mWS own idx y b nL2 ret2 cnt) (hst0 : st = as.reverse ++ rest) (hlen : as.length = cnt) (hro : (rest.map fun v => v.category).sum ≤ 8) (hrm : rm.frames + 1 ≤ R.frames ∧ 8 + (nL2 + 11) + rm.locals ≤ R.locals) (hce : k + rm.cells ≤ R.cells ∧ n + rm.slots ≤ R.slots) (hd : decode cc pc = .ok (.invokestatic idx, 3)) (kx : ∀ E ws', Ψ2 E ws' → mT X pc lv rest ws' (k + rm.cells) (n + rm.slots) E) (kk : ∀ v ws', Φ2 v ws' → mV X (pc + 3) lv (mPush v rest) ws' (k + rm.cells) (n + rm.slots)) : mV X pc lv st ws k n := by
  obtain ⟨p, l, e, R', s, m, args, below, meth, c, Q, D, tys', A⟩ := X
  obtain ⟨hx, hb, hml, hR, hown, hts, hK, hty, hlk, hA, hst, hlt, htab⟩ := hX
  obtain ⟨w1, w2, w3, w4, w5, w6⟩ := hw
  subst hR
  intro H locs ls hP hD hS hl
  have hrun := vx_runS (own := own) (index := idx) (cells := k) (slots := n) (locs := locs) (e := e) (below := below) (meth := meth) (rest := rest) (g := F0 m pc ls st) ⟨hx, hb, hml, hown, hts⟩ (hc l D A hlt) ⟨⟨rfl, rfl, hrm.1, hrm.2, mWords hts w4, List.mem_cons_self, hts _ w4, hts _ w3, w5, mCount w6, hts _ w1⟩, hts _ w2⟩ ⟨mU_blind, fun U hU hW => ⟨rfl, mU_at hP hD hS hK hA hst hU hW⟩⟩ rfl hlen (hl.1.trans hml) hst0 (lv_room hro) hd hce
  intro T hT Y
  rcases hrun T hT Y with ⟨v, st₀, t, T', L, h0, Y', hL, e1, e2, ⟨v', ws', hv, hp, hP', hD', hF⟩, stp⟩ | ⟨q, st₀, t, T', L, E, ce, h0, Y', hL, e1, e2, ⟨ws', hp, hP', hD', hF⟩, hce, hcv, hcl, stp⟩
  · cases hv
    obtain ⟨-, -, k3⟩ := vx_keep h0 e1 hS (fun _ _ h => h) (fun _ h => h) hL hF
    obtain ⟨t2, a1, b1⟩ := kk v ws' hp T'.heap (locs ++ L) ls (by rw [e1]; exact hP') hD' k3 hl T' rfl Y'
    rw [← mPush_eq] at a1
    exact ⟨t2, stp t2 a1, b1⟩
  · obtain ⟨-, -, k3⟩ := vx_keep h0 e1 hS (fun _ _ h => h) (fun _ h => h) hL hF
    obtain ⟨t2, a1, b1⟩ := kx E ws' hp T'.heap (locs ++ L) ls q ce (by rw [e1]; exact hP') hD' k3 hl (by rw [e1]; exact hce) hcv hcl T' rfl Y'
    exact ⟨t2, stp.trans a1, b1⟩

theorem r_callV {y : MethodName} {b : ByteArray} {nL2 idx cnt : Nat} {ret2 : Option FieldType} {rm : Room} {as rest : List Value} {Φ2 : Option Value → va_W → Prop} {Ψ2 : String → va_W → Prop} {a ci N : Nat} {T0 : u_T} {fs : List Value} (hX : mOK X own cc nL R hh tys) (hc : mCt tys y b nL2 ret2 rm (.ref a :: as) ws Φ2 Ψ2) (hw : mWV own idx y b nL2 ret2 cnt) (q0 : Nat) (he : ws[q0]? = some (a, .inr (ci, fs))) (hci : vwCl[ci]? = some (y.cls, T0, N)) (hst0 : st = as.reverse ++ .ref a :: rest) (hlen : as.length = cnt) (hro : (rest.map fun v => v.category).sum ≤ 8) (hrm : rm.frames + 1 ≤ R.frames ∧ 8 + (nL2 + 11) + rm.locals ≤ R.locals) (hce : k + rm.cells ≤ R.cells ∧ n + rm.slots ≤ R.slots) (hd : decode cc pc = .ok (.invokevirtual idx, 3)) (kx : ∀ E ws', Ψ2 E ws' → mT X pc lv rest ws' (k + rm.cells) (n + rm.slots) E) (kk : ∀ v ws', Φ2 v ws' → mV X (pc + 3) lv (mPush v rest) ws' (k + rm.cells) (n + rm.slots)) : mV X pc lv st ws k n := by
  obtain ⟨p, l, e, R', s, m, args, below, meth, c, Q, D, tys', A⟩ := X
  obtain ⟨hx, hb, hml, hR, hown, hts, hK, hty, hlk, hA, hst, hlt, htab⟩ := hX
  obtain ⟨w1, w2, w2b, w3, w4, w5, w6⟩ := hw
  subst hR
  intro H locs ls hP hD hS hl
  have hrun := vx_runV (own := own) (C := y.cls) (index := idx) (cells := k) (slots := n) (locs := locs) (e := e) (below := below) (meth := meth) (rest := rest) (g := F0 m pc ls st) ⟨hx, hb, hml, hown, hts⟩ (hc l D A hlt) ⟨⟨rfl, rfl, hrm.1, hrm.2, mWords hts w4, List.mem_cons_self, hts _ w4, hts _ w3, w5, mCount w6, hts _ w1⟩, hts _ w2, hts _ w2b⟩ ⟨mU_blind, va_recv hK hP hci he, fun U hU hW => ⟨rfl, mU_at hP hD hS hK hA hst hU hW⟩⟩ rfl hlen (hl.1.trans hml) hst0 (lv_room hro) hd hce
  intro T hT Y
  rcases hrun T hT Y with ⟨v, st₀, t, T', L, h0, Y', hL, e1, e2, ⟨v', ws', hv, hp, hP', hD', hF⟩, stp⟩ | ⟨q, st₀, t, T', L, E, ce, h0, Y', hL, e1, e2, ⟨ws', hp, hP', hD', hF⟩, hce, hcv, hcl, stp⟩
  · cases hv
    obtain ⟨-, -, k3⟩ := vx_keep h0 e1 hS (fun _ _ h => h) (fun _ h => h) hL hF
    obtain ⟨t2, a1, b1⟩ := kk v ws' hp T'.heap (locs ++ L) ls (by rw [e1]; exact hP') hD' k3 hl T' rfl Y'
    rw [← mPush_eq] at a1
    exact ⟨t2, stp t2 a1, b1⟩
  · obtain ⟨-, -, k3⟩ := vx_keep h0 e1 hS (fun _ _ h => h) (fun _ h => h) hL hF
    obtain ⟨t2, a1, b1⟩ := kx E ws' hp T'.heap (locs ++ L) ls q ce (by rw [e1]; exact hP') hD' k3 hl (by rw [e1]; exact hce) hcv hcl T' rfl Y'
    exact ⟨t2, stp.trans a1, b1⟩

end MR
end
-- 03y dec
section
/-! Decode rows: a lemma for each opcode. (Own work; rows by a program of this repository.) -/
theorem dq_u1 {cc : ByteArray} {p : Nat} {x : UInt8} (h : cc.data.toList[p]? = some x) : (Jvm.ClassFile.Reader.u1 : Jvm.ClassFile.Decoder Nat) cc p = .ok (x.toNat, p + 1) := by
  obtain ⟨hp, hx⟩ := List.getElem?_eq_some_iff.mp h
  have hs : p < cc.size := hp
  have hv : cc[p]'hs = x := hx
  have e : (Jvm.ClassFile.Reader.u1 : Jvm.ClassFile.Decoder Nat) cc p = (dite (p < cc.size) (fun h => (do set (p + 1); pure (cc[p]'h).toNat : Jvm.ClassFile.Decoder Nat)) (fun _ => throw (Jvm.ClassFile.HasTruncated.truncated p))) cc p := rfl
  rw [e, dif_pos hs]
  show Except.ok ((cc[p]'hs).toNat, p + 1) = _
  rw [hv]
theorem dq_b {α β : Type} {r : Jvm.ClassFile.Decoder α} {f : α → Jvm.ClassFile.Decoder β} {cc : ByteArray} {p q : Nat} {x : α} (h : r cc p = .ok (x, q)) : (r >>= f) cc p = f x cc q := by
  show Except.bind (r cc p) _ = _
  rw [h]
  rfl
theorem dq_m {α β : Type} {r : Jvm.ClassFile.Decoder α} {f : α → β} {cc : ByteArray} {p q : Nat} {x : α} (h : r cc p = .ok (x, q)) : (f <$> r : Jvm.ClassFile.Decoder β) cc p = .ok (f x, q) := by
  show Except.bind (r cc p) _ = _
  rw [h]
  rfl
theorem dq_u2 {cc : ByteArray} {p : Nat} {x y : UInt8} (h : cc.data.toList[p]? = some x) (h2 : cc.data.toList[p + 1]? = some y) : (Jvm.ClassFile.Reader.u2 : Jvm.ClassFile.Decoder Nat) cc p = .ok (x.toNat * 256 + y.toNat, p + 2) := by
  unfold Jvm.ClassFile.Reader.u2
  exact (dq_b (dq_u1 h)).trans ((dq_b (dq_u1 h2)).trans rfl)
theorem dq_s1 {cc : ByteArray} {p : Nat} {x : UInt8} (h : cc.data.toList[p]? = some x) : (Jvm.ClassFile.Reader.s1 : Jvm.ClassFile.Decoder Int) cc p = .ok (Jvm.ClassFile.Reader.signed 8 x.toNat, p + 1) := by
  unfold Jvm.ClassFile.Reader.s1
  exact dq_m (dq_u1 h)
theorem dq_s2 {cc : ByteArray} {p : Nat} {x y : UInt8} (h : cc.data.toList[p]? = some x) (h2 : cc.data.toList[p + 1]? = some y) : (Jvm.ClassFile.Reader.s2 : Jvm.ClassFile.Decoder Int) cc p = .ok (Jvm.ClassFile.Reader.signed 16 (x.toNat * 256 + y.toNat), p + 2) := by
  unfold Jvm.ClassFile.Reader.s2
  exact dq_m (dq_u2 h h2)
theorem dq_of {cc : ByteArray} {pc n : Nat} {i : Instr} (h : (Jvm.ClassFile.Decoder.instr pc) cc pc = .ok (i, pc + n)) : decode cc pc = .ok (i, n) := by
  unfold decode Jvm.ClassFile.Reader.runAt
  show Except.bind ((Jvm.ClassFile.Decoder.instr pc) cc pc) _ = _
  rw [h]
  show Except.ok (i, pc + n - pc) = _
  rw [Nat.add_sub_cancel_left]
theorem dq_lk {l c : List UInt8} {n m : Nat} (h : (l.drop n).take m = c) {r : Nat} {x : UInt8} (hx : c[r]? = some x) : l[n + r]? = some x := by
  rw [← h, List.getElem?_take] at hx
  split at hx
  · rwa [List.getElem?_drop] at hx
  · cases hx
theorem dq_sub {l c e : List UInt8} {n j : Nat} (h : (l.drop n).take 64 = c) (hj : j + 16 ≤ 64) (hx : (c.drop j).take 16 = e) : (l.drop (n + j)).take 16 = e := by
  rw [← hx, ← h]
  apply List.ext_getElem?
  intro i
  by_cases q : i < 16
  · have q2 : j + i < 64 := by omega
    simp only [List.getElem?_take, List.getElem?_drop, if_pos q, if_pos q2, Nat.add_assoc]
  · simp only [List.getElem?_take, if_neg q]
theorem dk_1 {cc : ByteArray} {pc : Nat} (h : cc.data.toList[pc]? = some 1) : decode cc pc = .ok ((.aconst_null), 1) := dq_of (by
  unfold Jvm.ClassFile.Decoder.instr
  exact (dq_b (dq_u1 h)).trans rfl)
theorem dk_2 {cc : ByteArray} {pc : Nat} (h : cc.data.toList[pc]? = some 2) : decode cc pc = .ok ((.iconst (-1)), 1) := dq_of (by
  unfold Jvm.ClassFile.Decoder.instr
  exact (dq_b (dq_u1 h)).trans rfl)
theorem dk_3 {cc : ByteArray} {pc : Nat} (h : cc.data.toList[pc]? = some 3) : decode cc pc = .ok ((.iconst 0), 1) := dq_of (by
  unfold Jvm.ClassFile.Decoder.instr
  exact (dq_b (dq_u1 h)).trans rfl)
theorem dk_4 {cc : ByteArray} {pc : Nat} (h : cc.data.toList[pc]? = some 4) : decode cc pc = .ok ((.iconst 1), 1) := dq_of (by
  unfold Jvm.ClassFile.Decoder.instr
  exact (dq_b (dq_u1 h)).trans rfl)
theorem dk_5 {cc : ByteArray} {pc : Nat} (h : cc.data.toList[pc]? = some 5) : decode cc pc = .ok ((.iconst 2), 1) := dq_of (by
  unfold Jvm.ClassFile.Decoder.instr
  exact (dq_b (dq_u1 h)).trans rfl)
theorem dk_6 {cc : ByteArray} {pc : Nat} (h : cc.data.toList[pc]? = some 6) : decode cc pc = .ok ((.iconst 3), 1) := dq_of (by
  unfold Jvm.ClassFile.Decoder.instr
  exact (dq_b (dq_u1 h)).trans rfl)
theorem dk_7 {cc : ByteArray} {pc : Nat} (h : cc.data.toList[pc]? = some 7) : decode cc pc = .ok ((.iconst 4), 1) := dq_of (by
  unfold Jvm.ClassFile.Decoder.instr
  exact (dq_b (dq_u1 h)).trans rfl)
theorem dk_8 {cc : ByteArray} {pc : Nat} (h : cc.data.toList[pc]? = some 8) : decode cc pc = .ok ((.iconst 5), 1) := dq_of (by
  unfold Jvm.ClassFile.Decoder.instr
  exact (dq_b (dq_u1 h)).trans rfl)
theorem dk_9 {cc : ByteArray} {pc : Nat} (h : cc.data.toList[pc]? = some 9) : decode cc pc = .ok ((.lconst 0), 1) := dq_of (by
  unfold Jvm.ClassFile.Decoder.instr
  exact (dq_b (dq_u1 h)).trans rfl)
theorem dk_10 {cc : ByteArray} {pc : Nat} (h : cc.data.toList[pc]? = some 10) : decode cc pc = .ok ((.lconst 1), 1) := dq_of (by
  unfold Jvm.ClassFile.Decoder.instr
  exact (dq_b (dq_u1 h)).trans rfl)
theorem dk_16 {cc : ByteArray} {pc : Nat} {x : UInt8} {z : Int} (h : cc.data.toList[pc]? = some 16) (h1 : cc.data.toList[pc + 1]? = some x) (hz : Jvm.ClassFile.Reader.signed 8 x.toNat = z) : decode cc pc = .ok ((.bipush z), 2) := dq_of (by
  unfold Jvm.ClassFile.Decoder.instr
  exact (dq_b (dq_u1 h)).trans ((dq_b (dq_s1 h1)).trans (by rw [hz]; rfl)))
theorem dk_17 {cc : ByteArray} {pc : Nat} {x y : UInt8} {z : Int} (h : cc.data.toList[pc]? = some 17) (h1 : cc.data.toList[pc + 1]? = some x) (h2 : cc.data.toList[pc + 1 + 1]? = some y) (hz : Jvm.ClassFile.Reader.signed 16 (x.toNat * 256 + y.toNat) = z) : decode cc pc = .ok ((.sipush z), 3) := dq_of (by
  unfold Jvm.ClassFile.Decoder.instr
  exact (dq_b (dq_u1 h)).trans ((dq_b (dq_s2 h1 h2)).trans (by rw [hz]; rfl)))
theorem dk_18 {cc : ByteArray} {pc : Nat} {x : UInt8} (h : cc.data.toList[pc]? = some 18) (h1 : cc.data.toList[pc + 1]? = some x) : decode cc pc = .ok ((.ldc x.toNat), 2) := dq_of (by
  unfold Jvm.ClassFile.Decoder.instr
  exact (dq_b (dq_u1 h)).trans ((dq_b (dq_u1 h1)).trans rfl))
theorem dk_19 {cc : ByteArray} {pc : Nat} {x y : UInt8} (h : cc.data.toList[pc]? = some 19) (h1 : cc.data.toList[pc + 1]? = some x) (h2 : cc.data.toList[pc + 1 + 1]? = some y) : decode cc pc = .ok ((.ldc_w (x.toNat * 256 + y.toNat)), 3) := dq_of (by
  unfold Jvm.ClassFile.Decoder.instr
  exact (dq_b (dq_u1 h)).trans ((dq_b (dq_u2 h1 h2)).trans rfl))
theorem dk_20 {cc : ByteArray} {pc : Nat} {x y : UInt8} (h : cc.data.toList[pc]? = some 20) (h1 : cc.data.toList[pc + 1]? = some x) (h2 : cc.data.toList[pc + 1 + 1]? = some y) : decode cc pc = .ok ((.ldc2_w (x.toNat * 256 + y.toNat)), 3) := dq_of (by
  unfold Jvm.ClassFile.Decoder.instr
  exact (dq_b (dq_u1 h)).trans ((dq_b (dq_u2 h1 h2)).trans rfl))
theorem dk_21 {cc : ByteArray} {pc : Nat} {x : UInt8} (h : cc.data.toList[pc]? = some 21) (h1 : cc.data.toList[pc + 1]? = some x) : decode cc pc = .ok ((.iload x.toNat), 2) := dq_of (by
  unfold Jvm.ClassFile.Decoder.instr
  exact (dq_b (dq_u1 h)).trans ((dq_b (dq_u1 h1)).trans rfl))
theorem dk_22 {cc : ByteArray} {pc : Nat} {x : UInt8} (h : cc.data.toList[pc]? = some 22) (h1 : cc.data.toList[pc + 1]? = some x) : decode cc pc = .ok ((.lload x.toNat), 2) := dq_of (by
  unfold Jvm.ClassFile.Decoder.instr
  exact (dq_b (dq_u1 h)).trans ((dq_b (dq_u1 h1)).trans rfl))
theorem dk_25 {cc : ByteArray} {pc : Nat} {x : UInt8} (h : cc.data.toList[pc]? = some 25) (h1 : cc.data.toList[pc + 1]? = some x) : decode cc pc = .ok ((.aload x.toNat), 2) := dq_of (by
  unfold Jvm.ClassFile.Decoder.instr
  exact (dq_b (dq_u1 h)).trans ((dq_b (dq_u1 h1)).trans rfl))
theorem dk_26 {cc : ByteArray} {pc : Nat} (h : cc.data.toList[pc]? = some 26) : decode cc pc = .ok ((.iload_n 0), 1) := dq_of (by
  unfold Jvm.ClassFile.Decoder.instr
  exact (dq_b (dq_u1 h)).trans rfl)
theorem dk_27 {cc : ByteArray} {pc : Nat} (h : cc.data.toList[pc]? = some 27) : decode cc pc = .ok ((.iload_n 1), 1) := dq_of (by
  unfold Jvm.ClassFile.Decoder.instr
  exact (dq_b (dq_u1 h)).trans rfl)
theorem dk_28 {cc : ByteArray} {pc : Nat} (h : cc.data.toList[pc]? = some 28) : decode cc pc = .ok ((.iload_n 2), 1) := dq_of (by
  unfold Jvm.ClassFile.Decoder.instr
  exact (dq_b (dq_u1 h)).trans rfl)
theorem dk_29 {cc : ByteArray} {pc : Nat} (h : cc.data.toList[pc]? = some 29) : decode cc pc = .ok ((.iload_n 3), 1) := dq_of (by
  unfold Jvm.ClassFile.Decoder.instr
  exact (dq_b (dq_u1 h)).trans rfl)
theorem dk_30 {cc : ByteArray} {pc : Nat} (h : cc.data.toList[pc]? = some 30) : decode cc pc = .ok ((.lload_n 0), 1) := dq_of (by
  unfold Jvm.ClassFile.Decoder.instr
  exact (dq_b (dq_u1 h)).trans rfl)
theorem dk_31 {cc : ByteArray} {pc : Nat} (h : cc.data.toList[pc]? = some 31) : decode cc pc = .ok ((.lload_n 1), 1) := dq_of (by
  unfold Jvm.ClassFile.Decoder.instr
  exact (dq_b (dq_u1 h)).trans rfl)
theorem dk_32 {cc : ByteArray} {pc : Nat} (h : cc.data.toList[pc]? = some 32) : decode cc pc = .ok ((.lload_n 2), 1) := dq_of (by
  unfold Jvm.ClassFile.Decoder.instr
  exact (dq_b (dq_u1 h)).trans rfl)
theorem dk_33 {cc : ByteArray} {pc : Nat} (h : cc.data.toList[pc]? = some 33) : decode cc pc = .ok ((.lload_n 3), 1) := dq_of (by
  unfold Jvm.ClassFile.Decoder.instr
  exact (dq_b (dq_u1 h)).trans rfl)
theorem dk_42 {cc : ByteArray} {pc : Nat} (h : cc.data.toList[pc]? = some 42) : decode cc pc = .ok ((.aload_n 0), 1) := dq_of (by
  unfold Jvm.ClassFile.Decoder.instr
  exact (dq_b (dq_u1 h)).trans rfl)
theorem dk_43 {cc : ByteArray} {pc : Nat} (h : cc.data.toList[pc]? = some 43) : decode cc pc = .ok ((.aload_n 1), 1) := dq_of (by
  unfold Jvm.ClassFile.Decoder.instr
  exact (dq_b (dq_u1 h)).trans rfl)
theorem dk_44 {cc : ByteArray} {pc : Nat} (h : cc.data.toList[pc]? = some 44) : decode cc pc = .ok ((.aload_n 2), 1) := dq_of (by
  unfold Jvm.ClassFile.Decoder.instr
  exact (dq_b (dq_u1 h)).trans rfl)
theorem dk_45 {cc : ByteArray} {pc : Nat} (h : cc.data.toList[pc]? = some 45) : decode cc pc = .ok ((.aload_n 3), 1) := dq_of (by
  unfold Jvm.ClassFile.Decoder.instr
  exact (dq_b (dq_u1 h)).trans rfl)
theorem dk_46 {cc : ByteArray} {pc : Nat} (h : cc.data.toList[pc]? = some 46) : decode cc pc = .ok ((.iaload), 1) := dq_of (by
  unfold Jvm.ClassFile.Decoder.instr
  exact (dq_b (dq_u1 h)).trans rfl)
theorem dk_47 {cc : ByteArray} {pc : Nat} (h : cc.data.toList[pc]? = some 47) : decode cc pc = .ok ((.laload), 1) := dq_of (by
  unfold Jvm.ClassFile.Decoder.instr
  exact (dq_b (dq_u1 h)).trans rfl)
theorem dk_50 {cc : ByteArray} {pc : Nat} (h : cc.data.toList[pc]? = some 50) : decode cc pc = .ok ((.aaload), 1) := dq_of (by
  unfold Jvm.ClassFile.Decoder.instr
  exact (dq_b (dq_u1 h)).trans rfl)
theorem dk_51 {cc : ByteArray} {pc : Nat} (h : cc.data.toList[pc]? = some 51) : decode cc pc = .ok ((.baload), 1) := dq_of (by
  unfold Jvm.ClassFile.Decoder.instr
  exact (dq_b (dq_u1 h)).trans rfl)
theorem dk_54 {cc : ByteArray} {pc : Nat} {x : UInt8} (h : cc.data.toList[pc]? = some 54) (h1 : cc.data.toList[pc + 1]? = some x) : decode cc pc = .ok ((.istore x.toNat), 2) := dq_of (by
  unfold Jvm.ClassFile.Decoder.instr
  exact (dq_b (dq_u1 h)).trans ((dq_b (dq_u1 h1)).trans rfl))
theorem dk_55 {cc : ByteArray} {pc : Nat} {x : UInt8} (h : cc.data.toList[pc]? = some 55) (h1 : cc.data.toList[pc + 1]? = some x) : decode cc pc = .ok ((.lstore x.toNat), 2) := dq_of (by
  unfold Jvm.ClassFile.Decoder.instr
  exact (dq_b (dq_u1 h)).trans ((dq_b (dq_u1 h1)).trans rfl))
theorem dk_58 {cc : ByteArray} {pc : Nat} {x : UInt8} (h : cc.data.toList[pc]? = some 58) (h1 : cc.data.toList[pc + 1]? = some x) : decode cc pc = .ok ((.astore x.toNat), 2) := dq_of (by
  unfold Jvm.ClassFile.Decoder.instr
  exact (dq_b (dq_u1 h)).trans ((dq_b (dq_u1 h1)).trans rfl))
theorem dk_60 {cc : ByteArray} {pc : Nat} (h : cc.data.toList[pc]? = some 60) : decode cc pc = .ok ((.istore_n 1), 1) := dq_of (by
  unfold Jvm.ClassFile.Decoder.instr
  exact (dq_b (dq_u1 h)).trans rfl)
theorem dk_61 {cc : ByteArray} {pc : Nat} (h : cc.data.toList[pc]? = some 61) : decode cc pc = .ok ((.istore_n 2), 1) := dq_of (by
  unfold Jvm.ClassFile.Decoder.instr
  exact (dq_b (dq_u1 h)).trans rfl)
theorem dk_62 {cc : ByteArray} {pc : Nat} (h : cc.data.toList[pc]? = some 62) : decode cc pc = .ok ((.istore_n 3), 1) := dq_of (by
  unfold Jvm.ClassFile.Decoder.instr
  exact (dq_b (dq_u1 h)).trans rfl)
theorem dk_63 {cc : ByteArray} {pc : Nat} (h : cc.data.toList[pc]? = some 63) : decode cc pc = .ok ((.lstore_n 0), 1) := dq_of (by
  unfold Jvm.ClassFile.Decoder.instr
  exact (dq_b (dq_u1 h)).trans rfl)
theorem dk_64 {cc : ByteArray} {pc : Nat} (h : cc.data.toList[pc]? = some 64) : decode cc pc = .ok ((.lstore_n 1), 1) := dq_of (by
  unfold Jvm.ClassFile.Decoder.instr
  exact (dq_b (dq_u1 h)).trans rfl)
theorem dk_65 {cc : ByteArray} {pc : Nat} (h : cc.data.toList[pc]? = some 65) : decode cc pc = .ok ((.lstore_n 2), 1) := dq_of (by
  unfold Jvm.ClassFile.Decoder.instr
  exact (dq_b (dq_u1 h)).trans rfl)
theorem dk_66 {cc : ByteArray} {pc : Nat} (h : cc.data.toList[pc]? = some 66) : decode cc pc = .ok ((.lstore_n 3), 1) := dq_of (by
  unfold Jvm.ClassFile.Decoder.instr
  exact (dq_b (dq_u1 h)).trans rfl)
theorem dk_76 {cc : ByteArray} {pc : Nat} (h : cc.data.toList[pc]? = some 76) : decode cc pc = .ok ((.astore_n 1), 1) := dq_of (by
  unfold Jvm.ClassFile.Decoder.instr
  exact (dq_b (dq_u1 h)).trans rfl)
theorem dk_77 {cc : ByteArray} {pc : Nat} (h : cc.data.toList[pc]? = some 77) : decode cc pc = .ok ((.astore_n 2), 1) := dq_of (by
  unfold Jvm.ClassFile.Decoder.instr
  exact (dq_b (dq_u1 h)).trans rfl)
theorem dk_78 {cc : ByteArray} {pc : Nat} (h : cc.data.toList[pc]? = some 78) : decode cc pc = .ok ((.astore_n 3), 1) := dq_of (by
  unfold Jvm.ClassFile.Decoder.instr
  exact (dq_b (dq_u1 h)).trans rfl)
theorem dk_79 {cc : ByteArray} {pc : Nat} (h : cc.data.toList[pc]? = some 79) : decode cc pc = .ok ((.iastore), 1) := dq_of (by
  unfold Jvm.ClassFile.Decoder.instr
  exact (dq_b (dq_u1 h)).trans rfl)
theorem dk_80 {cc : ByteArray} {pc : Nat} (h : cc.data.toList[pc]? = some 80) : decode cc pc = .ok ((.lastore), 1) := dq_of (by
  unfold Jvm.ClassFile.Decoder.instr
  exact (dq_b (dq_u1 h)).trans rfl)
theorem dk_83 {cc : ByteArray} {pc : Nat} (h : cc.data.toList[pc]? = some 83) : decode cc pc = .ok ((.aastore), 1) := dq_of (by
  unfold Jvm.ClassFile.Decoder.instr
  exact (dq_b (dq_u1 h)).trans rfl)
theorem dk_84 {cc : ByteArray} {pc : Nat} (h : cc.data.toList[pc]? = some 84) : decode cc pc = .ok ((.bastore), 1) := dq_of (by
  unfold Jvm.ClassFile.Decoder.instr
  exact (dq_b (dq_u1 h)).trans rfl)
theorem dk_87 {cc : ByteArray} {pc : Nat} (h : cc.data.toList[pc]? = some 87) : decode cc pc = .ok ((.pop), 1) := dq_of (by
  unfold Jvm.ClassFile.Decoder.instr
  exact (dq_b (dq_u1 h)).trans rfl)
theorem dk_88 {cc : ByteArray} {pc : Nat} (h : cc.data.toList[pc]? = some 88) : decode cc pc = .ok ((.pop2), 1) := dq_of (by
  unfold Jvm.ClassFile.Decoder.instr
  exact (dq_b (dq_u1 h)).trans rfl)
theorem dk_89 {cc : ByteArray} {pc : Nat} (h : cc.data.toList[pc]? = some 89) : decode cc pc = .ok ((.dup), 1) := dq_of (by
  unfold Jvm.ClassFile.Decoder.instr
  exact (dq_b (dq_u1 h)).trans rfl)
theorem dk_90 {cc : ByteArray} {pc : Nat} (h : cc.data.toList[pc]? = some 90) : decode cc pc = .ok ((.dup_x1), 1) := dq_of (by
  unfold Jvm.ClassFile.Decoder.instr
  exact (dq_b (dq_u1 h)).trans rfl)
theorem dk_96 {cc : ByteArray} {pc : Nat} (h : cc.data.toList[pc]? = some 96) : decode cc pc = .ok ((.iadd), 1) := dq_of (by
  unfold Jvm.ClassFile.Decoder.instr
  exact (dq_b (dq_u1 h)).trans rfl)
theorem dk_97 {cc : ByteArray} {pc : Nat} (h : cc.data.toList[pc]? = some 97) : decode cc pc = .ok ((.ladd), 1) := dq_of (by
  unfold Jvm.ClassFile.Decoder.instr
  exact (dq_b (dq_u1 h)).trans rfl)
theorem dk_100 {cc : ByteArray} {pc : Nat} (h : cc.data.toList[pc]? = some 100) : decode cc pc = .ok ((.isub), 1) := dq_of (by
  unfold Jvm.ClassFile.Decoder.instr
  exact (dq_b (dq_u1 h)).trans rfl)
theorem dk_101 {cc : ByteArray} {pc : Nat} (h : cc.data.toList[pc]? = some 101) : decode cc pc = .ok ((.lsub), 1) := dq_of (by
  unfold Jvm.ClassFile.Decoder.instr
  exact (dq_b (dq_u1 h)).trans rfl)
theorem dk_104 {cc : ByteArray} {pc : Nat} (h : cc.data.toList[pc]? = some 104) : decode cc pc = .ok ((.imul), 1) := dq_of (by
  unfold Jvm.ClassFile.Decoder.instr
  exact (dq_b (dq_u1 h)).trans rfl)
theorem dk_105 {cc : ByteArray} {pc : Nat} (h : cc.data.toList[pc]? = some 105) : decode cc pc = .ok ((.lmul), 1) := dq_of (by
  unfold Jvm.ClassFile.Decoder.instr
  exact (dq_b (dq_u1 h)).trans rfl)
theorem dk_108 {cc : ByteArray} {pc : Nat} (h : cc.data.toList[pc]? = some 108) : decode cc pc = .ok ((.idiv), 1) := dq_of (by
  unfold Jvm.ClassFile.Decoder.instr
  exact (dq_b (dq_u1 h)).trans rfl)
theorem dk_109 {cc : ByteArray} {pc : Nat} (h : cc.data.toList[pc]? = some 109) : decode cc pc = .ok ((.ldiv), 1) := dq_of (by
  unfold Jvm.ClassFile.Decoder.instr
  exact (dq_b (dq_u1 h)).trans rfl)
theorem dk_112 {cc : ByteArray} {pc : Nat} (h : cc.data.toList[pc]? = some 112) : decode cc pc = .ok ((.irem), 1) := dq_of (by
  unfold Jvm.ClassFile.Decoder.instr
  exact (dq_b (dq_u1 h)).trans rfl)
theorem dk_113 {cc : ByteArray} {pc : Nat} (h : cc.data.toList[pc]? = some 113) : decode cc pc = .ok ((.lrem), 1) := dq_of (by
  unfold Jvm.ClassFile.Decoder.instr
  exact (dq_b (dq_u1 h)).trans rfl)
theorem dk_116 {cc : ByteArray} {pc : Nat} (h : cc.data.toList[pc]? = some 116) : decode cc pc = .ok ((.ineg), 1) := dq_of (by
  unfold Jvm.ClassFile.Decoder.instr
  exact (dq_b (dq_u1 h)).trans rfl)
theorem dk_117 {cc : ByteArray} {pc : Nat} (h : cc.data.toList[pc]? = some 117) : decode cc pc = .ok ((.lneg), 1) := dq_of (by
  unfold Jvm.ClassFile.Decoder.instr
  exact (dq_b (dq_u1 h)).trans rfl)
theorem dk_120 {cc : ByteArray} {pc : Nat} (h : cc.data.toList[pc]? = some 120) : decode cc pc = .ok ((.ishl), 1) := dq_of (by
  unfold Jvm.ClassFile.Decoder.instr
  exact (dq_b (dq_u1 h)).trans rfl)
theorem dk_122 {cc : ByteArray} {pc : Nat} (h : cc.data.toList[pc]? = some 122) : decode cc pc = .ok ((.ishr), 1) := dq_of (by
  unfold Jvm.ClassFile.Decoder.instr
  exact (dq_b (dq_u1 h)).trans rfl)
theorem dk_126 {cc : ByteArray} {pc : Nat} (h : cc.data.toList[pc]? = some 126) : decode cc pc = .ok ((.iand), 1) := dq_of (by
  unfold Jvm.ClassFile.Decoder.instr
  exact (dq_b (dq_u1 h)).trans rfl)
theorem dk_130 {cc : ByteArray} {pc : Nat} (h : cc.data.toList[pc]? = some 130) : decode cc pc = .ok ((.ixor), 1) := dq_of (by
  unfold Jvm.ClassFile.Decoder.instr
  exact (dq_b (dq_u1 h)).trans rfl)
theorem dk_131 {cc : ByteArray} {pc : Nat} (h : cc.data.toList[pc]? = some 131) : decode cc pc = .ok ((.lxor), 1) := dq_of (by
  unfold Jvm.ClassFile.Decoder.instr
  exact (dq_b (dq_u1 h)).trans rfl)
theorem dk_132 {cc : ByteArray} {pc : Nat} {x y : UInt8} {z : Int} (h : cc.data.toList[pc]? = some 132) (h1 : cc.data.toList[pc + 1]? = some x) (h2 : cc.data.toList[pc + 1 + 1]? = some y) (hz : Jvm.ClassFile.Reader.signed 8 y.toNat = z) : decode cc pc = .ok ((.iinc x.toNat z), 3) := dq_of (by
  unfold Jvm.ClassFile.Decoder.instr
  exact (dq_b (dq_u1 h)).trans ((dq_b (dq_u1 h1)).trans ((dq_b (dq_s1 h2)).trans (by rw [hz]; rfl))))
theorem dk_133 {cc : ByteArray} {pc : Nat} (h : cc.data.toList[pc]? = some 133) : decode cc pc = .ok ((.i2l), 1) := dq_of (by
  unfold Jvm.ClassFile.Decoder.instr
  exact (dq_b (dq_u1 h)).trans rfl)
theorem dk_136 {cc : ByteArray} {pc : Nat} (h : cc.data.toList[pc]? = some 136) : decode cc pc = .ok ((.l2i), 1) := dq_of (by
  unfold Jvm.ClassFile.Decoder.instr
  exact (dq_b (dq_u1 h)).trans rfl)
theorem dk_145 {cc : ByteArray} {pc : Nat} (h : cc.data.toList[pc]? = some 145) : decode cc pc = .ok ((.i2b), 1) := dq_of (by
  unfold Jvm.ClassFile.Decoder.instr
  exact (dq_b (dq_u1 h)).trans rfl)
theorem dk_146 {cc : ByteArray} {pc : Nat} (h : cc.data.toList[pc]? = some 146) : decode cc pc = .ok ((.i2c), 1) := dq_of (by
  unfold Jvm.ClassFile.Decoder.instr
  exact (dq_b (dq_u1 h)).trans rfl)
theorem dk_148 {cc : ByteArray} {pc : Nat} (h : cc.data.toList[pc]? = some 148) : decode cc pc = .ok ((.lcmp), 1) := dq_of (by
  unfold Jvm.ClassFile.Decoder.instr
  exact (dq_b (dq_u1 h)).trans rfl)
theorem dk_153 {cc : ByteArray} {pc : Nat} {x y : UInt8} {z : Int} (h : cc.data.toList[pc]? = some 153) (h1 : cc.data.toList[pc + 1]? = some x) (h2 : cc.data.toList[pc + 1 + 1]? = some y) (hz : Jvm.ClassFile.Reader.signed 16 (x.toNat * 256 + y.toNat) = z) : decode cc pc = .ok ((.ifCond .eq z), 3) := dq_of (by
  unfold Jvm.ClassFile.Decoder.instr
  exact (dq_b (dq_u1 h)).trans ((dq_b (dq_s2 h1 h2)).trans (by rw [hz]; rfl)))
theorem dk_154 {cc : ByteArray} {pc : Nat} {x y : UInt8} {z : Int} (h : cc.data.toList[pc]? = some 154) (h1 : cc.data.toList[pc + 1]? = some x) (h2 : cc.data.toList[pc + 1 + 1]? = some y) (hz : Jvm.ClassFile.Reader.signed 16 (x.toNat * 256 + y.toNat) = z) : decode cc pc = .ok ((.ifCond .ne z), 3) := dq_of (by
  unfold Jvm.ClassFile.Decoder.instr
  exact (dq_b (dq_u1 h)).trans ((dq_b (dq_s2 h1 h2)).trans (by rw [hz]; rfl)))
theorem dk_155 {cc : ByteArray} {pc : Nat} {x y : UInt8} {z : Int} (h : cc.data.toList[pc]? = some 155) (h1 : cc.data.toList[pc + 1]? = some x) (h2 : cc.data.toList[pc + 1 + 1]? = some y) (hz : Jvm.ClassFile.Reader.signed 16 (x.toNat * 256 + y.toNat) = z) : decode cc pc = .ok ((.ifCond .lt z), 3) := dq_of (by
  unfold Jvm.ClassFile.Decoder.instr
  exact (dq_b (dq_u1 h)).trans ((dq_b (dq_s2 h1 h2)).trans (by rw [hz]; rfl)))
theorem dk_156 {cc : ByteArray} {pc : Nat} {x y : UInt8} {z : Int} (h : cc.data.toList[pc]? = some 156) (h1 : cc.data.toList[pc + 1]? = some x) (h2 : cc.data.toList[pc + 1 + 1]? = some y) (hz : Jvm.ClassFile.Reader.signed 16 (x.toNat * 256 + y.toNat) = z) : decode cc pc = .ok ((.ifCond .ge z), 3) := dq_of (by
  unfold Jvm.ClassFile.Decoder.instr
  exact (dq_b (dq_u1 h)).trans ((dq_b (dq_s2 h1 h2)).trans (by rw [hz]; rfl)))
theorem dk_157 {cc : ByteArray} {pc : Nat} {x y : UInt8} {z : Int} (h : cc.data.toList[pc]? = some 157) (h1 : cc.data.toList[pc + 1]? = some x) (h2 : cc.data.toList[pc + 1 + 1]? = some y) (hz : Jvm.ClassFile.Reader.signed 16 (x.toNat * 256 + y.toNat) = z) : decode cc pc = .ok ((.ifCond .gt z), 3) := dq_of (by
  unfold Jvm.ClassFile.Decoder.instr
  exact (dq_b (dq_u1 h)).trans ((dq_b (dq_s2 h1 h2)).trans (by rw [hz]; rfl)))
theorem dk_158 {cc : ByteArray} {pc : Nat} {x y : UInt8} {z : Int} (h : cc.data.toList[pc]? = some 158) (h1 : cc.data.toList[pc + 1]? = some x) (h2 : cc.data.toList[pc + 1 + 1]? = some y) (hz : Jvm.ClassFile.Reader.signed 16 (x.toNat * 256 + y.toNat) = z) : decode cc pc = .ok ((.ifCond .le z), 3) := dq_of (by
  unfold Jvm.ClassFile.Decoder.instr
  exact (dq_b (dq_u1 h)).trans ((dq_b (dq_s2 h1 h2)).trans (by rw [hz]; rfl)))
theorem dk_159 {cc : ByteArray} {pc : Nat} {x y : UInt8} {z : Int} (h : cc.data.toList[pc]? = some 159) (h1 : cc.data.toList[pc + 1]? = some x) (h2 : cc.data.toList[pc + 1 + 1]? = some y) (hz : Jvm.ClassFile.Reader.signed 16 (x.toNat * 256 + y.toNat) = z) : decode cc pc = .ok ((.if_icmp .eq z), 3) := dq_of (by
  unfold Jvm.ClassFile.Decoder.instr
  exact (dq_b (dq_u1 h)).trans ((dq_b (dq_s2 h1 h2)).trans (by rw [hz]; rfl)))
theorem dk_160 {cc : ByteArray} {pc : Nat} {x y : UInt8} {z : Int} (h : cc.data.toList[pc]? = some 160) (h1 : cc.data.toList[pc + 1]? = some x) (h2 : cc.data.toList[pc + 1 + 1]? = some y) (hz : Jvm.ClassFile.Reader.signed 16 (x.toNat * 256 + y.toNat) = z) : decode cc pc = .ok ((.if_icmp .ne z), 3) := dq_of (by
  unfold Jvm.ClassFile.Decoder.instr
  exact (dq_b (dq_u1 h)).trans ((dq_b (dq_s2 h1 h2)).trans (by rw [hz]; rfl)))
theorem dk_161 {cc : ByteArray} {pc : Nat} {x y : UInt8} {z : Int} (h : cc.data.toList[pc]? = some 161) (h1 : cc.data.toList[pc + 1]? = some x) (h2 : cc.data.toList[pc + 1 + 1]? = some y) (hz : Jvm.ClassFile.Reader.signed 16 (x.toNat * 256 + y.toNat) = z) : decode cc pc = .ok ((.if_icmp .lt z), 3) := dq_of (by
  unfold Jvm.ClassFile.Decoder.instr
  exact (dq_b (dq_u1 h)).trans ((dq_b (dq_s2 h1 h2)).trans (by rw [hz]; rfl)))
theorem dk_162 {cc : ByteArray} {pc : Nat} {x y : UInt8} {z : Int} (h : cc.data.toList[pc]? = some 162) (h1 : cc.data.toList[pc + 1]? = some x) (h2 : cc.data.toList[pc + 1 + 1]? = some y) (hz : Jvm.ClassFile.Reader.signed 16 (x.toNat * 256 + y.toNat) = z) : decode cc pc = .ok ((.if_icmp .ge z), 3) := dq_of (by
  unfold Jvm.ClassFile.Decoder.instr
  exact (dq_b (dq_u1 h)).trans ((dq_b (dq_s2 h1 h2)).trans (by rw [hz]; rfl)))
theorem dk_163 {cc : ByteArray} {pc : Nat} {x y : UInt8} {z : Int} (h : cc.data.toList[pc]? = some 163) (h1 : cc.data.toList[pc + 1]? = some x) (h2 : cc.data.toList[pc + 1 + 1]? = some y) (hz : Jvm.ClassFile.Reader.signed 16 (x.toNat * 256 + y.toNat) = z) : decode cc pc = .ok ((.if_icmp .gt z), 3) := dq_of (by
  unfold Jvm.ClassFile.Decoder.instr
  exact (dq_b (dq_u1 h)).trans ((dq_b (dq_s2 h1 h2)).trans (by rw [hz]; rfl)))
theorem dk_167 {cc : ByteArray} {pc : Nat} {x y : UInt8} {z : Int} (h : cc.data.toList[pc]? = some 167) (h1 : cc.data.toList[pc + 1]? = some x) (h2 : cc.data.toList[pc + 1 + 1]? = some y) (hz : Jvm.ClassFile.Reader.signed 16 (x.toNat * 256 + y.toNat) = z) : decode cc pc = .ok ((.goto z), 3) := dq_of (by
  unfold Jvm.ClassFile.Decoder.instr
  exact (dq_b (dq_u1 h)).trans ((dq_b (dq_s2 h1 h2)).trans (by rw [hz]; rfl)))
theorem dk_172 {cc : ByteArray} {pc : Nat} (h : cc.data.toList[pc]? = some 172) : decode cc pc = .ok ((.ireturn), 1) := dq_of (by
  unfold Jvm.ClassFile.Decoder.instr
  exact (dq_b (dq_u1 h)).trans rfl)
theorem dk_173 {cc : ByteArray} {pc : Nat} (h : cc.data.toList[pc]? = some 173) : decode cc pc = .ok ((.lreturn), 1) := dq_of (by
  unfold Jvm.ClassFile.Decoder.instr
  exact (dq_b (dq_u1 h)).trans rfl)
theorem dk_176 {cc : ByteArray} {pc : Nat} (h : cc.data.toList[pc]? = some 176) : decode cc pc = .ok ((.areturn), 1) := dq_of (by
  unfold Jvm.ClassFile.Decoder.instr
  exact (dq_b (dq_u1 h)).trans rfl)
theorem dk_177 {cc : ByteArray} {pc : Nat} (h : cc.data.toList[pc]? = some 177) : decode cc pc = .ok ((.return_), 1) := dq_of (by
  unfold Jvm.ClassFile.Decoder.instr
  exact (dq_b (dq_u1 h)).trans rfl)
theorem dk_178 {cc : ByteArray} {pc : Nat} {x y : UInt8} (h : cc.data.toList[pc]? = some 178) (h1 : cc.data.toList[pc + 1]? = some x) (h2 : cc.data.toList[pc + 1 + 1]? = some y) : decode cc pc = .ok ((.getstatic (x.toNat * 256 + y.toNat)), 3) := dq_of (by
  unfold Jvm.ClassFile.Decoder.instr
  exact (dq_b (dq_u1 h)).trans ((dq_b (dq_u2 h1 h2)).trans rfl))
theorem dk_180 {cc : ByteArray} {pc : Nat} {x y : UInt8} (h : cc.data.toList[pc]? = some 180) (h1 : cc.data.toList[pc + 1]? = some x) (h2 : cc.data.toList[pc + 1 + 1]? = some y) : decode cc pc = .ok ((.getfield (x.toNat * 256 + y.toNat)), 3) := dq_of (by
  unfold Jvm.ClassFile.Decoder.instr
  exact (dq_b (dq_u1 h)).trans ((dq_b (dq_u2 h1 h2)).trans rfl))
theorem dk_181 {cc : ByteArray} {pc : Nat} {x y : UInt8} (h : cc.data.toList[pc]? = some 181) (h1 : cc.data.toList[pc + 1]? = some x) (h2 : cc.data.toList[pc + 1 + 1]? = some y) : decode cc pc = .ok ((.putfield (x.toNat * 256 + y.toNat)), 3) := dq_of (by
  unfold Jvm.ClassFile.Decoder.instr
  exact (dq_b (dq_u1 h)).trans ((dq_b (dq_u2 h1 h2)).trans rfl))
theorem dk_182 {cc : ByteArray} {pc : Nat} {x y : UInt8} (h : cc.data.toList[pc]? = some 182) (h1 : cc.data.toList[pc + 1]? = some x) (h2 : cc.data.toList[pc + 1 + 1]? = some y) : decode cc pc = .ok ((.invokevirtual (x.toNat * 256 + y.toNat)), 3) := dq_of (by
  unfold Jvm.ClassFile.Decoder.instr
  exact (dq_b (dq_u1 h)).trans ((dq_b (dq_u2 h1 h2)).trans rfl))
theorem dk_183 {cc : ByteArray} {pc : Nat} {x y : UInt8} (h : cc.data.toList[pc]? = some 183) (h1 : cc.data.toList[pc + 1]? = some x) (h2 : cc.data.toList[pc + 1 + 1]? = some y) : decode cc pc = .ok ((.invokespecial (x.toNat * 256 + y.toNat)), 3) := dq_of (by
  unfold Jvm.ClassFile.Decoder.instr
  exact (dq_b (dq_u1 h)).trans ((dq_b (dq_u2 h1 h2)).trans rfl))
theorem dk_184 {cc : ByteArray} {pc : Nat} {x y : UInt8} (h : cc.data.toList[pc]? = some 184) (h1 : cc.data.toList[pc + 1]? = some x) (h2 : cc.data.toList[pc + 1 + 1]? = some y) : decode cc pc = .ok ((.invokestatic (x.toNat * 256 + y.toNat)), 3) := dq_of (by
  unfold Jvm.ClassFile.Decoder.instr
  exact (dq_b (dq_u1 h)).trans ((dq_b (dq_u2 h1 h2)).trans rfl))
theorem dk_187 {cc : ByteArray} {pc : Nat} {x y : UInt8} (h : cc.data.toList[pc]? = some 187) (h1 : cc.data.toList[pc + 1]? = some x) (h2 : cc.data.toList[pc + 1 + 1]? = some y) : decode cc pc = .ok ((.new (x.toNat * 256 + y.toNat)), 3) := dq_of (by
  unfold Jvm.ClassFile.Decoder.instr
  exact (dq_b (dq_u1 h)).trans ((dq_b (dq_u2 h1 h2)).trans rfl))
theorem dk_189 {cc : ByteArray} {pc : Nat} {x y : UInt8} (h : cc.data.toList[pc]? = some 189) (h1 : cc.data.toList[pc + 1]? = some x) (h2 : cc.data.toList[pc + 1 + 1]? = some y) : decode cc pc = .ok ((.anewarray (x.toNat * 256 + y.toNat)), 3) := dq_of (by
  unfold Jvm.ClassFile.Decoder.instr
  exact (dq_b (dq_u1 h)).trans ((dq_b (dq_u2 h1 h2)).trans rfl))
theorem dk_190 {cc : ByteArray} {pc : Nat} (h : cc.data.toList[pc]? = some 190) : decode cc pc = .ok ((.arraylength), 1) := dq_of (by
  unfold Jvm.ClassFile.Decoder.instr
  exact (dq_b (dq_u1 h)).trans rfl)
theorem dk_191 {cc : ByteArray} {pc : Nat} (h : cc.data.toList[pc]? = some 191) : decode cc pc = .ok ((.athrow), 1) := dq_of (by
  unfold Jvm.ClassFile.Decoder.instr
  exact (dq_b (dq_u1 h)).trans rfl)
theorem dk_192 {cc : ByteArray} {pc : Nat} {x y : UInt8} (h : cc.data.toList[pc]? = some 192) (h1 : cc.data.toList[pc + 1]? = some x) (h2 : cc.data.toList[pc + 1 + 1]? = some y) : decode cc pc = .ok ((.checkcast (x.toNat * 256 + y.toNat)), 3) := dq_of (by
  unfold Jvm.ClassFile.Decoder.instr
  exact (dq_b (dq_u1 h)).trans ((dq_b (dq_u2 h1 h2)).trans rfl))
theorem dk_199 {cc : ByteArray} {pc : Nat} {x y : UInt8} {z : Int} (h : cc.data.toList[pc]? = some 199) (h1 : cc.data.toList[pc + 1]? = some x) (h2 : cc.data.toList[pc + 1 + 1]? = some y) (hz : Jvm.ClassFile.Reader.signed 16 (x.toNat * 256 + y.toNat) = z) : decode cc pc = .ok ((.ifnonnull z), 3) := dq_of (by
  unfold Jvm.ClassFile.Decoder.instr
  exact (dq_b (dq_u1 h)).trans ((dq_b (dq_s2 h1 h2)).trans (by rw [hz]; rfl)))
end
